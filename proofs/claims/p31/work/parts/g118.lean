def w_span_J152 (Q : Int32 → MS → Prop) (U152 : MS) (v152_3 : Int32) : Prop := Q v152_3 U152
def w_span_J113 (Q : Int32 → MS → Prop) (U113 : MS) (v113_1 : Int32) (v113_2 : Int32) (v113_3 : Int32) : Prop := ((v113_3.toInt ≤ 0 → Q (-1 : Int32) U113) ∧ (¬ v113_3.toInt ≤ 0 → (((v113_1 + v113_3).toInt ≤ (qI U113 0 37).toInt → ((v113_2.toInt = 188 → (d_codeOctet U113 (v113_1 + (1 : Int32)) ∧ (((f_codeOctet U113 (v113_1 + (1 : Int32))).toInt = 10 → w_span_J152 Q U113 v113_3) ∧ (¬ (f_codeOctet U113 (v113_1 + (1 : Int32))).toInt = 10 → Q (-1 : Int32) U113)))) ∧ (¬ v113_2.toInt = 188 → w_span_J152 Q U113 v113_3))) ∧ (¬ (v113_1 + v113_3).toInt ≤ (qI U113 0 37).toInt → Q (-1 : Int32) U113))))
def w_span_J101 (Q : Int32 → MS → Prop) (U101 : MS) (v101_1 : Int32) (v101_2 : Int32) (v101_3 : Int32) : Prop := ((v101_3.toInt = (-1) → (∃ Q19, w_switchSpan U101 v101_1 v101_2 Q19 ∧ ∀ r20 S21, Q19 r20 S21 → w_span_J113 Q S21 v101_1 v101_2 r20)) ∧ (¬ v101_3.toInt = (-1) → w_span_J113 Q U101 v101_1 v101_2 v101_3))
def w_span_J100 (Q : Int32 → MS → Prop) (U100 : MS) (t100_0 : Int32) (v100_1 : Int32) (v100_2 : Int32) : Prop := w_span_J101 Q U100 v100_1 v100_2 t100_0
def w_span_J95 (Q : Int32 → MS → Prop) (U95 : MS) (v95_1 : Int32) (v95_2 : Int32) : Prop := w_span_J100 Q U95 4 v95_1 v95_2
def w_span_J38 (Q : Int32 → MS → Prop) (U38 : MS) (t38_0 : Int32) (v38_1 : Int32) (v38_2 : Int32) : Prop := ((t38_0.toInt = 132 → w_span_J100 Q U38 6 v38_1 v38_2) ∧ (¬ t38_0.toInt = 132 → ((t38_0.toInt = 21 → w_span_J95 Q U38 v38_1 v38_2) ∧ (¬ t38_0.toInt = 21 → ((t38_0.toInt = 22 → w_span_J95 Q U38 v38_1 v38_2) ∧ (¬ t38_0.toInt = 22 → ((t38_0.toInt = 25 → w_span_J95 Q U38 v38_1 v38_2) ∧ (¬ t38_0.toInt = 25 → ((t38_0.toInt = 54 → w_span_J95 Q U38 v38_1 v38_2) ∧ (¬ t38_0.toInt = 54 → ((t38_0.toInt = 55 → w_span_J95 Q U38 v38_1 v38_2) ∧ (¬ t38_0.toInt = 55 → ((t38_0.toInt = 58 → w_span_J95 Q U38 v38_1 v38_2) ∧ (¬ t38_0.toInt = 58 → w_span_J100 Q U38 0 v38_1 v38_2))))))))))))))
def w_span (S : MS) (x1 : Int32) (Q : Int32 → MS → Prop) : Prop := (d_codeOctet S x1 ∧ (∀ a4 : Int32, a4 = (f_codeOctet S x1) → (d_spanOf S a4 ∧ (∀ a8 : Int32, a8 = (f_spanOf S a4) → ((a8.toInt = (-2) → (((qI S 0 37).toInt ≤ (x1 + (1 : Int32)).toInt → w_span_J38 Q S 0 x1 a4) ∧ (¬ (qI S 0 37).toInt ≤ (x1 + (1 : Int32)).toInt → (d_codeOctet S (x1 + (1 : Int32)) ∧ w_span_J38 Q S (f_codeOctet S (x1 + (1 : Int32))) x1 a4)))) ∧ (¬ a8.toInt = (-2) → w_span_J101 Q S x1 a4 a8))))))
set_option maxHeartbeats 2000000 in
set_option maxRecDepth 100000 in
theorem r_span (l : Launch) (g : Gr) (ad : Nat → Nat) (sz : Nat) (S : MS) (x1 : Int32) (hw : wfM S) (Q : Int32 → MS → Prop) (h : w_span S x1 Q) : Met l yX14_span (wt2 yX14_span cX14_span 5 (some .int)) ({ frames := 5, cells := 0, slots := 0, locals := 109 }) (va_Pc [.ref (ad 0), .int x1] (st_R g ad sz S)) (va_Qi (fun (r : Int32) (u : MS) => Q r u ∧ wfM u ∧ shy S u) (fun (u : MS) (t : State) => qE g ad (va_A (Wd g ad S) sz) u t) (va_A (Wd g ad S) sz)) 0 0 (va_A (Wd g ad S) sz) := by
  refine Met.ofW (cc := cX14_span) (maxL := 5) (ret := (some .int)) (by decide) rfl ?_
  intro p e s m args below meth c s₁ B hml hv
  obtain ⟨rfl, hsz, hP, hK, hD0, hex, hE⟩ := hv
  have hx := B.exec
  have hb := B.bytes
  have hr := B.returns
  have hts0 := atoms_spec (ws := wt2 yX14_span cX14_span 5 (some .int)) B.pre
  have hts : ∀ w ∈ tb2, w.before _ s = true := fun w h => hts0 w (List.mem_cons_of_mem _ h)
  have hown : s.vm.findClass RX14 = some m.cls := findClass_of_methodNamed B.named
  subst hsz
  have hD := hD0.self (sz := s.heap.size)
  generalize hAe : va_A (Wd g ad S) s.heap.size = A at hD hE ⊢
  have hA : ∀ q : Nat, s.heap.size ≤ q → A q := fun q h => by rw [← hAe]; exact Or.inr h
  have hR : Rep g ad A s S s.heap [] := ⟨hK, hP, hD, va_S.rf, hw⟩
  clear hK hP hD hD0
  have hl := lv_entry ([.ref (ad 0), .int x1]) (n := 5) (Nat.le_of_ble_eq_true rfl)
  rw [lg_entry_eq]
  generalize (lg_sl ([.ref (ad 0), .int x1]) ++ List.replicate (5 - (lg_sl ([.ref (ad 0), .int x1])).length) Slot.unset).toArray = ls at hl ⊢
  have hl : lv_has ls 5 [(0, .ref (ad 0)), (1, .int x1)] := hl
  have hsh : shy S S := shy.rf
  unfold w_span at h
  refine lv_aload_n hx hb dX14_span_0 rfl (lv_at hl 0 rfl) ?_
  refine lv_iload_n hx hb dX14_span_1 rfl (lv_at hl 1 rfl) ?_
  obtain ⟨hv1, h⟩ := h
  have hFc := rfree hR hA
  refine va_calli (va_runV (As := [.int x1]) (rest := []) ⟨hx, hb, hml, hown, hts⟩ (r_codeOctet l g ad s.heap.size S x1 hR.w  hv1) (cwV 1 hts (gd2_V kx_274 kx_275 kx_276 kx_177 kx_277) rfl rfl rfl (by decide +kernel) ⟨Nat.le_of_ble_eq_true rfl, Nat.le_of_ble_eq_true rfl⟩) ⟨rblind, va_recv hR.K hR.P (ci := 13) (q0 := 0) rfl (hR.at14 hR.w.1), fun U hU hW9 => rmk hU hW9 hR hex hE hFc⟩ rfl rfl hl.1 rfl (lv_room (Nat.le_of_ble_eq_true rfl)) dX14_span_2 ⟨Nat.le_of_ble_eq_true rfl, Nat.le_of_ble_eq_true rfl⟩) hR.sS (fun q _ h => hFc q h) hFc (fun r2 u9 t9 H1 locs ht9 hvm9 hw9 hB9 hz9 hk9 hS => ?_)
  have hR : Rep g ad A s S H1 locs := hR.call ht9 hB9 hR.w hS hFc
  obtain rfl : r2 = (f_codeOctet S x1) := hw9
  clear hB9 hz9 hk9 hvm9 ht9 hS
  generalize H1 = H at hR ⊢
  obtain ⟨a4, ea4⟩ : ∃ z, z = (f_codeOctet S x1) := ⟨_, rfl⟩
  rw [← ea4]
  replace h := h a4 ea4
  refine lv_istore_n (lv' := [(2, .int a4), (0, .ref (ad 0)), (1, .int x1)]) hx hb dX14_span_5 rfl hl (by decide) rfl (fun ls hl => ?_)
  refine lv_iload_n hx hb dX14_span_6 rfl (lv_at hl 0 rfl) ?_
  obtain ⟨hv5, h⟩ := h
  have hFc := rfree hR hA
  refine va_calli (va_runS (As := [.int a4]) (rest := []) ⟨hx, hb, hml, hown, hts⟩ (r_spanOf l g ad H.size S a4 hR.w  hv5) (va_cwS 1 hts (gd2_S kx_278 kx_279 kx_177 kx_280) rfl rfl rfl (by decide +kernel) ⟨Nat.le_of_ble_eq_true rfl, Nat.le_of_ble_eq_true rfl⟩) ⟨rblind, fun U hU hW9 => rmk hU hW9 hR hex hE hFc⟩ rfl rfl hl.1 rfl (lv_room (Nat.le_of_ble_eq_true rfl)) dX14_span_7 ⟨Nat.le_of_ble_eq_true rfl, Nat.le_of_ble_eq_true rfl⟩) hR.sS (fun q _ h => hFc q h) hFc (fun r6 u9 t9 H1 locs ht9 hvm9 hw9 hB9 hz9 hk9 hS => ?_)
  have hR : Rep g ad A s S H1 locs := hR.call ht9 hB9 hR.w hS hFc
  obtain rfl : r6 = (f_spanOf S a4) := hw9
  clear hB9 hz9 hk9 hvm9 ht9 hS
  generalize H1 = H at hR ⊢
  obtain ⟨a8, ea8⟩ : ∃ z, z = (f_spanOf S a4) := ⟨_, rfl⟩
  rw [← ea8]
  replace h := h a8 ea8
  refine lv_istore_n (lv' := [(3, .int a8), (2, .int a4), (0, .ref (ad 0)), (1, .int x1)]) hx hb dX14_span_10 rfl hl (by decide) rfl (fun ls hl => ?_)
  refine lv_iload_n hx hb dX14_span_11 rfl (lv_at hl 0 rfl) ?_
  refine lv_bipush (v := (-2)) hx hb dX14_span_12 (by decide) ?_
  have J_101 : ∀ (U101 : MS) (v101_1 : Int32) (v101_2 : Int32) (v101_3 : Int32) (H : Heap) (locs : List Loc) (ls : Array Slot), w_span_J101 Q U101 v101_1 v101_2 v101_3 → shy S U101 → Rep g ad A s U101 H locs → lv_has ls 5 [(0, .ref (ad 0)), (1, .int v101_1), (2, .int v101_2), (3, .int v101_3)] → W p l e (headSpec (wt2 yX14_span cX14_span 5 (some .int)) ({ frames := 5, cells := 0, slots := 0, locals := 109 })).room s m ([.ref (ad 0), .int x1] : List Value).toArray below meth c H locs 0 0 (MQ below (va_Qi (fun (r : Int32) (u : MS) => Q r u ∧ wfM u ∧ shy S u) (fun (u : MS) (t : State) => qE g ad A u t) A) ([.ref (ad 0), .int x1] : List Value).toArray s 0 0 A) (F0 m 101 ls []) := by
    intro U101 v101_1 v101_2 v101_3 H locs ls h hsh hR hl
    unfold w_span_J101 at h
    refine lv_iload_n hx hb dX14_span_101 rfl (lv_at hl 3 rfl) ?_
    refine lv_iconst (v := (-1)) hx hb dX14_span_102 (by decide) ?_
    have J_113 : ∀ (U113 : MS) (v113_1 : Int32) (v113_2 : Int32) (v113_3 : Int32) (H : Heap) (locs : List Loc) (ls : Array Slot), w_span_J113 Q U113 v113_1 v113_2 v113_3 → shy S U113 → Rep g ad A s U113 H locs → lv_has ls 5 [(0, .ref (ad 0)), (1, .int v113_1), (2, .int v113_2), (3, .int v113_3)] → W p l e (headSpec (wt2 yX14_span cX14_span 5 (some .int)) ({ frames := 5, cells := 0, slots := 0, locals := 109 })).room s m ([.ref (ad 0), .int x1] : List Value).toArray below meth c H locs 0 0 (MQ below (va_Qi (fun (r : Int32) (u : MS) => Q r u ∧ wfM u ∧ shy S u) (fun (u : MS) (t : State) => qE g ad A u t) A) ([.ref (ad 0), .int x1] : List Value).toArray s 0 0 A) (F0 m 113 ls []) := by
      intro U113 v113_1 v113_2 v113_3 H locs ls h hsh hR hl
      unfold w_span_J113 at h
      refine lv_iload_n hx hb dX14_span_113 rfl (lv_at hl 3 rfl) ?_
      refine lv_if_le (tgt := 127) hx hb dX14_span_114 (by decide) (fun c9 => ?_) (fun c9 => ?_)
      · replace h := h.1 (k_le rfl (by decide) c9)
        refine lv_iconst (v := (-1)) hx hb dX14_span_127 (by decide) ?_
        exact W.iret (v := (-1)) hx hb hr (fun t9 ht9 hW9 => ⟨⟨_, U113, rfl, ⟨h, hR.w, hsh⟩, ⟨by rw [ht9]; exact hR.P, hR.D⟩⟩, hR.sS.F ht9⟩) hR.sS.2.2 dX14_span_128
      · replace h := h.2 (k_nle rfl (by decide) c9)
        refine lv_iload_n hx hb dX14_span_117 rfl (lv_at hl 1 rfl) ?_
        refine lv_iload_n hx hb dX14_span_118 rfl (lv_at hl 3 rfl) ?_
        refine lv_iadd hx hb dX14_span_119 ?_
        refine lv_topi (fun z10 ez10 => ?_)
        obtain rfl : z10 = (v113_1 + v113_3) := ez10
        refine lv_aload_n hx hb dX14_span_120 rfl (lv_at hl 0 rfl) ?_
        refine va_get (D := rD g) (ci := 13) (v := .int (qI U113 0 37)) (C := RX14) (T := TX14) (N := 143) hx hb hts in2X14 hown hR.K hR.P 0 (hR.at14 hR.w.1) rfl 37 (by decide) (hts _ kx_281) (fun _ h9 => h9) rfl dX14_span_121 ?_
        refine lv_icmp_le (tgt := 129) hx hb dX14_span_124 (by decide) (fun c11 => ?_) (fun c11 => ?_)
        · replace h := h.1 (k_le rfl rfl c11)
          refine lv_iload_n hx hb dX14_span_129 rfl (lv_at hl 2 rfl) ?_
          refine lv_sipush (v := 188) hx hb dX14_span_130 (by decide) ?_
          have J_152 : ∀ (U152 : MS) (v152_3 : Int32) (H : Heap) (locs : List Loc) (ls : Array Slot), w_span_J152 Q U152 v152_3 → shy S U152 → Rep g ad A s U152 H locs → lv_has ls 5 [(3, .int v152_3)] → W p l e (headSpec (wt2 yX14_span cX14_span 5 (some .int)) ({ frames := 5, cells := 0, slots := 0, locals := 109 })).room s m ([.ref (ad 0), .int x1] : List Value).toArray below meth c H locs 0 0 (MQ below (va_Qi (fun (r : Int32) (u : MS) => Q r u ∧ wfM u ∧ shy S u) (fun (u : MS) (t : State) => qE g ad A u t) A) ([.ref (ad 0), .int x1] : List Value).toArray s 0 0 A) (F0 m 152 ls []) := by
            intro U152 v152_3 H locs ls h hsh hR hl
            unfold w_span_J152 at h
            refine lv_iload_n hx hb dX14_span_152 rfl (lv_at hl 0 rfl) ?_
            exact W.iret (v := v152_3) hx hb hr (fun t9 ht9 hW9 => ⟨⟨_, U152, rfl, ⟨h, hR.w, hsh⟩, ⟨by rw [ht9]; exact hR.P, hR.D⟩⟩, hR.sS.F ht9⟩) hR.sS.2.2 dX14_span_153
          refine lv_icmp_ne (tgt := 152) hx hb dX14_span_133 (by decide) (fun c12 => ?_) (fun c12 => ?_)
          · replace h := h.2 (k_ne rfl (by decide) c12)
            exact J_152 U113 v113_3 _ _ ls h  hsh hR (lv_sub hl [3] rfl)
          · replace h := h.1 (k_eq rfl (by decide) c12)
            refine lv_aload_n hx hb dX14_span_136 rfl (lv_at hl 0 rfl) ?_
            refine lv_iload_n hx hb dX14_span_137 rfl (lv_at hl 1 rfl) ?_
            refine lv_iconst (v := 1) hx hb dX14_span_138 (by decide) ?_
            refine lv_iadd hx hb dX14_span_139 ?_
            refine lv_topi (fun z13 ez13 => ?_)
            obtain rfl : z13 = (v113_1 + (1 : Int32)) := ez13
            obtain ⟨hv14, h⟩ := h
            have hFc := rfree hR hA
            refine va_calli (va_runV (As := [.int (v113_1 + (1 : Int32))]) (rest := []) ⟨hx, hb, hml, hown, hts⟩ (r_codeOctet l g ad H.size U113 (v113_1 + (1 : Int32)) hR.w  hv14) (cwV 1 hts (gd2_V kx_274 kx_275 kx_276 kx_177 kx_277) rfl rfl rfl (by decide +kernel) ⟨Nat.le_of_ble_eq_true rfl, Nat.le_of_ble_eq_true rfl⟩) ⟨rblind, va_recv hR.K hR.P (ci := 13) (q0 := 0) rfl (hR.at14 hR.w.1), fun U hU hW9 => rmk hU hW9 hR hex hE hFc⟩ rfl rfl hl.1 rfl (lv_room (Nat.le_of_ble_eq_true rfl)) dX14_span_140 ⟨Nat.le_of_ble_eq_true rfl, Nat.le_of_ble_eq_true rfl⟩) hR.sS (fun q _ h => hFc q h) hFc (fun r15 u9 t9 H1 locs ht9 hvm9 hw9 hB9 hz9 hk9 hS => ?_)
            have hR : Rep g ad A s U113 H1 locs := hR.call ht9 hB9 hR.w hS hFc
            obtain rfl : r15 = (f_codeOctet U113 (v113_1 + (1 : Int32))) := hw9
            clear hB9 hz9 hk9 hvm9 ht9 hS
            generalize H1 = H at hR ⊢
            refine lv_bipush (v := 10) hx hb dX14_span_143 (by decide) ?_
            refine lv_icmp_eq (tgt := 152) hx hb dX14_span_145 (by decide) (fun c17 => ?_) (fun c17 => ?_)
            · replace h := h.1 (k_eq rfl (by decide) c17)
              exact J_152 U113 v113_3 _ _ ls h  hsh hR (lv_sub hl [3] rfl)
            · replace h := h.2 (k_ne rfl (by decide) c17)
              refine lv_iconst (v := (-1)) hx hb dX14_span_148 (by decide) ?_
              refine lv_goto (tgt := 153) hx hb dX14_span_149 (by decide) ?_
              exact W.iret (v := (-1)) hx hb hr (fun t9 ht9 hW9 => ⟨⟨_, U113, rfl, ⟨h, hR.w, hsh⟩, ⟨by rw [ht9]; exact hR.P, hR.D⟩⟩, hR.sS.F ht9⟩) hR.sS.2.2 dX14_span_153
        · replace h := h.2 (k_nle rfl rfl c11)
          refine lv_iconst (v := (-1)) hx hb dX14_span_127 (by decide) ?_
          exact W.iret (v := (-1)) hx hb hr (fun t9 ht9 hW9 => ⟨⟨_, U113, rfl, ⟨h, hR.w, hsh⟩, ⟨by rw [ht9]; exact hR.P, hR.D⟩⟩, hR.sS.F ht9⟩) hR.sS.2.2 dX14_span_128
    refine lv_icmp_ne (tgt := 113) hx hb dX14_span_103 (by decide) (fun c18 => ?_) (fun c18 => ?_)
    · replace h := h.2 (k_ne rfl (by decide) c18)
      exact J_113 U101 v101_1 v101_2 v101_3 _ _ ls h  hsh hR (lv_sub hl [0, 1, 2, 3] rfl)
    · replace h := h.1 (k_eq rfl (by decide) c18)
      refine lv_aload_n hx hb dX14_span_106 rfl (lv_at hl 0 rfl) ?_
      refine lv_iload_n hx hb dX14_span_107 rfl (lv_at hl 1 rfl) ?_
      refine lv_iload_n hx hb dX14_span_108 rfl (lv_at hl 2 rfl) ?_
      obtain ⟨Q19, h0, h⟩ := h
      have hFc := rfree hR hA
      refine va_calli (va_runV (As := [.int v101_1, .int v101_2]) (rest := []) ⟨hx, hb, hml, hown, hts⟩ (r_switchSpan l g ad H.size U101 v101_1 v101_2 hR.w  Q19 h0) (cwV 2 hts (gd2_V kx_853 kx_854 kx_855 kx_177 kx_856) rfl rfl rfl (by decide +kernel) ⟨Nat.le_of_ble_eq_true rfl, Nat.le_of_ble_eq_true rfl⟩) ⟨rblind, va_recv hR.K hR.P (ci := 13) (q0 := 0) rfl (hR.at14 hR.w.1), fun U hU hW9 => rmk hU hW9 hR hex hE hFc⟩ rfl rfl hl.1 rfl (lv_room (Nat.le_of_ble_eq_true rfl)) dX14_span_109 ⟨Nat.le_of_ble_eq_true rfl, Nat.le_of_ble_eq_true rfl⟩) hR.sS (fun q _ h => hFc q h) hFc (fun r20 S21 t9 H1 locs ht9 hvm9 hw9 hB9 hz9 hk9 hS => ?_)
      obtain ⟨hq22, hw9, hs9⟩ := hw9
      have hR : Rep g ad A s S21 H1 locs := hR.call ht9 hB9 hw9 hS hFc
      have hsh := hsh.tr hs9
      replace h := h r20 S21 hq22
      clear hB9 hz9 hk9 hvm9 ht9 hw9 hs9 hS
      generalize H1 = H at hR ⊢
      refine lv_istore_n (lv' := [(3, .int r20), (0, .ref (ad 0)), (1, .int v101_1), (2, .int v101_2)]) hx hb dX14_span_112 rfl hl (by decide) rfl (fun ls hl => ?_)
      exact J_113 S21 v101_1 v101_2 r20 _ _ ls h  hsh hR (lv_sub hl [1, 2, 3, 0] rfl)
  refine lv_icmp_ne (tgt := 101) hx hb dX14_span_14 (by decide) (fun c23 => ?_) (fun c23 => ?_)
  · replace h := h.2 (k_ne rfl (by decide) c23)
    exact J_101 S x1 a4 a8 _ _ ls h  hsh hR (lv_sub hl [2, 3, 1, 0] rfl)
  · replace h := h.1 (k_eq rfl (by decide) c23)
    refine lv_iload_n hx hb dX14_span_17 rfl (lv_at hl 3 rfl) ?_
    refine lv_iconst (v := 1) hx hb dX14_span_18 (by decide) ?_
    refine lv_iadd hx hb dX14_span_19 ?_
    refine lv_topi (fun z24 ez24 => ?_)
    obtain rfl : z24 = (x1 + (1 : Int32)) := ez24
    refine lv_aload_n hx hb dX14_span_20 rfl (lv_at hl 2 rfl) ?_
    refine va_get (D := rD g) (ci := 13) (v := .int (qI S 0 37)) (C := RX14) (T := TX14) (N := 143) hx hb hts in2X14 hown hR.K hR.P 0 (hR.at14 hR.w.1) rfl 37 (by decide) (hts _ kx_281) (fun _ h9 => h9) rfl dX14_span_21 ?_
    have J_38 : ∀ (U38 : MS) (t38_0 : Int32) (v38_1 : Int32) (v38_2 : Int32) (H : Heap) (locs : List Loc) (ls : Array Slot), w_span_J38 Q U38 t38_0 v38_1 v38_2 → shy S U38 → Rep g ad A s U38 H locs → lv_has ls 5 [(0, .ref (ad 0)), (1, .int v38_1), (2, .int v38_2)] → W p l e (headSpec (wt2 yX14_span cX14_span 5 (some .int)) ({ frames := 5, cells := 0, slots := 0, locals := 109 })).room s m ([.ref (ad 0), .int x1] : List Value).toArray below meth c H locs 0 0 (MQ below (va_Qi (fun (r : Int32) (u : MS) => Q r u ∧ wfM u ∧ shy S u) (fun (u : MS) (t : State) => qE g ad A u t) A) ([.ref (ad 0), .int x1] : List Value).toArray s 0 0 A) (F0 m 38 ls [.int t38_0]) := by
      intro U38 t38_0 v38_1 v38_2 H locs ls h hsh hR hl
      unfold w_span_J38 at h
      refine lv_istore (lv' := [(4, .int t38_0), (0, .ref (ad 0)), (1, .int v38_1), (2, .int v38_2)]) hx hb dX14_span_38 hl (by decide) rfl (fun ls hl => ?_)
      refine lv_iload hx hb dX14_span_40 (lv_at hl 0 rfl) ?_
      refine lv_sipush (v := 132) hx hb dX14_span_42 (by decide) ?_
      have J_100 : ∀ (U100 : MS) (t100_0 : Int32) (v100_1 : Int32) (v100_2 : Int32) (H : Heap) (locs : List Loc) (ls : Array Slot), w_span_J100 Q U100 t100_0 v100_1 v100_2 → shy S U100 → Rep g ad A s U100 H locs → lv_has ls 5 [(0, .ref (ad 0)), (1, .int v100_1), (2, .int v100_2)] → W p l e (headSpec (wt2 yX14_span cX14_span 5 (some .int)) ({ frames := 5, cells := 0, slots := 0, locals := 109 })).room s m ([.ref (ad 0), .int x1] : List Value).toArray below meth c H locs 0 0 (MQ below (va_Qi (fun (r : Int32) (u : MS) => Q r u ∧ wfM u ∧ shy S u) (fun (u : MS) (t : State) => qE g ad A u t) A) ([.ref (ad 0), .int x1] : List Value).toArray s 0 0 A) (F0 m 100 ls [.int t100_0]) := by
        intro U100 t100_0 v100_1 v100_2 H locs ls h hsh hR hl
        unfold w_span_J100 at h
        refine lv_istore_n (lv' := [(3, .int t100_0), (0, .ref (ad 0)), (1, .int v100_1), (2, .int v100_2)]) hx hb dX14_span_100 rfl hl (by decide) rfl (fun ls hl => ?_)
        exact J_101 U100 v100_1 v100_2 t100_0 _ _ ls h  hsh hR (lv_sub hl [1, 2, 3, 0] rfl)
      refine lv_icmp_ne (tgt := 53) hx hb dX14_span_45 (by decide) (fun c25 => ?_) (fun c25 => ?_)
      · replace h := h.2 (k_ne rfl (by decide) c25)
        refine lv_iload hx hb dX14_span_53 (lv_at hl 0 rfl) ?_
        refine lv_bipush (v := 21) hx hb dX14_span_55 (by decide) ?_
        have J_95 : ∀ (U95 : MS) (v95_1 : Int32) (v95_2 : Int32) (H : Heap) (locs : List Loc) (ls : Array Slot), w_span_J95 Q U95 v95_1 v95_2 → shy S U95 → Rep g ad A s U95 H locs → lv_has ls 5 [(0, .ref (ad 0)), (1, .int v95_1), (2, .int v95_2)] → W p l e (headSpec (wt2 yX14_span cX14_span 5 (some .int)) ({ frames := 5, cells := 0, slots := 0, locals := 109 })).room s m ([.ref (ad 0), .int x1] : List Value).toArray below meth c H locs 0 0 (MQ below (va_Qi (fun (r : Int32) (u : MS) => Q r u ∧ wfM u ∧ shy S u) (fun (u : MS) (t : State) => qE g ad A u t) A) ([.ref (ad 0), .int x1] : List Value).toArray s 0 0 A) (F0 m 95 ls []) := by
          intro U95 v95_1 v95_2 H locs ls h hsh hR hl
          unfold w_span_J95 at h
          refine lv_iconst (v := 4) hx hb dX14_span_95 (by decide) ?_
          refine lv_goto (tgt := 100) hx hb dX14_span_96 (by decide) ?_
          exact J_100 U95 4 v95_1 v95_2 _ _ ls h  hsh hR (lv_sub hl [0, 1, 2] rfl)
        refine lv_icmp_eq (tgt := 95) hx hb dX14_span_57 (by decide) (fun c26 => ?_) (fun c26 => ?_)
        · replace h := h.1 (k_eq rfl (by decide) c26)
          exact J_95 U38 v38_1 v38_2 _ _ ls h  hsh hR (lv_sub hl [1, 2, 3] rfl)
        · replace h := h.2 (k_ne rfl (by decide) c26)
          refine lv_iload hx hb dX14_span_60 (lv_at hl 0 rfl) ?_
          refine lv_bipush (v := 22) hx hb dX14_span_62 (by decide) ?_
          refine lv_icmp_eq (tgt := 95) hx hb dX14_span_64 (by decide) (fun c27 => ?_) (fun c27 => ?_)
          · replace h := h.1 (k_eq rfl (by decide) c27)
            exact J_95 U38 v38_1 v38_2 _ _ ls h  hsh hR (lv_sub hl [1, 2, 3] rfl)
          · replace h := h.2 (k_ne rfl (by decide) c27)
            refine lv_iload hx hb dX14_span_67 (lv_at hl 0 rfl) ?_
            refine lv_bipush (v := 25) hx hb dX14_span_69 (by decide) ?_
            refine lv_icmp_eq (tgt := 95) hx hb dX14_span_71 (by decide) (fun c28 => ?_) (fun c28 => ?_)
            · replace h := h.1 (k_eq rfl (by decide) c28)
              exact J_95 U38 v38_1 v38_2 _ _ ls h  hsh hR (lv_sub hl [1, 2, 3] rfl)
            · replace h := h.2 (k_ne rfl (by decide) c28)
              refine lv_iload hx hb dX14_span_74 (lv_at hl 0 rfl) ?_
              refine lv_bipush (v := 54) hx hb dX14_span_76 (by decide) ?_
              refine lv_icmp_eq (tgt := 95) hx hb dX14_span_78 (by decide) (fun c29 => ?_) (fun c29 => ?_)
              · replace h := h.1 (k_eq rfl (by decide) c29)
                exact J_95 U38 v38_1 v38_2 _ _ ls h  hsh hR (lv_sub hl [1, 2, 3] rfl)
              · replace h := h.2 (k_ne rfl (by decide) c29)
                refine lv_iload hx hb dX14_span_81 (lv_at hl 0 rfl) ?_
                refine lv_bipush (v := 55) hx hb dX14_span_83 (by decide) ?_
                refine lv_icmp_eq (tgt := 95) hx hb dX14_span_85 (by decide) (fun c30 => ?_) (fun c30 => ?_)
                · replace h := h.1 (k_eq rfl (by decide) c30)
                  exact J_95 U38 v38_1 v38_2 _ _ ls h  hsh hR (lv_sub hl [1, 2, 3] rfl)
                · replace h := h.2 (k_ne rfl (by decide) c30)
                  refine lv_iload hx hb dX14_span_88 (lv_at hl 0 rfl) ?_
                  refine lv_bipush (v := 58) hx hb dX14_span_90 (by decide) ?_
                  refine lv_icmp_ne (tgt := 99) hx hb dX14_span_92 (by decide) (fun c31 => ?_) (fun c31 => ?_)
                  · replace h := h.2 (k_ne rfl (by decide) c31)
                    refine lv_iconst (v := 0) hx hb dX14_span_99 (by decide) ?_
                    exact J_100 U38 0 v38_1 v38_2 _ _ ls h  hsh hR (lv_sub hl [1, 2, 3] rfl)
                  · replace h := h.1 (k_eq rfl (by decide) c31)
                    exact J_95 U38 v38_1 v38_2 _ _ ls h  hsh hR (lv_sub hl [1, 2, 3] rfl)
      · replace h := h.1 (k_eq rfl (by decide) c25)
        refine lv_bipush (v := 6) hx hb dX14_span_48 (by decide) ?_
        refine lv_goto (tgt := 100) hx hb dX14_span_50 (by decide) ?_
        exact J_100 U38 6 v38_1 v38_2 _ _ ls h  hsh hR (lv_sub hl [1, 2, 3] rfl)
    refine lv_icmp_ge (tgt := 37) hx hb dX14_span_24 (by decide) (fun c32 => ?_) (fun c32 => ?_)
    · replace h := h.1 (k_le rfl rfl c32)
      refine lv_iconst (v := 0) hx hb dX14_span_37 (by decide) ?_
      exact J_38 S 0 x1 a4 _ _ ls h  hsh hR (lv_sub hl [2, 3, 1] rfl)
    · replace h := h.2 (k_nle rfl rfl c32)
      refine lv_aload_n hx hb dX14_span_27 rfl (lv_at hl 2 rfl) ?_
      refine lv_iload_n hx hb dX14_span_28 rfl (lv_at hl 3 rfl) ?_
      refine lv_iconst (v := 1) hx hb dX14_span_29 (by decide) ?_
      refine lv_iadd hx hb dX14_span_30 ?_
      refine lv_topi (fun z33 ez33 => ?_)
      obtain rfl : z33 = (x1 + (1 : Int32)) := ez33
      obtain ⟨hv34, h⟩ := h
      have hFc := rfree hR hA
      refine va_calli (va_runV (As := [.int (x1 + (1 : Int32))]) (rest := []) ⟨hx, hb, hml, hown, hts⟩ (r_codeOctet l g ad H.size S (x1 + (1 : Int32)) hR.w  hv34) (cwV 1 hts (gd2_V kx_274 kx_275 kx_276 kx_177 kx_277) rfl rfl rfl (by decide +kernel) ⟨Nat.le_of_ble_eq_true rfl, Nat.le_of_ble_eq_true rfl⟩) ⟨rblind, va_recv hR.K hR.P (ci := 13) (q0 := 0) rfl (hR.at14 hR.w.1), fun U hU hW9 => rmk hU hW9 hR hex hE hFc⟩ rfl rfl hl.1 rfl (lv_room (Nat.le_of_ble_eq_true rfl)) dX14_span_31 ⟨Nat.le_of_ble_eq_true rfl, Nat.le_of_ble_eq_true rfl⟩) hR.sS (fun q _ h => hFc q h) hFc (fun r35 u9 t9 H1 locs ht9 hvm9 hw9 hB9 hz9 hk9 hS => ?_)
      have hR : Rep g ad A s S H1 locs := hR.call ht9 hB9 hR.w hS hFc
      obtain rfl : r35 = (f_codeOctet S (x1 + (1 : Int32))) := hw9
      clear hB9 hz9 hk9 hvm9 ht9 hS
      generalize H1 = H at hR ⊢
      refine lv_goto (tgt := 38) hx hb dX14_span_34 (by decide) ?_
      exact J_38 S (f_codeOctet S (x1 + (1 : Int32))) x1 a4 _ _ ls h  hsh hR (lv_sub hl [2, 3, 1] rfl)
def w_wholes_J59 (Q : MS → Prop) (E : MS → Prop) (k35 : MS → Int32 → Prop) (U59 : MS) (t59_0 : Int32) (v59_2 : Int32) (v59_3 : Int32) : Prop := (∃ Q14 EQ14, w_must U59 t59_0 (15 : Int32) ((qI U59 0 36) + v59_2) Q14 EQ14 ∧ (∀ S15, Q14 S15 → (((0 : Int) ≤ v59_2.toInt ∧ v59_2.toInt < 1201) ∧ (∀ S18, S18 = wI S15 18 v59_2.toInt.toNat (qI S15 0 39) → (∀ S20, S20 = wI S18 0 39 ((qI S18 0 39) + (1 : Int32)) → (∀ a22 : Int32, a22 = (v59_2 + v59_3) → k35 S20 a22))))) ∧ (∀ u9, EQ14 u9 → E u9))
def w_wholes_L35 (Q : MS → Prop) (E : MS → Prop) : Nat → MS → Int32 → Prop
  | 0, _, _ => False
  | n35 + 1, U35, v35_2 => (((qI U35 0 37).toInt ≤ v35_2.toInt → (((0 : Int) ≤ (qI U35 0 37).toInt ∧ (qI U35 0 37).toInt < 1201) ∧ (∀ S8, S8 = wI U35 18 (((qI U35 0 37).toInt).toNat) (qI U35 0 39) → Q S8))) ∧ (¬ (qI U35 0 37).toInt ≤ v35_2.toInt → (∃ Q9, w_span U35 v35_2 Q9 ∧ ∀ r10 S11, Q9 r10 S11 → ((r10.toInt ≤ 0 → w_wholes_J59 Q E (w_wholes_L35 Q E n35) S11 0 v35_2 r10) ∧ (¬ r10.toInt ≤ 0 → w_wholes_J59 Q E (w_wholes_L35 Q E n35) S11 1 v35_2 r10)))))
def w_wholes_L7 (Q : MS → Prop) (E : MS → Prop) : Nat → MS → Int32 → Prop
  | 0, _, _ => False
  | n7 + 1, U7, v7_2 => (((qI U7 0 37).toInt < v7_2.toInt → (∀ S5, S5 = wI U7 0 39 0 → (∃ n, w_wholes_L35 Q E n S5 0))) ∧ (¬ (qI U7 0 37).toInt < v7_2.toInt → (((0 : Int) ≤ v7_2.toInt ∧ v7_2.toInt < 1201) ∧ (∀ S25, S25 = wI U7 18 v7_2.toInt.toNat (-1 : Int32) → (∀ a26 : Int32, a26 = (v7_2 + Int32.ofInt 1) → (w_wholes_L7 Q E n7) S25 a26)))))
def w_wholes (S : MS) (x1 : Int32) (Q : MS → Prop) (E : MS → Prop) : Prop := (∃ Q1, w_take S x1 Q1 ∧ ∀ S2, Q1 S2 → (∃ n, w_wholes_L7 Q E n S2 0))
set_option maxHeartbeats 2000000 in
set_option maxRecDepth 100000 in
theorem r_wholes (l : Launch) (g : Gr) (ad : Nat → Nat) (sz : Nat) (S : MS) (x1 : Int32) (hw : wfM S) (Q : MS → Prop) (E : MS → Prop) (h : w_wholes S x1 Q E) : vx_Met l yX14_wholes (wt2 yX14_wholes cX14_wholes 4 none) ({ frames := 6, cells := 0, slots := 0, locals := 133 }) (va_Pc [.ref (ad 0), .int x1] (st_R g ad sz S)) (va_Qv (fun (u : MS) => Q u ∧ wfM u ∧ shy S u) (fun (u : MS) (t : State) => qE g ad (va_A (Wd g ad S) sz) u t) (va_A (Wd g ad S) sz)) (vx_X (fun (u : MS) => E u ∧ wfM u ∧ shy S u) (fun (n9 : String) (u : MS) (t : State) => n9 = RJxb5711 ∧ qE g ad (va_A (Wd g ad S) sz) u t) (va_A (Wd g ad S) sz)) 0 0 (va_A (Wd g ad S) sz) := by
  refine vx_ofW (cc := cX14_wholes) (maxL := 4) (ret := none) (by decide) rfl ?_
  intro p e s m args below meth c s₁ B hml hnt hv
  obtain ⟨rfl, hsz, hP, hK, hD0, hex, hE⟩ := hv
  have hx := B.exec
  have hb := B.bytes
  have hr := B.returns
  have hlocks := B.notSynchronized
  have hts0 := atoms_spec (ws := wt2 yX14_wholes cX14_wholes 4 none) B.pre
  have hts : ∀ w ∈ tb2, w.before _ s = true := fun w h => hts0 w (List.mem_cons_of_mem _ h)
  have hown : s.vm.findClass RX14 = some m.cls := findClass_of_methodNamed B.named
  subst hsz
  have hD := hD0.self (sz := s.heap.size)
  generalize hAe : va_A (Wd g ad S) s.heap.size = A at hD hE ⊢
  have hA : ∀ q : Nat, s.heap.size ≤ q → A q := fun q h => by rw [← hAe]; exact Or.inr h
  have hR : Rep g ad A s S s.heap [] := ⟨hK, hP, hD, va_S.rf, hw⟩
  clear hK hP hD hD0
  have hl := lv_entry ([.ref (ad 0), .int x1]) (n := 4) (Nat.le_of_ble_eq_true rfl)
  rw [lg_entry_eq]
  generalize (lg_sl ([.ref (ad 0), .int x1]) ++ List.replicate (4 - (lg_sl ([.ref (ad 0), .int x1])).length) Slot.unset).toArray = ls at hl ⊢
  have hl : lv_has ls 4 [(0, .ref (ad 0)), (1, .int x1)] := hl
  have hsh : shy S S := shy.rf
  unfold w_wholes at h
  refine lv_aload_n hx hb dX14_wholes_0 rfl (lv_at hl 0 rfl) ?_
  refine lv_iload_n hx hb dX14_wholes_1 rfl (lv_at hl 1 rfl) ?_
  obtain ⟨Q1, h0, h⟩ := h
  have hFc := rfree hR hA
  refine va_callv (va_runV (As := [.int x1]) (rest := []) ⟨hx, hb, hml, hown, hts⟩ (r_take l g ad s.heap.size S x1 hR.w  Q1 h0) (cwV 1 hts (gd2_V kx_290 kx_291 kx_292 kx_177 kx_293) rfl rfl rfl (by decide +kernel) ⟨Nat.le_of_ble_eq_true rfl, Nat.le_of_ble_eq_true rfl⟩) ⟨rblind, va_recv hR.K hR.P (ci := 13) (q0 := 0) rfl (hR.at14 hR.w.1), fun U hU hW9 => rmk hU hW9 hR hex hE hFc⟩ rfl rfl hl.1 rfl (lv_room (Nat.le_of_ble_eq_true rfl)) dX14_wholes_2 ⟨Nat.le_of_ble_eq_true rfl, Nat.le_of_ble_eq_true rfl⟩) hR.sS (fun q _ h => hFc q h) hFc (fun  S2 t9 H1 locs ht9 hvm9 hw9 hB9 hz9 hk9 hS => ?_)
  obtain ⟨hq3, hw9, hs9⟩ := hw9
  have hR : Rep g ad A s S2 H1 locs := hR.call ht9 hB9 hw9 hS hFc
  have hsh := hsh.tr hs9
  replace h := h  S2 hq3
  clear hB9 hz9 hk9 hvm9 ht9 hw9 hs9 hS
  generalize H1 = H at hR ⊢
  refine lv_iconst (v := 0) hx hb dX14_wholes_5 (by decide) ?_
  refine lv_istore_n (lv' := [(2, .int 0), (0, .ref (ad 0)), (1, .int x1)]) hx hb dX14_wholes_6 rfl hl (by decide) rfl (fun ls hl => ?_)
  have J_7 : ∀ (n7 : Nat) (U7 : MS) (v7_2 : Int32) (H : Heap) (locs : List Loc) (ls : Array Slot), w_wholes_L7 Q E n7 U7 v7_2 → shy S U7 → Rep g ad A s U7 H locs → lv_has ls 4 [(0, .ref (ad 0)), (2, .int v7_2)] → W p l e (headSpec (wt2 yX14_wholes cX14_wholes 4 none) ({ frames := 6, cells := 0, slots := 0, locals := 133 })).room s m ([.ref (ad 0), .int x1] : List Value).toArray below meth c H locs 0 0 (vx_MQ below (va_Qv (fun (u : MS) => Q u ∧ wfM u ∧ shy S u) (fun (u : MS) (t : State) => qE g ad A u t) A) ((vx_X (fun (u : MS) => E u ∧ wfM u ∧ shy S u) (fun (n9 : String) (u : MS) (t : State) => n9 = RJxb5711 ∧ qE g ad A u t) A)) ([.ref (ad 0), .int x1] : List Value).toArray s 0 0 A) (F0 m 7 ls []) := by
    intro n7
    induction n7 with
    | zero => intro U7 v7_2 H locs ls h hsh hR hl; unfold w_wholes_L7 at h; exact h.elim
    | succ n7 ih_7 =>
      intro U7 v7_2 H locs ls h hsh hR hl
      unfold w_wholes_L7 at h
      refine lv_iload_n hx hb dX14_wholes_7 rfl (lv_at hl 1 rfl) ?_
      refine lv_aload_n hx hb dX14_wholes_8 rfl (lv_at hl 0 rfl) ?_
      refine va_get (D := rD g) (ci := 13) (v := .int (qI U7 0 37)) (C := RX14) (T := TX14) (N := 143) hx hb hts in2X14 hown hR.K hR.P 0 (hR.at14 hR.w.1) rfl 37 (by decide) (hts _ kx_281) (fun _ h9 => h9) rfl dX14_wholes_9 ?_
      refine lv_icmp_gt (tgt := 28) hx hb dX14_wholes_12 (by decide) (fun c4 => ?_) (fun c4 => ?_)
      · replace h := h.1 (k_lt rfl rfl c4)
        refine lv_aload_n hx hb dX14_wholes_28 rfl (lv_at hl 0 rfl) ?_
        refine lv_iconst (v := 0) hx hb dX14_wholes_29 (by decide) ?_
        refine va_put (D := rD g) (ci := 13) (v := .int 0) (ty := .int) (C := RX14) (T := TX14) (N := 143) hx hb hts in2X14 tyX14 tyX14_ok nmX14 hown hR.K hR.P hR.D hR.sS 0 (hR.at14 hR.w.1) rfl 39 (by decide) (hts _ kx_294) (fun _ h9 => h9) rfl (by decide +kernel) rfl rfl (Nat.le_of_ble_eq_true rfl) dX14_wholes_30 (fun H locs hP hD hS => ?_)
        have hR : Rep g ad A s (wI U7 0 39 0) H locs := hR.pI hR.w.1 F14_s39 hP hD hS
        obtain ⟨S5, eS5⟩ : ∃ z, z = wI U7 0 39 0 := ⟨_, rfl⟩
        rw [← eS5] at hR
        replace h := h S5 eS5
        have hsh : shy S S5 := by rw [eS5]; exact hsh
        refine lv_iconst (v := 0) hx hb dX14_wholes_33 (by decide) ?_
        refine lv_istore_n (lv' := [(2, .int 0), (0, .ref (ad 0))]) hx hb dX14_wholes_34 rfl hl (by decide) rfl (fun ls hl => ?_)
        have J_35 : ∀ (n35 : Nat) (U35 : MS) (v35_2 : Int32) (H : Heap) (locs : List Loc) (ls : Array Slot), w_wholes_L35 Q E n35 U35 v35_2 → shy S U35 → Rep g ad A s U35 H locs → lv_has ls 4 [(0, .ref (ad 0)), (2, .int v35_2)] → W p l e (headSpec (wt2 yX14_wholes cX14_wholes 4 none) ({ frames := 6, cells := 0, slots := 0, locals := 133 })).room s m ([.ref (ad 0), .int x1] : List Value).toArray below meth c H locs 0 0 (vx_MQ below (va_Qv (fun (u : MS) => Q u ∧ wfM u ∧ shy S u) (fun (u : MS) (t : State) => qE g ad A u t) A) ((vx_X (fun (u : MS) => E u ∧ wfM u ∧ shy S u) (fun (n9 : String) (u : MS) (t : State) => n9 = RJxb5711 ∧ qE g ad A u t) A)) ([.ref (ad 0), .int x1] : List Value).toArray s 0 0 A) (F0 m 35 ls []) := by
          intro n35
          induction n35 with
          | zero => intro U35 v35_2 H locs ls h hsh hR hl; unfold w_wholes_L35 at h; exact h.elim
          | succ n35 ih_35 =>
            intro U35 v35_2 H locs ls h hsh hR hl
            unfold w_wholes_L35 at h
            refine lv_iload_n hx hb dX14_wholes_35 rfl (lv_at hl 1 rfl) ?_
            refine lv_aload_n hx hb dX14_wholes_36 rfl (lv_at hl 0 rfl) ?_
            refine va_get (D := rD g) (ci := 13) (v := .int (qI U35 0 37)) (C := RX14) (T := TX14) (N := 143) hx hb hts in2X14 hown hR.K hR.P 0 (hR.at14 hR.w.1) rfl 37 (by decide) (hts _ kx_281) (fun _ h9 => h9) rfl dX14_wholes_37 ?_
            refine lv_icmp_ge (tgt := 97) hx hb dX14_wholes_40 (by decide) (fun c6 => ?_) (fun c6 => ?_)
            · replace h := h.1 (k_le rfl rfl c6)
              refine lv_aload_n hx hb dX14_wholes_97 rfl (lv_at hl 0 rfl) ?_
              refine va_get (D := rD g) (ci := 13) (v := .ref (ad 18)) (C := RX14) (T := TX14) (N := 143) hx hb hts in2X14 hown hR.K hR.P 0 (hR.at14 hR.w.1) rfl 38 (by decide) (hts _ kx_295) (fun _ h9 => h9) (congrArg (fun z => some (vf ad z)) (hR.w.2.1 _ fin_38).1) dX14_wholes_98 ?_
              refine lv_aload_n hx hb dX14_wholes_101 rfl (lv_at hl 0 rfl) ?_
              refine va_get (D := rD g) (ci := 13) (v := .int (qI U35 0 37)) (C := RX14) (T := TX14) (N := 143) hx hb hts in2X14 hown hR.K hR.P 0 (hR.at14 hR.w.1) rfl 37 (by decide) (hts _ kx_281) (fun _ h9 => h9) rfl dX14_wholes_102 ?_
              refine lv_aload_n hx hb dX14_wholes_105 rfl (lv_at hl 0 rfl) ?_
              refine va_get (D := rD g) (ci := 13) (v := .int (qI U35 0 39)) (C := RX14) (T := TX14) (N := 143) hx hb hts in2X14 hown hR.K hR.P 0 (hR.at14 hR.w.1) rfl 39 (by decide) (hts _ kx_294) (fun _ h9 => h9) rfl dX14_wholes_106 ?_
              obtain ⟨hv7, h⟩ := h
              refine va_iast hx hb hR.K hR.P hR.D hR.sS 18 1 (hR.atI (hR.w.2.1 _ fin_38).2.1) rfl (k_ixN (k_ix (n := 1201) (x := (qI U35 0 37)) (a := (qI U35 0 37).toInt) rfl hv7) (hR.w.2.1 _ fin_38).2.2) dX14_wholes_109 (fun H locs hP hD hS => ?_)
              have hR : Rep g ad A s (wI U35 18 (((qI U35 0 37).toInt).toNat) (qI U35 0 39)) H locs := hR.aI (hR.w.2.1 _ fin_38).2.1 hP hD hS
              obtain ⟨S8, eS8⟩ : ∃ z, z = wI U35 18 (((qI U35 0 37).toInt).toNat) (qI U35 0 39) := ⟨_, rfl⟩
              rw [← eS8] at hR
              replace h := h S8 eS8
              have hsh : shy S S8 := by rw [eS8]; exact hsh
              exact vx_ret (W.vret hx hb hr (fun t9 ht9 hW9 => ⟨⟨S8, rfl, ⟨h, hR.w, hsh⟩, ⟨by rw [ht9]; exact hR.P, hR.D⟩⟩, hR.sS.F ht9⟩) hR.sS.2.2 dX14_wholes_110)
            · replace h := h.2 (k_nle rfl rfl c6)
              refine lv_aload_n hx hb dX14_wholes_43 rfl (lv_at hl 0 rfl) ?_
              refine lv_iload_n hx hb dX14_wholes_44 rfl (lv_at hl 1 rfl) ?_
              obtain ⟨Q9, h0, h⟩ := h
              have hFc := rfree hR hA
              refine va_calli (va_runV (As := [.int v35_2]) (rest := []) ⟨hx, hb, hml, hown, hts⟩ (r_span l g ad H.size U35 v35_2 hR.w  Q9 h0) (cwV 1 hts (gd2_V kx_857 kx_858 kx_859 kx_177 kx_860) rfl rfl rfl (by decide +kernel) ⟨Nat.le_of_ble_eq_true rfl, Nat.le_of_ble_eq_true rfl⟩) ⟨rblind, va_recv hR.K hR.P (ci := 13) (q0 := 0) rfl (hR.at14 hR.w.1), fun U hU hW9 => rmk hU hW9 hR hex hE hFc⟩ rfl rfl hl.1 rfl (lv_room (Nat.le_of_ble_eq_true rfl)) dX14_wholes_45 ⟨Nat.le_of_ble_eq_true rfl, Nat.le_of_ble_eq_true rfl⟩) hR.sS (fun q _ h => hFc q h) hFc (fun r10 S11 t9 H1 locs ht9 hvm9 hw9 hB9 hz9 hk9 hS => ?_)
              obtain ⟨hq12, hw9, hs9⟩ := hw9
              have hR : Rep g ad A s S11 H1 locs := hR.call ht9 hB9 hw9 hS hFc
              have hsh := hsh.tr hs9
              replace h := h r10 S11 hq12
              clear hB9 hz9 hk9 hvm9 ht9 hw9 hs9 hS
              generalize H1 = H at hR ⊢
              refine lv_istore_n (lv' := [(3, .int r10), (0, .ref (ad 0)), (2, .int v35_2)]) hx hb dX14_wholes_48 rfl hl (by decide) rfl (fun ls hl => ?_)
              refine lv_aload_n hx hb dX14_wholes_49 rfl (lv_at hl 1 rfl) ?_
              refine lv_iload_n hx hb dX14_wholes_50 rfl (lv_at hl 0 rfl) ?_
              have J_59 : ∀ (U59 : MS) (t59_0 : Int32) (v59_2 : Int32) (v59_3 : Int32) (H : Heap) (locs : List Loc) (ls : Array Slot), w_wholes_J59 Q E (w_wholes_L35 Q E n35) U59 t59_0 v59_2 v59_3 → (t59_0 = 0 ∨ t59_0 = 1) → shy S U59 → Rep g ad A s U59 H locs → lv_has ls 4 [(0, .ref (ad 0)), (2, .int v59_2), (3, .int v59_3)] → W p l e (headSpec (wt2 yX14_wholes cX14_wholes 4 none) ({ frames := 6, cells := 0, slots := 0, locals := 133 })).room s m ([.ref (ad 0), .int x1] : List Value).toArray below meth c H locs 0 0 (vx_MQ below (va_Qv (fun (u : MS) => Q u ∧ wfM u ∧ shy S u) (fun (u : MS) (t : State) => qE g ad A u t) A) ((vx_X (fun (u : MS) => E u ∧ wfM u ∧ shy S u) (fun (n9 : String) (u : MS) (t : State) => n9 = RJxb5711 ∧ qE g ad A u t) A)) ([.ref (ad 0), .int x1] : List Value).toArray s 0 0 A) (F0 m 59 ls [.int t59_0, .ref (ad 0)]) := by
                intro U59 t59_0 v59_2 v59_3 H locs ls h hz_t59_0 hsh hR hl
                unfold w_wholes_J59 at h
                refine lv_bipush (v := 15) hx hb dX14_wholes_59 (by decide) ?_
                refine lv_aload_n hx hb dX14_wholes_61 rfl (lv_at hl 0 rfl) ?_
                refine va_get (D := rD g) (ci := 13) (v := .int (qI U59 0 36)) (C := RX14) (T := TX14) (N := 143) hx hb hts in2X14 hown hR.K hR.P 0 (hR.at14 hR.w.1) rfl 36 (by decide) (hts _ kx_273) (fun _ h9 => h9) rfl dX14_wholes_62 ?_
                refine lv_iload_n hx hb dX14_wholes_65 rfl (lv_at hl 1 rfl) ?_
                refine lv_iadd hx hb dX14_wholes_66 ?_
                refine lv_topi (fun z13 ez13 => ?_)
                obtain rfl : z13 = ((qI U59 0 36) + v59_2) := ez13
                obtain ⟨Q14, EQ14, h0, h⟩ := h
                have hFc := rfree hR hA
                refine vx_callv (vx_runV (As := [.int t59_0, .int 15, .int ((qI U59 0 36) + v59_2)]) (rest := []) ⟨hx, hb, hml, hown, hts⟩ (r_must l g ad H.size U59 t59_0 (15 : Int32) ((qI U59 0 36) + v59_2) hR.w hz_t59_0 Q14 EQ14 h0) (cwV 3 hts (gd2_V kx_198 kx_199 kx_200 kx_177 kx_201) rfl rfl rfl (by decide +kernel) ⟨Nat.le_of_ble_eq_true rfl, Nat.le_of_ble_eq_true rfl⟩) ⟨rblind, va_recv hR.K hR.P (ci := 13) (q0 := 0) rfl (hR.at14 hR.w.1), fun U hU hW9 => rmk hU hW9 hR hex hE hFc⟩ rfl rfl hl.1 rfl (lv_room (Nat.le_of_ble_eq_true rfl)) dX14_wholes_67 ⟨Nat.le_of_ble_eq_true rfl, Nat.le_of_ble_eq_true rfl⟩) hR.sS (fun q _ h => hFc q h) hFc (fun q _ h => hFc q h) (fun E9 ce9 q9 u9 t9 H1 locs ht9 hvm9 hp9 hB9 hz9 hk9 hS hce9 hcv9 hcl9 => ?_) (fun  S15 t9 H1 locs ht9 hvm9 hw9 hB9 hz9 hk9 hS => ?_)
                · obtain ⟨hp9, hwx, hsx⟩ := hp9
                  obtain ⟨rfl, hBx⟩ := hB9
                  replace h := h.2 u9 hp9
                  have hR : Rep g ad A s u9 H1 locs := hR.call ht9 hBx hwx hS hFc
                  have hsh := hsh.tr hsx
                  exact vx_out (E := RJxb5711) (q := q9) (fun x h9 => (hnt x h9).elim) hlocks hce9 hcv9 hcl9 (fun t9 ht9 ha9 => ⟨u9, ⟨h, hR.w, hsh⟩, ⟨rfl, by rw [ht9]; exact hR.P, hR.D⟩, hR.sS.F ht9⟩) hR.sS.2.2 (Nat.le_of_ble_eq_true rfl) (Nat.le_of_ble_eq_true rfl)
                · obtain ⟨hq16, hw9, hs9⟩ := hw9
                  have hR : Rep g ad A s S15 H1 locs := hR.call ht9 hB9 hw9 hS hFc
                  have hsh := hsh.tr hs9
                  replace h := h.1  S15 hq16
                  clear hB9 hz9 hk9 hvm9 ht9 hw9 hs9 hS
                  generalize H1 = H at hR ⊢
                  refine lv_aload_n hx hb dX14_wholes_70 rfl (lv_at hl 0 rfl) ?_
                  refine va_get (D := rD g) (ci := 13) (v := .ref (ad 18)) (C := RX14) (T := TX14) (N := 143) hx hb hts in2X14 hown hR.K hR.P 0 (hR.at14 hR.w.1) rfl 38 (by decide) (hts _ kx_295) (fun _ h9 => h9) (congrArg (fun z => some (vf ad z)) (hR.w.2.1 _ fin_38).1) dX14_wholes_71 ?_
                  refine lv_iload_n hx hb dX14_wholes_74 rfl (lv_at hl 1 rfl) ?_
                  refine lv_aload_n hx hb dX14_wholes_75 rfl (lv_at hl 0 rfl) ?_
                  refine va_get (D := rD g) (ci := 13) (v := .int (qI S15 0 39)) (C := RX14) (T := TX14) (N := 143) hx hb hts in2X14 hown hR.K hR.P 0 (hR.at14 hR.w.1) rfl 39 (by decide) (hts _ kx_294) (fun _ h9 => h9) rfl dX14_wholes_76 ?_
                  obtain ⟨hv17, h⟩ := h
                  refine va_iast hx hb hR.K hR.P hR.D hR.sS 18 1 (hR.atI (hR.w.2.1 _ fin_38).2.1) rfl (k_ixN (k_ix (n := 1201) (x := v59_2) (a := v59_2.toInt) rfl hv17) (hR.w.2.1 _ fin_38).2.2) dX14_wholes_79 (fun H locs hP hD hS => ?_)
                  have hR : Rep g ad A s (wI S15 18 v59_2.toInt.toNat (qI S15 0 39)) H locs := hR.aI (hR.w.2.1 _ fin_38).2.1 hP hD hS
                  obtain ⟨S18, eS18⟩ : ∃ z, z = wI S15 18 v59_2.toInt.toNat (qI S15 0 39) := ⟨_, rfl⟩
                  rw [← eS18] at hR
                  replace h := h S18 eS18
                  have hsh : shy S S18 := by rw [eS18]; exact hsh
                  refine lv_aload_n hx hb dX14_wholes_80 rfl (lv_at hl 0 rfl) ?_
                  refine lv_dup hx hb dX14_wholes_81 rfl ?_
                  refine va_get (D := rD g) (ci := 13) (v := .int (qI S18 0 39)) (C := RX14) (T := TX14) (N := 143) hx hb hts in2X14 hown hR.K hR.P 0 (hR.at14 hR.w.1) rfl 39 (by decide) (hts _ kx_294) (fun _ h9 => h9) rfl dX14_wholes_82 ?_
                  refine lv_iconst (v := 1) hx hb dX14_wholes_85 (by decide) ?_
                  refine lv_iadd hx hb dX14_wholes_86 ?_
                  refine lv_topi (fun z19 ez19 => ?_)
                  obtain rfl : z19 = ((qI S18 0 39) + (1 : Int32)) := ez19
                  refine va_put (D := rD g) (ci := 13) (v := .int ((qI S18 0 39) + (1 : Int32))) (ty := .int) (C := RX14) (T := TX14) (N := 143) hx hb hts in2X14 tyX14 tyX14_ok nmX14 hown hR.K hR.P hR.D hR.sS 0 (hR.at14 hR.w.1) rfl 39 (by decide) (hts _ kx_294) (fun _ h9 => h9) rfl (by decide +kernel) rfl rfl (Nat.le_of_ble_eq_true rfl) dX14_wholes_87 (fun H locs hP hD hS => ?_)
                  have hR : Rep g ad A s (wI S18 0 39 ((qI S18 0 39) + (1 : Int32))) H locs := hR.pI hR.w.1 F14_s39 hP hD hS
                  obtain ⟨S20, eS20⟩ : ∃ z, z = wI S18 0 39 ((qI S18 0 39) + (1 : Int32)) := ⟨_, rfl⟩
                  rw [← eS20] at hR
                  replace h := h S20 eS20
                  have hsh : shy S S20 := by rw [eS20]; exact hsh
                  refine lv_iload_n hx hb dX14_wholes_90 rfl (lv_at hl 1 rfl) ?_
                  refine lv_iload_n hx hb dX14_wholes_91 rfl (lv_at hl 2 rfl) ?_
                  refine lv_iadd hx hb dX14_wholes_92 ?_
                  refine lv_topi (fun z21 ez21 => ?_)
                  obtain rfl : z21 = (v59_2 + v59_3) := ez21
                  obtain ⟨a22, ea22⟩ : ∃ z, z = (v59_2 + v59_3) := ⟨_, rfl⟩
                  rw [← ea22]
                  replace h := h a22 ea22
                  refine lv_istore_n (lv' := [(2, .int a22), (0, .ref (ad 0)), (3, .int v59_3)]) hx hb dX14_wholes_93 rfl hl (by decide) rfl (fun ls hl => ?_)
                  refine lv_goto (tgt := 35) hx hb dX14_wholes_94 (by decide) ?_
                  exact ih_35 S20 a22 _ _ ls h  hsh hR (lv_sub hl [1, 0] rfl)
              refine lv_if_le (tgt := 58) hx hb dX14_wholes_51 (by decide) (fun c23 => ?_) (fun c23 => ?_)
              · replace h := h.1 (k_le rfl (by decide) c23)
                refine lv_iconst (v := 0) hx hb dX14_wholes_58 (by decide) ?_
                exact J_59 S11 0 v35_2 r10 _ _ ls h (Or.inl rfl) hsh hR (lv_sub hl [1, 2, 0] rfl)
              · replace h := h.2 (k_nle rfl (by decide) c23)
                refine lv_iconst (v := 1) hx hb dX14_wholes_54 (by decide) ?_
                refine lv_goto (tgt := 59) hx hb dX14_wholes_55 (by decide) ?_
                exact J_59 S11 1 v35_2 r10 _ _ ls h (Or.inr rfl) hsh hR (lv_sub hl [1, 2, 0] rfl)
        obtain ⟨n9, h⟩ := h
        exact J_35 n9 S5 0 _ _ ls h  hsh hR (lv_sub hl [1, 0] rfl)
      · replace h := h.2 (k_nlt rfl rfl c4)
        refine lv_aload_n hx hb dX14_wholes_15 rfl (lv_at hl 0 rfl) ?_
        refine va_get (D := rD g) (ci := 13) (v := .ref (ad 18)) (C := RX14) (T := TX14) (N := 143) hx hb hts in2X14 hown hR.K hR.P 0 (hR.at14 hR.w.1) rfl 38 (by decide) (hts _ kx_295) (fun _ h9 => h9) (congrArg (fun z => some (vf ad z)) (hR.w.2.1 _ fin_38).1) dX14_wholes_16 ?_
        refine lv_iload_n hx hb dX14_wholes_19 rfl (lv_at hl 1 rfl) ?_
        refine lv_iconst (v := (-1)) hx hb dX14_wholes_20 (by decide) ?_
        obtain ⟨hv24, h⟩ := h
        refine va_iast hx hb hR.K hR.P hR.D hR.sS 18 1 (hR.atI (hR.w.2.1 _ fin_38).2.1) rfl (k_ixN (k_ix (n := 1201) (x := v7_2) (a := v7_2.toInt) rfl hv24) (hR.w.2.1 _ fin_38).2.2) dX14_wholes_21 (fun H locs hP hD hS => ?_)
        have hR : Rep g ad A s (wI U7 18 v7_2.toInt.toNat (-1 : Int32)) H locs := hR.aI (hR.w.2.1 _ fin_38).2.1 hP hD hS
        obtain ⟨S25, eS25⟩ : ∃ z, z = wI U7 18 v7_2.toInt.toNat (-1 : Int32) := ⟨_, rfl⟩
        rw [← eS25] at hR
        replace h := h S25 eS25
        have hsh : shy S S25 := by rw [eS25]; exact hsh
        obtain ⟨a26, ea26⟩ : ∃ z, z = (v7_2 + Int32.ofInt 1) := ⟨_, rfl⟩
        replace h := h a26 ea26
        refine lv_iinc (v := a26) (lv' := [(2, .int a26), (0, .ref (ad 0))]) hx hb dX14_wholes_22 hl (k := 1) rfl ea26.symm (by decide) rfl (fun ls hl => ?_)
        refine lv_goto (tgt := 7) hx hb dX14_wholes_25 (by decide) ?_
        exact ih_7 S25 a26 _ _ ls h  hsh hR (lv_sub hl [1, 0] rfl)
  obtain ⟨n9, h⟩ := h
  exact J_7 n9 S2 0 _ _ ls h  hsh hR (lv_sub hl [1, 0] rfl)
def w_instruction_J42 (Q : MS → Prop) (E : MS → Prop) (U42 : MS) (v42_2 : Int32) : Prop := (∃ Q6, w_row U42 (20 : Int32) (0 : Int32) (v42_2 - (9 : Int32)) Q6 ∧ ∀ S7, Q6 S7 → Q S7)
def w_instruction_J149 (Q : MS → Prop) (E : MS → Prop) (U149 : MS) (t149_0 : Int32) (t149_1 : Int32) : Prop := (∃ Q13 EQ13, w_pushed U149 t149_1 t149_0 (3 : Int32) Q13 EQ13 ∧ (∀ S14, Q13 S14 → Q S14) ∧ (∀ u9, EQ13 u9 → E u9))
def w_instruction_J120 (Q : MS → Prop) (E : MS → Prop) (U120 : MS) (v120_1 : Int32) (v120_2 : Int32) : Prop := ((v120_2.toInt = 18 → (d_codeOctet U120 (v120_1 + (1 : Int32)) ∧ w_instruction_J149 Q E U120 (f_codeOctet U120 (v120_1 + (1 : Int32))) v120_1)) ∧ (¬ v120_2.toInt = 18 → (d_codeTwo U120 (v120_1 + (1 : Int32)) ∧ w_instruction_J149 Q E U120 ((f_codeTwo U120 (v120_1 + (1 : Int32))) &&& (65535 : Int32)) v120_1)))
def w_instruction_J348 (Q : MS → Prop) (E : MS → Prop) (U348 : MS) (v348_1 : Int32) (v348_2 : Int32) : Prop := (d_codeOctet U348 (v348_1 + (1 : Int32)) ∧ (∃ Q33 EQ33, w_localRow U348 v348_1 v348_2 (f_codeOctet U348 (v348_1 + (1 : Int32))) Q33 EQ33 ∧ (∀ S34, Q33 S34 → Q S34) ∧ (∀ u9, EQ33 u9 → E u9)))
def w_instruction_J449 (Q : MS → Prop) (E : MS → Prop) (U449 : MS) (v449_1 : Int32) (v449_2 : Int32) : Prop := (d_codeTwo U449 (v449_1 + (1 : Int32)) ∧ (∃ Q48 EQ48, w_target U449 v449_1 (f_codeTwo U449 (v449_1 + (1 : Int32))) Q48 EQ48 ∧ (∀ r49 S50, Q48 r49 S50 → (∃ Q52, w_row S50 v449_2 r49 (0 : Int32) Q52 ∧ ∀ S53, Q52 S53 → Q S53)) ∧ (∀ u9, EQ48 u9 → E u9)))
def w_instruction_J514 (Q : MS → Prop) (E : MS → Prop) (U514 : MS) (v514_1 : Int32) (v514_2 : Int32) : Prop := (∃ Q58 EQ58, w_switched U514 v514_1 v514_2 Q58 EQ58 ∧ (∀ S59, Q58 S59 → Q S59) ∧ (∀ u9, EQ58 u9 → E u9))
def w_instruction_J537 (Q : MS → Prop) (E : MS → Prop) (U537 : MS) (v537_1 : Int32) (v537_2 : Int32) : Prop := (∃ Q63 EQ63, w_member U537 v537_1 (9 : Int32) Q63 EQ63 ∧ (∀ r64 S65, Q63 r64 S65 → (∃ Q67, w_row S65 v537_2 r64 (0 : Int32) Q67 ∧ ∀ S68, Q67 S68 → Q S68)) ∧ (∀ u9, EQ63 u9 → E u9))
def w_instruction_J435 (Q : MS → Prop) (E : MS → Prop) (U435 : MS) (v435_1 : Int32) (v435_2 : Int32) : Prop := ((v435_2.toInt = 198 → w_instruction_J449 Q E U435 v435_1 v435_2) ∧ (¬ v435_2.toInt = 198 → ((v435_2.toInt = 199 → w_instruction_J449 Q E U435 v435_1 v435_2) ∧ (¬ v435_2.toInt = 199 → ((v435_2.toInt = 200 → (d_codeFour U435 (v435_1 + (1 : Int32)) ∧ (∃ Q87 EQ87, w_target U435 v435_1 (f_codeFour U435 (v435_1 + (1 : Int32))) Q87 EQ87 ∧ (∀ r88 S89, Q87 r88 S89 → (∃ Q91, w_row S89 (167 : Int32) r88 (0 : Int32) Q91 ∧ ∀ S92, Q91 S92 → Q S92)) ∧ (∀ u9, EQ87 u9 → E u9)))) ∧ (¬ v435_2.toInt = 200 → ((v435_2.toInt = 170 → w_instruction_J514 Q E U435 v435_1 v435_2) ∧ (¬ v435_2.toInt = 170 → ((v435_2.toInt = 171 → w_instruction_J514 Q E U435 v435_1 v435_2) ∧ (¬ v435_2.toInt = 171 → ((v435_2.toInt = 178 → w_instruction_J537 Q E U435 v435_1 v435_2) ∧ (¬ v435_2.toInt = 178 → ((v435_2.toInt = 179 → w_instruction_J537 Q E U435 v435_1 v435_2) ∧ (¬ v435_2.toInt = 179 → ((v435_2.toInt = 184 → (∃ Q76 EQ76, w_member U435 v435_1 (10 : Int32) Q76 EQ76 ∧ (∀ r77 S78, Q76 r77 S78 → (∃ Q80, w_row S78 v435_2 r77 (0 : Int32) Q80 ∧ ∀ S81, Q80 S81 → Q S81)) ∧ (∀ u9, EQ76 u9 → E u9))) ∧ (¬ v435_2.toInt = 184 → (∃ Q73, w_row U435 v435_2 (0 : Int32) (0 : Int32) Q73 ∧ ∀ S74, Q73 S74 → Q S74)))))))))))))))))
def w_instruction_J312 (Q : MS → Prop) (E : MS → Prop) (U312 : MS) (v312_1 : Int32) (v312_2 : Int32) : Prop := ((v312_2.toInt = 21 → w_instruction_J348 Q E U312 v312_1 v312_2) ∧ (¬ v312_2.toInt = 21 → ((v312_2.toInt = 22 → w_instruction_J348 Q E U312 v312_1 v312_2) ∧ (¬ v312_2.toInt = 22 → ((v312_2.toInt = 25 → w_instruction_J348 Q E U312 v312_1 v312_2) ∧ (¬ v312_2.toInt = 25 → ((v312_2.toInt = 54 → w_instruction_J348 Q E U312 v312_1 v312_2) ∧ (¬ v312_2.toInt = 54 → ((v312_2.toInt = 55 → w_instruction_J348 Q E U312 v312_1 v312_2) ∧ (¬ v312_2.toInt = 55 → ((v312_2.toInt = 58 → w_instruction_J348 Q E U312 v312_1 v312_2) ∧ (¬ v312_2.toInt = 58 → ((v312_2.toInt = 132 → (d_codeOctet U312 (v312_1 + (1 : Int32)) ∧ ((qR U312 0 11 = some (qO U312 0 11)) ∧ (((0 : Int) ≤ (((qI U312 0 36) + v312_1) + (2 : Int32)).toInt ∧ (((qI U312 0 36) + v312_1) + (2 : Int32)).toInt < (qN U312 (qO U312 0 11) : Int)) ∧ (∃ Q113 EQ113, w_grown U312 v312_1 (f_codeOctet U312 (v312_1 + (1 : Int32))) (qI U312 (qO U312 0 11) (((((qI U312 0 36) + v312_1) + (2 : Int32)).toInt).toNat)) Q113 EQ113 ∧ (∀ S114, Q113 S114 → Q S114) ∧ (∀ u9, EQ113 u9 → E u9)))))) ∧ (¬ v312_2.toInt = 132 → ((v312_2.toInt = 196 → (d_codeOctet U312 (v312_1 + (1 : Int32)) ∧ (∃ Q100 EQ100, w_wide U312 v312_1 (f_codeOctet U312 (v312_1 + (1 : Int32))) Q100 EQ100 ∧ (∀ S101, Q100 S101 → Q S101) ∧ (∀ u9, EQ100 u9 → E u9)))) ∧ (¬ v312_2.toInt = 196 → ((v312_2.toInt < 153 → w_instruction_J435 Q E U312 v312_1 v312_2) ∧ (¬ v312_2.toInt < 153 → ((v312_2.toInt ≤ 167 → w_instruction_J449 Q E U312 v312_1 v312_2) ∧ (¬ v312_2.toInt ≤ 167 → w_instruction_J435 Q E U312 v312_1 v312_2))))))))))))))))))))
def w_instruction_J286 (Q : MS → Prop) (E : MS → Prop) (U286 : MS) (v286_1 : Int32) (v286_2 : Int32) : Prop := ((v286_2.toInt < 75 → w_instruction_J312 Q E U286 v286_1 v286_2) ∧ (¬ v286_2.toInt < 75 → ((78 < v286_2.toInt → w_instruction_J312 Q E U286 v286_1 v286_2) ∧ (¬ 78 < v286_2.toInt → (∃ Q119 EQ119, w_localRow U286 v286_1 (58 : Int32) (v286_2 - (75 : Int32)) Q119 EQ119 ∧ (∀ S120, Q119 S120 → Q S120) ∧ (∀ u9, EQ119 u9 → E u9))))))
def w_instruction_J274 (Q : MS → Prop) (E : MS → Prop) (U274 : MS) (t274_0 : Int32) (t274_1 : Int32) (v274_2 : Int32) : Prop := (∃ Q126 EQ126, w_localRow U274 t274_1 t274_0 ((v274_2 - (59 : Int32)) - (v274_2 - (59 : Int32)) / (4 : Int32) * (4 : Int32)) Q126 EQ126 ∧ (∀ S127, Q126 S127 → Q S127) ∧ (∀ u9, EQ126 u9 → E u9))
def w_instruction_J247 (Q : MS → Prop) (E : MS → Prop) (U247 : MS) (v247_1 : Int32) (v247_2 : Int32) : Prop := ((v247_2.toInt < 59 → w_instruction_J286 Q E U247 v247_1 v247_2) ∧ (¬ v247_2.toInt < 59 → ((66 < v247_2.toInt → w_instruction_J286 Q E U247 v247_1 v247_2) ∧ (¬ 66 < v247_2.toInt → ((63 ≤ v247_2.toInt → w_instruction_J274 Q E U247 55 v247_1 v247_2) ∧ (¬ 63 ≤ v247_2.toInt → w_instruction_J274 Q E U247 54 v247_1 v247_2))))))
def w_instruction_J221 (Q : MS → Prop) (E : MS → Prop) (U221 : MS) (v221_1 : Int32) (v221_2 : Int32) : Prop := ((v221_2.toInt < 42 → w_instruction_J247 Q E U221 v221_1 v221_2) ∧ (¬ v221_2.toInt < 42 → ((45 < v221_2.toInt → w_instruction_J247 Q E U221 v221_1 v221_2) ∧ (¬ 45 < v221_2.toInt → (∃ Q133 EQ133, w_localRow U221 v221_1 (25 : Int32) (v221_2 - (42 : Int32)) Q133 EQ133 ∧ (∀ S134, Q133 S134 → Q S134) ∧ (∀ u9, EQ133 u9 → E u9))))))
def w_instruction_J209 (Q : MS → Prop) (E : MS → Prop) (U209 : MS) (t209_0 : Int32) (t209_1 : Int32) (v209_2 : Int32) : Prop := (∃ Q140 EQ140, w_localRow U209 t209_1 t209_0 ((v209_2 - (26 : Int32)) - (v209_2 - (26 : Int32)) / (4 : Int32) * (4 : Int32)) Q140 EQ140 ∧ (∀ S141, Q140 S141 → Q S141) ∧ (∀ u9, EQ140 u9 → E u9))
def w_instruction_J30 (Q : MS → Prop) (E : MS → Prop) (U30 : MS) (v30_1 : Int32) (v30_2 : Int32) : Prop := ((v30_2.toInt = 9 → w_instruction_J42 Q E U30 v30_2) ∧ (¬ v30_2.toInt = 9 → ((v30_2.toInt = 10 → w_instruction_J42 Q E U30 v30_2) ∧ (¬ v30_2.toInt = 10 → ((v30_2.toInt = 16 → ((qR U30 0 11 = some (qO U30 0 11)) ∧ (((0 : Int) ≤ (((qI U30 0 36) + v30_1) + (1 : Int32)).toInt ∧ (((qI U30 0 36) + v30_1) + (1 : Int32)).toInt < (qN U30 (qO U30 0 11) : Int)) ∧ (∃ Q165, w_row U30 (18 : Int32) (qI U30 (qO U30 0 11) (((((qI U30 0 36) + v30_1) + (1 : Int32)).toInt).toNat)) (0 : Int32) Q165 ∧ ∀ S166, Q165 S166 → Q S166)))) ∧ (¬ v30_2.toInt = 16 → ((v30_2.toInt = 17 → (d_codeTwo U30 (v30_1 + (1 : Int32)) ∧ (∃ Q156, w_row U30 (18 : Int32) (f_codeTwo U30 (v30_1 + (1 : Int32))) (0 : Int32) Q156 ∧ ∀ S157, Q156 S157 → Q S157))) ∧ (¬ v30_2.toInt = 17 → ((v30_2.toInt = 18 → w_instruction_J120 Q E U30 v30_1 v30_2) ∧ (¬ v30_2.toInt = 18 → ((v30_2.toInt = 19 → w_instruction_J120 Q E U30 v30_1 v30_2) ∧ (¬ v30_2.toInt = 19 → ((v30_2.toInt = 20 → (d_codeTwo U30 (v30_1 + (1 : Int32)) ∧ (∃ Q149 EQ149, w_pushed U30 v30_1 ((f_codeTwo U30 (v30_1 + (1 : Int32))) &&& (65535 : Int32)) (5 : Int32) Q149 EQ149 ∧ (∀ S150, Q149 S150 → Q S150) ∧ (∀ u9, EQ149 u9 → E u9)))) ∧ (¬ v30_2.toInt = 20 → ((v30_2.toInt < 26 → w_instruction_J221 Q E U30 v30_1 v30_2) ∧ (¬ v30_2.toInt < 26 → ((33 < v30_2.toInt → w_instruction_J221 Q E U30 v30_1 v30_2) ∧ (¬ 33 < v30_2.toInt → ((30 ≤ v30_2.toInt → w_instruction_J209 Q E U30 22 v30_1 v30_2) ∧ (¬ 30 ≤ v30_2.toInt → w_instruction_J209 Q E U30 21 v30_1 v30_2))))))))))))))))))))
def w_instruction (S : MS) (x1 : Int32) (Q : MS → Prop) (E : MS → Prop) : Prop := (d_codeOctet S x1 ∧ (∀ a4 : Int32, a4 = (f_codeOctet S x1) → ((a4.toInt < 2 → w_instruction_J30 Q E S x1 a4) ∧ (¬ a4.toInt < 2 → ((8 < a4.toInt → w_instruction_J30 Q E S x1 a4) ∧ (¬ 8 < a4.toInt → (∃ Q171, w_row S (18 : Int32) (a4 - (3 : Int32)) (0 : Int32) Q171 ∧ ∀ S172, Q171 S172 → Q S172)))))))
set_option maxHeartbeats 2000000 in
set_option maxRecDepth 100000 in
theorem r_instruction (l : Launch) (g : Gr) (ad : Nat → Nat) (sz : Nat) (S : MS) (x1 : Int32) (hw : wfM S) (Q : MS → Prop) (E : MS → Prop) (h : w_instruction S x1 Q E) : vx_Met l yX14_instruction (wt2 yX14_instruction cX14_instruction 3 none) ({ frames := 5, cells := 0, slots := 0, locals := 116 }) (va_Pc [.ref (ad 0), .int x1] (st_R g ad sz S)) (va_Qv (fun (u : MS) => Q u ∧ wfM u ∧ shy S u) (fun (u : MS) (t : State) => qE g ad (va_A (Wd g ad S) sz) u t) (va_A (Wd g ad S) sz)) (vx_X (fun (u : MS) => E u ∧ wfM u ∧ shy S u) (fun (n9 : String) (u : MS) (t : State) => n9 = RJxb5711 ∧ qE g ad (va_A (Wd g ad S) sz) u t) (va_A (Wd g ad S) sz)) 0 0 (va_A (Wd g ad S) sz) := by
  refine vx_ofW (cc := cX14_instruction) (maxL := 3) (ret := none) (by decide) rfl ?_
  intro p e s m args below meth c s₁ B hml hnt hv
  obtain ⟨rfl, hsz, hP, hK, hD0, hex, hE⟩ := hv
  have hx := B.exec
  have hb := B.bytes
  have hr := B.returns
  have hlocks := B.notSynchronized
  have hts0 := atoms_spec (ws := wt2 yX14_instruction cX14_instruction 3 none) B.pre
  have hts : ∀ w ∈ tb2, w.before _ s = true := fun w h => hts0 w (List.mem_cons_of_mem _ h)
  have hown : s.vm.findClass RX14 = some m.cls := findClass_of_methodNamed B.named
  subst hsz
  have hD := hD0.self (sz := s.heap.size)
  generalize hAe : va_A (Wd g ad S) s.heap.size = A at hD hE ⊢
  have hA : ∀ q : Nat, s.heap.size ≤ q → A q := fun q h => by rw [← hAe]; exact Or.inr h
  have hR : Rep g ad A s S s.heap [] := ⟨hK, hP, hD, va_S.rf, hw⟩
  clear hK hP hD hD0
  have hl := lv_entry ([.ref (ad 0), .int x1]) (n := 3) (Nat.le_of_ble_eq_true rfl)
  rw [lg_entry_eq]
  generalize (lg_sl ([.ref (ad 0), .int x1]) ++ List.replicate (3 - (lg_sl ([.ref (ad 0), .int x1])).length) Slot.unset).toArray = ls at hl ⊢
  have hl : lv_has ls 3 [(0, .ref (ad 0)), (1, .int x1)] := hl
  have hsh : shy S S := shy.rf
  unfold w_instruction at h
  refine lv_aload_n hx hb dX14_instruction_0 rfl (lv_at hl 0 rfl) ?_
  refine lv_iload_n hx hb dX14_instruction_1 rfl (lv_at hl 1 rfl) ?_
  obtain ⟨hv1, h⟩ := h
  have hFc := rfree hR hA
  refine va_calli (va_runV (As := [.int x1]) (rest := []) ⟨hx, hb, hml, hown, hts⟩ (r_codeOctet l g ad s.heap.size S x1 hR.w  hv1) (cwV 1 hts (gd2_V kx_274 kx_275 kx_276 kx_177 kx_277) rfl rfl rfl (by decide +kernel) ⟨Nat.le_of_ble_eq_true rfl, Nat.le_of_ble_eq_true rfl⟩) ⟨rblind, va_recv hR.K hR.P (ci := 13) (q0 := 0) rfl (hR.at14 hR.w.1), fun U hU hW9 => rmk hU hW9 hR hex hE hFc⟩ rfl rfl hl.1 rfl (lv_room (Nat.le_of_ble_eq_true rfl)) dX14_instruction_2 ⟨Nat.le_of_ble_eq_true rfl, Nat.le_of_ble_eq_true rfl⟩) hR.sS (fun q _ h => hFc q h) hFc (fun r2 u9 t9 H1 locs ht9 hvm9 hw9 hB9 hz9 hk9 hS => ?_)
  have hR : Rep g ad A s S H1 locs := hR.call ht9 hB9 hR.w hS hFc
  obtain rfl : r2 = (f_codeOctet S x1) := hw9
  clear hB9 hz9 hk9 hvm9 ht9 hS
  generalize H1 = H at hR ⊢
  obtain ⟨a4, ea4⟩ : ∃ z, z = (f_codeOctet S x1) := ⟨_, rfl⟩
  rw [← ea4]
  replace h := h a4 ea4
  refine lv_istore_n (lv' := [(2, .int a4), (0, .ref (ad 0)), (1, .int x1)]) hx hb dX14_instruction_5 rfl hl (by decide) rfl (fun ls hl => ?_)
  refine lv_iload_n hx hb dX14_instruction_6 rfl (lv_at hl 0 rfl) ?_
  refine lv_iconst (v := 2) hx hb dX14_instruction_7 (by decide) ?_
  have J_30 : ∀ (U30 : MS) (v30_1 : Int32) (v30_2 : Int32) (H : Heap) (locs : List Loc) (ls : Array Slot), w_instruction_J30 Q E U30 v30_1 v30_2 → shy S U30 → Rep g ad A s U30 H locs → lv_has ls 3 [(0, .ref (ad 0)), (1, .int v30_1), (2, .int v30_2)] → W p l e (headSpec (wt2 yX14_instruction cX14_instruction 3 none) ({ frames := 5, cells := 0, slots := 0, locals := 116 })).room s m ([.ref (ad 0), .int x1] : List Value).toArray below meth c H locs 0 0 (vx_MQ below (va_Qv (fun (u : MS) => Q u ∧ wfM u ∧ shy S u) (fun (u : MS) (t : State) => qE g ad A u t) A) ((vx_X (fun (u : MS) => E u ∧ wfM u ∧ shy S u) (fun (n9 : String) (u : MS) (t : State) => n9 = RJxb5711 ∧ qE g ad A u t) A)) ([.ref (ad 0), .int x1] : List Value).toArray s 0 0 A) (F0 m 30 ls []) := by
    intro U30 v30_1 v30_2 H locs ls h hsh hR hl
    unfold w_instruction_J30 at h
    refine lv_iload_n hx hb dX14_instruction_30 rfl (lv_at hl 2 rfl) ?_
    refine lv_bipush (v := 9) hx hb dX14_instruction_31 (by decide) ?_
    have J_42 : ∀ (U42 : MS) (v42_2 : Int32) (H : Heap) (locs : List Loc) (ls : Array Slot), w_instruction_J42 Q E U42 v42_2 → shy S U42 → Rep g ad A s U42 H locs → lv_has ls 3 [(0, .ref (ad 0)), (2, .int v42_2)] → W p l e (headSpec (wt2 yX14_instruction cX14_instruction 3 none) ({ frames := 5, cells := 0, slots := 0, locals := 116 })).room s m ([.ref (ad 0), .int x1] : List Value).toArray below meth c H locs 0 0 (vx_MQ below (va_Qv (fun (u : MS) => Q u ∧ wfM u ∧ shy S u) (fun (u : MS) (t : State) => qE g ad A u t) A) ((vx_X (fun (u : MS) => E u ∧ wfM u ∧ shy S u) (fun (n9 : String) (u : MS) (t : State) => n9 = RJxb5711 ∧ qE g ad A u t) A)) ([.ref (ad 0), .int x1] : List Value).toArray s 0 0 A) (F0 m 42 ls []) := by
      intro U42 v42_2 H locs ls h hsh hR hl
      unfold w_instruction_J42 at h
      refine lv_aload_n hx hb dX14_instruction_42 rfl (lv_at hl 0 rfl) ?_
      refine lv_bipush (v := 20) hx hb dX14_instruction_43 (by decide) ?_
      refine lv_iconst (v := 0) hx hb dX14_instruction_45 (by decide) ?_
      refine lv_iload_n hx hb dX14_instruction_46 rfl (lv_at hl 1 rfl) ?_
      refine lv_bipush (v := 9) hx hb dX14_instruction_47 (by decide) ?_
      refine lv_isub hx hb dX14_instruction_49 ?_
      refine lv_topi (fun z5 ez5 => ?_)
      obtain rfl : z5 = (v42_2 - (9 : Int32)) := ez5
      obtain ⟨Q6, h0, h⟩ := h
      have hFc := rfree hR hA
      refine va_callv (va_runV (As := [.int 20, .int 0, .int (v42_2 - (9 : Int32))]) (rest := []) ⟨hx, hb, hml, hown, hts⟩ (r_row l g ad H.size U42 (20 : Int32) (0 : Int32) (v42_2 - (9 : Int32)) hR.w  Q6 h0) (cwV 3 hts (gd2_V kx_307 kx_308 kx_309 kx_177 kx_310) rfl rfl rfl (by decide +kernel) ⟨Nat.le_of_ble_eq_true rfl, Nat.le_of_ble_eq_true rfl⟩) ⟨rblind, va_recv hR.K hR.P (ci := 13) (q0 := 0) rfl (hR.at14 hR.w.1), fun U hU hW9 => rmk hU hW9 hR hex hE hFc⟩ rfl rfl hl.1 rfl (lv_room (Nat.le_of_ble_eq_true rfl)) dX14_instruction_50 ⟨Nat.le_of_ble_eq_true rfl, Nat.le_of_ble_eq_true rfl⟩) hR.sS (fun q _ h => hFc q h) hFc (fun  S7 t9 H1 locs ht9 hvm9 hw9 hB9 hz9 hk9 hS => ?_)
      obtain ⟨hq8, hw9, hs9⟩ := hw9
      have hR : Rep g ad A s S7 H1 locs := hR.call ht9 hB9 hw9 hS hFc
      have hsh := hsh.tr hs9
      replace h := h  S7 hq8
      clear hB9 hz9 hk9 hvm9 ht9 hw9 hs9 hS
      generalize H1 = H at hR ⊢
      refine lv_goto (tgt := 583) hx hb dX14_instruction_53 (by decide) ?_
      exact vx_ret (W.vret hx hb hr (fun t9 ht9 hW9 => ⟨⟨S7, rfl, ⟨h, hR.w, hsh⟩, ⟨by rw [ht9]; exact hR.P, hR.D⟩⟩, hR.sS.F ht9⟩) hR.sS.2.2 dX14_instruction_583)
    refine lv_icmp_eq (tgt := 42) hx hb dX14_instruction_33 (by decide) (fun c9 => ?_) (fun c9 => ?_)
    · replace h := h.1 (k_eq rfl (by decide) c9)
      exact J_42 U30 v30_2 _ _ ls h  hsh hR (lv_sub hl [0, 2] rfl)
    · replace h := h.2 (k_ne rfl (by decide) c9)
      refine lv_iload_n hx hb dX14_instruction_36 rfl (lv_at hl 2 rfl) ?_
      refine lv_bipush (v := 10) hx hb dX14_instruction_37 (by decide) ?_
      refine lv_icmp_ne (tgt := 56) hx hb dX14_instruction_39 (by decide) (fun c10 => ?_) (fun c10 => ?_)
      · replace h := h.2 (k_ne rfl (by decide) c10)
        refine lv_iload_n hx hb dX14_instruction_56 rfl (lv_at hl 2 rfl) ?_
        refine lv_bipush (v := 16) hx hb dX14_instruction_57 (by decide) ?_
        refine lv_icmp_ne (tgt := 85) hx hb dX14_instruction_59 (by decide) (fun c11 => ?_) (fun c11 => ?_)
        · replace h := h.2 (k_ne rfl (by decide) c11)
          refine lv_iload_n hx hb dX14_instruction_85 rfl (lv_at hl 2 rfl) ?_
          refine lv_bipush (v := 17) hx hb dX14_instruction_86 (by decide) ?_
          refine lv_icmp_ne (tgt := 108) hx hb dX14_instruction_88 (by decide) (fun c12 => ?_) (fun c12 => ?_)
          · replace h := h.2 (k_ne rfl (by decide) c12)
            refine lv_iload_n hx hb dX14_instruction_108 rfl (lv_at hl 2 rfl) ?_
            refine lv_bipush (v := 18) hx hb dX14_instruction_109 (by decide) ?_
            have J_120 : ∀ (U120 : MS) (v120_1 : Int32) (v120_2 : Int32) (H : Heap) (locs : List Loc) (ls : Array Slot), w_instruction_J120 Q E U120 v120_1 v120_2 → shy S U120 → Rep g ad A s U120 H locs → lv_has ls 3 [(0, .ref (ad 0)), (1, .int v120_1), (2, .int v120_2)] → W p l e (headSpec (wt2 yX14_instruction cX14_instruction 3 none) ({ frames := 5, cells := 0, slots := 0, locals := 116 })).room s m ([.ref (ad 0), .int x1] : List Value).toArray below meth c H locs 0 0 (vx_MQ below (va_Qv (fun (u : MS) => Q u ∧ wfM u ∧ shy S u) (fun (u : MS) (t : State) => qE g ad A u t) A) ((vx_X (fun (u : MS) => E u ∧ wfM u ∧ shy S u) (fun (n9 : String) (u : MS) (t : State) => n9 = RJxb5711 ∧ qE g ad A u t) A)) ([.ref (ad 0), .int x1] : List Value).toArray s 0 0 A) (F0 m 120 ls []) := by
              intro U120 v120_1 v120_2 H locs ls h hsh hR hl
              unfold w_instruction_J120 at h
              refine lv_aload_n hx hb dX14_instruction_120 rfl (lv_at hl 0 rfl) ?_
              refine lv_iload_n hx hb dX14_instruction_121 rfl (lv_at hl 1 rfl) ?_
              refine lv_iload_n hx hb dX14_instruction_122 rfl (lv_at hl 2 rfl) ?_
              refine lv_bipush (v := 18) hx hb dX14_instruction_123 (by decide) ?_
              have J_149 : ∀ (U149 : MS) (t149_0 : Int32) (t149_1 : Int32) (H : Heap) (locs : List Loc) (ls : Array Slot), w_instruction_J149 Q E U149 t149_0 t149_1 → shy S U149 → Rep g ad A s U149 H locs → lv_has ls 3 [] → W p l e (headSpec (wt2 yX14_instruction cX14_instruction 3 none) ({ frames := 5, cells := 0, slots := 0, locals := 116 })).room s m ([.ref (ad 0), .int x1] : List Value).toArray below meth c H locs 0 0 (vx_MQ below (va_Qv (fun (u : MS) => Q u ∧ wfM u ∧ shy S u) (fun (u : MS) (t : State) => qE g ad A u t) A) ((vx_X (fun (u : MS) => E u ∧ wfM u ∧ shy S u) (fun (n9 : String) (u : MS) (t : State) => n9 = RJxb5711 ∧ qE g ad A u t) A)) ([.ref (ad 0), .int x1] : List Value).toArray s 0 0 A) (F0 m 149 ls [.int t149_0, .int t149_1, .ref (ad 0)]) := by
                intro U149 t149_0 t149_1 H locs ls h hsh hR hl
                unfold w_instruction_J149 at h
                refine lv_iconst (v := 3) hx hb dX14_instruction_149 (by decide) ?_
                obtain ⟨Q13, EQ13, h0, h⟩ := h
                have hFc := rfree hR hA
                refine vx_callv (vx_runV (As := [.int t149_1, .int t149_0, .int 3]) (rest := []) ⟨hx, hb, hml, hown, hts⟩ (r_pushed l g ad H.size U149 t149_1 t149_0 (3 : Int32) hR.w  Q13 EQ13 h0) (cwV 3 hts (gd2_V kx_861 kx_862 kx_863 kx_177 kx_864) rfl rfl rfl (by decide +kernel) ⟨Nat.le_of_ble_eq_true rfl, Nat.le_of_ble_eq_true rfl⟩) ⟨rblind, va_recv hR.K hR.P (ci := 13) (q0 := 0) rfl (hR.at14 hR.w.1), fun U hU hW9 => rmk hU hW9 hR hex hE hFc⟩ rfl rfl hl.1 rfl (lv_room (Nat.le_of_ble_eq_true rfl)) dX14_instruction_150 ⟨Nat.le_of_ble_eq_true rfl, Nat.le_of_ble_eq_true rfl⟩) hR.sS (fun q _ h => hFc q h) hFc (fun q _ h => hFc q h) (fun E9 ce9 q9 u9 t9 H1 locs ht9 hvm9 hp9 hB9 hz9 hk9 hS hce9 hcv9 hcl9 => ?_) (fun  S14 t9 H1 locs ht9 hvm9 hw9 hB9 hz9 hk9 hS => ?_)
                · obtain ⟨hp9, hwx, hsx⟩ := hp9
                  obtain ⟨rfl, hBx⟩ := hB9
                  replace h := h.2 u9 hp9
                  have hR : Rep g ad A s u9 H1 locs := hR.call ht9 hBx hwx hS hFc
                  have hsh := hsh.tr hsx
                  exact vx_out (E := RJxb5711) (q := q9) (fun x h9 => (hnt x h9).elim) hlocks hce9 hcv9 hcl9 (fun t9 ht9 ha9 => ⟨u9, ⟨h, hR.w, hsh⟩, ⟨rfl, by rw [ht9]; exact hR.P, hR.D⟩, hR.sS.F ht9⟩) hR.sS.2.2 (Nat.le_of_ble_eq_true rfl) (Nat.le_of_ble_eq_true rfl)
                · obtain ⟨hq15, hw9, hs9⟩ := hw9
                  have hR : Rep g ad A s S14 H1 locs := hR.call ht9 hB9 hw9 hS hFc
                  have hsh := hsh.tr hs9
                  replace h := h.1  S14 hq15
                  clear hB9 hz9 hk9 hvm9 ht9 hw9 hs9 hS
                  generalize H1 = H at hR ⊢
                  refine lv_goto (tgt := 583) hx hb dX14_instruction_153 (by decide) ?_
                  exact vx_ret (W.vret hx hb hr (fun t9 ht9 hW9 => ⟨⟨S14, rfl, ⟨h, hR.w, hsh⟩, ⟨by rw [ht9]; exact hR.P, hR.D⟩⟩, hR.sS.F ht9⟩) hR.sS.2.2 dX14_instruction_583)
              refine lv_icmp_ne (tgt := 138) hx hb dX14_instruction_125 (by decide) (fun c16 => ?_) (fun c16 => ?_)
              · replace h := h.2 (k_ne rfl (by decide) c16)
                refine lv_aload_n hx hb dX14_instruction_138 rfl (lv_at hl 0 rfl) ?_
                refine lv_iload_n hx hb dX14_instruction_139 rfl (lv_at hl 1 rfl) ?_
                refine lv_iconst (v := 1) hx hb dX14_instruction_140 (by decide) ?_
                refine lv_iadd hx hb dX14_instruction_141 ?_
                refine lv_topi (fun z17 ez17 => ?_)
                obtain rfl : z17 = (v120_1 + (1 : Int32)) := ez17
                obtain ⟨hv18, h⟩ := h
                have hFc := rfree hR hA
                refine va_calli (va_runV (As := [.int (v120_1 + (1 : Int32))]) (rest := [.int v120_1, .ref (ad 0)]) ⟨hx, hb, hml, hown, hts⟩ (r_codeTwo l g ad H.size U120 (v120_1 + (1 : Int32)) hR.w  hv18) (cwV 1 hts (gd2_V kx_312 kx_313 kx_314 kx_177 kx_315) rfl rfl rfl (by decide +kernel) ⟨Nat.le_of_ble_eq_true rfl, Nat.le_of_ble_eq_true rfl⟩) ⟨rblind, va_recv hR.K hR.P (ci := 13) (q0 := 0) rfl (hR.at14 hR.w.1), fun U hU hW9 => rmk hU hW9 hR hex hE hFc⟩ rfl rfl hl.1 rfl (lv_room (Nat.le_of_ble_eq_true rfl)) dX14_instruction_142 ⟨Nat.le_of_ble_eq_true rfl, Nat.le_of_ble_eq_true rfl⟩) hR.sS (fun q _ h => hFc q h) hFc (fun r19 u9 t9 H1 locs ht9 hvm9 hw9 hB9 hz9 hk9 hS => ?_)
                have hR : Rep g ad A s U120 H1 locs := hR.call ht9 hB9 hR.w hS hFc
                obtain rfl : r19 = (f_codeTwo U120 (v120_1 + (1 : Int32))) := hw9
                clear hB9 hz9 hk9 hvm9 ht9 hS
                generalize H1 = H at hR ⊢
                refine lv_ldcw hx hb hown (hts _ kx_316) dX14_instruction_145 ?_
                refine lv_iand hx hb dX14_instruction_148 ?_
                refine lv_topi (fun z21 ez21 => ?_)
                obtain rfl : z21 = ((f_codeTwo U120 (v120_1 + (1 : Int32))) &&& (65535 : Int32)) := ez21
                exact J_149 U120 ((f_codeTwo U120 (v120_1 + (1 : Int32))) &&& (65535 : Int32)) v120_1 _ _ ls h  hsh hR (lv_sub hl [] rfl)
              · replace h := h.1 (k_eq rfl (by decide) c16)
                refine lv_aload_n hx hb dX14_instruction_128 rfl (lv_at hl 0 rfl) ?_
                refine lv_iload_n hx hb dX14_instruction_129 rfl (lv_at hl 1 rfl) ?_
                refine lv_iconst (v := 1) hx hb dX14_instruction_130 (by decide) ?_
                refine lv_iadd hx hb dX14_instruction_131 ?_
                refine lv_topi (fun z22 ez22 => ?_)
                obtain rfl : z22 = (v120_1 + (1 : Int32)) := ez22
                obtain ⟨hv23, h⟩ := h
                have hFc := rfree hR hA
                refine va_calli (va_runV (As := [.int (v120_1 + (1 : Int32))]) (rest := [.int v120_1, .ref (ad 0)]) ⟨hx, hb, hml, hown, hts⟩ (r_codeOctet l g ad H.size U120 (v120_1 + (1 : Int32)) hR.w  hv23) (cwV 1 hts (gd2_V kx_274 kx_275 kx_276 kx_177 kx_277) rfl rfl rfl (by decide +kernel) ⟨Nat.le_of_ble_eq_true rfl, Nat.le_of_ble_eq_true rfl⟩) ⟨rblind, va_recv hR.K hR.P (ci := 13) (q0 := 0) rfl (hR.at14 hR.w.1), fun U hU hW9 => rmk hU hW9 hR hex hE hFc⟩ rfl rfl hl.1 rfl (lv_room (Nat.le_of_ble_eq_true rfl)) dX14_instruction_132 ⟨Nat.le_of_ble_eq_true rfl, Nat.le_of_ble_eq_true rfl⟩) hR.sS (fun q _ h => hFc q h) hFc (fun r24 u9 t9 H1 locs ht9 hvm9 hw9 hB9 hz9 hk9 hS => ?_)
                have hR : Rep g ad A s U120 H1 locs := hR.call ht9 hB9 hR.w hS hFc
                obtain rfl : r24 = (f_codeOctet U120 (v120_1 + (1 : Int32))) := hw9
                clear hB9 hz9 hk9 hvm9 ht9 hS
                generalize H1 = H at hR ⊢
                refine lv_goto (tgt := 149) hx hb dX14_instruction_135 (by decide) ?_
                exact J_149 U120 (f_codeOctet U120 (v120_1 + (1 : Int32))) v120_1 _ _ ls h  hsh hR (lv_sub hl [] rfl)
            refine lv_icmp_eq (tgt := 120) hx hb dX14_instruction_111 (by decide) (fun c26 => ?_) (fun c26 => ?_)
            · replace h := h.1 (k_eq rfl (by decide) c26)
              exact J_120 U30 v30_1 v30_2 _ _ ls h  hsh hR (lv_sub hl [0, 1, 2] rfl)
            · replace h := h.2 (k_ne rfl (by decide) c26)
              refine lv_iload_n hx hb dX14_instruction_114 rfl (lv_at hl 2 rfl) ?_
              refine lv_bipush (v := 19) hx hb dX14_instruction_115 (by decide) ?_
              refine lv_icmp_ne (tgt := 156) hx hb dX14_instruction_117 (by decide) (fun c27 => ?_) (fun c27 => ?_)
              · replace h := h.2 (k_ne rfl (by decide) c27)
                refine lv_iload_n hx hb dX14_instruction_156 rfl (lv_at hl 2 rfl) ?_
                refine lv_bipush (v := 20) hx hb dX14_instruction_157 (by decide) ?_
                refine lv_icmp_ne (tgt := 182) hx hb dX14_instruction_159 (by decide) (fun c28 => ?_) (fun c28 => ?_)
                · replace h := h.2 (k_ne rfl (by decide) c28)
                  refine lv_iload_n hx hb dX14_instruction_182 rfl (lv_at hl 2 rfl) ?_
                  refine lv_bipush (v := 26) hx hb dX14_instruction_183 (by decide) ?_
                  have J_221 : ∀ (U221 : MS) (v221_1 : Int32) (v221_2 : Int32) (H : Heap) (locs : List Loc) (ls : Array Slot), w_instruction_J221 Q E U221 v221_1 v221_2 → shy S U221 → Rep g ad A s U221 H locs → lv_has ls 3 [(0, .ref (ad 0)), (1, .int v221_1), (2, .int v221_2)] → W p l e (headSpec (wt2 yX14_instruction cX14_instruction 3 none) ({ frames := 5, cells := 0, slots := 0, locals := 116 })).room s m ([.ref (ad 0), .int x1] : List Value).toArray below meth c H locs 0 0 (vx_MQ below (va_Qv (fun (u : MS) => Q u ∧ wfM u ∧ shy S u) (fun (u : MS) (t : State) => qE g ad A u t) A) ((vx_X (fun (u : MS) => E u ∧ wfM u ∧ shy S u) (fun (n9 : String) (u : MS) (t : State) => n9 = RJxb5711 ∧ qE g ad A u t) A)) ([.ref (ad 0), .int x1] : List Value).toArray s 0 0 A) (F0 m 221 ls []) := by
                    intro U221 v221_1 v221_2 H locs ls h hsh hR hl
                    unfold w_instruction_J221 at h
                    refine lv_iload_n hx hb dX14_instruction_221 rfl (lv_at hl 2 rfl) ?_
                    refine lv_bipush (v := 42) hx hb dX14_instruction_222 (by decide) ?_
                    have J_247 : ∀ (U247 : MS) (v247_1 : Int32) (v247_2 : Int32) (H : Heap) (locs : List Loc) (ls : Array Slot), w_instruction_J247 Q E U247 v247_1 v247_2 → shy S U247 → Rep g ad A s U247 H locs → lv_has ls 3 [(0, .ref (ad 0)), (1, .int v247_1), (2, .int v247_2)] → W p l e (headSpec (wt2 yX14_instruction cX14_instruction 3 none) ({ frames := 5, cells := 0, slots := 0, locals := 116 })).room s m ([.ref (ad 0), .int x1] : List Value).toArray below meth c H locs 0 0 (vx_MQ below (va_Qv (fun (u : MS) => Q u ∧ wfM u ∧ shy S u) (fun (u : MS) (t : State) => qE g ad A u t) A) ((vx_X (fun (u : MS) => E u ∧ wfM u ∧ shy S u) (fun (n9 : String) (u : MS) (t : State) => n9 = RJxb5711 ∧ qE g ad A u t) A)) ([.ref (ad 0), .int x1] : List Value).toArray s 0 0 A) (F0 m 247 ls []) := by
                      intro U247 v247_1 v247_2 H locs ls h hsh hR hl
                      unfold w_instruction_J247 at h
                      refine lv_iload_n hx hb dX14_instruction_247 rfl (lv_at hl 2 rfl) ?_
                      refine lv_bipush (v := 59) hx hb dX14_instruction_248 (by decide) ?_
                      have J_286 : ∀ (U286 : MS) (v286_1 : Int32) (v286_2 : Int32) (H : Heap) (locs : List Loc) (ls : Array Slot), w_instruction_J286 Q E U286 v286_1 v286_2 → shy S U286 → Rep g ad A s U286 H locs → lv_has ls 3 [(0, .ref (ad 0)), (1, .int v286_1), (2, .int v286_2)] → W p l e (headSpec (wt2 yX14_instruction cX14_instruction 3 none) ({ frames := 5, cells := 0, slots := 0, locals := 116 })).room s m ([.ref (ad 0), .int x1] : List Value).toArray below meth c H locs 0 0 (vx_MQ below (va_Qv (fun (u : MS) => Q u ∧ wfM u ∧ shy S u) (fun (u : MS) (t : State) => qE g ad A u t) A) ((vx_X (fun (u : MS) => E u ∧ wfM u ∧ shy S u) (fun (n9 : String) (u : MS) (t : State) => n9 = RJxb5711 ∧ qE g ad A u t) A)) ([.ref (ad 0), .int x1] : List Value).toArray s 0 0 A) (F0 m 286 ls []) := by
                        intro U286 v286_1 v286_2 H locs ls h hsh hR hl
                        unfold w_instruction_J286 at h
                        refine lv_iload_n hx hb dX14_instruction_286 rfl (lv_at hl 2 rfl) ?_
                        refine lv_bipush (v := 75) hx hb dX14_instruction_287 (by decide) ?_
                        have J_312 : ∀ (U312 : MS) (v312_1 : Int32) (v312_2 : Int32) (H : Heap) (locs : List Loc) (ls : Array Slot), w_instruction_J312 Q E U312 v312_1 v312_2 → shy S U312 → Rep g ad A s U312 H locs → lv_has ls 3 [(0, .ref (ad 0)), (1, .int v312_1), (2, .int v312_2)] → W p l e (headSpec (wt2 yX14_instruction cX14_instruction 3 none) ({ frames := 5, cells := 0, slots := 0, locals := 116 })).room s m ([.ref (ad 0), .int x1] : List Value).toArray below meth c H locs 0 0 (vx_MQ below (va_Qv (fun (u : MS) => Q u ∧ wfM u ∧ shy S u) (fun (u : MS) (t : State) => qE g ad A u t) A) ((vx_X (fun (u : MS) => E u ∧ wfM u ∧ shy S u) (fun (n9 : String) (u : MS) (t : State) => n9 = RJxb5711 ∧ qE g ad A u t) A)) ([.ref (ad 0), .int x1] : List Value).toArray s 0 0 A) (F0 m 312 ls []) := by
                          intro U312 v312_1 v312_2 H locs ls h hsh hR hl
                          unfold w_instruction_J312 at h
                          refine lv_iload_n hx hb dX14_instruction_312 rfl (lv_at hl 2 rfl) ?_
                          refine lv_bipush (v := 21) hx hb dX14_instruction_313 (by decide) ?_
                          have J_348 : ∀ (U348 : MS) (v348_1 : Int32) (v348_2 : Int32) (H : Heap) (locs : List Loc) (ls : Array Slot), w_instruction_J348 Q E U348 v348_1 v348_2 → shy S U348 → Rep g ad A s U348 H locs → lv_has ls 3 [(0, .ref (ad 0)), (1, .int v348_1), (2, .int v348_2)] → W p l e (headSpec (wt2 yX14_instruction cX14_instruction 3 none) ({ frames := 5, cells := 0, slots := 0, locals := 116 })).room s m ([.ref (ad 0), .int x1] : List Value).toArray below meth c H locs 0 0 (vx_MQ below (va_Qv (fun (u : MS) => Q u ∧ wfM u ∧ shy S u) (fun (u : MS) (t : State) => qE g ad A u t) A) ((vx_X (fun (u : MS) => E u ∧ wfM u ∧ shy S u) (fun (n9 : String) (u : MS) (t : State) => n9 = RJxb5711 ∧ qE g ad A u t) A)) ([.ref (ad 0), .int x1] : List Value).toArray s 0 0 A) (F0 m 348 ls []) := by
                            intro U348 v348_1 v348_2 H locs ls h hsh hR hl
                            unfold w_instruction_J348 at h
                            refine lv_aload_n hx hb dX14_instruction_348 rfl (lv_at hl 0 rfl) ?_
                            refine lv_iload_n hx hb dX14_instruction_349 rfl (lv_at hl 1 rfl) ?_
                            refine lv_iload_n hx hb dX14_instruction_350 rfl (lv_at hl 2 rfl) ?_
                            refine lv_aload_n hx hb dX14_instruction_351 rfl (lv_at hl 0 rfl) ?_
                            refine lv_iload_n hx hb dX14_instruction_352 rfl (lv_at hl 1 rfl) ?_
                            refine lv_iconst (v := 1) hx hb dX14_instruction_353 (by decide) ?_
                            refine lv_iadd hx hb dX14_instruction_354 ?_
                            refine lv_topi (fun z29 ez29 => ?_)
                            obtain rfl : z29 = (v348_1 + (1 : Int32)) := ez29
                            obtain ⟨hv30, h⟩ := h
                            have hFc := rfree hR hA
                            refine va_calli (va_runV (As := [.int (v348_1 + (1 : Int32))]) (rest := [.int v348_2, .int v348_1, .ref (ad 0)]) ⟨hx, hb, hml, hown, hts⟩ (r_codeOctet l g ad H.size U348 (v348_1 + (1 : Int32)) hR.w  hv30) (cwV 1 hts (gd2_V kx_274 kx_275 kx_276 kx_177 kx_277) rfl rfl rfl (by decide +kernel) ⟨Nat.le_of_ble_eq_true rfl, Nat.le_of_ble_eq_true rfl⟩) ⟨rblind, va_recv hR.K hR.P (ci := 13) (q0 := 0) rfl (hR.at14 hR.w.1), fun U hU hW9 => rmk hU hW9 hR hex hE hFc⟩ rfl rfl hl.1 rfl (lv_room (Nat.le_of_ble_eq_true rfl)) dX14_instruction_355 ⟨Nat.le_of_ble_eq_true rfl, Nat.le_of_ble_eq_true rfl⟩) hR.sS (fun q _ h => hFc q h) hFc (fun r31 u9 t9 H1 locs ht9 hvm9 hw9 hB9 hz9 hk9 hS => ?_)
                            have hR : Rep g ad A s U348 H1 locs := hR.call ht9 hB9 hR.w hS hFc
                            obtain rfl : r31 = (f_codeOctet U348 (v348_1 + (1 : Int32))) := hw9
                            clear hB9 hz9 hk9 hvm9 ht9 hS
                            generalize H1 = H at hR ⊢
                            obtain ⟨Q33, EQ33, h0, h⟩ := h
                            have hFc := rfree hR hA
                            refine vx_callv (vx_runV (As := [.int v348_1, .int v348_2, .int (f_codeOctet U348 (v348_1 + (1 : Int32)))]) (rest := []) ⟨hx, hb, hml, hown, hts⟩ (r_localRow l g ad H.size U348 v348_1 v348_2 (f_codeOctet U348 (v348_1 + (1 : Int32))) hR.w  Q33 EQ33 h0) (cwV 3 hts (gd2_V kx_317 kx_318 kx_319 kx_177 kx_320) rfl rfl rfl (by decide +kernel) ⟨Nat.le_of_ble_eq_true rfl, Nat.le_of_ble_eq_true rfl⟩) ⟨rblind, va_recv hR.K hR.P (ci := 13) (q0 := 0) rfl (hR.at14 hR.w.1), fun U hU hW9 => rmk hU hW9 hR hex hE hFc⟩ rfl rfl hl.1 rfl (lv_room (Nat.le_of_ble_eq_true rfl)) dX14_instruction_358 ⟨Nat.le_of_ble_eq_true rfl, Nat.le_of_ble_eq_true rfl⟩) hR.sS (fun q _ h => hFc q h) hFc (fun q _ h => hFc q h) (fun E9 ce9 q9 u9 t9 H1 locs ht9 hvm9 hp9 hB9 hz9 hk9 hS hce9 hcv9 hcl9 => ?_) (fun  S34 t9 H1 locs ht9 hvm9 hw9 hB9 hz9 hk9 hS => ?_)
                            · obtain ⟨hp9, hwx, hsx⟩ := hp9
                              obtain ⟨rfl, hBx⟩ := hB9
                              replace h := h.2 u9 hp9
                              have hR : Rep g ad A s u9 H1 locs := hR.call ht9 hBx hwx hS hFc
                              have hsh := hsh.tr hsx
                              exact vx_out (E := RJxb5711) (q := q9) (fun x h9 => (hnt x h9).elim) hlocks hce9 hcv9 hcl9 (fun t9 ht9 ha9 => ⟨u9, ⟨h, hR.w, hsh⟩, ⟨rfl, by rw [ht9]; exact hR.P, hR.D⟩, hR.sS.F ht9⟩) hR.sS.2.2 (Nat.le_of_ble_eq_true rfl) (Nat.le_of_ble_eq_true rfl)
                            · obtain ⟨hq35, hw9, hs9⟩ := hw9
                              have hR : Rep g ad A s S34 H1 locs := hR.call ht9 hB9 hw9 hS hFc
                              have hsh := hsh.tr hs9
                              replace h := h.1  S34 hq35
                              clear hB9 hz9 hk9 hvm9 ht9 hw9 hs9 hS
                              generalize H1 = H at hR ⊢
                              refine lv_goto (tgt := 583) hx hb dX14_instruction_361 (by decide) ?_
                              exact vx_ret (W.vret hx hb hr (fun t9 ht9 hW9 => ⟨⟨S34, rfl, ⟨h, hR.w, hsh⟩, ⟨by rw [ht9]; exact hR.P, hR.D⟩⟩, hR.sS.F ht9⟩) hR.sS.2.2 dX14_instruction_583)
                          refine lv_icmp_eq (tgt := 348) hx hb dX14_instruction_315 (by decide) (fun c36 => ?_) (fun c36 => ?_)
                          · replace h := h.1 (k_eq rfl (by decide) c36)
                            exact J_348 U312 v312_1 v312_2 _ _ ls h  hsh hR (lv_sub hl [0, 1, 2] rfl)
                          · replace h := h.2 (k_ne rfl (by decide) c36)
                            refine lv_iload_n hx hb dX14_instruction_318 rfl (lv_at hl 2 rfl) ?_
                            refine lv_bipush (v := 22) hx hb dX14_instruction_319 (by decide) ?_
                            refine lv_icmp_eq (tgt := 348) hx hb dX14_instruction_321 (by decide) (fun c37 => ?_) (fun c37 => ?_)
                            · replace h := h.1 (k_eq rfl (by decide) c37)
                              exact J_348 U312 v312_1 v312_2 _ _ ls h  hsh hR (lv_sub hl [0, 1, 2] rfl)
                            · replace h := h.2 (k_ne rfl (by decide) c37)
                              refine lv_iload_n hx hb dX14_instruction_324 rfl (lv_at hl 2 rfl) ?_
                              refine lv_bipush (v := 25) hx hb dX14_instruction_325 (by decide) ?_
                              refine lv_icmp_eq (tgt := 348) hx hb dX14_instruction_327 (by decide) (fun c38 => ?_) (fun c38 => ?_)
                              · replace h := h.1 (k_eq rfl (by decide) c38)
                                exact J_348 U312 v312_1 v312_2 _ _ ls h  hsh hR (lv_sub hl [0, 1, 2] rfl)
                              · replace h := h.2 (k_ne rfl (by decide) c38)
                                refine lv_iload_n hx hb dX14_instruction_330 rfl (lv_at hl 2 rfl) ?_
                                refine lv_bipush (v := 54) hx hb dX14_instruction_331 (by decide) ?_
                                refine lv_icmp_eq (tgt := 348) hx hb dX14_instruction_333 (by decide) (fun c39 => ?_) (fun c39 => ?_)
                                · replace h := h.1 (k_eq rfl (by decide) c39)
                                  exact J_348 U312 v312_1 v312_2 _ _ ls h  hsh hR (lv_sub hl [0, 1, 2] rfl)
                                · replace h := h.2 (k_ne rfl (by decide) c39)
                                  refine lv_iload_n hx hb dX14_instruction_336 rfl (lv_at hl 2 rfl) ?_
                                  refine lv_bipush (v := 55) hx hb dX14_instruction_337 (by decide) ?_
                                  refine lv_icmp_eq (tgt := 348) hx hb dX14_instruction_339 (by decide) (fun c40 => ?_) (fun c40 => ?_)
                                  · replace h := h.1 (k_eq rfl (by decide) c40)
                                    exact J_348 U312 v312_1 v312_2 _ _ ls h  hsh hR (lv_sub hl [0, 1, 2] rfl)
                                  · replace h := h.2 (k_ne rfl (by decide) c40)
                                    refine lv_iload_n hx hb dX14_instruction_342 rfl (lv_at hl 2 rfl) ?_
                                    refine lv_bipush (v := 58) hx hb dX14_instruction_343 (by decide) ?_
                                    refine lv_icmp_ne (tgt := 364) hx hb dX14_instruction_345 (by decide) (fun c41 => ?_) (fun c41 => ?_)
                                    · replace h := h.2 (k_ne rfl (by decide) c41)
                                      refine lv_iload_n hx hb dX14_instruction_364 rfl (lv_at hl 2 rfl) ?_
                                      refine lv_sipush (v := 132) hx hb dX14_instruction_365 (by decide) ?_
                                      refine lv_icmp_ne (tgt := 399) hx hb dX14_instruction_368 (by decide) (fun c42 => ?_) (fun c42 => ?_)
                                      · replace h := h.2 (k_ne rfl (by decide) c42)
                                        refine lv_iload_n hx hb dX14_instruction_399 rfl (lv_at hl 2 rfl) ?_
                                        refine lv_sipush (v := 196) hx hb dX14_instruction_400 (by decide) ?_
                                        refine lv_icmp_ne (tgt := 421) hx hb dX14_instruction_403 (by decide) (fun c43 => ?_) (fun c43 => ?_)
                                        · replace h := h.2 (k_ne rfl (by decide) c43)
                                          refine lv_iload_n hx hb dX14_instruction_421 rfl (lv_at hl 2 rfl) ?_
                                          refine lv_sipush (v := 153) hx hb dX14_instruction_422 (by decide) ?_
                                          have J_449 : ∀ (U449 : MS) (v449_1 : Int32) (v449_2 : Int32) (H : Heap) (locs : List Loc) (ls : Array Slot), w_instruction_J449 Q E U449 v449_1 v449_2 → shy S U449 → Rep g ad A s U449 H locs → lv_has ls 3 [(0, .ref (ad 0)), (1, .int v449_1), (2, .int v449_2)] → W p l e (headSpec (wt2 yX14_instruction cX14_instruction 3 none) ({ frames := 5, cells := 0, slots := 0, locals := 116 })).room s m ([.ref (ad 0), .int x1] : List Value).toArray below meth c H locs 0 0 (vx_MQ below (va_Qv (fun (u : MS) => Q u ∧ wfM u ∧ shy S u) (fun (u : MS) (t : State) => qE g ad A u t) A) ((vx_X (fun (u : MS) => E u ∧ wfM u ∧ shy S u) (fun (n9 : String) (u : MS) (t : State) => n9 = RJxb5711 ∧ qE g ad A u t) A)) ([.ref (ad 0), .int x1] : List Value).toArray s 0 0 A) (F0 m 449 ls []) := by
                                            intro U449 v449_1 v449_2 H locs ls h hsh hR hl
                                            unfold w_instruction_J449 at h
                                            refine lv_aload_n hx hb dX14_instruction_449 rfl (lv_at hl 0 rfl) ?_
                                            refine lv_iload_n hx hb dX14_instruction_450 rfl (lv_at hl 2 rfl) ?_
                                            refine lv_aload_n hx hb dX14_instruction_451 rfl (lv_at hl 0 rfl) ?_
                                            refine lv_iload_n hx hb dX14_instruction_452 rfl (lv_at hl 1 rfl) ?_
                                            refine lv_aload_n hx hb dX14_instruction_453 rfl (lv_at hl 0 rfl) ?_
                                            refine lv_iload_n hx hb dX14_instruction_454 rfl (lv_at hl 1 rfl) ?_
                                            refine lv_iconst (v := 1) hx hb dX14_instruction_455 (by decide) ?_
                                            refine lv_iadd hx hb dX14_instruction_456 ?_
                                            refine lv_topi (fun z44 ez44 => ?_)
                                            obtain rfl : z44 = (v449_1 + (1 : Int32)) := ez44
                                            obtain ⟨hv45, h⟩ := h
                                            have hFc := rfree hR hA
                                            refine va_calli (va_runV (As := [.int (v449_1 + (1 : Int32))]) (rest := [.int v449_1, .ref (ad 0), .int v449_2, .ref (ad 0)]) ⟨hx, hb, hml, hown, hts⟩ (r_codeTwo l g ad H.size U449 (v449_1 + (1 : Int32)) hR.w  hv45) (cwV 1 hts (gd2_V kx_312 kx_313 kx_314 kx_177 kx_315) rfl rfl rfl (by decide +kernel) ⟨Nat.le_of_ble_eq_true rfl, Nat.le_of_ble_eq_true rfl⟩) ⟨rblind, va_recv hR.K hR.P (ci := 13) (q0 := 0) rfl (hR.at14 hR.w.1), fun U hU hW9 => rmk hU hW9 hR hex hE hFc⟩ rfl rfl hl.1 rfl (lv_room (Nat.le_of_ble_eq_true rfl)) dX14_instruction_457 ⟨Nat.le_of_ble_eq_true rfl, Nat.le_of_ble_eq_true rfl⟩) hR.sS (fun q _ h => hFc q h) hFc (fun r46 u9 t9 H1 locs ht9 hvm9 hw9 hB9 hz9 hk9 hS => ?_)
                                            have hR : Rep g ad A s U449 H1 locs := hR.call ht9 hB9 hR.w hS hFc
                                            obtain rfl : r46 = (f_codeTwo U449 (v449_1 + (1 : Int32))) := hw9
                                            clear hB9 hz9 hk9 hvm9 ht9 hS
                                            generalize H1 = H at hR ⊢
                                            obtain ⟨Q48, EQ48, h0, h⟩ := h
                                            have hFc := rfree hR hA
                                            refine vx_calli (vx_runV (As := [.int v449_1, .int (f_codeTwo U449 (v449_1 + (1 : Int32)))]) (rest := [.int v449_2, .ref (ad 0)]) ⟨hx, hb, hml, hown, hts⟩ (r_target l g ad H.size U449 v449_1 (f_codeTwo U449 (v449_1 + (1 : Int32))) hR.w  Q48 EQ48 h0) (cwV 2 hts (gd2_V kx_327 kx_328 kx_329 kx_177 kx_330) rfl rfl rfl (by decide +kernel) ⟨Nat.le_of_ble_eq_true rfl, Nat.le_of_ble_eq_true rfl⟩) ⟨rblind, va_recv hR.K hR.P (ci := 13) (q0 := 0) rfl (hR.at14 hR.w.1), fun U hU hW9 => rmk hU hW9 hR hex hE hFc⟩ rfl rfl hl.1 rfl (lv_room (Nat.le_of_ble_eq_true rfl)) dX14_instruction_460 ⟨Nat.le_of_ble_eq_true rfl, Nat.le_of_ble_eq_true rfl⟩) hR.sS (fun q _ h => hFc q h) hFc (fun q _ h => hFc q h) (fun E9 ce9 q9 u9 t9 H1 locs ht9 hvm9 hp9 hB9 hz9 hk9 hS hce9 hcv9 hcl9 => ?_) (fun r49 S50 t9 H1 locs ht9 hvm9 hw9 hB9 hz9 hk9 hS => ?_)
                                            · obtain ⟨hp9, hwx, hsx⟩ := hp9
                                              obtain ⟨rfl, hBx⟩ := hB9
                                              replace h := h.2 u9 hp9
                                              have hR : Rep g ad A s u9 H1 locs := hR.call ht9 hBx hwx hS hFc
                                              have hsh := hsh.tr hsx
                                              exact vx_out (E := RJxb5711) (q := q9) (fun x h9 => (hnt x h9).elim) hlocks hce9 hcv9 hcl9 (fun t9 ht9 ha9 => ⟨u9, ⟨h, hR.w, hsh⟩, ⟨rfl, by rw [ht9]; exact hR.P, hR.D⟩, hR.sS.F ht9⟩) hR.sS.2.2 (Nat.le_of_ble_eq_true rfl) (Nat.le_of_ble_eq_true rfl)
                                            · obtain ⟨hq51, hw9, hs9⟩ := hw9
                                              have hR : Rep g ad A s S50 H1 locs := hR.call ht9 hB9 hw9 hS hFc
                                              have hsh := hsh.tr hs9
                                              replace h := h.1 r49 S50 hq51
                                              clear hB9 hz9 hk9 hvm9 ht9 hw9 hs9 hS
                                              generalize H1 = H at hR ⊢
                                              refine lv_iconst (v := 0) hx hb dX14_instruction_463 (by decide) ?_
                                              obtain ⟨Q52, h0, h⟩ := h
                                              have hFc := rfree hR hA
                                              refine va_callv (va_runV (As := [.int v449_2, .int r49, .int 0]) (rest := []) ⟨hx, hb, hml, hown, hts⟩ (r_row l g ad H.size S50 v449_2 r49 (0 : Int32) hR.w  Q52 h0) (cwV 3 hts (gd2_V kx_307 kx_308 kx_309 kx_177 kx_310) rfl rfl rfl (by decide +kernel) ⟨Nat.le_of_ble_eq_true rfl, Nat.le_of_ble_eq_true rfl⟩) ⟨rblind, va_recv hR.K hR.P (ci := 13) (q0 := 0) rfl (hR.at14 hR.w.1), fun U hU hW9 => rmk hU hW9 hR hex hE hFc⟩ rfl rfl hl.1 rfl (lv_room (Nat.le_of_ble_eq_true rfl)) dX14_instruction_464 ⟨Nat.le_of_ble_eq_true rfl, Nat.le_of_ble_eq_true rfl⟩) hR.sS (fun q _ h => hFc q h) hFc (fun  S53 t9 H1 locs ht9 hvm9 hw9 hB9 hz9 hk9 hS => ?_)
                                              obtain ⟨hq54, hw9, hs9⟩ := hw9
                                              have hR : Rep g ad A s S53 H1 locs := hR.call ht9 hB9 hw9 hS hFc
                                              have hsh := hsh.tr hs9
                                              replace h := h  S53 hq54
                                              clear hB9 hz9 hk9 hvm9 ht9 hw9 hs9 hS
                                              generalize H1 = H at hR ⊢
                                              refine lv_goto (tgt := 583) hx hb dX14_instruction_467 (by decide) ?_
                                              exact vx_ret (W.vret hx hb hr (fun t9 ht9 hW9 => ⟨⟨S53, rfl, ⟨h, hR.w, hsh⟩, ⟨by rw [ht9]; exact hR.P, hR.D⟩⟩, hR.sS.F ht9⟩) hR.sS.2.2 dX14_instruction_583)
                                          have J_435 : ∀ (U435 : MS) (v435_1 : Int32) (v435_2 : Int32) (H : Heap) (locs : List Loc) (ls : Array Slot), w_instruction_J435 Q E U435 v435_1 v435_2 → shy S U435 → Rep g ad A s U435 H locs → lv_has ls 3 [(0, .ref (ad 0)), (1, .int v435_1), (2, .int v435_2)] → W p l e (headSpec (wt2 yX14_instruction cX14_instruction 3 none) ({ frames := 5, cells := 0, slots := 0, locals := 116 })).room s m ([.ref (ad 0), .int x1] : List Value).toArray below meth c H locs 0 0 (vx_MQ below (va_Qv (fun (u : MS) => Q u ∧ wfM u ∧ shy S u) (fun (u : MS) (t : State) => qE g ad A u t) A) ((vx_X (fun (u : MS) => E u ∧ wfM u ∧ shy S u) (fun (n9 : String) (u : MS) (t : State) => n9 = RJxb5711 ∧ qE g ad A u t) A)) ([.ref (ad 0), .int x1] : List Value).toArray s 0 0 A) (F0 m 435 ls []) := by
                                            intro U435 v435_1 v435_2 H locs ls h hsh hR hl
                                            unfold w_instruction_J435 at h
                                            refine lv_iload_n hx hb dX14_instruction_435 rfl (lv_at hl 2 rfl) ?_
                                            refine lv_sipush (v := 198) hx hb dX14_instruction_436 (by decide) ?_
                                            refine lv_icmp_eq (tgt := 449) hx hb dX14_instruction_439 (by decide) (fun c55 => ?_) (fun c55 => ?_)
                                            · replace h := h.1 (k_eq rfl (by decide) c55)
                                              exact J_449 U435 v435_1 v435_2 _ _ ls h  hsh hR (lv_sub hl [0, 1, 2] rfl)
                                            · replace h := h.2 (k_ne rfl (by decide) c55)
                                              refine lv_iload_n hx hb dX14_instruction_442 rfl (lv_at hl 2 rfl) ?_
                                              refine lv_sipush (v := 199) hx hb dX14_instruction_443 (by decide) ?_
                                              refine lv_icmp_ne (tgt := 470) hx hb dX14_instruction_446 (by decide) (fun c56 => ?_) (fun c56 => ?_)
                                              · replace h := h.2 (k_ne rfl (by decide) c56)
                                                refine lv_iload_n hx hb dX14_instruction_470 rfl (lv_at hl 2 rfl) ?_
                                                refine lv_sipush (v := 200) hx hb dX14_instruction_471 (by decide) ?_
                                                refine lv_icmp_ne (tgt := 500) hx hb dX14_instruction_474 (by decide) (fun c57 => ?_) (fun c57 => ?_)
                                                · replace h := h.2 (k_ne rfl (by decide) c57)
                                                  refine lv_iload_n hx hb dX14_instruction_500 rfl (lv_at hl 2 rfl) ?_
                                                  refine lv_sipush (v := 170) hx hb dX14_instruction_501 (by decide) ?_
                                                  have J_514 : ∀ (U514 : MS) (v514_1 : Int32) (v514_2 : Int32) (H : Heap) (locs : List Loc) (ls : Array Slot), w_instruction_J514 Q E U514 v514_1 v514_2 → shy S U514 → Rep g ad A s U514 H locs → lv_has ls 3 [(0, .ref (ad 0)), (1, .int v514_1), (2, .int v514_2)] → W p l e (headSpec (wt2 yX14_instruction cX14_instruction 3 none) ({ frames := 5, cells := 0, slots := 0, locals := 116 })).room s m ([.ref (ad 0), .int x1] : List Value).toArray below meth c H locs 0 0 (vx_MQ below (va_Qv (fun (u : MS) => Q u ∧ wfM u ∧ shy S u) (fun (u : MS) (t : State) => qE g ad A u t) A) ((vx_X (fun (u : MS) => E u ∧ wfM u ∧ shy S u) (fun (n9 : String) (u : MS) (t : State) => n9 = RJxb5711 ∧ qE g ad A u t) A)) ([.ref (ad 0), .int x1] : List Value).toArray s 0 0 A) (F0 m 514 ls []) := by
                                                    intro U514 v514_1 v514_2 H locs ls h hsh hR hl
                                                    unfold w_instruction_J514 at h
                                                    refine lv_aload_n hx hb dX14_instruction_514 rfl (lv_at hl 0 rfl) ?_
                                                    refine lv_iload_n hx hb dX14_instruction_515 rfl (lv_at hl 1 rfl) ?_
                                                    refine lv_iload_n hx hb dX14_instruction_516 rfl (lv_at hl 2 rfl) ?_
                                                    obtain ⟨Q58, EQ58, h0, h⟩ := h
                                                    have hFc := rfree hR hA
                                                    refine vx_callv (vx_runV (As := [.int v514_1, .int v514_2]) (rest := []) ⟨hx, hb, hml, hown, hts⟩ (r_switched l g ad H.size U514 v514_1 v514_2 hR.w  Q58 EQ58 h0) (cwV 2 hts (gd2_V kx_865 kx_866 kx_867 kx_177 kx_868) rfl rfl rfl (by decide +kernel) ⟨Nat.le_of_ble_eq_true rfl, Nat.le_of_ble_eq_true rfl⟩) ⟨rblind, va_recv hR.K hR.P (ci := 13) (q0 := 0) rfl (hR.at14 hR.w.1), fun U hU hW9 => rmk hU hW9 hR hex hE hFc⟩ rfl rfl hl.1 rfl (lv_room (Nat.le_of_ble_eq_true rfl)) dX14_instruction_517 ⟨Nat.le_of_ble_eq_true rfl, Nat.le_of_ble_eq_true rfl⟩) hR.sS (fun q _ h => hFc q h) hFc (fun q _ h => hFc q h) (fun E9 ce9 q9 u9 t9 H1 locs ht9 hvm9 hp9 hB9 hz9 hk9 hS hce9 hcv9 hcl9 => ?_) (fun  S59 t9 H1 locs ht9 hvm9 hw9 hB9 hz9 hk9 hS => ?_)
                                                    · obtain ⟨hp9, hwx, hsx⟩ := hp9
                                                      obtain ⟨rfl, hBx⟩ := hB9
                                                      replace h := h.2 u9 hp9
                                                      have hR : Rep g ad A s u9 H1 locs := hR.call ht9 hBx hwx hS hFc
                                                      have hsh := hsh.tr hsx
                                                      exact vx_out (E := RJxb5711) (q := q9) (fun x h9 => (hnt x h9).elim) hlocks hce9 hcv9 hcl9 (fun t9 ht9 ha9 => ⟨u9, ⟨h, hR.w, hsh⟩, ⟨rfl, by rw [ht9]; exact hR.P, hR.D⟩, hR.sS.F ht9⟩) hR.sS.2.2 (Nat.le_of_ble_eq_true rfl) (Nat.le_of_ble_eq_true rfl)
                                                    · obtain ⟨hq60, hw9, hs9⟩ := hw9
                                                      have hR : Rep g ad A s S59 H1 locs := hR.call ht9 hB9 hw9 hS hFc
                                                      have hsh := hsh.tr hs9
                                                      replace h := h.1  S59 hq60
                                                      clear hB9 hz9 hk9 hvm9 ht9 hw9 hs9 hS
                                                      generalize H1 = H at hR ⊢
                                                      refine lv_goto (tgt := 583) hx hb dX14_instruction_520 (by decide) ?_
                                                      exact vx_ret (W.vret hx hb hr (fun t9 ht9 hW9 => ⟨⟨S59, rfl, ⟨h, hR.w, hsh⟩, ⟨by rw [ht9]; exact hR.P, hR.D⟩⟩, hR.sS.F ht9⟩) hR.sS.2.2 dX14_instruction_583)
                                                  refine lv_icmp_eq (tgt := 514) hx hb dX14_instruction_504 (by decide) (fun c61 => ?_) (fun c61 => ?_)
                                                  · replace h := h.1 (k_eq rfl (by decide) c61)
                                                    exact J_514 U435 v435_1 v435_2 _ _ ls h  hsh hR (lv_sub hl [0, 1, 2] rfl)
                                                  · replace h := h.2 (k_ne rfl (by decide) c61)
                                                    refine lv_iload_n hx hb dX14_instruction_507 rfl (lv_at hl 2 rfl) ?_
                                                    refine lv_sipush (v := 171) hx hb dX14_instruction_508 (by decide) ?_
                                                    refine lv_icmp_ne (tgt := 523) hx hb dX14_instruction_511 (by decide) (fun c62 => ?_) (fun c62 => ?_)
                                                    · replace h := h.2 (k_ne rfl (by decide) c62)
                                                      refine lv_iload_n hx hb dX14_instruction_523 rfl (lv_at hl 2 rfl) ?_
                                                      refine lv_sipush (v := 178) hx hb dX14_instruction_524 (by decide) ?_
                                                      have J_537 : ∀ (U537 : MS) (v537_1 : Int32) (v537_2 : Int32) (H : Heap) (locs : List Loc) (ls : Array Slot), w_instruction_J537 Q E U537 v537_1 v537_2 → shy S U537 → Rep g ad A s U537 H locs → lv_has ls 3 [(0, .ref (ad 0)), (1, .int v537_1), (2, .int v537_2)] → W p l e (headSpec (wt2 yX14_instruction cX14_instruction 3 none) ({ frames := 5, cells := 0, slots := 0, locals := 116 })).room s m ([.ref (ad 0), .int x1] : List Value).toArray below meth c H locs 0 0 (vx_MQ below (va_Qv (fun (u : MS) => Q u ∧ wfM u ∧ shy S u) (fun (u : MS) (t : State) => qE g ad A u t) A) ((vx_X (fun (u : MS) => E u ∧ wfM u ∧ shy S u) (fun (n9 : String) (u : MS) (t : State) => n9 = RJxb5711 ∧ qE g ad A u t) A)) ([.ref (ad 0), .int x1] : List Value).toArray s 0 0 A) (F0 m 537 ls []) := by
                                                        intro U537 v537_1 v537_2 H locs ls h hsh hR hl
                                                        unfold w_instruction_J537 at h
                                                        refine lv_aload_n hx hb dX14_instruction_537 rfl (lv_at hl 0 rfl) ?_
                                                        refine lv_iload_n hx hb dX14_instruction_538 rfl (lv_at hl 2 rfl) ?_
                                                        refine lv_aload_n hx hb dX14_instruction_539 rfl (lv_at hl 0 rfl) ?_
                                                        refine lv_iload_n hx hb dX14_instruction_540 rfl (lv_at hl 1 rfl) ?_
                                                        refine lv_bipush (v := 9) hx hb dX14_instruction_541 (by decide) ?_
                                                        obtain ⟨Q63, EQ63, h0, h⟩ := h
                                                        have hFc := rfree hR hA
                                                        refine vx_calli (vx_runV (As := [.int v537_1, .int 9]) (rest := [.int v537_2, .ref (ad 0)]) ⟨hx, hb, hml, hown, hts⟩ (r_member l g ad H.size U537 v537_1 (9 : Int32) hR.w  Q63 EQ63 h0) (cwV 2 hts (gd2_V kx_869 kx_870 kx_871 kx_177 kx_872) rfl rfl rfl (by decide +kernel) ⟨Nat.le_of_ble_eq_true rfl, Nat.le_of_ble_eq_true rfl⟩) ⟨rblind, va_recv hR.K hR.P (ci := 13) (q0 := 0) rfl (hR.at14 hR.w.1), fun U hU hW9 => rmk hU hW9 hR hex hE hFc⟩ rfl rfl hl.1 rfl (lv_room (Nat.le_of_ble_eq_true rfl)) dX14_instruction_543 ⟨Nat.le_of_ble_eq_true rfl, Nat.le_of_ble_eq_true rfl⟩) hR.sS (fun q _ h => hFc q h) hFc (fun q _ h => hFc q h) (fun E9 ce9 q9 u9 t9 H1 locs ht9 hvm9 hp9 hB9 hz9 hk9 hS hce9 hcv9 hcl9 => ?_) (fun r64 S65 t9 H1 locs ht9 hvm9 hw9 hB9 hz9 hk9 hS => ?_)
                                                        · obtain ⟨hp9, hwx, hsx⟩ := hp9
                                                          obtain ⟨rfl, hBx⟩ := hB9
                                                          replace h := h.2 u9 hp9
                                                          have hR : Rep g ad A s u9 H1 locs := hR.call ht9 hBx hwx hS hFc
                                                          have hsh := hsh.tr hsx
                                                          exact vx_out (E := RJxb5711) (q := q9) (fun x h9 => (hnt x h9).elim) hlocks hce9 hcv9 hcl9 (fun t9 ht9 ha9 => ⟨u9, ⟨h, hR.w, hsh⟩, ⟨rfl, by rw [ht9]; exact hR.P, hR.D⟩, hR.sS.F ht9⟩) hR.sS.2.2 (Nat.le_of_ble_eq_true rfl) (Nat.le_of_ble_eq_true rfl)
                                                        · obtain ⟨hq66, hw9, hs9⟩ := hw9
                                                          have hR : Rep g ad A s S65 H1 locs := hR.call ht9 hB9 hw9 hS hFc
                                                          have hsh := hsh.tr hs9
                                                          replace h := h.1 r64 S65 hq66
                                                          clear hB9 hz9 hk9 hvm9 ht9 hw9 hs9 hS
                                                          generalize H1 = H at hR ⊢
                                                          refine lv_iconst (v := 0) hx hb dX14_instruction_546 (by decide) ?_
                                                          obtain ⟨Q67, h0, h⟩ := h
                                                          have hFc := rfree hR hA
                                                          refine va_callv (va_runV (As := [.int v537_2, .int r64, .int 0]) (rest := []) ⟨hx, hb, hml, hown, hts⟩ (r_row l g ad H.size S65 v537_2 r64 (0 : Int32) hR.w  Q67 h0) (cwV 3 hts (gd2_V kx_307 kx_308 kx_309 kx_177 kx_310) rfl rfl rfl (by decide +kernel) ⟨Nat.le_of_ble_eq_true rfl, Nat.le_of_ble_eq_true rfl⟩) ⟨rblind, va_recv hR.K hR.P (ci := 13) (q0 := 0) rfl (hR.at14 hR.w.1), fun U hU hW9 => rmk hU hW9 hR hex hE hFc⟩ rfl rfl hl.1 rfl (lv_room (Nat.le_of_ble_eq_true rfl)) dX14_instruction_547 ⟨Nat.le_of_ble_eq_true rfl, Nat.le_of_ble_eq_true rfl⟩) hR.sS (fun q _ h => hFc q h) hFc (fun  S68 t9 H1 locs ht9 hvm9 hw9 hB9 hz9 hk9 hS => ?_)
                                                          obtain ⟨hq69, hw9, hs9⟩ := hw9
                                                          have hR : Rep g ad A s S68 H1 locs := hR.call ht9 hB9 hw9 hS hFc
                                                          have hsh := hsh.tr hs9
                                                          replace h := h  S68 hq69
                                                          clear hB9 hz9 hk9 hvm9 ht9 hw9 hs9 hS
                                                          generalize H1 = H at hR ⊢
                                                          refine lv_goto (tgt := 583) hx hb dX14_instruction_550 (by decide) ?_
                                                          exact vx_ret (W.vret hx hb hr (fun t9 ht9 hW9 => ⟨⟨S68, rfl, ⟨h, hR.w, hsh⟩, ⟨by rw [ht9]; exact hR.P, hR.D⟩⟩, hR.sS.F ht9⟩) hR.sS.2.2 dX14_instruction_583)
                                                      refine lv_icmp_eq (tgt := 537) hx hb dX14_instruction_527 (by decide) (fun c70 => ?_) (fun c70 => ?_)
                                                      · replace h := h.1 (k_eq rfl (by decide) c70)
                                                        exact J_537 U435 v435_1 v435_2 _ _ ls h  hsh hR (lv_sub hl [0, 1, 2] rfl)
                                                      · replace h := h.2 (k_ne rfl (by decide) c70)
                                                        refine lv_iload_n hx hb dX14_instruction_530 rfl (lv_at hl 2 rfl) ?_
                                                        refine lv_sipush (v := 179) hx hb dX14_instruction_531 (by decide) ?_
                                                        refine lv_icmp_ne (tgt := 553) hx hb dX14_instruction_534 (by decide) (fun c71 => ?_) (fun c71 => ?_)
                                                        · replace h := h.2 (k_ne rfl (by decide) c71)
                                                          refine lv_iload_n hx hb dX14_instruction_553 rfl (lv_at hl 2 rfl) ?_
                                                          refine lv_sipush (v := 184) hx hb dX14_instruction_554 (by decide) ?_
                                                          refine lv_icmp_ne (tgt := 576) hx hb dX14_instruction_557 (by decide) (fun c72 => ?_) (fun c72 => ?_)
                                                          · replace h := h.2 (k_ne rfl (by decide) c72)
                                                            refine lv_aload_n hx hb dX14_instruction_576 rfl (lv_at hl 0 rfl) ?_
                                                            refine lv_iload_n hx hb dX14_instruction_577 rfl (lv_at hl 2 rfl) ?_
                                                            refine lv_iconst (v := 0) hx hb dX14_instruction_578 (by decide) ?_
                                                            refine lv_iconst (v := 0) hx hb dX14_instruction_579 (by decide) ?_
                                                            obtain ⟨Q73, h0, h⟩ := h
                                                            have hFc := rfree hR hA
                                                            refine va_callv (va_runV (As := [.int v435_2, .int 0, .int 0]) (rest := []) ⟨hx, hb, hml, hown, hts⟩ (r_row l g ad H.size U435 v435_2 (0 : Int32) (0 : Int32) hR.w  Q73 h0) (cwV 3 hts (gd2_V kx_307 kx_308 kx_309 kx_177 kx_310) rfl rfl rfl (by decide +kernel) ⟨Nat.le_of_ble_eq_true rfl, Nat.le_of_ble_eq_true rfl⟩) ⟨rblind, va_recv hR.K hR.P (ci := 13) (q0 := 0) rfl (hR.at14 hR.w.1), fun U hU hW9 => rmk hU hW9 hR hex hE hFc⟩ rfl rfl hl.1 rfl (lv_room (Nat.le_of_ble_eq_true rfl)) dX14_instruction_580 ⟨Nat.le_of_ble_eq_true rfl, Nat.le_of_ble_eq_true rfl⟩) hR.sS (fun q _ h => hFc q h) hFc (fun  S74 t9 H1 locs ht9 hvm9 hw9 hB9 hz9 hk9 hS => ?_)
                                                            obtain ⟨hq75, hw9, hs9⟩ := hw9
                                                            have hR : Rep g ad A s S74 H1 locs := hR.call ht9 hB9 hw9 hS hFc
                                                            have hsh := hsh.tr hs9
                                                            replace h := h  S74 hq75
                                                            clear hB9 hz9 hk9 hvm9 ht9 hw9 hs9 hS
                                                            generalize H1 = H at hR ⊢
                                                            exact vx_ret (W.vret hx hb hr (fun t9 ht9 hW9 => ⟨⟨S74, rfl, ⟨h, hR.w, hsh⟩, ⟨by rw [ht9]; exact hR.P, hR.D⟩⟩, hR.sS.F ht9⟩) hR.sS.2.2 dX14_instruction_583)
                                                          · replace h := h.1 (k_eq rfl (by decide) c72)
                                                            refine lv_aload_n hx hb dX14_instruction_560 rfl (lv_at hl 0 rfl) ?_
                                                            refine lv_iload_n hx hb dX14_instruction_561 rfl (lv_at hl 2 rfl) ?_
                                                            refine lv_aload_n hx hb dX14_instruction_562 rfl (lv_at hl 0 rfl) ?_
                                                            refine lv_iload_n hx hb dX14_instruction_563 rfl (lv_at hl 1 rfl) ?_
                                                            refine lv_bipush (v := 10) hx hb dX14_instruction_564 (by decide) ?_
                                                            obtain ⟨Q76, EQ76, h0, h⟩ := h
                                                            have hFc := rfree hR hA
                                                            refine vx_calli (vx_runV (As := [.int v435_1, .int 10]) (rest := [.int v435_2, .ref (ad 0)]) ⟨hx, hb, hml, hown, hts⟩ (r_member l g ad H.size U435 v435_1 (10 : Int32) hR.w  Q76 EQ76 h0) (cwV 2 hts (gd2_V kx_869 kx_870 kx_871 kx_177 kx_872) rfl rfl rfl (by decide +kernel) ⟨Nat.le_of_ble_eq_true rfl, Nat.le_of_ble_eq_true rfl⟩) ⟨rblind, va_recv hR.K hR.P (ci := 13) (q0 := 0) rfl (hR.at14 hR.w.1), fun U hU hW9 => rmk hU hW9 hR hex hE hFc⟩ rfl rfl hl.1 rfl (lv_room (Nat.le_of_ble_eq_true rfl)) dX14_instruction_566 ⟨Nat.le_of_ble_eq_true rfl, Nat.le_of_ble_eq_true rfl⟩) hR.sS (fun q _ h => hFc q h) hFc (fun q _ h => hFc q h) (fun E9 ce9 q9 u9 t9 H1 locs ht9 hvm9 hp9 hB9 hz9 hk9 hS hce9 hcv9 hcl9 => ?_) (fun r77 S78 t9 H1 locs ht9 hvm9 hw9 hB9 hz9 hk9 hS => ?_)
                                                            · obtain ⟨hp9, hwx, hsx⟩ := hp9
                                                              obtain ⟨rfl, hBx⟩ := hB9
                                                              replace h := h.2 u9 hp9
                                                              have hR : Rep g ad A s u9 H1 locs := hR.call ht9 hBx hwx hS hFc
                                                              have hsh := hsh.tr hsx
                                                              exact vx_out (E := RJxb5711) (q := q9) (fun x h9 => (hnt x h9).elim) hlocks hce9 hcv9 hcl9 (fun t9 ht9 ha9 => ⟨u9, ⟨h, hR.w, hsh⟩, ⟨rfl, by rw [ht9]; exact hR.P, hR.D⟩, hR.sS.F ht9⟩) hR.sS.2.2 (Nat.le_of_ble_eq_true rfl) (Nat.le_of_ble_eq_true rfl)
                                                            · obtain ⟨hq79, hw9, hs9⟩ := hw9
                                                              have hR : Rep g ad A s S78 H1 locs := hR.call ht9 hB9 hw9 hS hFc
                                                              have hsh := hsh.tr hs9
                                                              replace h := h.1 r77 S78 hq79
                                                              clear hB9 hz9 hk9 hvm9 ht9 hw9 hs9 hS
                                                              generalize H1 = H at hR ⊢
                                                              refine lv_iconst (v := 0) hx hb dX14_instruction_569 (by decide) ?_
                                                              obtain ⟨Q80, h0, h⟩ := h
                                                              have hFc := rfree hR hA
                                                              refine va_callv (va_runV (As := [.int v435_2, .int r77, .int 0]) (rest := []) ⟨hx, hb, hml, hown, hts⟩ (r_row l g ad H.size S78 v435_2 r77 (0 : Int32) hR.w  Q80 h0) (cwV 3 hts (gd2_V kx_307 kx_308 kx_309 kx_177 kx_310) rfl rfl rfl (by decide +kernel) ⟨Nat.le_of_ble_eq_true rfl, Nat.le_of_ble_eq_true rfl⟩) ⟨rblind, va_recv hR.K hR.P (ci := 13) (q0 := 0) rfl (hR.at14 hR.w.1), fun U hU hW9 => rmk hU hW9 hR hex hE hFc⟩ rfl rfl hl.1 rfl (lv_room (Nat.le_of_ble_eq_true rfl)) dX14_instruction_570 ⟨Nat.le_of_ble_eq_true rfl, Nat.le_of_ble_eq_true rfl⟩) hR.sS (fun q _ h => hFc q h) hFc (fun  S81 t9 H1 locs ht9 hvm9 hw9 hB9 hz9 hk9 hS => ?_)
                                                              obtain ⟨hq82, hw9, hs9⟩ := hw9
                                                              have hR : Rep g ad A s S81 H1 locs := hR.call ht9 hB9 hw9 hS hFc
                                                              have hsh := hsh.tr hs9
                                                              replace h := h  S81 hq82
                                                              clear hB9 hz9 hk9 hvm9 ht9 hw9 hs9 hS
                                                              generalize H1 = H at hR ⊢
                                                              refine lv_goto (tgt := 583) hx hb dX14_instruction_573 (by decide) ?_
                                                              exact vx_ret (W.vret hx hb hr (fun t9 ht9 hW9 => ⟨⟨S81, rfl, ⟨h, hR.w, hsh⟩, ⟨by rw [ht9]; exact hR.P, hR.D⟩⟩, hR.sS.F ht9⟩) hR.sS.2.2 dX14_instruction_583)
                                                        · replace h := h.1 (k_eq rfl (by decide) c71)
                                                          exact J_537 U435 v435_1 v435_2 _ _ ls h  hsh hR (lv_sub hl [0, 1, 2] rfl)
                                                    · replace h := h.1 (k_eq rfl (by decide) c62)
                                                      exact J_514 U435 v435_1 v435_2 _ _ ls h  hsh hR (lv_sub hl [0, 1, 2] rfl)
                                                · replace h := h.1 (k_eq rfl (by decide) c57)
                                                  refine lv_aload_n hx hb dX14_instruction_477 rfl (lv_at hl 0 rfl) ?_
                                                  refine lv_sipush (v := 167) hx hb dX14_instruction_478 (by decide) ?_
                                                  refine lv_aload_n hx hb dX14_instruction_481 rfl (lv_at hl 0 rfl) ?_
                                                  refine lv_iload_n hx hb dX14_instruction_482 rfl (lv_at hl 1 rfl) ?_
                                                  refine lv_aload_n hx hb dX14_instruction_483 rfl (lv_at hl 0 rfl) ?_
                                                  refine lv_iload_n hx hb dX14_instruction_484 rfl (lv_at hl 1 rfl) ?_
                                                  refine lv_iconst (v := 1) hx hb dX14_instruction_485 (by decide) ?_
                                                  refine lv_iadd hx hb dX14_instruction_486 ?_
                                                  refine lv_topi (fun z83 ez83 => ?_)
                                                  obtain rfl : z83 = (v435_1 + (1 : Int32)) := ez83
                                                  obtain ⟨hv84, h⟩ := h
                                                  have hFc := rfree hR hA
                                                  refine va_calli (va_runV (As := [.int (v435_1 + (1 : Int32))]) (rest := [.int v435_1, .ref (ad 0), .int 167, .ref (ad 0)]) ⟨hx, hb, hml, hown, hts⟩ (r_codeFour l g ad H.size U435 (v435_1 + (1 : Int32)) hR.w  hv84) (cwV 1 hts (gd2_V kx_285 kx_286 kx_287 kx_177 kx_288) rfl rfl rfl (by decide +kernel) ⟨Nat.le_of_ble_eq_true rfl, Nat.le_of_ble_eq_true rfl⟩) ⟨rblind, va_recv hR.K hR.P (ci := 13) (q0 := 0) rfl (hR.at14 hR.w.1), fun U hU hW9 => rmk hU hW9 hR hex hE hFc⟩ rfl rfl hl.1 rfl (lv_room (Nat.le_of_ble_eq_true rfl)) dX14_instruction_487 ⟨Nat.le_of_ble_eq_true rfl, Nat.le_of_ble_eq_true rfl⟩) hR.sS (fun q _ h => hFc q h) hFc (fun r85 u9 t9 H1 locs ht9 hvm9 hw9 hB9 hz9 hk9 hS => ?_)
                                                  have hR : Rep g ad A s U435 H1 locs := hR.call ht9 hB9 hR.w hS hFc
                                                  obtain rfl : r85 = (f_codeFour U435 (v435_1 + (1 : Int32))) := hw9
                                                  clear hB9 hz9 hk9 hvm9 ht9 hS
                                                  generalize H1 = H at hR ⊢
                                                  obtain ⟨Q87, EQ87, h0, h⟩ := h
                                                  have hFc := rfree hR hA
                                                  refine vx_calli (vx_runV (As := [.int v435_1, .int (f_codeFour U435 (v435_1 + (1 : Int32)))]) (rest := [.int 167, .ref (ad 0)]) ⟨hx, hb, hml, hown, hts⟩ (r_target l g ad H.size U435 v435_1 (f_codeFour U435 (v435_1 + (1 : Int32))) hR.w  Q87 EQ87 h0) (cwV 2 hts (gd2_V kx_327 kx_328 kx_329 kx_177 kx_330) rfl rfl rfl (by decide +kernel) ⟨Nat.le_of_ble_eq_true rfl, Nat.le_of_ble_eq_true rfl⟩) ⟨rblind, va_recv hR.K hR.P (ci := 13) (q0 := 0) rfl (hR.at14 hR.w.1), fun U hU hW9 => rmk hU hW9 hR hex hE hFc⟩ rfl rfl hl.1 rfl (lv_room (Nat.le_of_ble_eq_true rfl)) dX14_instruction_490 ⟨Nat.le_of_ble_eq_true rfl, Nat.le_of_ble_eq_true rfl⟩) hR.sS (fun q _ h => hFc q h) hFc (fun q _ h => hFc q h) (fun E9 ce9 q9 u9 t9 H1 locs ht9 hvm9 hp9 hB9 hz9 hk9 hS hce9 hcv9 hcl9 => ?_) (fun r88 S89 t9 H1 locs ht9 hvm9 hw9 hB9 hz9 hk9 hS => ?_)
                                                  · obtain ⟨hp9, hwx, hsx⟩ := hp9
                                                    obtain ⟨rfl, hBx⟩ := hB9
                                                    replace h := h.2 u9 hp9
                                                    have hR : Rep g ad A s u9 H1 locs := hR.call ht9 hBx hwx hS hFc
                                                    have hsh := hsh.tr hsx
                                                    exact vx_out (E := RJxb5711) (q := q9) (fun x h9 => (hnt x h9).elim) hlocks hce9 hcv9 hcl9 (fun t9 ht9 ha9 => ⟨u9, ⟨h, hR.w, hsh⟩, ⟨rfl, by rw [ht9]; exact hR.P, hR.D⟩, hR.sS.F ht9⟩) hR.sS.2.2 (Nat.le_of_ble_eq_true rfl) (Nat.le_of_ble_eq_true rfl)
                                                  · obtain ⟨hq90, hw9, hs9⟩ := hw9
                                                    have hR : Rep g ad A s S89 H1 locs := hR.call ht9 hB9 hw9 hS hFc
                                                    have hsh := hsh.tr hs9
                                                    replace h := h.1 r88 S89 hq90
                                                    clear hB9 hz9 hk9 hvm9 ht9 hw9 hs9 hS
                                                    generalize H1 = H at hR ⊢
                                                    refine lv_iconst (v := 0) hx hb dX14_instruction_493 (by decide) ?_
                                                    obtain ⟨Q91, h0, h⟩ := h
                                                    have hFc := rfree hR hA
                                                    refine va_callv (va_runV (As := [.int 167, .int r88, .int 0]) (rest := []) ⟨hx, hb, hml, hown, hts⟩ (r_row l g ad H.size S89 (167 : Int32) r88 (0 : Int32) hR.w  Q91 h0) (cwV 3 hts (gd2_V kx_307 kx_308 kx_309 kx_177 kx_310) rfl rfl rfl (by decide +kernel) ⟨Nat.le_of_ble_eq_true rfl, Nat.le_of_ble_eq_true rfl⟩) ⟨rblind, va_recv hR.K hR.P (ci := 13) (q0 := 0) rfl (hR.at14 hR.w.1), fun U hU hW9 => rmk hU hW9 hR hex hE hFc⟩ rfl rfl hl.1 rfl (lv_room (Nat.le_of_ble_eq_true rfl)) dX14_instruction_494 ⟨Nat.le_of_ble_eq_true rfl, Nat.le_of_ble_eq_true rfl⟩) hR.sS (fun q _ h => hFc q h) hFc (fun  S92 t9 H1 locs ht9 hvm9 hw9 hB9 hz9 hk9 hS => ?_)
                                                    obtain ⟨hq93, hw9, hs9⟩ := hw9
                                                    have hR : Rep g ad A s S92 H1 locs := hR.call ht9 hB9 hw9 hS hFc
                                                    have hsh := hsh.tr hs9
                                                    replace h := h  S92 hq93
                                                    clear hB9 hz9 hk9 hvm9 ht9 hw9 hs9 hS
                                                    generalize H1 = H at hR ⊢
                                                    refine lv_goto (tgt := 583) hx hb dX14_instruction_497 (by decide) ?_
                                                    exact vx_ret (W.vret hx hb hr (fun t9 ht9 hW9 => ⟨⟨S92, rfl, ⟨h, hR.w, hsh⟩, ⟨by rw [ht9]; exact hR.P, hR.D⟩⟩, hR.sS.F ht9⟩) hR.sS.2.2 dX14_instruction_583)
                                              · replace h := h.1 (k_eq rfl (by decide) c56)
                                                exact J_449 U435 v435_1 v435_2 _ _ ls h  hsh hR (lv_sub hl [0, 1, 2] rfl)
                                          refine lv_icmp_lt (tgt := 435) hx hb dX14_instruction_425 (by decide) (fun c94 => ?_) (fun c94 => ?_)
                                          · replace h := h.1 (k_lt rfl (by decide) c94)
                                            exact J_435 U312 v312_1 v312_2 _ _ ls h  hsh hR (lv_sub hl [0, 1, 2] rfl)
                                          · replace h := h.2 (k_nlt rfl (by decide) c94)
                                            refine lv_iload_n hx hb dX14_instruction_428 rfl (lv_at hl 2 rfl) ?_
                                            refine lv_sipush (v := 167) hx hb dX14_instruction_429 (by decide) ?_
                                            refine lv_icmp_le (tgt := 449) hx hb dX14_instruction_432 (by decide) (fun c95 => ?_) (fun c95 => ?_)
                                            · replace h := h.1 (k_le rfl (by decide) c95)
                                              exact J_449 U312 v312_1 v312_2 _ _ ls h  hsh hR (lv_sub hl [0, 1, 2] rfl)
                                            · replace h := h.2 (k_nle rfl (by decide) c95)
                                              exact J_435 U312 v312_1 v312_2 _ _ ls h  hsh hR (lv_sub hl [0, 1, 2] rfl)
                                        · replace h := h.1 (k_eq rfl (by decide) c43)
                                          refine lv_aload_n hx hb dX14_instruction_406 rfl (lv_at hl 0 rfl) ?_
                                          refine lv_iload_n hx hb dX14_instruction_407 rfl (lv_at hl 1 rfl) ?_
                                          refine lv_aload_n hx hb dX14_instruction_408 rfl (lv_at hl 0 rfl) ?_
                                          refine lv_iload_n hx hb dX14_instruction_409 rfl (lv_at hl 1 rfl) ?_
                                          refine lv_iconst (v := 1) hx hb dX14_instruction_410 (by decide) ?_
                                          refine lv_iadd hx hb dX14_instruction_411 ?_
                                          refine lv_topi (fun z96 ez96 => ?_)
                                          obtain rfl : z96 = (v312_1 + (1 : Int32)) := ez96
                                          obtain ⟨hv97, h⟩ := h
                                          have hFc := rfree hR hA
                                          refine va_calli (va_runV (As := [.int (v312_1 + (1 : Int32))]) (rest := [.int v312_1, .ref (ad 0)]) ⟨hx, hb, hml, hown, hts⟩ (r_codeOctet l g ad H.size U312 (v312_1 + (1 : Int32)) hR.w  hv97) (cwV 1 hts (gd2_V kx_274 kx_275 kx_276 kx_177 kx_277) rfl rfl rfl (by decide +kernel) ⟨Nat.le_of_ble_eq_true rfl, Nat.le_of_ble_eq_true rfl⟩) ⟨rblind, va_recv hR.K hR.P (ci := 13) (q0 := 0) rfl (hR.at14 hR.w.1), fun U hU hW9 => rmk hU hW9 hR hex hE hFc⟩ rfl rfl hl.1 rfl (lv_room (Nat.le_of_ble_eq_true rfl)) dX14_instruction_412 ⟨Nat.le_of_ble_eq_true rfl, Nat.le_of_ble_eq_true rfl⟩) hR.sS (fun q _ h => hFc q h) hFc (fun r98 u9 t9 H1 locs ht9 hvm9 hw9 hB9 hz9 hk9 hS => ?_)
                                          have hR : Rep g ad A s U312 H1 locs := hR.call ht9 hB9 hR.w hS hFc
                                          obtain rfl : r98 = (f_codeOctet U312 (v312_1 + (1 : Int32))) := hw9
                                          clear hB9 hz9 hk9 hvm9 ht9 hS
                                          generalize H1 = H at hR ⊢
                                          obtain ⟨Q100, EQ100, h0, h⟩ := h
                                          have hFc := rfree hR hA
                                          refine vx_callv (vx_runV (As := [.int v312_1, .int (f_codeOctet U312 (v312_1 + (1 : Int32)))]) (rest := []) ⟨hx, hb, hml, hown, hts⟩ (r_wide l g ad H.size U312 v312_1 (f_codeOctet U312 (v312_1 + (1 : Int32))) hR.w  Q100 EQ100 h0) (cwV 2 hts (gd2_V kx_873 kx_874 kx_875 kx_177 kx_876) rfl rfl rfl (by decide +kernel) ⟨Nat.le_of_ble_eq_true rfl, Nat.le_of_ble_eq_true rfl⟩) ⟨rblind, va_recv hR.K hR.P (ci := 13) (q0 := 0) rfl (hR.at14 hR.w.1), fun U hU hW9 => rmk hU hW9 hR hex hE hFc⟩ rfl rfl hl.1 rfl (lv_room (Nat.le_of_ble_eq_true rfl)) dX14_instruction_415 ⟨Nat.le_of_ble_eq_true rfl, Nat.le_of_ble_eq_true rfl⟩) hR.sS (fun q _ h => hFc q h) hFc (fun q _ h => hFc q h) (fun E9 ce9 q9 u9 t9 H1 locs ht9 hvm9 hp9 hB9 hz9 hk9 hS hce9 hcv9 hcl9 => ?_) (fun  S101 t9 H1 locs ht9 hvm9 hw9 hB9 hz9 hk9 hS => ?_)
                                          · obtain ⟨hp9, hwx, hsx⟩ := hp9
                                            obtain ⟨rfl, hBx⟩ := hB9
                                            replace h := h.2 u9 hp9
                                            have hR : Rep g ad A s u9 H1 locs := hR.call ht9 hBx hwx hS hFc
                                            have hsh := hsh.tr hsx
                                            exact vx_out (E := RJxb5711) (q := q9) (fun x h9 => (hnt x h9).elim) hlocks hce9 hcv9 hcl9 (fun t9 ht9 ha9 => ⟨u9, ⟨h, hR.w, hsh⟩, ⟨rfl, by rw [ht9]; exact hR.P, hR.D⟩, hR.sS.F ht9⟩) hR.sS.2.2 (Nat.le_of_ble_eq_true rfl) (Nat.le_of_ble_eq_true rfl)
                                          · obtain ⟨hq102, hw9, hs9⟩ := hw9
                                            have hR : Rep g ad A s S101 H1 locs := hR.call ht9 hB9 hw9 hS hFc
                                            have hsh := hsh.tr hs9
                                            replace h := h.1  S101 hq102
                                            clear hB9 hz9 hk9 hvm9 ht9 hw9 hs9 hS
                                            generalize H1 = H at hR ⊢
                                            refine lv_goto (tgt := 583) hx hb dX14_instruction_418 (by decide) ?_
                                            exact vx_ret (W.vret hx hb hr (fun t9 ht9 hW9 => ⟨⟨S101, rfl, ⟨h, hR.w, hsh⟩, ⟨by rw [ht9]; exact hR.P, hR.D⟩⟩, hR.sS.F ht9⟩) hR.sS.2.2 dX14_instruction_583)
                                      · replace h := h.1 (k_eq rfl (by decide) c42)
                                        refine lv_aload_n hx hb dX14_instruction_371 rfl (lv_at hl 0 rfl) ?_
                                        refine lv_iload_n hx hb dX14_instruction_372 rfl (lv_at hl 1 rfl) ?_
                                        refine lv_aload_n hx hb dX14_instruction_373 rfl (lv_at hl 0 rfl) ?_
                                        refine lv_iload_n hx hb dX14_instruction_374 rfl (lv_at hl 1 rfl) ?_
                                        refine lv_iconst (v := 1) hx hb dX14_instruction_375 (by decide) ?_
                                        refine lv_iadd hx hb dX14_instruction_376 ?_
                                        refine lv_topi (fun z103 ez103 => ?_)
                                        obtain rfl : z103 = (v312_1 + (1 : Int32)) := ez103
                                        obtain ⟨hv104, h⟩ := h
                                        have hFc := rfree hR hA
                                        refine va_calli (va_runV (As := [.int (v312_1 + (1 : Int32))]) (rest := [.int v312_1, .ref (ad 0)]) ⟨hx, hb, hml, hown, hts⟩ (r_codeOctet l g ad H.size U312 (v312_1 + (1 : Int32)) hR.w  hv104) (cwV 1 hts (gd2_V kx_274 kx_275 kx_276 kx_177 kx_277) rfl rfl rfl (by decide +kernel) ⟨Nat.le_of_ble_eq_true rfl, Nat.le_of_ble_eq_true rfl⟩) ⟨rblind, va_recv hR.K hR.P (ci := 13) (q0 := 0) rfl (hR.at14 hR.w.1), fun U hU hW9 => rmk hU hW9 hR hex hE hFc⟩ rfl rfl hl.1 rfl (lv_room (Nat.le_of_ble_eq_true rfl)) dX14_instruction_377 ⟨Nat.le_of_ble_eq_true rfl, Nat.le_of_ble_eq_true rfl⟩) hR.sS (fun q _ h => hFc q h) hFc (fun r105 u9 t9 H1 locs ht9 hvm9 hw9 hB9 hz9 hk9 hS => ?_)
                                        have hR : Rep g ad A s U312 H1 locs := hR.call ht9 hB9 hR.w hS hFc
                                        obtain rfl : r105 = (f_codeOctet U312 (v312_1 + (1 : Int32))) := hw9
                                        clear hB9 hz9 hk9 hvm9 ht9 hS
                                        generalize H1 = H at hR ⊢
                                        refine lv_aload_n hx hb dX14_instruction_380 rfl (lv_at hl 0 rfl) ?_
                                        obtain ⟨hv107, h⟩ := h
                                        have hT_b108 : qT U312 (qO U312 0 11) = 1 := hR.w.ref hv107 hR.w.1
                                        refine va_get (D := rD g) (ci := 13) (v := .ref (ad (qO U312 0 11))) (C := RX14) (T := TX14) (N := 143) hx hb hts in2X14 hown hR.K hR.P 0 (hR.at14 hR.w.1) rfl 11 (by decide) (hts _ kx_181) (fun _ h9 => h9) (congrArg (fun z => some (vf ad z)) hv107) dX14_instruction_381 ?_
                                        refine lv_aload_n hx hb dX14_instruction_384 rfl (lv_at hl 0 rfl) ?_
                                        refine va_get (D := rD g) (ci := 13) (v := .int (qI U312 0 36)) (C := RX14) (T := TX14) (N := 143) hx hb hts in2X14 hown hR.K hR.P 0 (hR.at14 hR.w.1) rfl 36 (by decide) (hts _ kx_273) (fun _ h9 => h9) rfl dX14_instruction_385 ?_
                                        refine lv_iload_n hx hb dX14_instruction_388 rfl (lv_at hl 1 rfl) ?_
                                        refine lv_iadd hx hb dX14_instruction_389 ?_
                                        refine lv_topi (fun z109 ez109 => ?_)
                                        obtain rfl : z109 = ((qI U312 0 36) + v312_1) := ez109
                                        refine lv_iconst (v := 2) hx hb dX14_instruction_390 (by decide) ?_
                                        refine lv_iadd hx hb dX14_instruction_391 ?_
                                        refine lv_topi (fun z110 ez110 => ?_)
                                        obtain rfl : z110 = (((qI U312 0 36) + v312_1) + (2 : Int32)) := ez110
                                        obtain ⟨hv111, h⟩ := h
                                        refine va_bald hx hb hR.K hR.P (qO U312 0 11) 0 (hR.atB hT_b108) rfl (k_ix (x := (((qI U312 0 36) + v312_1) + (2 : Int32))) (a := (((qI U312 0 36) + v312_1) + (2 : Int32)).toInt) rfl hv111) dX14_instruction_392 ?_
                                        refine lv_topi (fun z112 ez112 => ?_)
                                        obtain rfl : z112 = (qI U312 (qO U312 0 11) (((((qI U312 0 36) + v312_1) + (2 : Int32)).toInt).toNat)) := ez112
                                        obtain ⟨Q113, EQ113, h0, h⟩ := h
                                        have hFc := rfree hR hA
                                        refine vx_callv (vx_runV (As := [.int v312_1, .int (f_codeOctet U312 (v312_1 + (1 : Int32))), .int (qI U312 (qO U312 0 11) (((((qI U312 0 36) + v312_1) + (2 : Int32)).toInt).toNat))]) (rest := []) ⟨hx, hb, hml, hown, hts⟩ (r_grown l g ad H.size U312 v312_1 (f_codeOctet U312 (v312_1 + (1 : Int32))) (qI U312 (qO U312 0 11) (((((qI U312 0 36) + v312_1) + (2 : Int32)).toInt).toNat)) hR.w  Q113 EQ113 h0) (cwV 3 hts (gd2_V kx_321 kx_322 kx_323 kx_177 kx_324) rfl rfl rfl (by decide +kernel) ⟨Nat.le_of_ble_eq_true rfl, Nat.le_of_ble_eq_true rfl⟩) ⟨rblind, va_recv hR.K hR.P (ci := 13) (q0 := 0) rfl (hR.at14 hR.w.1), fun U hU hW9 => rmk hU hW9 hR hex hE hFc⟩ rfl rfl hl.1 rfl (lv_room (Nat.le_of_ble_eq_true rfl)) dX14_instruction_393 ⟨Nat.le_of_ble_eq_true rfl, Nat.le_of_ble_eq_true rfl⟩) hR.sS (fun q _ h => hFc q h) hFc (fun q _ h => hFc q h) (fun E9 ce9 q9 u9 t9 H1 locs ht9 hvm9 hp9 hB9 hz9 hk9 hS hce9 hcv9 hcl9 => ?_) (fun  S114 t9 H1 locs ht9 hvm9 hw9 hB9 hz9 hk9 hS => ?_)
                                        · obtain ⟨hp9, hwx, hsx⟩ := hp9
                                          obtain ⟨rfl, hBx⟩ := hB9
                                          replace h := h.2 u9 hp9
                                          have hR : Rep g ad A s u9 H1 locs := hR.call ht9 hBx hwx hS hFc
                                          have hsh := hsh.tr hsx
                                          exact vx_out (E := RJxb5711) (q := q9) (fun x h9 => (hnt x h9).elim) hlocks hce9 hcv9 hcl9 (fun t9 ht9 ha9 => ⟨u9, ⟨h, hR.w, hsh⟩, ⟨rfl, by rw [ht9]; exact hR.P, hR.D⟩, hR.sS.F ht9⟩) hR.sS.2.2 (Nat.le_of_ble_eq_true rfl) (Nat.le_of_ble_eq_true rfl)
                                        · obtain ⟨hq115, hw9, hs9⟩ := hw9
                                          have hR : Rep g ad A s S114 H1 locs := hR.call ht9 hB9 hw9 hS hFc
                                          have hsh := hsh.tr hs9
                                          replace h := h.1  S114 hq115
                                          clear hB9 hz9 hk9 hvm9 ht9 hw9 hs9 hS
                                          generalize H1 = H at hR ⊢
                                          refine lv_goto (tgt := 583) hx hb dX14_instruction_396 (by decide) ?_
                                          exact vx_ret (W.vret hx hb hr (fun t9 ht9 hW9 => ⟨⟨S114, rfl, ⟨h, hR.w, hsh⟩, ⟨by rw [ht9]; exact hR.P, hR.D⟩⟩, hR.sS.F ht9⟩) hR.sS.2.2 dX14_instruction_583)
                                    · replace h := h.1 (k_eq rfl (by decide) c41)
                                      exact J_348 U312 v312_1 v312_2 _ _ ls h  hsh hR (lv_sub hl [0, 1, 2] rfl)
                        refine lv_icmp_lt (tgt := 312) hx hb dX14_instruction_289 (by decide) (fun c116 => ?_) (fun c116 => ?_)
                        · replace h := h.1 (k_lt rfl (by decide) c116)
                          exact J_312 U286 v286_1 v286_2 _ _ ls h  hsh hR (lv_sub hl [0, 1, 2] rfl)
                        · replace h := h.2 (k_nlt rfl (by decide) c116)
                          refine lv_iload_n hx hb dX14_instruction_292 rfl (lv_at hl 2 rfl) ?_
                          refine lv_bipush (v := 78) hx hb dX14_instruction_293 (by decide) ?_
                          refine lv_icmp_gt (tgt := 312) hx hb dX14_instruction_295 (by decide) (fun c117 => ?_) (fun c117 => ?_)
                          · replace h := h.1 (k_lt (by decide) rfl c117)
                            exact J_312 U286 v286_1 v286_2 _ _ ls h  hsh hR (lv_sub hl [0, 1, 2] rfl)
                          · replace h := h.2 (k_nlt (by decide) rfl c117)
                            refine lv_aload_n hx hb dX14_instruction_298 rfl (lv_at hl 0 rfl) ?_
                            refine lv_iload_n hx hb dX14_instruction_299 rfl (lv_at hl 1 rfl) ?_
                            refine lv_bipush (v := 58) hx hb dX14_instruction_300 (by decide) ?_
                            refine lv_iload_n hx hb dX14_instruction_302 rfl (lv_at hl 2 rfl) ?_
                            refine lv_bipush (v := 75) hx hb dX14_instruction_303 (by decide) ?_
                            refine lv_isub hx hb dX14_instruction_305 ?_
                            refine lv_topi (fun z118 ez118 => ?_)
                            obtain rfl : z118 = (v286_2 - (75 : Int32)) := ez118
                            obtain ⟨Q119, EQ119, h0, h⟩ := h
                            have hFc := rfree hR hA
                            refine vx_callv (vx_runV (As := [.int v286_1, .int 58, .int (v286_2 - (75 : Int32))]) (rest := []) ⟨hx, hb, hml, hown, hts⟩ (r_localRow l g ad H.size U286 v286_1 (58 : Int32) (v286_2 - (75 : Int32)) hR.w  Q119 EQ119 h0) (cwV 3 hts (gd2_V kx_317 kx_318 kx_319 kx_177 kx_320) rfl rfl rfl (by decide +kernel) ⟨Nat.le_of_ble_eq_true rfl, Nat.le_of_ble_eq_true rfl⟩) ⟨rblind, va_recv hR.K hR.P (ci := 13) (q0 := 0) rfl (hR.at14 hR.w.1), fun U hU hW9 => rmk hU hW9 hR hex hE hFc⟩ rfl rfl hl.1 rfl (lv_room (Nat.le_of_ble_eq_true rfl)) dX14_instruction_306 ⟨Nat.le_of_ble_eq_true rfl, Nat.le_of_ble_eq_true rfl⟩) hR.sS (fun q _ h => hFc q h) hFc (fun q _ h => hFc q h) (fun E9 ce9 q9 u9 t9 H1 locs ht9 hvm9 hp9 hB9 hz9 hk9 hS hce9 hcv9 hcl9 => ?_) (fun  S120 t9 H1 locs ht9 hvm9 hw9 hB9 hz9 hk9 hS => ?_)
                            · obtain ⟨hp9, hwx, hsx⟩ := hp9
                              obtain ⟨rfl, hBx⟩ := hB9
                              replace h := h.2 u9 hp9
                              have hR : Rep g ad A s u9 H1 locs := hR.call ht9 hBx hwx hS hFc
                              have hsh := hsh.tr hsx
                              exact vx_out (E := RJxb5711) (q := q9) (fun x h9 => (hnt x h9).elim) hlocks hce9 hcv9 hcl9 (fun t9 ht9 ha9 => ⟨u9, ⟨h, hR.w, hsh⟩, ⟨rfl, by rw [ht9]; exact hR.P, hR.D⟩, hR.sS.F ht9⟩) hR.sS.2.2 (Nat.le_of_ble_eq_true rfl) (Nat.le_of_ble_eq_true rfl)
                            · obtain ⟨hq121, hw9, hs9⟩ := hw9
                              have hR : Rep g ad A s S120 H1 locs := hR.call ht9 hB9 hw9 hS hFc
                              have hsh := hsh.tr hs9
                              replace h := h.1  S120 hq121
                              clear hB9 hz9 hk9 hvm9 ht9 hw9 hs9 hS
                              generalize H1 = H at hR ⊢
                              refine lv_goto (tgt := 583) hx hb dX14_instruction_309 (by decide) ?_
                              exact vx_ret (W.vret hx hb hr (fun t9 ht9 hW9 => ⟨⟨S120, rfl, ⟨h, hR.w, hsh⟩, ⟨by rw [ht9]; exact hR.P, hR.D⟩⟩, hR.sS.F ht9⟩) hR.sS.2.2 dX14_instruction_583)
                      refine lv_icmp_lt (tgt := 286) hx hb dX14_instruction_250 (by decide) (fun c122 => ?_) (fun c122 => ?_)
                      · replace h := h.1 (k_lt rfl (by decide) c122)
                        exact J_286 U247 v247_1 v247_2 _ _ ls h  hsh hR (lv_sub hl [0, 1, 2] rfl)
                      · replace h := h.2 (k_nlt rfl (by decide) c122)
                        refine lv_iload_n hx hb dX14_instruction_253 rfl (lv_at hl 2 rfl) ?_
                        refine lv_bipush (v := 66) hx hb dX14_instruction_254 (by decide) ?_
                        refine lv_icmp_gt (tgt := 286) hx hb dX14_instruction_256 (by decide) (fun c123 => ?_) (fun c123 => ?_)
                        · replace h := h.1 (k_lt (by decide) rfl c123)
                          exact J_286 U247 v247_1 v247_2 _ _ ls h  hsh hR (lv_sub hl [0, 1, 2] rfl)
                        · replace h := h.2 (k_nlt (by decide) rfl c123)
                          refine lv_aload_n hx hb dX14_instruction_259 rfl (lv_at hl 0 rfl) ?_
                          refine lv_iload_n hx hb dX14_instruction_260 rfl (lv_at hl 1 rfl) ?_
                          refine lv_iload_n hx hb dX14_instruction_261 rfl (lv_at hl 2 rfl) ?_
                          refine lv_bipush (v := 63) hx hb dX14_instruction_262 (by decide) ?_
                          have J_274 : ∀ (U274 : MS) (t274_0 : Int32) (t274_1 : Int32) (v274_2 : Int32) (H : Heap) (locs : List Loc) (ls : Array Slot), w_instruction_J274 Q E U274 t274_0 t274_1 v274_2 → shy S U274 → Rep g ad A s U274 H locs → lv_has ls 3 [(2, .int v274_2)] → W p l e (headSpec (wt2 yX14_instruction cX14_instruction 3 none) ({ frames := 5, cells := 0, slots := 0, locals := 116 })).room s m ([.ref (ad 0), .int x1] : List Value).toArray below meth c H locs 0 0 (vx_MQ below (va_Qv (fun (u : MS) => Q u ∧ wfM u ∧ shy S u) (fun (u : MS) (t : State) => qE g ad A u t) A) ((vx_X (fun (u : MS) => E u ∧ wfM u ∧ shy S u) (fun (n9 : String) (u : MS) (t : State) => n9 = RJxb5711 ∧ qE g ad A u t) A)) ([.ref (ad 0), .int x1] : List Value).toArray s 0 0 A) (F0 m 274 ls [.int t274_0, .int t274_1, .ref (ad 0)]) := by
                            intro U274 t274_0 t274_1 v274_2 H locs ls h hsh hR hl
                            unfold w_instruction_J274 at h
                            refine lv_iload_n hx hb dX14_instruction_274 rfl (lv_at hl 0 rfl) ?_
                            refine lv_bipush (v := 59) hx hb dX14_instruction_275 (by decide) ?_
                            refine lv_isub hx hb dX14_instruction_277 ?_
                            refine lv_topi (fun z124 ez124 => ?_)
                            obtain rfl : z124 = (v274_2 - (59 : Int32)) := ez124
                            refine lv_iconst (v := 4) hx hb dX14_instruction_278 (by decide) ?_
                            refine lv_irem hx hb dX14_instruction_279 (by decide) ?_
                            refine lv_topi (fun z125 ez125 => ?_)
                            obtain rfl : z125 = ((v274_2 - (59 : Int32)) - (v274_2 - (59 : Int32)) / (4 : Int32) * (4 : Int32)) := ez125
                            obtain ⟨Q126, EQ126, h0, h⟩ := h
                            have hFc := rfree hR hA
                            refine vx_callv (vx_runV (As := [.int t274_1, .int t274_0, .int ((v274_2 - (59 : Int32)) - (v274_2 - (59 : Int32)) / (4 : Int32) * (4 : Int32))]) (rest := []) ⟨hx, hb, hml, hown, hts⟩ (r_localRow l g ad H.size U274 t274_1 t274_0 ((v274_2 - (59 : Int32)) - (v274_2 - (59 : Int32)) / (4 : Int32) * (4 : Int32)) hR.w  Q126 EQ126 h0) (cwV 3 hts (gd2_V kx_317 kx_318 kx_319 kx_177 kx_320) rfl rfl rfl (by decide +kernel) ⟨Nat.le_of_ble_eq_true rfl, Nat.le_of_ble_eq_true rfl⟩) ⟨rblind, va_recv hR.K hR.P (ci := 13) (q0 := 0) rfl (hR.at14 hR.w.1), fun U hU hW9 => rmk hU hW9 hR hex hE hFc⟩ rfl rfl hl.1 rfl (lv_room (Nat.le_of_ble_eq_true rfl)) dX14_instruction_280 ⟨Nat.le_of_ble_eq_true rfl, Nat.le_of_ble_eq_true rfl⟩) hR.sS (fun q _ h => hFc q h) hFc (fun q _ h => hFc q h) (fun E9 ce9 q9 u9 t9 H1 locs ht9 hvm9 hp9 hB9 hz9 hk9 hS hce9 hcv9 hcl9 => ?_) (fun  S127 t9 H1 locs ht9 hvm9 hw9 hB9 hz9 hk9 hS => ?_)
                            · obtain ⟨hp9, hwx, hsx⟩ := hp9
                              obtain ⟨rfl, hBx⟩ := hB9
                              replace h := h.2 u9 hp9
                              have hR : Rep g ad A s u9 H1 locs := hR.call ht9 hBx hwx hS hFc
                              have hsh := hsh.tr hsx
                              exact vx_out (E := RJxb5711) (q := q9) (fun x h9 => (hnt x h9).elim) hlocks hce9 hcv9 hcl9 (fun t9 ht9 ha9 => ⟨u9, ⟨h, hR.w, hsh⟩, ⟨rfl, by rw [ht9]; exact hR.P, hR.D⟩, hR.sS.F ht9⟩) hR.sS.2.2 (Nat.le_of_ble_eq_true rfl) (Nat.le_of_ble_eq_true rfl)
                            · obtain ⟨hq128, hw9, hs9⟩ := hw9
                              have hR : Rep g ad A s S127 H1 locs := hR.call ht9 hB9 hw9 hS hFc
                              have hsh := hsh.tr hs9
                              replace h := h.1  S127 hq128
                              clear hB9 hz9 hk9 hvm9 ht9 hw9 hs9 hS
                              generalize H1 = H at hR ⊢
                              refine lv_goto (tgt := 583) hx hb dX14_instruction_283 (by decide) ?_
                              exact vx_ret (W.vret hx hb hr (fun t9 ht9 hW9 => ⟨⟨S127, rfl, ⟨h, hR.w, hsh⟩, ⟨by rw [ht9]; exact hR.P, hR.D⟩⟩, hR.sS.F ht9⟩) hR.sS.2.2 dX14_instruction_583)
                          refine lv_icmp_ge (tgt := 272) hx hb dX14_instruction_264 (by decide) (fun c129 => ?_) (fun c129 => ?_)
                          · replace h := h.1 (k_le (by decide) rfl c129)
                            refine lv_bipush (v := 55) hx hb dX14_instruction_272 (by decide) ?_
                            exact J_274 U247 55 v247_1 v247_2 _ _ ls h  hsh hR (lv_sub hl [2] rfl)
                          · replace h := h.2 (k_nle (by decide) rfl c129)
                            refine lv_bipush (v := 54) hx hb dX14_instruction_267 (by decide) ?_
                            refine lv_goto (tgt := 274) hx hb dX14_instruction_269 (by decide) ?_
                            exact J_274 U247 54 v247_1 v247_2 _ _ ls h  hsh hR (lv_sub hl [2] rfl)
                    refine lv_icmp_lt (tgt := 247) hx hb dX14_instruction_224 (by decide) (fun c130 => ?_) (fun c130 => ?_)
                    · replace h := h.1 (k_lt rfl (by decide) c130)
                      exact J_247 U221 v221_1 v221_2 _ _ ls h  hsh hR (lv_sub hl [0, 1, 2] rfl)
                    · replace h := h.2 (k_nlt rfl (by decide) c130)
                      refine lv_iload_n hx hb dX14_instruction_227 rfl (lv_at hl 2 rfl) ?_
                      refine lv_bipush (v := 45) hx hb dX14_instruction_228 (by decide) ?_
                      refine lv_icmp_gt (tgt := 247) hx hb dX14_instruction_230 (by decide) (fun c131 => ?_) (fun c131 => ?_)
                      · replace h := h.1 (k_lt (by decide) rfl c131)
                        exact J_247 U221 v221_1 v221_2 _ _ ls h  hsh hR (lv_sub hl [0, 1, 2] rfl)
                      · replace h := h.2 (k_nlt (by decide) rfl c131)
                        refine lv_aload_n hx hb dX14_instruction_233 rfl (lv_at hl 0 rfl) ?_
                        refine lv_iload_n hx hb dX14_instruction_234 rfl (lv_at hl 1 rfl) ?_
                        refine lv_bipush (v := 25) hx hb dX14_instruction_235 (by decide) ?_
                        refine lv_iload_n hx hb dX14_instruction_237 rfl (lv_at hl 2 rfl) ?_
                        refine lv_bipush (v := 42) hx hb dX14_instruction_238 (by decide) ?_
                        refine lv_isub hx hb dX14_instruction_240 ?_
                        refine lv_topi (fun z132 ez132 => ?_)
                        obtain rfl : z132 = (v221_2 - (42 : Int32)) := ez132
                        obtain ⟨Q133, EQ133, h0, h⟩ := h
                        have hFc := rfree hR hA
                        refine vx_callv (vx_runV (As := [.int v221_1, .int 25, .int (v221_2 - (42 : Int32))]) (rest := []) ⟨hx, hb, hml, hown, hts⟩ (r_localRow l g ad H.size U221 v221_1 (25 : Int32) (v221_2 - (42 : Int32)) hR.w  Q133 EQ133 h0) (cwV 3 hts (gd2_V kx_317 kx_318 kx_319 kx_177 kx_320) rfl rfl rfl (by decide +kernel) ⟨Nat.le_of_ble_eq_true rfl, Nat.le_of_ble_eq_true rfl⟩) ⟨rblind, va_recv hR.K hR.P (ci := 13) (q0 := 0) rfl (hR.at14 hR.w.1), fun U hU hW9 => rmk hU hW9 hR hex hE hFc⟩ rfl rfl hl.1 rfl (lv_room (Nat.le_of_ble_eq_true rfl)) dX14_instruction_241 ⟨Nat.le_of_ble_eq_true rfl, Nat.le_of_ble_eq_true rfl⟩) hR.sS (fun q _ h => hFc q h) hFc (fun q _ h => hFc q h) (fun E9 ce9 q9 u9 t9 H1 locs ht9 hvm9 hp9 hB9 hz9 hk9 hS hce9 hcv9 hcl9 => ?_) (fun  S134 t9 H1 locs ht9 hvm9 hw9 hB9 hz9 hk9 hS => ?_)
                        · obtain ⟨hp9, hwx, hsx⟩ := hp9
                          obtain ⟨rfl, hBx⟩ := hB9
                          replace h := h.2 u9 hp9
                          have hR : Rep g ad A s u9 H1 locs := hR.call ht9 hBx hwx hS hFc
                          have hsh := hsh.tr hsx
                          exact vx_out (E := RJxb5711) (q := q9) (fun x h9 => (hnt x h9).elim) hlocks hce9 hcv9 hcl9 (fun t9 ht9 ha9 => ⟨u9, ⟨h, hR.w, hsh⟩, ⟨rfl, by rw [ht9]; exact hR.P, hR.D⟩, hR.sS.F ht9⟩) hR.sS.2.2 (Nat.le_of_ble_eq_true rfl) (Nat.le_of_ble_eq_true rfl)
                        · obtain ⟨hq135, hw9, hs9⟩ := hw9
                          have hR : Rep g ad A s S134 H1 locs := hR.call ht9 hB9 hw9 hS hFc
                          have hsh := hsh.tr hs9
                          replace h := h.1  S134 hq135
                          clear hB9 hz9 hk9 hvm9 ht9 hw9 hs9 hS
                          generalize H1 = H at hR ⊢
                          refine lv_goto (tgt := 583) hx hb dX14_instruction_244 (by decide) ?_
                          exact vx_ret (W.vret hx hb hr (fun t9 ht9 hW9 => ⟨⟨S134, rfl, ⟨h, hR.w, hsh⟩, ⟨by rw [ht9]; exact hR.P, hR.D⟩⟩, hR.sS.F ht9⟩) hR.sS.2.2 dX14_instruction_583)
                  refine lv_icmp_lt (tgt := 221) hx hb dX14_instruction_185 (by decide) (fun c136 => ?_) (fun c136 => ?_)
                  · replace h := h.1 (k_lt rfl (by decide) c136)
                    exact J_221 U30 v30_1 v30_2 _ _ ls h  hsh hR (lv_sub hl [0, 1, 2] rfl)
                  · replace h := h.2 (k_nlt rfl (by decide) c136)
                    refine lv_iload_n hx hb dX14_instruction_188 rfl (lv_at hl 2 rfl) ?_
                    refine lv_bipush (v := 33) hx hb dX14_instruction_189 (by decide) ?_
                    refine lv_icmp_gt (tgt := 221) hx hb dX14_instruction_191 (by decide) (fun c137 => ?_) (fun c137 => ?_)
                    · replace h := h.1 (k_lt (by decide) rfl c137)
                      exact J_221 U30 v30_1 v30_2 _ _ ls h  hsh hR (lv_sub hl [0, 1, 2] rfl)
                    · replace h := h.2 (k_nlt (by decide) rfl c137)
                      refine lv_aload_n hx hb dX14_instruction_194 rfl (lv_at hl 0 rfl) ?_
                      refine lv_iload_n hx hb dX14_instruction_195 rfl (lv_at hl 1 rfl) ?_
                      refine lv_iload_n hx hb dX14_instruction_196 rfl (lv_at hl 2 rfl) ?_
                      refine lv_bipush (v := 30) hx hb dX14_instruction_197 (by decide) ?_
                      have J_209 : ∀ (U209 : MS) (t209_0 : Int32) (t209_1 : Int32) (v209_2 : Int32) (H : Heap) (locs : List Loc) (ls : Array Slot), w_instruction_J209 Q E U209 t209_0 t209_1 v209_2 → shy S U209 → Rep g ad A s U209 H locs → lv_has ls 3 [(2, .int v209_2)] → W p l e (headSpec (wt2 yX14_instruction cX14_instruction 3 none) ({ frames := 5, cells := 0, slots := 0, locals := 116 })).room s m ([.ref (ad 0), .int x1] : List Value).toArray below meth c H locs 0 0 (vx_MQ below (va_Qv (fun (u : MS) => Q u ∧ wfM u ∧ shy S u) (fun (u : MS) (t : State) => qE g ad A u t) A) ((vx_X (fun (u : MS) => E u ∧ wfM u ∧ shy S u) (fun (n9 : String) (u : MS) (t : State) => n9 = RJxb5711 ∧ qE g ad A u t) A)) ([.ref (ad 0), .int x1] : List Value).toArray s 0 0 A) (F0 m 209 ls [.int t209_0, .int t209_1, .ref (ad 0)]) := by
                        intro U209 t209_0 t209_1 v209_2 H locs ls h hsh hR hl
                        unfold w_instruction_J209 at h
                        refine lv_iload_n hx hb dX14_instruction_209 rfl (lv_at hl 0 rfl) ?_
                        refine lv_bipush (v := 26) hx hb dX14_instruction_210 (by decide) ?_
                        refine lv_isub hx hb dX14_instruction_212 ?_
                        refine lv_topi (fun z138 ez138 => ?_)
                        obtain rfl : z138 = (v209_2 - (26 : Int32)) := ez138
                        refine lv_iconst (v := 4) hx hb dX14_instruction_213 (by decide) ?_
                        refine lv_irem hx hb dX14_instruction_214 (by decide) ?_
                        refine lv_topi (fun z139 ez139 => ?_)
                        obtain rfl : z139 = ((v209_2 - (26 : Int32)) - (v209_2 - (26 : Int32)) / (4 : Int32) * (4 : Int32)) := ez139
                        obtain ⟨Q140, EQ140, h0, h⟩ := h
                        have hFc := rfree hR hA
                        refine vx_callv (vx_runV (As := [.int t209_1, .int t209_0, .int ((v209_2 - (26 : Int32)) - (v209_2 - (26 : Int32)) / (4 : Int32) * (4 : Int32))]) (rest := []) ⟨hx, hb, hml, hown, hts⟩ (r_localRow l g ad H.size U209 t209_1 t209_0 ((v209_2 - (26 : Int32)) - (v209_2 - (26 : Int32)) / (4 : Int32) * (4 : Int32)) hR.w  Q140 EQ140 h0) (cwV 3 hts (gd2_V kx_317 kx_318 kx_319 kx_177 kx_320) rfl rfl rfl (by decide +kernel) ⟨Nat.le_of_ble_eq_true rfl, Nat.le_of_ble_eq_true rfl⟩) ⟨rblind, va_recv hR.K hR.P (ci := 13) (q0 := 0) rfl (hR.at14 hR.w.1), fun U hU hW9 => rmk hU hW9 hR hex hE hFc⟩ rfl rfl hl.1 rfl (lv_room (Nat.le_of_ble_eq_true rfl)) dX14_instruction_215 ⟨Nat.le_of_ble_eq_true rfl, Nat.le_of_ble_eq_true rfl⟩) hR.sS (fun q _ h => hFc q h) hFc (fun q _ h => hFc q h) (fun E9 ce9 q9 u9 t9 H1 locs ht9 hvm9 hp9 hB9 hz9 hk9 hS hce9 hcv9 hcl9 => ?_) (fun  S141 t9 H1 locs ht9 hvm9 hw9 hB9 hz9 hk9 hS => ?_)
                        · obtain ⟨hp9, hwx, hsx⟩ := hp9
                          obtain ⟨rfl, hBx⟩ := hB9
                          replace h := h.2 u9 hp9
                          have hR : Rep g ad A s u9 H1 locs := hR.call ht9 hBx hwx hS hFc
                          have hsh := hsh.tr hsx
                          exact vx_out (E := RJxb5711) (q := q9) (fun x h9 => (hnt x h9).elim) hlocks hce9 hcv9 hcl9 (fun t9 ht9 ha9 => ⟨u9, ⟨h, hR.w, hsh⟩, ⟨rfl, by rw [ht9]; exact hR.P, hR.D⟩, hR.sS.F ht9⟩) hR.sS.2.2 (Nat.le_of_ble_eq_true rfl) (Nat.le_of_ble_eq_true rfl)
                        · obtain ⟨hq142, hw9, hs9⟩ := hw9
                          have hR : Rep g ad A s S141 H1 locs := hR.call ht9 hB9 hw9 hS hFc
                          have hsh := hsh.tr hs9
                          replace h := h.1  S141 hq142
                          clear hB9 hz9 hk9 hvm9 ht9 hw9 hs9 hS
                          generalize H1 = H at hR ⊢
                          refine lv_goto (tgt := 583) hx hb dX14_instruction_218 (by decide) ?_
                          exact vx_ret (W.vret hx hb hr (fun t9 ht9 hW9 => ⟨⟨S141, rfl, ⟨h, hR.w, hsh⟩, ⟨by rw [ht9]; exact hR.P, hR.D⟩⟩, hR.sS.F ht9⟩) hR.sS.2.2 dX14_instruction_583)
                      refine lv_icmp_ge (tgt := 207) hx hb dX14_instruction_199 (by decide) (fun c143 => ?_) (fun c143 => ?_)
                      · replace h := h.1 (k_le (by decide) rfl c143)
                        refine lv_bipush (v := 22) hx hb dX14_instruction_207 (by decide) ?_
                        exact J_209 U30 22 v30_1 v30_2 _ _ ls h  hsh hR (lv_sub hl [2] rfl)
                      · replace h := h.2 (k_nle (by decide) rfl c143)
                        refine lv_bipush (v := 21) hx hb dX14_instruction_202 (by decide) ?_
                        refine lv_goto (tgt := 209) hx hb dX14_instruction_204 (by decide) ?_
                        exact J_209 U30 21 v30_1 v30_2 _ _ ls h  hsh hR (lv_sub hl [2] rfl)
                · replace h := h.1 (k_eq rfl (by decide) c28)
                  refine lv_aload_n hx hb dX14_instruction_162 rfl (lv_at hl 0 rfl) ?_
                  refine lv_iload_n hx hb dX14_instruction_163 rfl (lv_at hl 1 rfl) ?_
                  refine lv_aload_n hx hb dX14_instruction_164 rfl (lv_at hl 0 rfl) ?_
                  refine lv_iload_n hx hb dX14_instruction_165 rfl (lv_at hl 1 rfl) ?_
                  refine lv_iconst (v := 1) hx hb dX14_instruction_166 (by decide) ?_
                  refine lv_iadd hx hb dX14_instruction_167 ?_
                  refine lv_topi (fun z144 ez144 => ?_)
                  obtain rfl : z144 = (v30_1 + (1 : Int32)) := ez144
                  obtain ⟨hv145, h⟩ := h
                  have hFc := rfree hR hA
                  refine va_calli (va_runV (As := [.int (v30_1 + (1 : Int32))]) (rest := [.int v30_1, .ref (ad 0)]) ⟨hx, hb, hml, hown, hts⟩ (r_codeTwo l g ad H.size U30 (v30_1 + (1 : Int32)) hR.w  hv145) (cwV 1 hts (gd2_V kx_312 kx_313 kx_314 kx_177 kx_315) rfl rfl rfl (by decide +kernel) ⟨Nat.le_of_ble_eq_true rfl, Nat.le_of_ble_eq_true rfl⟩) ⟨rblind, va_recv hR.K hR.P (ci := 13) (q0 := 0) rfl (hR.at14 hR.w.1), fun U hU hW9 => rmk hU hW9 hR hex hE hFc⟩ rfl rfl hl.1 rfl (lv_room (Nat.le_of_ble_eq_true rfl)) dX14_instruction_168 ⟨Nat.le_of_ble_eq_true rfl, Nat.le_of_ble_eq_true rfl⟩) hR.sS (fun q _ h => hFc q h) hFc (fun r146 u9 t9 H1 locs ht9 hvm9 hw9 hB9 hz9 hk9 hS => ?_)
                  have hR : Rep g ad A s U30 H1 locs := hR.call ht9 hB9 hR.w hS hFc
                  obtain rfl : r146 = (f_codeTwo U30 (v30_1 + (1 : Int32))) := hw9
                  clear hB9 hz9 hk9 hvm9 ht9 hS
                  generalize H1 = H at hR ⊢
                  refine lv_ldcw hx hb hown (hts _ kx_316) dX14_instruction_171 ?_
                  refine lv_iand hx hb dX14_instruction_174 ?_
                  refine lv_topi (fun z148 ez148 => ?_)
                  obtain rfl : z148 = ((f_codeTwo U30 (v30_1 + (1 : Int32))) &&& (65535 : Int32)) := ez148
                  refine lv_iconst (v := 5) hx hb dX14_instruction_175 (by decide) ?_
                  obtain ⟨Q149, EQ149, h0, h⟩ := h
                  have hFc := rfree hR hA
                  refine vx_callv (vx_runV (As := [.int v30_1, .int ((f_codeTwo U30 (v30_1 + (1 : Int32))) &&& (65535 : Int32)), .int 5]) (rest := []) ⟨hx, hb, hml, hown, hts⟩ (r_pushed l g ad H.size U30 v30_1 ((f_codeTwo U30 (v30_1 + (1 : Int32))) &&& (65535 : Int32)) (5 : Int32) hR.w  Q149 EQ149 h0) (cwV 3 hts (gd2_V kx_861 kx_862 kx_863 kx_177 kx_864) rfl rfl rfl (by decide +kernel) ⟨Nat.le_of_ble_eq_true rfl, Nat.le_of_ble_eq_true rfl⟩) ⟨rblind, va_recv hR.K hR.P (ci := 13) (q0 := 0) rfl (hR.at14 hR.w.1), fun U hU hW9 => rmk hU hW9 hR hex hE hFc⟩ rfl rfl hl.1 rfl (lv_room (Nat.le_of_ble_eq_true rfl)) dX14_instruction_176 ⟨Nat.le_of_ble_eq_true rfl, Nat.le_of_ble_eq_true rfl⟩) hR.sS (fun q _ h => hFc q h) hFc (fun q _ h => hFc q h) (fun E9 ce9 q9 u9 t9 H1 locs ht9 hvm9 hp9 hB9 hz9 hk9 hS hce9 hcv9 hcl9 => ?_) (fun  S150 t9 H1 locs ht9 hvm9 hw9 hB9 hz9 hk9 hS => ?_)
                  · obtain ⟨hp9, hwx, hsx⟩ := hp9
                    obtain ⟨rfl, hBx⟩ := hB9
                    replace h := h.2 u9 hp9
                    have hR : Rep g ad A s u9 H1 locs := hR.call ht9 hBx hwx hS hFc
                    have hsh := hsh.tr hsx
                    exact vx_out (E := RJxb5711) (q := q9) (fun x h9 => (hnt x h9).elim) hlocks hce9 hcv9 hcl9 (fun t9 ht9 ha9 => ⟨u9, ⟨h, hR.w, hsh⟩, ⟨rfl, by rw [ht9]; exact hR.P, hR.D⟩, hR.sS.F ht9⟩) hR.sS.2.2 (Nat.le_of_ble_eq_true rfl) (Nat.le_of_ble_eq_true rfl)
                  · obtain ⟨hq151, hw9, hs9⟩ := hw9
                    have hR : Rep g ad A s S150 H1 locs := hR.call ht9 hB9 hw9 hS hFc
                    have hsh := hsh.tr hs9
                    replace h := h.1  S150 hq151
                    clear hB9 hz9 hk9 hvm9 ht9 hw9 hs9 hS
                    generalize H1 = H at hR ⊢
                    refine lv_goto (tgt := 583) hx hb dX14_instruction_179 (by decide) ?_
                    exact vx_ret (W.vret hx hb hr (fun t9 ht9 hW9 => ⟨⟨S150, rfl, ⟨h, hR.w, hsh⟩, ⟨by rw [ht9]; exact hR.P, hR.D⟩⟩, hR.sS.F ht9⟩) hR.sS.2.2 dX14_instruction_583)
              · replace h := h.1 (k_eq rfl (by decide) c27)
                exact J_120 U30 v30_1 v30_2 _ _ ls h  hsh hR (lv_sub hl [0, 1, 2] rfl)
          · replace h := h.1 (k_eq rfl (by decide) c12)
            refine lv_aload_n hx hb dX14_instruction_91 rfl (lv_at hl 0 rfl) ?_
            refine lv_bipush (v := 18) hx hb dX14_instruction_92 (by decide) ?_
            refine lv_aload_n hx hb dX14_instruction_94 rfl (lv_at hl 0 rfl) ?_
            refine lv_iload_n hx hb dX14_instruction_95 rfl (lv_at hl 1 rfl) ?_
            refine lv_iconst (v := 1) hx hb dX14_instruction_96 (by decide) ?_
            refine lv_iadd hx hb dX14_instruction_97 ?_
            refine lv_topi (fun z152 ez152 => ?_)
            obtain rfl : z152 = (v30_1 + (1 : Int32)) := ez152
            obtain ⟨hv153, h⟩ := h
            have hFc := rfree hR hA
            refine va_calli (va_runV (As := [.int (v30_1 + (1 : Int32))]) (rest := [.int 18, .ref (ad 0)]) ⟨hx, hb, hml, hown, hts⟩ (r_codeTwo l g ad H.size U30 (v30_1 + (1 : Int32)) hR.w  hv153) (cwV 1 hts (gd2_V kx_312 kx_313 kx_314 kx_177 kx_315) rfl rfl rfl (by decide +kernel) ⟨Nat.le_of_ble_eq_true rfl, Nat.le_of_ble_eq_true rfl⟩) ⟨rblind, va_recv hR.K hR.P (ci := 13) (q0 := 0) rfl (hR.at14 hR.w.1), fun U hU hW9 => rmk hU hW9 hR hex hE hFc⟩ rfl rfl hl.1 rfl (lv_room (Nat.le_of_ble_eq_true rfl)) dX14_instruction_98 ⟨Nat.le_of_ble_eq_true rfl, Nat.le_of_ble_eq_true rfl⟩) hR.sS (fun q _ h => hFc q h) hFc (fun r154 u9 t9 H1 locs ht9 hvm9 hw9 hB9 hz9 hk9 hS => ?_)
            have hR : Rep g ad A s U30 H1 locs := hR.call ht9 hB9 hR.w hS hFc
            obtain rfl : r154 = (f_codeTwo U30 (v30_1 + (1 : Int32))) := hw9
            clear hB9 hz9 hk9 hvm9 ht9 hS
            generalize H1 = H at hR ⊢
            refine lv_iconst (v := 0) hx hb dX14_instruction_101 (by decide) ?_
            obtain ⟨Q156, h0, h⟩ := h
            have hFc := rfree hR hA
            refine va_callv (va_runV (As := [.int 18, .int (f_codeTwo U30 (v30_1 + (1 : Int32))), .int 0]) (rest := []) ⟨hx, hb, hml, hown, hts⟩ (r_row l g ad H.size U30 (18 : Int32) (f_codeTwo U30 (v30_1 + (1 : Int32))) (0 : Int32) hR.w  Q156 h0) (cwV 3 hts (gd2_V kx_307 kx_308 kx_309 kx_177 kx_310) rfl rfl rfl (by decide +kernel) ⟨Nat.le_of_ble_eq_true rfl, Nat.le_of_ble_eq_true rfl⟩) ⟨rblind, va_recv hR.K hR.P (ci := 13) (q0 := 0) rfl (hR.at14 hR.w.1), fun U hU hW9 => rmk hU hW9 hR hex hE hFc⟩ rfl rfl hl.1 rfl (lv_room (Nat.le_of_ble_eq_true rfl)) dX14_instruction_102 ⟨Nat.le_of_ble_eq_true rfl, Nat.le_of_ble_eq_true rfl⟩) hR.sS (fun q _ h => hFc q h) hFc (fun  S157 t9 H1 locs ht9 hvm9 hw9 hB9 hz9 hk9 hS => ?_)
            obtain ⟨hq158, hw9, hs9⟩ := hw9
            have hR : Rep g ad A s S157 H1 locs := hR.call ht9 hB9 hw9 hS hFc
            have hsh := hsh.tr hs9
            replace h := h  S157 hq158
            clear hB9 hz9 hk9 hvm9 ht9 hw9 hs9 hS
            generalize H1 = H at hR ⊢
            refine lv_goto (tgt := 583) hx hb dX14_instruction_105 (by decide) ?_
            exact vx_ret (W.vret hx hb hr (fun t9 ht9 hW9 => ⟨⟨S157, rfl, ⟨h, hR.w, hsh⟩, ⟨by rw [ht9]; exact hR.P, hR.D⟩⟩, hR.sS.F ht9⟩) hR.sS.2.2 dX14_instruction_583)
        · replace h := h.1 (k_eq rfl (by decide) c11)
          refine lv_aload_n hx hb dX14_instruction_62 rfl (lv_at hl 0 rfl) ?_
          refine lv_bipush (v := 18) hx hb dX14_instruction_63 (by decide) ?_
          refine lv_aload_n hx hb dX14_instruction_65 rfl (lv_at hl 0 rfl) ?_
          obtain ⟨hv159, h⟩ := h
          have hT_b160 : qT U30 (qO U30 0 11) = 1 := hR.w.ref hv159 hR.w.1
          refine va_get (D := rD g) (ci := 13) (v := .ref (ad (qO U30 0 11))) (C := RX14) (T := TX14) (N := 143) hx hb hts in2X14 hown hR.K hR.P 0 (hR.at14 hR.w.1) rfl 11 (by decide) (hts _ kx_181) (fun _ h9 => h9) (congrArg (fun z => some (vf ad z)) hv159) dX14_instruction_66 ?_
          refine lv_aload_n hx hb dX14_instruction_69 rfl (lv_at hl 0 rfl) ?_
          refine va_get (D := rD g) (ci := 13) (v := .int (qI U30 0 36)) (C := RX14) (T := TX14) (N := 143) hx hb hts in2X14 hown hR.K hR.P 0 (hR.at14 hR.w.1) rfl 36 (by decide) (hts _ kx_273) (fun _ h9 => h9) rfl dX14_instruction_70 ?_
          refine lv_iload_n hx hb dX14_instruction_73 rfl (lv_at hl 1 rfl) ?_
          refine lv_iadd hx hb dX14_instruction_74 ?_
          refine lv_topi (fun z161 ez161 => ?_)
          obtain rfl : z161 = ((qI U30 0 36) + v30_1) := ez161
          refine lv_iconst (v := 1) hx hb dX14_instruction_75 (by decide) ?_
          refine lv_iadd hx hb dX14_instruction_76 ?_
          refine lv_topi (fun z162 ez162 => ?_)
          obtain rfl : z162 = (((qI U30 0 36) + v30_1) + (1 : Int32)) := ez162
          obtain ⟨hv163, h⟩ := h
          refine va_bald hx hb hR.K hR.P (qO U30 0 11) 0 (hR.atB hT_b160) rfl (k_ix (x := (((qI U30 0 36) + v30_1) + (1 : Int32))) (a := (((qI U30 0 36) + v30_1) + (1 : Int32)).toInt) rfl hv163) dX14_instruction_77 ?_
          refine lv_topi (fun z164 ez164 => ?_)
          obtain rfl : z164 = (qI U30 (qO U30 0 11) (((((qI U30 0 36) + v30_1) + (1 : Int32)).toInt).toNat)) := ez164
          refine lv_iconst (v := 0) hx hb dX14_instruction_78 (by decide) ?_
          obtain ⟨Q165, h0, h⟩ := h
          have hFc := rfree hR hA
          refine va_callv (va_runV (As := [.int 18, .int (qI U30 (qO U30 0 11) (((((qI U30 0 36) + v30_1) + (1 : Int32)).toInt).toNat)), .int 0]) (rest := []) ⟨hx, hb, hml, hown, hts⟩ (r_row l g ad H.size U30 (18 : Int32) (qI U30 (qO U30 0 11) (((((qI U30 0 36) + v30_1) + (1 : Int32)).toInt).toNat)) (0 : Int32) hR.w  Q165 h0) (cwV 3 hts (gd2_V kx_307 kx_308 kx_309 kx_177 kx_310) rfl rfl rfl (by decide +kernel) ⟨Nat.le_of_ble_eq_true rfl, Nat.le_of_ble_eq_true rfl⟩) ⟨rblind, va_recv hR.K hR.P (ci := 13) (q0 := 0) rfl (hR.at14 hR.w.1), fun U hU hW9 => rmk hU hW9 hR hex hE hFc⟩ rfl rfl hl.1 rfl (lv_room (Nat.le_of_ble_eq_true rfl)) dX14_instruction_79 ⟨Nat.le_of_ble_eq_true rfl, Nat.le_of_ble_eq_true rfl⟩) hR.sS (fun q _ h => hFc q h) hFc (fun  S166 t9 H1 locs ht9 hvm9 hw9 hB9 hz9 hk9 hS => ?_)
          obtain ⟨hq167, hw9, hs9⟩ := hw9
          have hR : Rep g ad A s S166 H1 locs := hR.call ht9 hB9 hw9 hS hFc
          have hsh := hsh.tr hs9
          replace h := h  S166 hq167
          clear hB9 hz9 hk9 hvm9 ht9 hw9 hs9 hS
          generalize H1 = H at hR ⊢
          refine lv_goto (tgt := 583) hx hb dX14_instruction_82 (by decide) ?_
          exact vx_ret (W.vret hx hb hr (fun t9 ht9 hW9 => ⟨⟨S166, rfl, ⟨h, hR.w, hsh⟩, ⟨by rw [ht9]; exact hR.P, hR.D⟩⟩, hR.sS.F ht9⟩) hR.sS.2.2 dX14_instruction_583)
      · replace h := h.1 (k_eq rfl (by decide) c10)
        exact J_42 U30 v30_2 _ _ ls h  hsh hR (lv_sub hl [0, 2] rfl)
  refine lv_icmp_lt (tgt := 30) hx hb dX14_instruction_8 (by decide) (fun c168 => ?_) (fun c168 => ?_)
  · replace h := h.1 (k_lt rfl (by decide) c168)
    exact J_30 S x1 a4 _ _ ls h  hsh hR (lv_sub hl [1, 2, 0] rfl)
  · replace h := h.2 (k_nlt rfl (by decide) c168)
    refine lv_iload_n hx hb dX14_instruction_11 rfl (lv_at hl 0 rfl) ?_
    refine lv_bipush (v := 8) hx hb dX14_instruction_12 (by decide) ?_
    refine lv_icmp_gt (tgt := 30) hx hb dX14_instruction_14 (by decide) (fun c169 => ?_) (fun c169 => ?_)
    · replace h := h.1 (k_lt (by decide) rfl c169)
      exact J_30 S x1 a4 _ _ ls h  hsh hR (lv_sub hl [1, 2, 0] rfl)
    · replace h := h.2 (k_nlt (by decide) rfl c169)
      refine lv_aload_n hx hb dX14_instruction_17 rfl (lv_at hl 1 rfl) ?_
      refine lv_bipush (v := 18) hx hb dX14_instruction_18 (by decide) ?_
      refine lv_iload_n hx hb dX14_instruction_20 rfl (lv_at hl 0 rfl) ?_
      refine lv_iconst (v := 3) hx hb dX14_instruction_21 (by decide) ?_
      refine lv_isub hx hb dX14_instruction_22 ?_
      refine lv_topi (fun z170 ez170 => ?_)
      obtain rfl : z170 = (a4 - (3 : Int32)) := ez170
      refine lv_iconst (v := 0) hx hb dX14_instruction_23 (by decide) ?_
      obtain ⟨Q171, h0, h⟩ := h
      have hFc := rfree hR hA
      refine va_callv (va_runV (As := [.int 18, .int (a4 - (3 : Int32)), .int 0]) (rest := []) ⟨hx, hb, hml, hown, hts⟩ (r_row l g ad H.size S (18 : Int32) (a4 - (3 : Int32)) (0 : Int32) hR.w  Q171 h0) (cwV 3 hts (gd2_V kx_307 kx_308 kx_309 kx_177 kx_310) rfl rfl rfl (by decide +kernel) ⟨Nat.le_of_ble_eq_true rfl, Nat.le_of_ble_eq_true rfl⟩) ⟨rblind, va_recv hR.K hR.P (ci := 13) (q0 := 0) rfl (hR.at14 hR.w.1), fun U hU hW9 => rmk hU hW9 hR hex hE hFc⟩ rfl rfl hl.1 rfl (lv_room (Nat.le_of_ble_eq_true rfl)) dX14_instruction_24 ⟨Nat.le_of_ble_eq_true rfl, Nat.le_of_ble_eq_true rfl⟩) hR.sS (fun q _ h => hFc q h) hFc (fun  S172 t9 H1 locs ht9 hvm9 hw9 hB9 hz9 hk9 hS => ?_)
      obtain ⟨hq173, hw9, hs9⟩ := hw9
      have hR : Rep g ad A s S172 H1 locs := hR.call ht9 hB9 hw9 hS hFc
      have hsh := hsh.tr hs9
      replace h := h  S172 hq173
      clear hB9 hz9 hk9 hvm9 ht9 hw9 hs9 hS
      generalize H1 = H at hR ⊢
      refine lv_goto (tgt := 583) hx hb dX14_instruction_27 (by decide) ?_
      exact vx_ret (W.vret hx hb hr (fun t9 ht9 hW9 => ⟨⟨S172, rfl, ⟨h, hR.w, hsh⟩, ⟨by rw [ht9]; exact hR.P, hR.D⟩⟩, hR.sS.F ht9⟩) hR.sS.2.2 dX14_instruction_583)
def w_caught_J161 (Q : MS → Prop) (E : MS → Prop) (U161 : MS) (v161_2 : Int32) (v161_3 : Int32) (v161_4 : Int32) (v161_6 : Int32) : Prop := (((0 : Int) ≤ v161_2.toInt ∧ v161_2.toInt < 1201) ∧ (((0 : Int) ≤ ((4 : Int32) * (qI U161 0 45)).toInt ∧ ((4 : Int32) * (qI U161 0 45)).toInt < 1536) ∧ (∀ S30, S30 = wI U161 21 ((((4 : Int32) * (qI U161 0 45)).toInt).toNat) (qI U161 18 v161_2.toInt.toNat) → (((0 : Int) ≤ v161_3.toInt ∧ v161_3.toInt < 1201) ∧ (((0 : Int) ≤ (((4 : Int32) * (qI S30 0 45)) + (1 : Int32)).toInt ∧ (((4 : Int32) * (qI S30 0 45)) + (1 : Int32)).toInt < 1536) ∧ (∀ S36, S36 = wI S30 21 (((((4 : Int32) * (qI S30 0 45)) + (1 : Int32)).toInt).toNat) (qI S30 18 v161_3.toInt.toNat) → (((0 : Int) ≤ v161_4.toInt ∧ v161_4.toInt < 1201) ∧ (((0 : Int) ≤ (((4 : Int32) * (qI S36 0 45)) + (2 : Int32)).toInt ∧ (((4 : Int32) * (qI S36 0 45)) + (2 : Int32)).toInt < 1536) ∧ (∀ S42, S42 = wI S36 21 (((((4 : Int32) * (qI S36 0 45)) + (2 : Int32)).toInt).toNat) (qI S36 18 v161_4.toInt.toNat) → (((0 : Int) ≤ (((4 : Int32) * (qI S42 0 45)) + (3 : Int32)).toInt ∧ (((4 : Int32) * (qI S42 0 45)) + (3 : Int32)).toInt < 1536) ∧ (∀ S46, S46 = wI S42 21 (((((4 : Int32) * (qI S42 0 45)) + (3 : Int32)).toInt).toNat) v161_6 → (∀ S48, S48 = wI S46 0 45 ((qI S46 0 45) + (1 : Int32)) → Q S48))))))))))))
def w_caught_J155 (Q : MS → Prop) (E : MS → Prop) (U155 : MS) (t155_0 : Int32) (v155_1 : Int32) (v155_2 : Int32) (v155_3 : Int32) (v155_4 : Int32) (v155_6 : Int32) : Prop := (∃ Q57 EQ57, w_must U155 t155_0 (16 : Int32) v155_1 Q57 EQ57 ∧ (∀ S58, Q57 S58 → w_caught_J161 Q E S58 v155_2 v155_3 v155_4 v155_6) ∧ (∀ u9, EQ57 u9 → E u9))
def w_caught_J138 (Q : MS → Prop) (E : MS → Prop) (k109 : MS → Int32 → Int32 → Int32 → Int32 → Int32 → Int32 → Int32 → Prop) (U138 : MS) (v138_1 : Int32) (v138_2 : Int32) (v138_3 : Int32) (v138_4 : Int32) (v138_5 : Int32) (v138_6 : Int32) (v138_7 : Int32) : Prop := (∀ a70 : Int32, a70 = (v138_7 + Int32.ofInt 1) → k109 U138 v138_1 v138_2 v138_3 v138_4 v138_5 v138_6 a70)
def w_caught_L109 (Q : MS → Prop) (E : MS → Prop) : Nat → MS → Int32 → Int32 → Int32 → Int32 → Int32 → Int32 → Int32 → Prop
  | 0, _, _, _, _, _, _, _, _ => False
  | n109 + 1, U109, v109_1, v109_2, v109_3, v109_4, v109_5, v109_6, v109_7 => ((4 ≤ v109_7.toInt → ((v109_6.toInt < 0 → w_caught_J155 Q E U109 0 v109_1 v109_2 v109_3 v109_4 v109_6) ∧ (¬ v109_6.toInt < 0 → w_caught_J155 Q E U109 1 v109_1 v109_2 v109_3 v109_4 v109_6))) ∧ (¬ 4 ≤ v109_7.toInt → (((0 : Int) ≤ v109_5.toInt ∧ v109_5.toInt < 502) ∧ (d_errorName U109 v109_7 ∧ (∃ Q66, w_isText U109 (qI U109 6 v109_5.toInt.toNat) (f_errorName U109 v109_7) Q66 ∧ ∀ r67 S68, Q66 r67 S68 → ((r67.toInt = 0 → w_caught_J138 Q E (w_caught_L109 Q E n109) S68 v109_1 v109_2 v109_3 v109_4 v109_5 v109_6 v109_7) ∧ (¬ r67.toInt = 0 → w_caught_J138 Q E (w_caught_L109 Q E n109) S68 v109_1 v109_2 v109_3 v109_4 v109_5 v109_7 v109_7)))))))
def w_caught_J77 (Q : MS → Prop) (E : MS → Prop) (U77 : MS) (t77_0 : Int32) (v77_1 : Int32) (v77_2 : Int32) (v77_3 : Int32) (v77_4 : Int32) (v77_5 : Int32) : Prop := (∃ Q23 EQ23, w_must U77 t77_0 (16 : Int32) v77_1 Q23 EQ23 ∧ (∀ S24, Q23 S24 → ((v77_5.toInt ≤ 0 → w_caught_J161 Q E S24 v77_2 v77_3 v77_4 (-1)) ∧ (¬ v77_5.toInt ≤ 0 → (d_isEntry S24 v77_5 (7 : Int32) ∧ (∃ Q53 EQ53, w_must S24 (f_isEntry S24 v77_5 (7 : Int32)) (16 : Int32) v77_1 Q53 EQ53 ∧ (∀ S54, Q53 S54 → (∃ n, w_caught_L109 Q E n S54 v77_1 v77_2 v77_3 v77_4 v77_5 (-1) 0)) ∧ (∀ u9, EQ53 u9 → E u9)))))) ∧ (∀ u9, EQ23 u9 → E u9))
def w_caught_J76 (Q : MS → Prop) (E : MS → Prop) (U76 : MS) (v76_1 : Int32) (v76_2 : Int32) (v76_3 : Int32) (v76_4 : Int32) (v76_5 : Int32) : Prop := w_caught_J77 Q E U76 0 v76_1 v76_2 v76_3 v76_4 v76_5
def w_caught_J58 (Q : MS → Prop) (E : MS → Prop) (U58 : MS) (v58_1 : Int32) (v58_2 : Int32) (v58_3 : Int32) (v58_4 : Int32) (v58_5 : Int32) : Prop := (d_isStart U58 v58_4 ∧ (((f_isStart U58 v58_4).toInt = 0 → w_caught_J76 Q E U58 v58_1 v58_2 v58_3 v58_4 v58_5) ∧ (¬ (f_isStart U58 v58_4).toInt = 0 → ((v58_3.toInt ≤ v58_2.toInt → w_caught_J76 Q E U58 v58_1 v58_2 v58_3 v58_4 v58_5) ∧ (¬ v58_3.toInt ≤ v58_2.toInt → w_caught_J77 Q E U58 1 v58_1 v58_2 v58_3 v58_4 v58_5)))))
def w_caught (S : MS) (x1 : Int32) (Q : MS → Prop) (E : MS → Prop) : Prop := (d_two S x1 ∧ (∀ a4 : Int32, a4 = (f_two S x1) → (d_two S (x1 + (2 : Int32)) ∧ (∀ a9 : Int32, a9 = (f_two S (x1 + (2 : Int32))) → (d_two S (x1 + (4 : Int32)) ∧ (∀ a14 : Int32, a14 = (f_two S (x1 + (4 : Int32))) → (d_two S (x1 + (6 : Int32)) ∧ (∀ a19 : Int32, a19 = (f_two S (x1 + (6 : Int32))) → (d_isStart S a4 ∧ (((f_isStart S a4).toInt = 0 → w_caught_J76 Q E S x1 a4 a9 a14 a19) ∧ (¬ (f_isStart S a4).toInt = 0 → ((a9.toInt = (qI S 0 37).toInt → w_caught_J58 Q E S x1 a4 a9 a14 a19) ∧ (¬ a9.toInt = (qI S 0 37).toInt → (d_isStart S a9 ∧ (((f_isStart S a9).toInt = 0 → w_caught_J76 Q E S x1 a4 a9 a14 a19) ∧ (¬ (f_isStart S a9).toInt = 0 → w_caught_J58 Q E S x1 a4 a9 a14 a19))))))))))))))))
set_option maxHeartbeats 2000000 in
set_option maxRecDepth 100000 in
theorem r_caught (l : Launch) (g : Gr) (ad : Nat → Nat) (sz : Nat) (S : MS) (x1 : Int32) (hw : wfM S) (Q : MS → Prop) (E : MS → Prop) (h : w_caught S x1 Q E) : vx_Met l yX14_caught (wt2 yX14_caught cX14_caught 8 none) ({ frames := 5, cells := 0, slots := 0, locals := 108 }) (va_Pc [.ref (ad 0), .int x1] (st_R g ad sz S)) (va_Qv (fun (u : MS) => Q u ∧ wfM u ∧ shy S u) (fun (u : MS) (t : State) => qE g ad (va_A (Wd g ad S) sz) u t) (va_A (Wd g ad S) sz)) (vx_X (fun (u : MS) => E u ∧ wfM u ∧ shy S u) (fun (n9 : String) (u : MS) (t : State) => n9 = RJxb5711 ∧ qE g ad (va_A (Wd g ad S) sz) u t) (va_A (Wd g ad S) sz)) 0 0 (va_A (Wd g ad S) sz) := by
  refine vx_ofW (cc := cX14_caught) (maxL := 8) (ret := none) (by decide) rfl ?_
  intro p e s m args below meth c s₁ B hml hnt hv
  obtain ⟨rfl, hsz, hP, hK, hD0, hex, hE⟩ := hv
  have hx := B.exec
  have hb := B.bytes
  have hr := B.returns
  have hlocks := B.notSynchronized
  have hts0 := atoms_spec (ws := wt2 yX14_caught cX14_caught 8 none) B.pre
  have hts : ∀ w ∈ tb2, w.before _ s = true := fun w h => hts0 w (List.mem_cons_of_mem _ h)
  have hown : s.vm.findClass RX14 = some m.cls := findClass_of_methodNamed B.named
  subst hsz
  have hD := hD0.self (sz := s.heap.size)
  generalize hAe : va_A (Wd g ad S) s.heap.size = A at hD hE ⊢
  have hA : ∀ q : Nat, s.heap.size ≤ q → A q := fun q h => by rw [← hAe]; exact Or.inr h
  have hR : Rep g ad A s S s.heap [] := ⟨hK, hP, hD, va_S.rf, hw⟩
  clear hK hP hD hD0
  have hl := lv_entry ([.ref (ad 0), .int x1]) (n := 8) (Nat.le_of_ble_eq_true rfl)
  rw [lg_entry_eq]
  generalize (lg_sl ([.ref (ad 0), .int x1]) ++ List.replicate (8 - (lg_sl ([.ref (ad 0), .int x1])).length) Slot.unset).toArray = ls at hl ⊢
  have hl : lv_has ls 8 [(0, .ref (ad 0)), (1, .int x1)] := hl
  have hsh : shy S S := shy.rf
  unfold w_caught at h
  refine lv_aload_n hx hb dX14_caught_0 rfl (lv_at hl 0 rfl) ?_
  refine lv_iload_n hx hb dX14_caught_1 rfl (lv_at hl 1 rfl) ?_
  obtain ⟨hv1, h⟩ := h
  have hFc := rfree hR hA
  refine va_calli (va_runV (As := [.int x1]) (rest := []) ⟨hx, hb, hml, hown, hts⟩ (r_two l g ad s.heap.size S x1 hR.w  hv1) (cwV 1 hts (gd2_V kx_186 kx_187 kx_188 kx_177 kx_189) rfl rfl rfl (by decide +kernel) ⟨Nat.le_of_ble_eq_true rfl, Nat.le_of_ble_eq_true rfl⟩) ⟨rblind, va_recv hR.K hR.P (ci := 13) (q0 := 0) rfl (hR.at14 hR.w.1), fun U hU hW9 => rmk hU hW9 hR hex hE hFc⟩ rfl rfl hl.1 rfl (lv_room (Nat.le_of_ble_eq_true rfl)) dX14_caught_2 ⟨Nat.le_of_ble_eq_true rfl, Nat.le_of_ble_eq_true rfl⟩) hR.sS (fun q _ h => hFc q h) hFc (fun r2 u9 t9 H1 locs ht9 hvm9 hw9 hB9 hz9 hk9 hS => ?_)
  have hR : Rep g ad A s S H1 locs := hR.call ht9 hB9 hR.w hS hFc
  obtain rfl : r2 = (f_two S x1) := hw9
  clear hB9 hz9 hk9 hvm9 ht9 hS
  generalize H1 = H at hR ⊢
  obtain ⟨a4, ea4⟩ : ∃ z, z = (f_two S x1) := ⟨_, rfl⟩
  rw [← ea4]
  replace h := h a4 ea4
  refine lv_istore_n (lv' := [(2, .int a4), (0, .ref (ad 0)), (1, .int x1)]) hx hb dX14_caught_5 rfl hl (by decide) rfl (fun ls hl => ?_)
  refine lv_aload_n hx hb dX14_caught_6 rfl (lv_at hl 1 rfl) ?_
  refine lv_iload_n hx hb dX14_caught_7 rfl (lv_at hl 2 rfl) ?_
  refine lv_iconst (v := 2) hx hb dX14_caught_8 (by decide) ?_
  refine lv_iadd hx hb dX14_caught_9 ?_
  refine lv_topi (fun z5 ez5 => ?_)
  obtain rfl : z5 = (x1 + (2 : Int32)) := ez5
  obtain ⟨hv6, h⟩ := h
  have hFc := rfree hR hA
  refine va_calli (va_runV (As := [.int (x1 + (2 : Int32))]) (rest := []) ⟨hx, hb, hml, hown, hts⟩ (r_two l g ad H.size S (x1 + (2 : Int32)) hR.w  hv6) (cwV 1 hts (gd2_V kx_186 kx_187 kx_188 kx_177 kx_189) rfl rfl rfl (by decide +kernel) ⟨Nat.le_of_ble_eq_true rfl, Nat.le_of_ble_eq_true rfl⟩) ⟨rblind, va_recv hR.K hR.P (ci := 13) (q0 := 0) rfl (hR.at14 hR.w.1), fun U hU hW9 => rmk hU hW9 hR hex hE hFc⟩ rfl rfl hl.1 rfl (lv_room (Nat.le_of_ble_eq_true rfl)) dX14_caught_10 ⟨Nat.le_of_ble_eq_true rfl, Nat.le_of_ble_eq_true rfl⟩) hR.sS (fun q _ h => hFc q h) hFc (fun r7 u9 t9 H1 locs ht9 hvm9 hw9 hB9 hz9 hk9 hS => ?_)
  have hR : Rep g ad A s S H1 locs := hR.call ht9 hB9 hR.w hS hFc
  obtain rfl : r7 = (f_two S (x1 + (2 : Int32))) := hw9
  clear hB9 hz9 hk9 hvm9 ht9 hS
  generalize H1 = H at hR ⊢
  obtain ⟨a9, ea9⟩ : ∃ z, z = (f_two S (x1 + (2 : Int32))) := ⟨_, rfl⟩
  rw [← ea9]
  replace h := h a9 ea9
  refine lv_istore_n (lv' := [(3, .int a9), (2, .int a4), (0, .ref (ad 0)), (1, .int x1)]) hx hb dX14_caught_13 rfl hl (by decide) rfl (fun ls hl => ?_)
  refine lv_aload_n hx hb dX14_caught_14 rfl (lv_at hl 2 rfl) ?_
  refine lv_iload_n hx hb dX14_caught_15 rfl (lv_at hl 3 rfl) ?_
  refine lv_iconst (v := 4) hx hb dX14_caught_16 (by decide) ?_
  refine lv_iadd hx hb dX14_caught_17 ?_
  refine lv_topi (fun z10 ez10 => ?_)
  obtain rfl : z10 = (x1 + (4 : Int32)) := ez10
  obtain ⟨hv11, h⟩ := h
  have hFc := rfree hR hA
  refine va_calli (va_runV (As := [.int (x1 + (4 : Int32))]) (rest := []) ⟨hx, hb, hml, hown, hts⟩ (r_two l g ad H.size S (x1 + (4 : Int32)) hR.w  hv11) (cwV 1 hts (gd2_V kx_186 kx_187 kx_188 kx_177 kx_189) rfl rfl rfl (by decide +kernel) ⟨Nat.le_of_ble_eq_true rfl, Nat.le_of_ble_eq_true rfl⟩) ⟨rblind, va_recv hR.K hR.P (ci := 13) (q0 := 0) rfl (hR.at14 hR.w.1), fun U hU hW9 => rmk hU hW9 hR hex hE hFc⟩ rfl rfl hl.1 rfl (lv_room (Nat.le_of_ble_eq_true rfl)) dX14_caught_18 ⟨Nat.le_of_ble_eq_true rfl, Nat.le_of_ble_eq_true rfl⟩) hR.sS (fun q _ h => hFc q h) hFc (fun r12 u9 t9 H1 locs ht9 hvm9 hw9 hB9 hz9 hk9 hS => ?_)
  have hR : Rep g ad A s S H1 locs := hR.call ht9 hB9 hR.w hS hFc
  obtain rfl : r12 = (f_two S (x1 + (4 : Int32))) := hw9
  clear hB9 hz9 hk9 hvm9 ht9 hS
  generalize H1 = H at hR ⊢
  obtain ⟨a14, ea14⟩ : ∃ z, z = (f_two S (x1 + (4 : Int32))) := ⟨_, rfl⟩
  rw [← ea14]
  replace h := h a14 ea14
  refine lv_istore (lv' := [(4, .int a14), (3, .int a9), (2, .int a4), (0, .ref (ad 0)), (1, .int x1)]) hx hb dX14_caught_21 hl (by decide) rfl (fun ls hl => ?_)
  refine lv_aload_n hx hb dX14_caught_23 rfl (lv_at hl 3 rfl) ?_
  refine lv_iload_n hx hb dX14_caught_24 rfl (lv_at hl 4 rfl) ?_
  refine lv_bipush (v := 6) hx hb dX14_caught_25 (by decide) ?_
  refine lv_iadd hx hb dX14_caught_27 ?_
  refine lv_topi (fun z15 ez15 => ?_)
  obtain rfl : z15 = (x1 + (6 : Int32)) := ez15
  obtain ⟨hv16, h⟩ := h
  have hFc := rfree hR hA
  refine va_calli (va_runV (As := [.int (x1 + (6 : Int32))]) (rest := []) ⟨hx, hb, hml, hown, hts⟩ (r_two l g ad H.size S (x1 + (6 : Int32)) hR.w  hv16) (cwV 1 hts (gd2_V kx_186 kx_187 kx_188 kx_177 kx_189) rfl rfl rfl (by decide +kernel) ⟨Nat.le_of_ble_eq_true rfl, Nat.le_of_ble_eq_true rfl⟩) ⟨rblind, va_recv hR.K hR.P (ci := 13) (q0 := 0) rfl (hR.at14 hR.w.1), fun U hU hW9 => rmk hU hW9 hR hex hE hFc⟩ rfl rfl hl.1 rfl (lv_room (Nat.le_of_ble_eq_true rfl)) dX14_caught_28 ⟨Nat.le_of_ble_eq_true rfl, Nat.le_of_ble_eq_true rfl⟩) hR.sS (fun q _ h => hFc q h) hFc (fun r17 u9 t9 H1 locs ht9 hvm9 hw9 hB9 hz9 hk9 hS => ?_)
  have hR : Rep g ad A s S H1 locs := hR.call ht9 hB9 hR.w hS hFc
  obtain rfl : r17 = (f_two S (x1 + (6 : Int32))) := hw9
  clear hB9 hz9 hk9 hvm9 ht9 hS
  generalize H1 = H at hR ⊢
  obtain ⟨a19, ea19⟩ : ∃ z, z = (f_two S (x1 + (6 : Int32))) := ⟨_, rfl⟩
  rw [← ea19]
  replace h := h a19 ea19
  refine lv_istore (lv' := [(5, .int a19), (4, .int a14), (3, .int a9), (2, .int a4), (0, .ref (ad 0)), (1, .int x1)]) hx hb dX14_caught_31 hl (by decide) rfl (fun ls hl => ?_)
  refine lv_aload_n hx hb dX14_caught_33 rfl (lv_at hl 4 rfl) ?_
  refine lv_aload_n hx hb dX14_caught_34 rfl (lv_at hl 4 rfl) ?_
  refine lv_iload_n hx hb dX14_caught_35 rfl (lv_at hl 3 rfl) ?_
  obtain ⟨hv20, h⟩ := h
  have hFc := rfree hR hA
  refine va_calli (va_runV (As := [.int a4]) (rest := [.ref (ad 0)]) ⟨hx, hb, hml, hown, hts⟩ (r_isStart l g ad H.size S a4 hR.w  hv20) (cwV 1 hts (gd2_V kx_298 kx_299 kx_300 kx_177 kx_301) rfl rfl rfl (by decide +kernel) ⟨Nat.le_of_ble_eq_true rfl, Nat.le_of_ble_eq_true rfl⟩) ⟨rblind, va_recv hR.K hR.P (ci := 13) (q0 := 0) rfl (hR.at14 hR.w.1), fun U hU hW9 => rmk hU hW9 hR hex hE hFc⟩ rfl rfl hl.1 rfl (lv_room (Nat.le_of_ble_eq_true rfl)) dX14_caught_36 ⟨Nat.le_of_ble_eq_true rfl, Nat.le_of_ble_eq_true rfl⟩) hR.sS (fun q _ h => hFc q h) hFc (fun r21 u9 t9 H1 locs ht9 hvm9 hw9 hB9 hz9 hk9 hS => ?_)
  have hR : Rep g ad A s S H1 locs := hR.call ht9 hB9 hR.w hS hFc
  obtain ⟨rfl, hz_r21⟩ := hw9
  clear hB9 hz9 hk9 hvm9 ht9 hS
  generalize H1 = H at hR ⊢
  have J_77 : ∀ (U77 : MS) (t77_0 : Int32) (v77_1 : Int32) (v77_2 : Int32) (v77_3 : Int32) (v77_4 : Int32) (v77_5 : Int32) (H : Heap) (locs : List Loc) (ls : Array Slot), w_caught_J77 Q E U77 t77_0 v77_1 v77_2 v77_3 v77_4 v77_5 → (t77_0 = 0 ∨ t77_0 = 1) → shy S U77 → Rep g ad A s U77 H locs → lv_has ls 8 [(0, .ref (ad 0)), (1, .int v77_1), (2, .int v77_2), (3, .int v77_3), (4, .int v77_4), (5, .int v77_5)] → W p l e (headSpec (wt2 yX14_caught cX14_caught 8 none) ({ frames := 5, cells := 0, slots := 0, locals := 108 })).room s m ([.ref (ad 0), .int x1] : List Value).toArray below meth c H locs 0 0 (vx_MQ below (va_Qv (fun (u : MS) => Q u ∧ wfM u ∧ shy S u) (fun (u : MS) (t : State) => qE g ad A u t) A) ((vx_X (fun (u : MS) => E u ∧ wfM u ∧ shy S u) (fun (n9 : String) (u : MS) (t : State) => n9 = RJxb5711 ∧ qE g ad A u t) A)) ([.ref (ad 0), .int x1] : List Value).toArray s 0 0 A) (F0 m 77 ls [.int t77_0, .ref (ad 0)]) := by
    intro U77 t77_0 v77_1 v77_2 v77_3 v77_4 v77_5 H locs ls h hz_t77_0 hsh hR hl
    unfold w_caught_J77 at h
    refine lv_bipush (v := 16) hx hb dX14_caught_77 (by decide) ?_
    refine lv_iload_n hx hb dX14_caught_79 rfl (lv_at hl 1 rfl) ?_
    obtain ⟨Q23, EQ23, h0, h⟩ := h
    have hFc := rfree hR hA
    refine vx_callv (vx_runV (As := [.int t77_0, .int 16, .int v77_1]) (rest := []) ⟨hx, hb, hml, hown, hts⟩ (r_must l g ad H.size U77 t77_0 (16 : Int32) v77_1 hR.w hz_t77_0 Q23 EQ23 h0) (cwV 3 hts (gd2_V kx_198 kx_199 kx_200 kx_177 kx_201) rfl rfl rfl (by decide +kernel) ⟨Nat.le_of_ble_eq_true rfl, Nat.le_of_ble_eq_true rfl⟩) ⟨rblind, va_recv hR.K hR.P (ci := 13) (q0 := 0) rfl (hR.at14 hR.w.1), fun U hU hW9 => rmk hU hW9 hR hex hE hFc⟩ rfl rfl hl.1 rfl (lv_room (Nat.le_of_ble_eq_true rfl)) dX14_caught_80 ⟨Nat.le_of_ble_eq_true rfl, Nat.le_of_ble_eq_true rfl⟩) hR.sS (fun q _ h => hFc q h) hFc (fun q _ h => hFc q h) (fun E9 ce9 q9 u9 t9 H1 locs ht9 hvm9 hp9 hB9 hz9 hk9 hS hce9 hcv9 hcl9 => ?_) (fun  S24 t9 H1 locs ht9 hvm9 hw9 hB9 hz9 hk9 hS => ?_)
    · obtain ⟨hp9, hwx, hsx⟩ := hp9
      obtain ⟨rfl, hBx⟩ := hB9
      replace h := h.2 u9 hp9
      have hR : Rep g ad A s u9 H1 locs := hR.call ht9 hBx hwx hS hFc
      have hsh := hsh.tr hsx
      exact vx_out (E := RJxb5711) (q := q9) (fun x h9 => (hnt x h9).elim) hlocks hce9 hcv9 hcl9 (fun t9 ht9 ha9 => ⟨u9, ⟨h, hR.w, hsh⟩, ⟨rfl, by rw [ht9]; exact hR.P, hR.D⟩, hR.sS.F ht9⟩) hR.sS.2.2 (Nat.le_of_ble_eq_true rfl) (Nat.le_of_ble_eq_true rfl)
    · obtain ⟨hq25, hw9, hs9⟩ := hw9
      have hR : Rep g ad A s S24 H1 locs := hR.call ht9 hB9 hw9 hS hFc
      have hsh := hsh.tr hs9
      replace h := h.1  S24 hq25
      clear hB9 hz9 hk9 hvm9 ht9 hw9 hs9 hS
      generalize H1 = H at hR ⊢
      refine lv_iconst (v := (-1)) hx hb dX14_caught_83 (by decide) ?_
      refine lv_istore (lv' := [(6, .int (-1)), (0, .ref (ad 0)), (1, .int v77_1), (2, .int v77_2), (3, .int v77_3), (4, .int v77_4), (5, .int v77_5)]) hx hb dX14_caught_84 hl (by decide) rfl (fun ls hl => ?_)
      refine lv_iload hx hb dX14_caught_86 (lv_at hl 6 rfl) ?_
      have J_161 : ∀ (U161 : MS) (v161_2 : Int32) (v161_3 : Int32) (v161_4 : Int32) (v161_6 : Int32) (H : Heap) (locs : List Loc) (ls : Array Slot), w_caught_J161 Q E U161 v161_2 v161_3 v161_4 v161_6 → shy S U161 → Rep g ad A s U161 H locs → lv_has ls 8 [(0, .ref (ad 0)), (2, .int v161_2), (3, .int v161_3), (4, .int v161_4), (6, .int v161_6)] → W p l e (headSpec (wt2 yX14_caught cX14_caught 8 none) ({ frames := 5, cells := 0, slots := 0, locals := 108 })).room s m ([.ref (ad 0), .int x1] : List Value).toArray below meth c H locs 0 0 (vx_MQ below (va_Qv (fun (u : MS) => Q u ∧ wfM u ∧ shy S u) (fun (u : MS) (t : State) => qE g ad A u t) A) ((vx_X (fun (u : MS) => E u ∧ wfM u ∧ shy S u) (fun (n9 : String) (u : MS) (t : State) => n9 = RJxb5711 ∧ qE g ad A u t) A)) ([.ref (ad 0), .int x1] : List Value).toArray s 0 0 A) (F0 m 161 ls []) := by
        intro U161 v161_2 v161_3 v161_4 v161_6 H locs ls h hsh hR hl
        unfold w_caught_J161 at h
        refine lv_aload_n hx hb dX14_caught_161 rfl (lv_at hl 0 rfl) ?_
        refine va_get (D := rD g) (ci := 13) (v := .ref (ad 21)) (C := RX14) (T := TX14) (N := 143) hx hb hts in2X14 hown hR.K hR.P 0 (hR.at14 hR.w.1) rfl 44 (by decide) (hts _ kx_331) (fun _ h9 => h9) (congrArg (fun z => some (vf ad z)) (hR.w.2.1 _ fin_44).1) dX14_caught_162 ?_
        refine lv_iconst (v := 4) hx hb dX14_caught_165 (by decide) ?_
        refine lv_aload_n hx hb dX14_caught_166 rfl (lv_at hl 0 rfl) ?_
        refine va_get (D := rD g) (ci := 13) (v := .int (qI U161 0 45)) (C := RX14) (T := TX14) (N := 143) hx hb hts in2X14 hown hR.K hR.P 0 (hR.at14 hR.w.1) rfl 45 (by decide) (hts _ kx_332) (fun _ h9 => h9) rfl dX14_caught_167 ?_
        refine lv_imul hx hb dX14_caught_170 ?_
        refine lv_topi (fun z26 ez26 => ?_)
        obtain rfl : z26 = ((4 : Int32) * (qI U161 0 45)) := ez26
        refine lv_aload_n hx hb dX14_caught_171 rfl (lv_at hl 0 rfl) ?_
        refine va_get (D := rD g) (ci := 13) (v := .ref (ad 18)) (C := RX14) (T := TX14) (N := 143) hx hb hts in2X14 hown hR.K hR.P 0 (hR.at14 hR.w.1) rfl 38 (by decide) (hts _ kx_295) (fun _ h9 => h9) (congrArg (fun z => some (vf ad z)) (hR.w.2.1 _ fin_38).1) dX14_caught_172 ?_
        refine lv_iload_n hx hb dX14_caught_175 rfl (lv_at hl 1 rfl) ?_
        obtain ⟨hv27, h⟩ := h
        refine va_iald hx hb hR.K hR.P 18 1 (hR.atI (hR.w.2.1 _ fin_38).2.1) rfl (k_ixN (k_ix (n := 1201) (x := v161_2) (a := v161_2.toInt) rfl hv27) (hR.w.2.1 _ fin_38).2.2) dX14_caught_176 ?_
        refine lv_topi (fun z28 ez28 => ?_)
        obtain rfl : z28 = (qI U161 18 v161_2.toInt.toNat) := ez28
        obtain ⟨hv29, h⟩ := h
        refine va_iast hx hb hR.K hR.P hR.D hR.sS 21 1 (hR.atI (hR.w.2.1 _ fin_44).2.1) rfl (k_ixN (k_ix (n := 1536) (x := ((4 : Int32) * (qI U161 0 45))) (a := ((4 : Int32) * (qI U161 0 45)).toInt) rfl hv29) (hR.w.2.1 _ fin_44).2.2) dX14_caught_177 (fun H locs hP hD hS => ?_)
        have hR : Rep g ad A s (wI U161 21 ((((4 : Int32) * (qI U161 0 45)).toInt).toNat) (qI U161 18 v161_2.toInt.toNat)) H locs := hR.aI (hR.w.2.1 _ fin_44).2.1 hP hD hS
        obtain ⟨S30, eS30⟩ : ∃ z, z = wI U161 21 ((((4 : Int32) * (qI U161 0 45)).toInt).toNat) (qI U161 18 v161_2.toInt.toNat) := ⟨_, rfl⟩
        rw [← eS30] at hR
        replace h := h S30 eS30
        have hsh : shy S S30 := by rw [eS30]; exact hsh
        refine lv_aload_n hx hb dX14_caught_178 rfl (lv_at hl 0 rfl) ?_
        refine va_get (D := rD g) (ci := 13) (v := .ref (ad 21)) (C := RX14) (T := TX14) (N := 143) hx hb hts in2X14 hown hR.K hR.P 0 (hR.at14 hR.w.1) rfl 44 (by decide) (hts _ kx_331) (fun _ h9 => h9) (congrArg (fun z => some (vf ad z)) (hR.w.2.1 _ fin_44).1) dX14_caught_179 ?_
        refine lv_iconst (v := 4) hx hb dX14_caught_182 (by decide) ?_
        refine lv_aload_n hx hb dX14_caught_183 rfl (lv_at hl 0 rfl) ?_
        refine va_get (D := rD g) (ci := 13) (v := .int (qI S30 0 45)) (C := RX14) (T := TX14) (N := 143) hx hb hts in2X14 hown hR.K hR.P 0 (hR.at14 hR.w.1) rfl 45 (by decide) (hts _ kx_332) (fun _ h9 => h9) rfl dX14_caught_184 ?_
        refine lv_imul hx hb dX14_caught_187 ?_
        refine lv_topi (fun z31 ez31 => ?_)
        obtain rfl : z31 = ((4 : Int32) * (qI S30 0 45)) := ez31
        refine lv_iconst (v := 1) hx hb dX14_caught_188 (by decide) ?_
        refine lv_iadd hx hb dX14_caught_189 ?_
        refine lv_topi (fun z32 ez32 => ?_)
        obtain rfl : z32 = (((4 : Int32) * (qI S30 0 45)) + (1 : Int32)) := ez32
        refine lv_aload_n hx hb dX14_caught_190 rfl (lv_at hl 0 rfl) ?_
        refine va_get (D := rD g) (ci := 13) (v := .ref (ad 18)) (C := RX14) (T := TX14) (N := 143) hx hb hts in2X14 hown hR.K hR.P 0 (hR.at14 hR.w.1) rfl 38 (by decide) (hts _ kx_295) (fun _ h9 => h9) (congrArg (fun z => some (vf ad z)) (hR.w.2.1 _ fin_38).1) dX14_caught_191 ?_
        refine lv_iload_n hx hb dX14_caught_194 rfl (lv_at hl 2 rfl) ?_
        obtain ⟨hv33, h⟩ := h
        refine va_iald hx hb hR.K hR.P 18 1 (hR.atI (hR.w.2.1 _ fin_38).2.1) rfl (k_ixN (k_ix (n := 1201) (x := v161_3) (a := v161_3.toInt) rfl hv33) (hR.w.2.1 _ fin_38).2.2) dX14_caught_195 ?_
        refine lv_topi (fun z34 ez34 => ?_)
        obtain rfl : z34 = (qI S30 18 v161_3.toInt.toNat) := ez34
        obtain ⟨hv35, h⟩ := h
        refine va_iast hx hb hR.K hR.P hR.D hR.sS 21 1 (hR.atI (hR.w.2.1 _ fin_44).2.1) rfl (k_ixN (k_ix (n := 1536) (x := (((4 : Int32) * (qI S30 0 45)) + (1 : Int32))) (a := (((4 : Int32) * (qI S30 0 45)) + (1 : Int32)).toInt) rfl hv35) (hR.w.2.1 _ fin_44).2.2) dX14_caught_196 (fun H locs hP hD hS => ?_)
        have hR : Rep g ad A s (wI S30 21 (((((4 : Int32) * (qI S30 0 45)) + (1 : Int32)).toInt).toNat) (qI S30 18 v161_3.toInt.toNat)) H locs := hR.aI (hR.w.2.1 _ fin_44).2.1 hP hD hS
        obtain ⟨S36, eS36⟩ : ∃ z, z = wI S30 21 (((((4 : Int32) * (qI S30 0 45)) + (1 : Int32)).toInt).toNat) (qI S30 18 v161_3.toInt.toNat) := ⟨_, rfl⟩
        rw [← eS36] at hR
        replace h := h S36 eS36
        have hsh : shy S S36 := by rw [eS36]; exact hsh
        refine lv_aload_n hx hb dX14_caught_197 rfl (lv_at hl 0 rfl) ?_
        refine va_get (D := rD g) (ci := 13) (v := .ref (ad 21)) (C := RX14) (T := TX14) (N := 143) hx hb hts in2X14 hown hR.K hR.P 0 (hR.at14 hR.w.1) rfl 44 (by decide) (hts _ kx_331) (fun _ h9 => h9) (congrArg (fun z => some (vf ad z)) (hR.w.2.1 _ fin_44).1) dX14_caught_198 ?_
        refine lv_iconst (v := 4) hx hb dX14_caught_201 (by decide) ?_
        refine lv_aload_n hx hb dX14_caught_202 rfl (lv_at hl 0 rfl) ?_
        refine va_get (D := rD g) (ci := 13) (v := .int (qI S36 0 45)) (C := RX14) (T := TX14) (N := 143) hx hb hts in2X14 hown hR.K hR.P 0 (hR.at14 hR.w.1) rfl 45 (by decide) (hts _ kx_332) (fun _ h9 => h9) rfl dX14_caught_203 ?_
        refine lv_imul hx hb dX14_caught_206 ?_
        refine lv_topi (fun z37 ez37 => ?_)
        obtain rfl : z37 = ((4 : Int32) * (qI S36 0 45)) := ez37
        refine lv_iconst (v := 2) hx hb dX14_caught_207 (by decide) ?_
        refine lv_iadd hx hb dX14_caught_208 ?_
        refine lv_topi (fun z38 ez38 => ?_)
        obtain rfl : z38 = (((4 : Int32) * (qI S36 0 45)) + (2 : Int32)) := ez38
        refine lv_aload_n hx hb dX14_caught_209 rfl (lv_at hl 0 rfl) ?_
        refine va_get (D := rD g) (ci := 13) (v := .ref (ad 18)) (C := RX14) (T := TX14) (N := 143) hx hb hts in2X14 hown hR.K hR.P 0 (hR.at14 hR.w.1) rfl 38 (by decide) (hts _ kx_295) (fun _ h9 => h9) (congrArg (fun z => some (vf ad z)) (hR.w.2.1 _ fin_38).1) dX14_caught_210 ?_
        refine lv_iload hx hb dX14_caught_213 (lv_at hl 3 rfl) ?_
        obtain ⟨hv39, h⟩ := h
        refine va_iald hx hb hR.K hR.P 18 1 (hR.atI (hR.w.2.1 _ fin_38).2.1) rfl (k_ixN (k_ix (n := 1201) (x := v161_4) (a := v161_4.toInt) rfl hv39) (hR.w.2.1 _ fin_38).2.2) dX14_caught_215 ?_
        refine lv_topi (fun z40 ez40 => ?_)
        obtain rfl : z40 = (qI S36 18 v161_4.toInt.toNat) := ez40
        obtain ⟨hv41, h⟩ := h
        refine va_iast hx hb hR.K hR.P hR.D hR.sS 21 1 (hR.atI (hR.w.2.1 _ fin_44).2.1) rfl (k_ixN (k_ix (n := 1536) (x := (((4 : Int32) * (qI S36 0 45)) + (2 : Int32))) (a := (((4 : Int32) * (qI S36 0 45)) + (2 : Int32)).toInt) rfl hv41) (hR.w.2.1 _ fin_44).2.2) dX14_caught_216 (fun H locs hP hD hS => ?_)
        have hR : Rep g ad A s (wI S36 21 (((((4 : Int32) * (qI S36 0 45)) + (2 : Int32)).toInt).toNat) (qI S36 18 v161_4.toInt.toNat)) H locs := hR.aI (hR.w.2.1 _ fin_44).2.1 hP hD hS
        obtain ⟨S42, eS42⟩ : ∃ z, z = wI S36 21 (((((4 : Int32) * (qI S36 0 45)) + (2 : Int32)).toInt).toNat) (qI S36 18 v161_4.toInt.toNat) := ⟨_, rfl⟩
        rw [← eS42] at hR
        replace h := h S42 eS42
        have hsh : shy S S42 := by rw [eS42]; exact hsh
        refine lv_aload_n hx hb dX14_caught_217 rfl (lv_at hl 0 rfl) ?_
        refine va_get (D := rD g) (ci := 13) (v := .ref (ad 21)) (C := RX14) (T := TX14) (N := 143) hx hb hts in2X14 hown hR.K hR.P 0 (hR.at14 hR.w.1) rfl 44 (by decide) (hts _ kx_331) (fun _ h9 => h9) (congrArg (fun z => some (vf ad z)) (hR.w.2.1 _ fin_44).1) dX14_caught_218 ?_
        refine lv_iconst (v := 4) hx hb dX14_caught_221 (by decide) ?_
        refine lv_aload_n hx hb dX14_caught_222 rfl (lv_at hl 0 rfl) ?_
        refine va_get (D := rD g) (ci := 13) (v := .int (qI S42 0 45)) (C := RX14) (T := TX14) (N := 143) hx hb hts in2X14 hown hR.K hR.P 0 (hR.at14 hR.w.1) rfl 45 (by decide) (hts _ kx_332) (fun _ h9 => h9) rfl dX14_caught_223 ?_
        refine lv_imul hx hb dX14_caught_226 ?_
        refine lv_topi (fun z43 ez43 => ?_)
        obtain rfl : z43 = ((4 : Int32) * (qI S42 0 45)) := ez43
        refine lv_iconst (v := 3) hx hb dX14_caught_227 (by decide) ?_
        refine lv_iadd hx hb dX14_caught_228 ?_
        refine lv_topi (fun z44 ez44 => ?_)
        obtain rfl : z44 = (((4 : Int32) * (qI S42 0 45)) + (3 : Int32)) := ez44
        refine lv_iload hx hb dX14_caught_229 (lv_at hl 4 rfl) ?_
        obtain ⟨hv45, h⟩ := h
        refine va_iast hx hb hR.K hR.P hR.D hR.sS 21 1 (hR.atI (hR.w.2.1 _ fin_44).2.1) rfl (k_ixN (k_ix (n := 1536) (x := (((4 : Int32) * (qI S42 0 45)) + (3 : Int32))) (a := (((4 : Int32) * (qI S42 0 45)) + (3 : Int32)).toInt) rfl hv45) (hR.w.2.1 _ fin_44).2.2) dX14_caught_231 (fun H locs hP hD hS => ?_)
        have hR : Rep g ad A s (wI S42 21 (((((4 : Int32) * (qI S42 0 45)) + (3 : Int32)).toInt).toNat) v161_6) H locs := hR.aI (hR.w.2.1 _ fin_44).2.1 hP hD hS
        obtain ⟨S46, eS46⟩ : ∃ z, z = wI S42 21 (((((4 : Int32) * (qI S42 0 45)) + (3 : Int32)).toInt).toNat) v161_6 := ⟨_, rfl⟩
        rw [← eS46] at hR
        replace h := h S46 eS46
        have hsh : shy S S46 := by rw [eS46]; exact hsh
        refine lv_aload_n hx hb dX14_caught_232 rfl (lv_at hl 0 rfl) ?_
        refine lv_dup hx hb dX14_caught_233 rfl ?_
        refine va_get (D := rD g) (ci := 13) (v := .int (qI S46 0 45)) (C := RX14) (T := TX14) (N := 143) hx hb hts in2X14 hown hR.K hR.P 0 (hR.at14 hR.w.1) rfl 45 (by decide) (hts _ kx_332) (fun _ h9 => h9) rfl dX14_caught_234 ?_
        refine lv_iconst (v := 1) hx hb dX14_caught_237 (by decide) ?_
        refine lv_iadd hx hb dX14_caught_238 ?_
        refine lv_topi (fun z47 ez47 => ?_)
        obtain rfl : z47 = ((qI S46 0 45) + (1 : Int32)) := ez47
        refine va_put (D := rD g) (ci := 13) (v := .int ((qI S46 0 45) + (1 : Int32))) (ty := .int) (C := RX14) (T := TX14) (N := 143) hx hb hts in2X14 tyX14 tyX14_ok nmX14 hown hR.K hR.P hR.D hR.sS 0 (hR.at14 hR.w.1) rfl 45 (by decide) (hts _ kx_332) (fun _ h9 => h9) rfl (by decide +kernel) rfl rfl (Nat.le_of_ble_eq_true rfl) dX14_caught_239 (fun H locs hP hD hS => ?_)
        have hR : Rep g ad A s (wI S46 0 45 ((qI S46 0 45) + (1 : Int32))) H locs := hR.pI hR.w.1 F14_s45 hP hD hS
        obtain ⟨S48, eS48⟩ : ∃ z, z = wI S46 0 45 ((qI S46 0 45) + (1 : Int32)) := ⟨_, rfl⟩
        rw [← eS48] at hR
        replace h := h S48 eS48
        have hsh : shy S S48 := by rw [eS48]; exact hsh
        exact vx_ret (W.vret hx hb hr (fun t9 ht9 hW9 => ⟨⟨S48, rfl, ⟨h, hR.w, hsh⟩, ⟨by rw [ht9]; exact hR.P, hR.D⟩⟩, hR.sS.F ht9⟩) hR.sS.2.2 dX14_caught_242)
      refine lv_if_le (tgt := 161) hx hb dX14_caught_88 (by decide) (fun c49 => ?_) (fun c49 => ?_)
      · replace h := h.1 (k_le rfl (by decide) c49)
        exact J_161 S24 v77_2 v77_3 v77_4 (-1) _ _ ls h  hsh hR (lv_sub hl [1, 3, 4, 5, 0] rfl)
      · replace h := h.2 (k_nle rfl (by decide) c49)
        refine lv_aload_n hx hb dX14_caught_91 rfl (lv_at hl 1 rfl) ?_
        refine lv_aload_n hx hb dX14_caught_92 rfl (lv_at hl 1 rfl) ?_
        refine lv_iload hx hb dX14_caught_93 (lv_at hl 6 rfl) ?_
        refine lv_bipush (v := 7) hx hb dX14_caught_95 (by decide) ?_
        obtain ⟨hv50, h⟩ := h
        have hFc := rfree hR hA
        refine va_calli (va_runV (As := [.int v77_5, .int 7]) (rest := [.ref (ad 0)]) ⟨hx, hb, hml, hown, hts⟩ (r_isEntry l g ad H.size S24 v77_5 (7 : Int32) hR.w  hv50) (cwV 2 hts (gd2_V kx_219 kx_220 kx_221 kx_177 kx_222) rfl rfl rfl (by decide +kernel) ⟨Nat.le_of_ble_eq_true rfl, Nat.le_of_ble_eq_true rfl⟩) ⟨rblind, va_recv hR.K hR.P (ci := 13) (q0 := 0) rfl (hR.at14 hR.w.1), fun U hU hW9 => rmk hU hW9 hR hex hE hFc⟩ rfl rfl hl.1 rfl (lv_room (Nat.le_of_ble_eq_true rfl)) dX14_caught_97 ⟨Nat.le_of_ble_eq_true rfl, Nat.le_of_ble_eq_true rfl⟩) hR.sS (fun q _ h => hFc q h) hFc (fun r51 u9 t9 H1 locs ht9 hvm9 hw9 hB9 hz9 hk9 hS => ?_)
        have hR : Rep g ad A s S24 H1 locs := hR.call ht9 hB9 hR.w hS hFc
        obtain ⟨rfl, hz_r51⟩ := hw9
        clear hB9 hz9 hk9 hvm9 ht9 hS
        generalize H1 = H at hR ⊢
        refine lv_bipush (v := 16) hx hb dX14_caught_100 (by decide) ?_
        refine lv_iload_n hx hb dX14_caught_102 rfl (lv_at hl 2 rfl) ?_
        obtain ⟨Q53, EQ53, h0, h⟩ := h
        have hFc := rfree hR hA
        refine vx_callv (vx_runV (As := [.int (f_isEntry S24 v77_5 (7 : Int32)), .int 16, .int v77_1]) (rest := []) ⟨hx, hb, hml, hown, hts⟩ (r_must l g ad H.size S24 (f_isEntry S24 v77_5 (7 : Int32)) (16 : Int32) v77_1 hR.w hz_r51 Q53 EQ53 h0) (cwV 3 hts (gd2_V kx_198 kx_199 kx_200 kx_177 kx_201) rfl rfl rfl (by decide +kernel) ⟨Nat.le_of_ble_eq_true rfl, Nat.le_of_ble_eq_true rfl⟩) ⟨rblind, va_recv hR.K hR.P (ci := 13) (q0 := 0) rfl (hR.at14 hR.w.1), fun U hU hW9 => rmk hU hW9 hR hex hE hFc⟩ rfl rfl hl.1 rfl (lv_room (Nat.le_of_ble_eq_true rfl)) dX14_caught_103 ⟨Nat.le_of_ble_eq_true rfl, Nat.le_of_ble_eq_true rfl⟩) hR.sS (fun q _ h => hFc q h) hFc (fun q _ h => hFc q h) (fun E9 ce9 q9 u9 t9 H1 locs ht9 hvm9 hp9 hB9 hz9 hk9 hS hce9 hcv9 hcl9 => ?_) (fun  S54 t9 H1 locs ht9 hvm9 hw9 hB9 hz9 hk9 hS => ?_)
        · obtain ⟨hp9, hwx, hsx⟩ := hp9
          obtain ⟨rfl, hBx⟩ := hB9
          replace h := h.2 u9 hp9
          have hR : Rep g ad A s u9 H1 locs := hR.call ht9 hBx hwx hS hFc
          have hsh := hsh.tr hsx
          exact vx_out (E := RJxb5711) (q := q9) (fun x h9 => (hnt x h9).elim) hlocks hce9 hcv9 hcl9 (fun t9 ht9 ha9 => ⟨u9, ⟨h, hR.w, hsh⟩, ⟨rfl, by rw [ht9]; exact hR.P, hR.D⟩, hR.sS.F ht9⟩) hR.sS.2.2 (Nat.le_of_ble_eq_true rfl) (Nat.le_of_ble_eq_true rfl)
        · obtain ⟨hq55, hw9, hs9⟩ := hw9
          have hR : Rep g ad A s S54 H1 locs := hR.call ht9 hB9 hw9 hS hFc
          have hsh := hsh.tr hs9
          replace h := h.1  S54 hq55
          clear hB9 hz9 hk9 hvm9 ht9 hw9 hs9 hS
          generalize H1 = H at hR ⊢
          refine lv_iconst (v := 0) hx hb dX14_caught_106 (by decide) ?_
          refine lv_istore (lv' := [(7, .int 0), (6, .int (-1)), (0, .ref (ad 0)), (1, .int v77_1), (2, .int v77_2), (3, .int v77_3), (4, .int v77_4), (5, .int v77_5)]) hx hb dX14_caught_107 hl (by decide) rfl (fun ls hl => ?_)
          have J_109 : ∀ (n109 : Nat) (U109 : MS) (v109_1 : Int32) (v109_2 : Int32) (v109_3 : Int32) (v109_4 : Int32) (v109_5 : Int32) (v109_6 : Int32) (v109_7 : Int32) (H : Heap) (locs : List Loc) (ls : Array Slot), w_caught_L109 Q E n109 U109 v109_1 v109_2 v109_3 v109_4 v109_5 v109_6 v109_7 → shy S U109 → Rep g ad A s U109 H locs → lv_has ls 8 [(0, .ref (ad 0)), (1, .int v109_1), (2, .int v109_2), (3, .int v109_3), (4, .int v109_4), (5, .int v109_5), (6, .int v109_6), (7, .int v109_7)] → W p l e (headSpec (wt2 yX14_caught cX14_caught 8 none) ({ frames := 5, cells := 0, slots := 0, locals := 108 })).room s m ([.ref (ad 0), .int x1] : List Value).toArray below meth c H locs 0 0 (vx_MQ below (va_Qv (fun (u : MS) => Q u ∧ wfM u ∧ shy S u) (fun (u : MS) (t : State) => qE g ad A u t) A) ((vx_X (fun (u : MS) => E u ∧ wfM u ∧ shy S u) (fun (n9 : String) (u : MS) (t : State) => n9 = RJxb5711 ∧ qE g ad A u t) A)) ([.ref (ad 0), .int x1] : List Value).toArray s 0 0 A) (F0 m 109 ls []) := by
            intro n109
            induction n109 with
            | zero => intro U109 v109_1 v109_2 v109_3 v109_4 v109_5 v109_6 v109_7 H locs ls h hsh hR hl; unfold w_caught_L109 at h; exact h.elim
            | succ n109 ih_109 =>
              intro U109 v109_1 v109_2 v109_3 v109_4 v109_5 v109_6 v109_7 H locs ls h hsh hR hl
              unfold w_caught_L109 at h
              refine lv_iload hx hb dX14_caught_109 (lv_at hl 7 rfl) ?_
              refine lv_iconst (v := 4) hx hb dX14_caught_111 (by decide) ?_
              refine lv_icmp_ge (tgt := 144) hx hb dX14_caught_112 (by decide) (fun c56 => ?_) (fun c56 => ?_)
              · replace h := h.1 (k_le (by decide) rfl c56)
                refine lv_aload_n hx hb dX14_caught_144 rfl (lv_at hl 0 rfl) ?_
                refine lv_iload hx hb dX14_caught_145 (lv_at hl 6 rfl) ?_
                have J_155 : ∀ (U155 : MS) (t155_0 : Int32) (v155_1 : Int32) (v155_2 : Int32) (v155_3 : Int32) (v155_4 : Int32) (v155_6 : Int32) (H : Heap) (locs : List Loc) (ls : Array Slot), w_caught_J155 Q E U155 t155_0 v155_1 v155_2 v155_3 v155_4 v155_6 → (t155_0 = 0 ∨ t155_0 = 1) → shy S U155 → Rep g ad A s U155 H locs → lv_has ls 8 [(0, .ref (ad 0)), (1, .int v155_1), (2, .int v155_2), (3, .int v155_3), (4, .int v155_4), (6, .int v155_6)] → W p l e (headSpec (wt2 yX14_caught cX14_caught 8 none) ({ frames := 5, cells := 0, slots := 0, locals := 108 })).room s m ([.ref (ad 0), .int x1] : List Value).toArray below meth c H locs 0 0 (vx_MQ below (va_Qv (fun (u : MS) => Q u ∧ wfM u ∧ shy S u) (fun (u : MS) (t : State) => qE g ad A u t) A) ((vx_X (fun (u : MS) => E u ∧ wfM u ∧ shy S u) (fun (n9 : String) (u : MS) (t : State) => n9 = RJxb5711 ∧ qE g ad A u t) A)) ([.ref (ad 0), .int x1] : List Value).toArray s 0 0 A) (F0 m 155 ls [.int t155_0, .ref (ad 0)]) := by
                  intro U155 t155_0 v155_1 v155_2 v155_3 v155_4 v155_6 H locs ls h hz_t155_0 hsh hR hl
                  unfold w_caught_J155 at h
                  refine lv_bipush (v := 16) hx hb dX14_caught_155 (by decide) ?_
                  refine lv_iload_n hx hb dX14_caught_157 rfl (lv_at hl 1 rfl) ?_
                  obtain ⟨Q57, EQ57, h0, h⟩ := h
                  have hFc := rfree hR hA
                  refine vx_callv (vx_runV (As := [.int t155_0, .int 16, .int v155_1]) (rest := []) ⟨hx, hb, hml, hown, hts⟩ (r_must l g ad H.size U155 t155_0 (16 : Int32) v155_1 hR.w hz_t155_0 Q57 EQ57 h0) (cwV 3 hts (gd2_V kx_198 kx_199 kx_200 kx_177 kx_201) rfl rfl rfl (by decide +kernel) ⟨Nat.le_of_ble_eq_true rfl, Nat.le_of_ble_eq_true rfl⟩) ⟨rblind, va_recv hR.K hR.P (ci := 13) (q0 := 0) rfl (hR.at14 hR.w.1), fun U hU hW9 => rmk hU hW9 hR hex hE hFc⟩ rfl rfl hl.1 rfl (lv_room (Nat.le_of_ble_eq_true rfl)) dX14_caught_158 ⟨Nat.le_of_ble_eq_true rfl, Nat.le_of_ble_eq_true rfl⟩) hR.sS (fun q _ h => hFc q h) hFc (fun q _ h => hFc q h) (fun E9 ce9 q9 u9 t9 H1 locs ht9 hvm9 hp9 hB9 hz9 hk9 hS hce9 hcv9 hcl9 => ?_) (fun  S58 t9 H1 locs ht9 hvm9 hw9 hB9 hz9 hk9 hS => ?_)
                  · obtain ⟨hp9, hwx, hsx⟩ := hp9
                    obtain ⟨rfl, hBx⟩ := hB9
                    replace h := h.2 u9 hp9
                    have hR : Rep g ad A s u9 H1 locs := hR.call ht9 hBx hwx hS hFc
                    have hsh := hsh.tr hsx
                    exact vx_out (E := RJxb5711) (q := q9) (fun x h9 => (hnt x h9).elim) hlocks hce9 hcv9 hcl9 (fun t9 ht9 ha9 => ⟨u9, ⟨h, hR.w, hsh⟩, ⟨rfl, by rw [ht9]; exact hR.P, hR.D⟩, hR.sS.F ht9⟩) hR.sS.2.2 (Nat.le_of_ble_eq_true rfl) (Nat.le_of_ble_eq_true rfl)
                  · obtain ⟨hq59, hw9, hs9⟩ := hw9
                    have hR : Rep g ad A s S58 H1 locs := hR.call ht9 hB9 hw9 hS hFc
                    have hsh := hsh.tr hs9
                    replace h := h.1  S58 hq59
                    clear hB9 hz9 hk9 hvm9 ht9 hw9 hs9 hS
                    generalize H1 = H at hR ⊢
                    exact J_161 S58 v155_2 v155_3 v155_4 v155_6 _ _ ls h  hsh hR (lv_sub hl [0, 2, 3, 4, 5] rfl)
                refine lv_if_lt (tgt := 154) hx hb dX14_caught_147 (by decide) (fun c60 => ?_) (fun c60 => ?_)
                · replace h := h.1 (k_lt rfl (by decide) c60)
                  refine lv_iconst (v := 0) hx hb dX14_caught_154 (by decide) ?_
                  exact J_155 U109 0 v109_1 v109_2 v109_3 v109_4 v109_6 _ _ ls h (Or.inl rfl) hsh hR (lv_sub hl [0, 1, 2, 3, 4, 6] rfl)
                · replace h := h.2 (k_nlt rfl (by decide) c60)
                  refine lv_iconst (v := 1) hx hb dX14_caught_150 (by decide) ?_
                  refine lv_goto (tgt := 155) hx hb dX14_caught_151 (by decide) ?_
                  exact J_155 U109 1 v109_1 v109_2 v109_3 v109_4 v109_6 _ _ ls h (Or.inr rfl) hsh hR (lv_sub hl [0, 1, 2, 3, 4, 6] rfl)
              · replace h := h.2 (k_nle (by decide) rfl c56)
                refine lv_aload_n hx hb dX14_caught_115 rfl (lv_at hl 0 rfl) ?_
                refine lv_aload_n hx hb dX14_caught_116 rfl (lv_at hl 0 rfl) ?_
                refine va_get (D := rD g) (ci := 13) (v := .ref (ad 6)) (C := RX14) (T := TX14) (N := 143) hx hb hts in2X14 hown hR.K hR.P 0 (hR.at14 hR.w.1) rfl 17 (by decide) (hts _ kx_208) (fun _ h9 => h9) (congrArg (fun z => some (vf ad z)) (hR.w.2.1 _ fin_17).1) dX14_caught_117 ?_
                refine lv_iload hx hb dX14_caught_120 (lv_at hl 5 rfl) ?_
                obtain ⟨hv61, h⟩ := h
                refine va_iald hx hb hR.K hR.P 6 1 (hR.atI (hR.w.2.1 _ fin_17).2.1) rfl (k_ixN (k_ix (n := 502) (x := v109_5) (a := v109_5.toInt) rfl hv61) (hR.w.2.1 _ fin_17).2.2) dX14_caught_122 ?_
                refine lv_topi (fun z62 ez62 => ?_)
                obtain rfl : z62 = (qI U109 6 v109_5.toInt.toNat) := ez62
                refine lv_iload hx hb dX14_caught_123 (lv_at hl 7 rfl) ?_
                obtain ⟨hv63, h⟩ := h
                have hFc := rfree hR hA
                refine va_callq (va_runS (As := [.int v109_7]) (rest := [.int (qI U109 6 v109_5.toInt.toNat), .ref (ad 0)]) ⟨hx, hb, hml, hown, hts⟩ (r_errorName l g ad H.size U109 v109_7 hR.w  hv63) (va_cwS 1 hts (gd2_S kx_572 kx_573 kx_177 kx_574) rfl rfl rfl (by decide +kernel) ⟨Nat.le_of_ble_eq_true rfl, Nat.le_of_ble_eq_true rfl⟩) ⟨rblind, fun U hU hW9 => rmk hU hW9 hR hex hE hFc⟩ rfl rfl hl.1 rfl (lv_room (Nat.le_of_ble_eq_true rfl)) dX14_caught_125 ⟨Nat.le_of_ble_eq_true rfl, Nat.le_of_ble_eq_true rfl⟩) hR.sS (fun q _ h => hFc q h) hFc (fun r64 u9 t9 H1 locs ht9 hvm9 hw9 hB9 hz9 hk9 hS => ?_)
                have hR : Rep g ad A s U109 H1 locs := hR.call ht9 hB9 hR.w hS hFc
                obtain ⟨rfl, hT_r64⟩ := hw9
                clear hB9 hz9 hk9 hvm9 ht9 hS
                generalize H1 = H at hR ⊢
                obtain ⟨Q66, h0, h⟩ := h
                have hFc := rfree hR hA
                refine va_calli (va_runV (As := [.int (qI U109 6 v109_5.toInt.toNat), .ref (ad (f_errorName U109 v109_7))]) (rest := []) ⟨hx, hb, hml, hown, hts⟩ (r_isText l g ad H.size U109 (qI U109 6 v109_5.toInt.toNat) (f_errorName U109 v109_7) hR.w hT_r64 Q66 h0) (cwV 2 hts (gd2_V kx_253 kx_254 kx_255 kx_177 kx_256) rfl rfl rfl (by decide +kernel) ⟨Nat.le_of_ble_eq_true rfl, Nat.le_of_ble_eq_true rfl⟩) ⟨rblind, va_recv hR.K hR.P (ci := 13) (q0 := 0) rfl (hR.at14 hR.w.1), fun U hU hW9 => rmk hU hW9 hR hex hE hFc⟩ rfl rfl hl.1 rfl (lv_room (Nat.le_of_ble_eq_true rfl)) dX14_caught_128 ⟨Nat.le_of_ble_eq_true rfl, Nat.le_of_ble_eq_true rfl⟩) hR.sS (fun q _ h => hFc q h) hFc (fun r67 S68 t9 H1 locs ht9 hvm9 hw9 hB9 hz9 hk9 hS => ?_)
                obtain ⟨hq69, hw9, hs9, hz_r67⟩ := hw9
                have hR : Rep g ad A s S68 H1 locs := hR.call ht9 hB9 hw9 hS hFc
                have hsh := hsh.tr hs9
                replace h := h r67 S68 hq69
                clear hB9 hz9 hk9 hvm9 ht9 hw9 hs9 hS
                generalize H1 = H at hR ⊢
                have J_138 : ∀ (U138 : MS) (v138_1 : Int32) (v138_2 : Int32) (v138_3 : Int32) (v138_4 : Int32) (v138_5 : Int32) (v138_6 : Int32) (v138_7 : Int32) (H : Heap) (locs : List Loc) (ls : Array Slot), w_caught_J138 Q E (w_caught_L109 Q E n109) U138 v138_1 v138_2 v138_3 v138_4 v138_5 v138_6 v138_7 → shy S U138 → Rep g ad A s U138 H locs → lv_has ls 8 [(0, .ref (ad 0)), (1, .int v138_1), (2, .int v138_2), (3, .int v138_3), (4, .int v138_4), (5, .int v138_5), (6, .int v138_6), (7, .int v138_7)] → W p l e (headSpec (wt2 yX14_caught cX14_caught 8 none) ({ frames := 5, cells := 0, slots := 0, locals := 108 })).room s m ([.ref (ad 0), .int x1] : List Value).toArray below meth c H locs 0 0 (vx_MQ below (va_Qv (fun (u : MS) => Q u ∧ wfM u ∧ shy S u) (fun (u : MS) (t : State) => qE g ad A u t) A) ((vx_X (fun (u : MS) => E u ∧ wfM u ∧ shy S u) (fun (n9 : String) (u : MS) (t : State) => n9 = RJxb5711 ∧ qE g ad A u t) A)) ([.ref (ad 0), .int x1] : List Value).toArray s 0 0 A) (F0 m 138 ls []) := by
                  intro U138 v138_1 v138_2 v138_3 v138_4 v138_5 v138_6 v138_7 H locs ls h hsh hR hl
                  unfold w_caught_J138 at h
                  obtain ⟨a70, ea70⟩ : ∃ z, z = (v138_7 + Int32.ofInt 1) := ⟨_, rfl⟩
                  replace h := h a70 ea70
                  refine lv_iinc (v := a70) (lv' := [(7, .int a70), (0, .ref (ad 0)), (1, .int v138_1), (2, .int v138_2), (3, .int v138_3), (4, .int v138_4), (5, .int v138_5), (6, .int v138_6)]) hx hb dX14_caught_138 hl (k := 7) rfl ea70.symm (by decide) rfl (fun ls hl => ?_)
                  refine lv_goto (tgt := 109) hx hb dX14_caught_141 (by decide) ?_
                  exact ih_109 U138 v138_1 v138_2 v138_3 v138_4 v138_5 v138_6 a70 _ _ ls h  hsh hR (lv_sub hl [1, 2, 3, 4, 5, 6, 7, 0] rfl)
                refine lv_if_eq (tgt := 138) hx hb dX14_caught_131 (by decide) (fun c71 => ?_) (fun c71 => ?_)
                · replace h := h.1 (k_eq rfl (by decide) c71)
                  exact J_138 S68 v109_1 v109_2 v109_3 v109_4 v109_5 v109_6 v109_7 _ _ ls h  hsh hR (lv_sub hl [0, 1, 2, 3, 4, 5, 6, 7] rfl)
                · replace h := h.2 (k_ne rfl (by decide) c71)
                  refine lv_iload hx hb dX14_caught_134 (lv_at hl 7 rfl) ?_
                  refine lv_istore (lv' := [(6, .int v109_7), (0, .ref (ad 0)), (1, .int v109_1), (2, .int v109_2), (3, .int v109_3), (4, .int v109_4), (5, .int v109_5), (7, .int v109_7)]) hx hb dX14_caught_136 hl (by decide) rfl (fun ls hl => ?_)
                  exact J_138 S68 v109_1 v109_2 v109_3 v109_4 v109_5 v109_7 v109_7 _ _ ls h  hsh hR (lv_sub hl [1, 2, 3, 4, 5, 6, 0, 7] rfl)
          obtain ⟨n9, h⟩ := h
          exact J_109 n9 S54 v77_1 v77_2 v77_3 v77_4 v77_5 (-1) 0 _ _ ls h  hsh hR (lv_sub hl [2, 3, 4, 5, 6, 7, 1, 0] rfl)
  have J_76 : ∀ (U76 : MS) (v76_1 : Int32) (v76_2 : Int32) (v76_3 : Int32) (v76_4 : Int32) (v76_5 : Int32) (H : Heap) (locs : List Loc) (ls : Array Slot), w_caught_J76 Q E U76 v76_1 v76_2 v76_3 v76_4 v76_5 → shy S U76 → Rep g ad A s U76 H locs → lv_has ls 8 [(0, .ref (ad 0)), (1, .int v76_1), (2, .int v76_2), (3, .int v76_3), (4, .int v76_4), (5, .int v76_5)] → W p l e (headSpec (wt2 yX14_caught cX14_caught 8 none) ({ frames := 5, cells := 0, slots := 0, locals := 108 })).room s m ([.ref (ad 0), .int x1] : List Value).toArray below meth c H locs 0 0 (vx_MQ below (va_Qv (fun (u : MS) => Q u ∧ wfM u ∧ shy S u) (fun (u : MS) (t : State) => qE g ad A u t) A) ((vx_X (fun (u : MS) => E u ∧ wfM u ∧ shy S u) (fun (n9 : String) (u : MS) (t : State) => n9 = RJxb5711 ∧ qE g ad A u t) A)) ([.ref (ad 0), .int x1] : List Value).toArray s 0 0 A) (F0 m 76 ls [.ref (ad 0)]) := by
    intro U76 v76_1 v76_2 v76_3 v76_4 v76_5 H locs ls h hsh hR hl
    unfold w_caught_J76 at h
    refine lv_iconst (v := 0) hx hb dX14_caught_76 (by decide) ?_
    exact J_77 U76 0 v76_1 v76_2 v76_3 v76_4 v76_5 _ _ ls h (Or.inl rfl) hsh hR (lv_sub hl [0, 1, 2, 3, 4, 5] rfl)
  refine lv_if_eq (tgt := 76) hx hb dX14_caught_39 (by decide) (fun c72 => ?_) (fun c72 => ?_)
  · replace h := h.1 (k_eq rfl (by decide) c72)
    exact J_76 S x1 a4 a9 a14 a19 _ _ ls h  hsh hR (lv_sub hl [4, 5, 3, 2, 1, 0] rfl)
  · replace h := h.2 (k_ne rfl (by decide) c72)
    refine lv_iload_n hx hb dX14_caught_42 rfl (lv_at hl 2 rfl) ?_
    refine lv_aload_n hx hb dX14_caught_43 rfl (lv_at hl 4 rfl) ?_
    refine va_get (D := rD g) (ci := 13) (v := .int (qI S 0 37)) (C := RX14) (T := TX14) (N := 143) hx hb hts in2X14 hown hR.K hR.P 0 (hR.at14 hR.w.1) rfl 37 (by decide) (hts _ kx_281) (fun _ h9 => h9) rfl dX14_caught_44 ?_
    have J_58 : ∀ (U58 : MS) (v58_1 : Int32) (v58_2 : Int32) (v58_3 : Int32) (v58_4 : Int32) (v58_5 : Int32) (H : Heap) (locs : List Loc) (ls : Array Slot), w_caught_J58 Q E U58 v58_1 v58_2 v58_3 v58_4 v58_5 → shy S U58 → Rep g ad A s U58 H locs → lv_has ls 8 [(0, .ref (ad 0)), (1, .int v58_1), (2, .int v58_2), (3, .int v58_3), (4, .int v58_4), (5, .int v58_5)] → W p l e (headSpec (wt2 yX14_caught cX14_caught 8 none) ({ frames := 5, cells := 0, slots := 0, locals := 108 })).room s m ([.ref (ad 0), .int x1] : List Value).toArray below meth c H locs 0 0 (vx_MQ below (va_Qv (fun (u : MS) => Q u ∧ wfM u ∧ shy S u) (fun (u : MS) (t : State) => qE g ad A u t) A) ((vx_X (fun (u : MS) => E u ∧ wfM u ∧ shy S u) (fun (n9 : String) (u : MS) (t : State) => n9 = RJxb5711 ∧ qE g ad A u t) A)) ([.ref (ad 0), .int x1] : List Value).toArray s 0 0 A) (F0 m 58 ls [.ref (ad 0)]) := by
      intro U58 v58_1 v58_2 v58_3 v58_4 v58_5 H locs ls h hsh hR hl
      unfold w_caught_J58 at h
      refine lv_aload_n hx hb dX14_caught_58 rfl (lv_at hl 0 rfl) ?_
      refine lv_iload hx hb dX14_caught_59 (lv_at hl 4 rfl) ?_
      obtain ⟨hv73, h⟩ := h
      have hFc := rfree hR hA
      refine va_calli (va_runV (As := [.int v58_4]) (rest := [.ref (ad 0)]) ⟨hx, hb, hml, hown, hts⟩ (r_isStart l g ad H.size U58 v58_4 hR.w  hv73) (cwV 1 hts (gd2_V kx_298 kx_299 kx_300 kx_177 kx_301) rfl rfl rfl (by decide +kernel) ⟨Nat.le_of_ble_eq_true rfl, Nat.le_of_ble_eq_true rfl⟩) ⟨rblind, va_recv hR.K hR.P (ci := 13) (q0 := 0) rfl (hR.at14 hR.w.1), fun U hU hW9 => rmk hU hW9 hR hex hE hFc⟩ rfl rfl hl.1 rfl (lv_room (Nat.le_of_ble_eq_true rfl)) dX14_caught_61 ⟨Nat.le_of_ble_eq_true rfl, Nat.le_of_ble_eq_true rfl⟩) hR.sS (fun q _ h => hFc q h) hFc (fun r74 u9 t9 H1 locs ht9 hvm9 hw9 hB9 hz9 hk9 hS => ?_)
      have hR : Rep g ad A s U58 H1 locs := hR.call ht9 hB9 hR.w hS hFc
      obtain ⟨rfl, hz_r74⟩ := hw9
      clear hB9 hz9 hk9 hvm9 ht9 hS
      generalize H1 = H at hR ⊢
      refine lv_if_eq (tgt := 76) hx hb dX14_caught_64 (by decide) (fun c76 => ?_) (fun c76 => ?_)
      · replace h := h.1 (k_eq rfl (by decide) c76)
        exact J_76 U58 v58_1 v58_2 v58_3 v58_4 v58_5 _ _ ls h  hsh hR (lv_sub hl [0, 1, 2, 3, 4, 5] rfl)
      · replace h := h.2 (k_ne rfl (by decide) c76)
        refine lv_iload_n hx hb dX14_caught_67 rfl (lv_at hl 2 rfl) ?_
        refine lv_iload_n hx hb dX14_caught_68 rfl (lv_at hl 3 rfl) ?_
        refine lv_icmp_ge (tgt := 76) hx hb dX14_caught_69 (by decide) (fun c77 => ?_) (fun c77 => ?_)
        · replace h := h.1 (k_le rfl rfl c77)
          exact J_76 U58 v58_1 v58_2 v58_3 v58_4 v58_5 _ _ ls h  hsh hR (lv_sub hl [0, 1, 2, 3, 4, 5] rfl)
        · replace h := h.2 (k_nle rfl rfl c77)
          refine lv_iconst (v := 1) hx hb dX14_caught_72 (by decide) ?_
          refine lv_goto (tgt := 77) hx hb dX14_caught_73 (by decide) ?_
          exact J_77 U58 1 v58_1 v58_2 v58_3 v58_4 v58_5 _ _ ls h (Or.inr rfl) hsh hR (lv_sub hl [0, 1, 2, 3, 4, 5] rfl)
    refine lv_icmp_eq (tgt := 58) hx hb dX14_caught_47 (by decide) (fun c78 => ?_) (fun c78 => ?_)
    · replace h := h.1 (k_eq rfl rfl c78)
      exact J_58 S x1 a4 a9 a14 a19 _ _ ls h  hsh hR (lv_sub hl [4, 5, 3, 2, 1, 0] rfl)
    · replace h := h.2 (k_ne rfl rfl c78)
      refine lv_aload_n hx hb dX14_caught_50 rfl (lv_at hl 4 rfl) ?_
      refine lv_iload_n hx hb dX14_caught_51 rfl (lv_at hl 2 rfl) ?_
      obtain ⟨hv79, h⟩ := h
      have hFc := rfree hR hA
      refine va_calli (va_runV (As := [.int a9]) (rest := [.ref (ad 0)]) ⟨hx, hb, hml, hown, hts⟩ (r_isStart l g ad H.size S a9 hR.w  hv79) (cwV 1 hts (gd2_V kx_298 kx_299 kx_300 kx_177 kx_301) rfl rfl rfl (by decide +kernel) ⟨Nat.le_of_ble_eq_true rfl, Nat.le_of_ble_eq_true rfl⟩) ⟨rblind, va_recv hR.K hR.P (ci := 13) (q0 := 0) rfl (hR.at14 hR.w.1), fun U hU hW9 => rmk hU hW9 hR hex hE hFc⟩ rfl rfl hl.1 rfl (lv_room (Nat.le_of_ble_eq_true rfl)) dX14_caught_52 ⟨Nat.le_of_ble_eq_true rfl, Nat.le_of_ble_eq_true rfl⟩) hR.sS (fun q _ h => hFc q h) hFc (fun r80 u9 t9 H1 locs ht9 hvm9 hw9 hB9 hz9 hk9 hS => ?_)
      have hR : Rep g ad A s S H1 locs := hR.call ht9 hB9 hR.w hS hFc
      obtain ⟨rfl, hz_r80⟩ := hw9
      clear hB9 hz9 hk9 hvm9 ht9 hS
      generalize H1 = H at hR ⊢
      refine lv_if_eq (tgt := 76) hx hb dX14_caught_55 (by decide) (fun c82 => ?_) (fun c82 => ?_)
      · replace h := h.1 (k_eq rfl (by decide) c82)
        exact J_76 S x1 a4 a9 a14 a19 _ _ ls h  hsh hR (lv_sub hl [4, 5, 3, 2, 1, 0] rfl)
      · replace h := h.2 (k_ne rfl (by decide) c82)
        exact J_58 S x1 a4 a9 a14 a19 _ _ ls h  hsh hR (lv_sub hl [4, 5, 3, 2, 1, 0] rfl)
