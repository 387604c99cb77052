def wX5_isJumpTaken (S : MS) (x1 : Int32) (Q : Int32 → MS → Prop) : Prop := ((x1.toInt = 167 → Q (1 : Int32) S) ∧ (¬ x1.toInt = 167 → (∃ Q2, wX5_pop S Q2 ∧ ∀ r3 S4, Q2 r3 S4 → wfC S4 → shy S S4 → ((x1.toInt = 165 → (∃ Q6, wX5_pop S4 Q6 ∧ ∀ r7 S8, Q6 r7 S8 → wfC S8 → shy S4 S8 → (((lg_cmp r7 r3).toInt = 0 → Q (1 : Int32) S8) ∧ (¬ (lg_cmp r7 r3).toInt = 0 → Q (0 : Int32) S8)))) ∧ (¬ x1.toInt = 165 → ((x1.toInt = 166 → (∃ Q12, wX5_pop S4 Q12 ∧ ∀ r13 S14, Q12 r13 S14 → wfC S14 → shy S4 S14 → (((lg_cmp r13 r3).toInt = 0 → Q (0 : Int32) S14) ∧ (¬ (lg_cmp r13 r3).toInt = 0 → Q (1 : Int32) S14)))) ∧ (¬ x1.toInt = 166 → ((x1.toInt = 198 → (((lg_cmp r3 0).toInt = 0 → Q (1 : Int32) S4) ∧ (¬ (lg_cmp r3 0).toInt = 0 → Q (0 : Int32) S4))) ∧ (¬ x1.toInt = 198 → ((x1.toInt = 199 → (((lg_cmp r3 0).toInt = 0 → Q (0 : Int32) S4) ∧ (¬ (lg_cmp r3 0).toInt = 0 → Q (1 : Int32) S4))) ∧ (¬ x1.toInt = 199 → ((159 ≤ x1.toInt → (∃ Q23, wX5_pop S4 Q23 ∧ ∀ r24 S25, Q23 r24 S25 → wfC S25 → shy S4 S25 → (d_X6_isTaken S25 x1 (r24.toInt32) (r3.toInt32) ∧ Q (fX6_isTaken S25 x1 (r24.toInt32) (r3.toInt32)) S25))) ∧ (¬ 159 ≤ x1.toInt → (d_X6_isTaken S4 x1 (r3.toInt32) (0 : Int32) ∧ Q (fX6_isTaken S4 x1 (r3.toInt32) (0 : Int32)) S4))))))))))))))
set_option maxHeartbeats 2000000 in
set_option maxRecDepth 100000 in
theorem rX5_isJumpTaken (l : Launch) (g : Gr) (ad : Nat → Nat) (sz : Nat) (S : MS) (x1 : Int32) (hw : wfC S) (Q : Int32 → MS → Prop) (h : wX5_isJumpTaken S x1 Q) : Met l yX5_isJumpTaken (wt yX5_isJumpTaken cX5_isJumpTaken 4 (some .boolean)) ({ frames := 1, cells := 0, slots := 0, locals := 22 }) (va_Pc [.ref (ad 44), .int x1] (st_C g ad sz S)) (va_Qi (fun (r : Int32) (u : MS) => Q r u ∧ wfC u ∧ shy S u ∧ (r = 0 ∨ r = 1)) (fun (u : MS) (t : State) => qEC g ad (va_A (WdC g ad S) sz) u t) (va_A (WdC g ad S) sz)) 0 0 (va_A (WdC g ad S) sz) := by
  refine Met.ofW (cc := cX5_isJumpTaken) (maxL := 4) (ret := (some .boolean)) (by decide) rfl ?_
  intro p e s m args below meth c s₁ B hml hv
  obtain ⟨rfl, hsz, hP, hK, hD0, hex, hE⟩ := hv
  have hx := B.exec
  have hb := B.bytes
  have hr := B.returns
  have hts0 := atoms_spec (ws := wt yX5_isJumpTaken cX5_isJumpTaken 4 (some .boolean)) B.pre
  have hts : ∀ w ∈ tb, w.before _ s = true := fun w h => hts0 w (List.mem_cons_of_mem _ h)
  have hown : s.vm.findClass RX5 = some m.cls := findClass_of_methodNamed B.named
  subst hsz
  have hD := hD0.self (sz := s.heap.size)
  generalize hAe : va_A (WdC g ad S) s.heap.size = A at hD hE ⊢
  have hA : ∀ q : Nat, s.heap.size ≤ q → A q := fun q h => by rw [← hAe]; exact Or.inr h
  have hR : RepC g ad A s S s.heap [] := ⟨hK, hP, hD, va_S.rf, hw⟩
  clear hK hP hD hD0
  have hl := lv_entry ([.ref (ad 44), .int x1]) (n := 4) (Nat.le_of_ble_eq_true rfl)
  rw [lg_entry_eq]
  generalize (lg_sl ([.ref (ad 44), .int x1]) ++ List.replicate (4 - (lg_sl ([.ref (ad 44), .int x1])).length) Slot.unset).toArray = ls at hl ⊢
  have hl : lv_has ls 4 [(0, .ref (ad 44)), (1, .int x1)] := hl
  have hsh : shy S S := shy.rf
  unfold wX5_isJumpTaken at h
  refine lv_iload_n hx hb dX5_isJumpTaken_0 rfl (lv_at hl 1 rfl) ?_
  refine lv_sipush (v := 167) hx hb dX5_isJumpTaken_1 (by decide) ?_
  refine lv_icmp_ne (tgt := 9) hx hb dX5_isJumpTaken_4 (by decide) (fun c1 => ?_) (fun c1 => ?_)
  · replace h := h.2 (k_ne rfl (by decide) c1)
    refine lv_aload_n hx hb dX5_isJumpTaken_9 rfl (lv_at hl 0 rfl) ?_
    obtain ⟨Q2, h0, h⟩ := h
    have hFc := cfree hR hA
    refine va_calll (va_runV (As := []) (rest := []) ⟨hx, hb, hml, hown, hts⟩ (rX5_pop l g ad s.heap.size S hR.w  Q2 h0) (cwV 0 hts (gd_V kw_1080 kw_1124 kw_1125 kw_398 kw_1123) rfl rfl rfl (by decide +kernel) ⟨Nat.le_of_ble_eq_true rfl, Nat.le_of_ble_eq_true rfl⟩) ⟨cblind, va_recv hR.K hR.P (ci := 5) (q0 := 44) rfl (hR.at45 (hR.w.2.1 _ finC_29).2.1), fun U hU hW9 => cmk hU hW9 hR hex hE hFc⟩ rfl rfl hl.1 rfl (lv_room (Nat.le_of_ble_eq_true rfl)) dX5_isJumpTaken_10 ⟨Nat.le_of_ble_eq_true rfl, Nat.le_of_ble_eq_true rfl⟩) hR.sS (fun q _ h => hFc q h) hFc (fun r3 S4 t9 H1 locs ht9 hvm9 hw9 hB9 hz9 hk9 hS => ?_)
    obtain ⟨hq5, hw9, hs9⟩ := hw9
    have hR : RepC g ad A s S4 H1 locs := hR.call ht9 hB9 hw9 hS hFc
    have hsh := hsh.tr hs9
    replace h := h r3 S4 hq5 hw9 hs9
    clear hB9 hz9 hk9 hvm9 ht9 hw9 hs9 hS
    generalize H1 = H at hR ⊢
    refine lv_lstore_n (lv' := [(2, .long r3), (0, .ref (ad 44)), (1, .int x1)]) hx hb dX5_isJumpTaken_13 rfl hl (by decide) rfl (fun ls hl => ?_)
    refine lv_iload_n hx hb dX5_isJumpTaken_14 rfl (lv_at hl 2 rfl) ?_
    by_cases c9_165 : x1.toInt = 165
    · refine lv_lookup (off := 65) (tgt := 80) hx hb dX5_isJumpTaken_15 (by decide) (by rw [c9_165]; decide) (by decide) ?_
      replace h := h.1 (c9_165)
      refine lv_aload_n hx hb dX5_isJumpTaken_80 rfl (lv_at hl 1 rfl) ?_
      obtain ⟨Q6, h0, h⟩ := h
      have hFc := cfree hR hA
      refine va_calll (va_runV (As := []) (rest := []) ⟨hx, hb, hml, hown, hts⟩ (rX5_pop l g ad H.size S4 hR.w  Q6 h0) (cwV 0 hts (gd_V kw_1080 kw_1124 kw_1125 kw_398 kw_1123) rfl rfl rfl (by decide +kernel) ⟨Nat.le_of_ble_eq_true rfl, Nat.le_of_ble_eq_true rfl⟩) ⟨cblind, va_recv hR.K hR.P (ci := 5) (q0 := 44) rfl (hR.at45 (hR.w.2.1 _ finC_29).2.1), fun U hU hW9 => cmk hU hW9 hR hex hE hFc⟩ rfl rfl hl.1 rfl (lv_room (Nat.le_of_ble_eq_true rfl)) dX5_isJumpTaken_81 ⟨Nat.le_of_ble_eq_true rfl, Nat.le_of_ble_eq_true rfl⟩) hR.sS (fun q _ h => hFc q h) hFc (fun r7 S8 t9 H1 locs ht9 hvm9 hw9 hB9 hz9 hk9 hS => ?_)
      obtain ⟨hq9, hw9, hs9⟩ := hw9
      have hR : RepC g ad A s S8 H1 locs := hR.call ht9 hB9 hw9 hS hFc
      have hsh := hsh.tr hs9
      replace h := h r7 S8 hq9 hw9 hs9
      clear hB9 hz9 hk9 hvm9 ht9 hw9 hs9 hS
      generalize H1 = H at hR ⊢
      refine lv_lload_n hx hb dX5_isJumpTaken_84 rfl (lv_at hl 0 rfl) ?_
      refine W.lcmp hx hb dX5_isJumpTaken_85 ?_
      refine lv_topi (fun z10 ez10 => ?_)
      obtain rfl : z10 = (lg_cmp r7 r3) := ez10
      refine lv_if_ne (tgt := 93) hx hb dX5_isJumpTaken_86 (by decide) (fun c11 => ?_) (fun c11 => ?_)
      · replace h := h.2 (k_ne rfl (by decide) c11)
        refine lv_iconst (v := 0) hx hb dX5_isJumpTaken_93 (by decide) ?_
        exact W.zret (v := 0) hx hb hr (nz (Or.inl rfl)) (fun t9 ht9 hW9 => ⟨⟨_, S8, rfl, ⟨h, hR.w, hsh, (Or.inl rfl)⟩, ⟨by rw [ht9]; exact hR.P, hR.D⟩⟩, hR.sS.F ht9⟩) hR.sS.2.2 dX5_isJumpTaken_94
      · replace h := h.1 (k_eq rfl (by decide) c11)
        refine lv_iconst (v := 1) hx hb dX5_isJumpTaken_89 (by decide) ?_
        refine lv_goto (tgt := 94) hx hb dX5_isJumpTaken_90 (by decide) ?_
        exact W.zret (v := 1) hx hb hr (nz (Or.inr rfl)) (fun t9 ht9 hW9 => ⟨⟨_, S8, rfl, ⟨h, hR.w, hsh, (Or.inr rfl)⟩, ⟨by rw [ht9]; exact hR.P, hR.D⟩⟩, hR.sS.F ht9⟩) hR.sS.2.2 dX5_isJumpTaken_94
    replace h := h.2 c9_165
    by_cases c9_166 : x1.toInt = 166
    · refine lv_lookup (off := 80) (tgt := 95) hx hb dX5_isJumpTaken_15 (by decide) (by rw [c9_166]; decide) (by decide) ?_
      replace h := h.1 (c9_166)
      refine lv_aload_n hx hb dX5_isJumpTaken_95 rfl (lv_at hl 1 rfl) ?_
      obtain ⟨Q12, h0, h⟩ := h
      have hFc := cfree hR hA
      refine va_calll (va_runV (As := []) (rest := []) ⟨hx, hb, hml, hown, hts⟩ (rX5_pop l g ad H.size S4 hR.w  Q12 h0) (cwV 0 hts (gd_V kw_1080 kw_1124 kw_1125 kw_398 kw_1123) rfl rfl rfl (by decide +kernel) ⟨Nat.le_of_ble_eq_true rfl, Nat.le_of_ble_eq_true rfl⟩) ⟨cblind, va_recv hR.K hR.P (ci := 5) (q0 := 44) rfl (hR.at45 (hR.w.2.1 _ finC_29).2.1), fun U hU hW9 => cmk hU hW9 hR hex hE hFc⟩ rfl rfl hl.1 rfl (lv_room (Nat.le_of_ble_eq_true rfl)) dX5_isJumpTaken_96 ⟨Nat.le_of_ble_eq_true rfl, Nat.le_of_ble_eq_true rfl⟩) hR.sS (fun q _ h => hFc q h) hFc (fun r13 S14 t9 H1 locs ht9 hvm9 hw9 hB9 hz9 hk9 hS => ?_)
      obtain ⟨hq15, hw9, hs9⟩ := hw9
      have hR : RepC g ad A s S14 H1 locs := hR.call ht9 hB9 hw9 hS hFc
      have hsh := hsh.tr hs9
      replace h := h r13 S14 hq15 hw9 hs9
      clear hB9 hz9 hk9 hvm9 ht9 hw9 hs9 hS
      generalize H1 = H at hR ⊢
      refine lv_lload_n hx hb dX5_isJumpTaken_99 rfl (lv_at hl 0 rfl) ?_
      refine W.lcmp hx hb dX5_isJumpTaken_100 ?_
      refine lv_topi (fun z16 ez16 => ?_)
      obtain rfl : z16 = (lg_cmp r13 r3) := ez16
      refine lv_if_eq (tgt := 108) hx hb dX5_isJumpTaken_101 (by decide) (fun c17 => ?_) (fun c17 => ?_)
      · replace h := h.1 (k_eq rfl (by decide) c17)
        refine lv_iconst (v := 0) hx hb dX5_isJumpTaken_108 (by decide) ?_
        exact W.zret (v := 0) hx hb hr (nz (Or.inl rfl)) (fun t9 ht9 hW9 => ⟨⟨_, S14, rfl, ⟨h, hR.w, hsh, (Or.inl rfl)⟩, ⟨by rw [ht9]; exact hR.P, hR.D⟩⟩, hR.sS.F ht9⟩) hR.sS.2.2 dX5_isJumpTaken_109
      · replace h := h.2 (k_ne rfl (by decide) c17)
        refine lv_iconst (v := 1) hx hb dX5_isJumpTaken_104 (by decide) ?_
        refine lv_goto (tgt := 109) hx hb dX5_isJumpTaken_105 (by decide) ?_
        exact W.zret (v := 1) hx hb hr (nz (Or.inr rfl)) (fun t9 ht9 hW9 => ⟨⟨_, S14, rfl, ⟨h, hR.w, hsh, (Or.inr rfl)⟩, ⟨by rw [ht9]; exact hR.P, hR.D⟩⟩, hR.sS.F ht9⟩) hR.sS.2.2 dX5_isJumpTaken_109
    replace h := h.2 c9_166
    by_cases c9_198 : x1.toInt = 198
    · refine lv_lookup (off := 41) (tgt := 56) hx hb dX5_isJumpTaken_15 (by decide) (by rw [c9_198]; decide) (by decide) ?_
      replace h := h.1 (c9_198)
      refine lv_lload_n hx hb dX5_isJumpTaken_56 rfl (lv_at hl 0 rfl) ?_
      refine lv_lconst (v := 0) hx hb dX5_isJumpTaken_57 (by decide) ?_
      refine W.lcmp hx hb dX5_isJumpTaken_58 ?_
      refine lv_topi (fun z18 ez18 => ?_)
      obtain rfl : z18 = (lg_cmp r3 0) := ez18
      refine lv_if_ne (tgt := 66) hx hb dX5_isJumpTaken_59 (by decide) (fun c19 => ?_) (fun c19 => ?_)
      · replace h := h.2 (k_ne rfl (by decide) c19)
        refine lv_iconst (v := 0) hx hb dX5_isJumpTaken_66 (by decide) ?_
        exact W.zret (v := 0) hx hb hr (nz (Or.inl rfl)) (fun t9 ht9 hW9 => ⟨⟨_, S4, rfl, ⟨h, hR.w, hsh, (Or.inl rfl)⟩, ⟨by rw [ht9]; exact hR.P, hR.D⟩⟩, hR.sS.F ht9⟩) hR.sS.2.2 dX5_isJumpTaken_67
      · replace h := h.1 (k_eq rfl (by decide) c19)
        refine lv_iconst (v := 1) hx hb dX5_isJumpTaken_62 (by decide) ?_
        refine lv_goto (tgt := 67) hx hb dX5_isJumpTaken_63 (by decide) ?_
        exact W.zret (v := 1) hx hb hr (nz (Or.inr rfl)) (fun t9 ht9 hW9 => ⟨⟨_, S4, rfl, ⟨h, hR.w, hsh, (Or.inr rfl)⟩, ⟨by rw [ht9]; exact hR.P, hR.D⟩⟩, hR.sS.F ht9⟩) hR.sS.2.2 dX5_isJumpTaken_67
    replace h := h.2 c9_198
    by_cases c9_199 : x1.toInt = 199
    · refine lv_lookup (off := 53) (tgt := 68) hx hb dX5_isJumpTaken_15 (by decide) (by rw [c9_199]; decide) (by decide) ?_
      replace h := h.1 (c9_199)
      refine lv_lload_n hx hb dX5_isJumpTaken_68 rfl (lv_at hl 0 rfl) ?_
      refine lv_lconst (v := 0) hx hb dX5_isJumpTaken_69 (by decide) ?_
      refine W.lcmp hx hb dX5_isJumpTaken_70 ?_
      refine lv_topi (fun z20 ez20 => ?_)
      obtain rfl : z20 = (lg_cmp r3 0) := ez20
      refine lv_if_eq (tgt := 78) hx hb dX5_isJumpTaken_71 (by decide) (fun c21 => ?_) (fun c21 => ?_)
      · replace h := h.1 (k_eq rfl (by decide) c21)
        refine lv_iconst (v := 0) hx hb dX5_isJumpTaken_78 (by decide) ?_
        exact W.zret (v := 0) hx hb hr (nz (Or.inl rfl)) (fun t9 ht9 hW9 => ⟨⟨_, S4, rfl, ⟨h, hR.w, hsh, (Or.inl rfl)⟩, ⟨by rw [ht9]; exact hR.P, hR.D⟩⟩, hR.sS.F ht9⟩) hR.sS.2.2 dX5_isJumpTaken_79
      · replace h := h.2 (k_ne rfl (by decide) c21)
        refine lv_iconst (v := 1) hx hb dX5_isJumpTaken_74 (by decide) ?_
        refine lv_goto (tgt := 79) hx hb dX5_isJumpTaken_75 (by decide) ?_
        exact W.zret (v := 1) hx hb hr (nz (Or.inr rfl)) (fun t9 ht9 hW9 => ⟨⟨_, S4, rfl, ⟨h, hR.w, hsh, (Or.inr rfl)⟩, ⟨by rw [ht9]; exact hR.P, hR.D⟩⟩, hR.sS.F ht9⟩) hR.sS.2.2 dX5_isJumpTaken_79
    replace h := h.2 c9_199
    refine lv_lookup (off := 95) (tgt := 110) hx hb dX5_isJumpTaken_15 (by decide) (lx_cons c9_165 (lx_cons c9_166 (lx_cons c9_198 (lx_cons c9_199 lx_nil)))) (by decide) ?_
    refine lv_iload_n hx hb dX5_isJumpTaken_110 rfl (lv_at hl 2 rfl) ?_
    refine lv_sipush (v := 159) hx hb dX5_isJumpTaken_111 (by decide) ?_
    refine lv_icmp_ge (tgt := 127) hx hb dX5_isJumpTaken_114 (by decide) (fun c22 => ?_) (fun c22 => ?_)
    · replace h := h.1 (k_le (by decide) rfl c22)
      refine lv_iload_n hx hb dX5_isJumpTaken_127 rfl (lv_at hl 2 rfl) ?_
      refine lv_aload_n hx hb dX5_isJumpTaken_128 rfl (lv_at hl 1 rfl) ?_
      obtain ⟨Q23, h0, h⟩ := h
      have hFc := cfree hR hA
      refine va_calll (va_runV (As := []) (rest := [.int x1]) ⟨hx, hb, hml, hown, hts⟩ (rX5_pop l g ad H.size S4 hR.w  Q23 h0) (cwV 0 hts (gd_V kw_1080 kw_1124 kw_1125 kw_398 kw_1123) rfl rfl rfl (by decide +kernel) ⟨Nat.le_of_ble_eq_true rfl, Nat.le_of_ble_eq_true rfl⟩) ⟨cblind, va_recv hR.K hR.P (ci := 5) (q0 := 44) rfl (hR.at45 (hR.w.2.1 _ finC_29).2.1), fun U hU hW9 => cmk hU hW9 hR hex hE hFc⟩ rfl rfl hl.1 rfl (lv_room (Nat.le_of_ble_eq_true rfl)) dX5_isJumpTaken_129 ⟨Nat.le_of_ble_eq_true rfl, Nat.le_of_ble_eq_true rfl⟩) hR.sS (fun q _ h => hFc q h) hFc (fun r24 S25 t9 H1 locs ht9 hvm9 hw9 hB9 hz9 hk9 hS => ?_)
      obtain ⟨hq26, hw9, hs9⟩ := hw9
      have hR : RepC g ad A s S25 H1 locs := hR.call ht9 hB9 hw9 hS hFc
      have hsh := hsh.tr hs9
      replace h := h r24 S25 hq26 hw9 hs9
      clear hB9 hz9 hk9 hvm9 ht9 hw9 hs9 hS
      generalize H1 = H at hR ⊢
      refine lv_l2i (v := (r24.toInt32)) hx hb dX5_isJumpTaken_132 rfl ?_
      refine lv_lload_n hx hb dX5_isJumpTaken_133 rfl (lv_at hl 0 rfl) ?_
      refine lv_l2i (v := (r3.toInt32)) hx hb dX5_isJumpTaken_134 rfl ?_
      obtain ⟨hv27, h⟩ := h
      have hFc := cfree hR hA
      refine va_calli (va_runS (As := [.int x1, .int (r24.toInt32), .int (r3.toInt32)]) (rest := []) ⟨hx, hb, hml, hown, hts⟩ (rX6_isTaken l g ad H.size S25 x1 (r24.toInt32) (r3.toInt32) hR.w  hv27) (va_cwS 3 hts (gd_S kw_1081 kw_1235 kw_1207 kw_1234) rfl rfl rfl (by decide +kernel) ⟨Nat.le_of_ble_eq_true rfl, Nat.le_of_ble_eq_true rfl⟩) ⟨cblind, fun U hU hW9 => cmk hU hW9 hR hex hE hFc⟩ rfl rfl hl.1 rfl (lv_room (Nat.le_of_ble_eq_true rfl)) dX5_isJumpTaken_135 ⟨Nat.le_of_ble_eq_true rfl, Nat.le_of_ble_eq_true rfl⟩) hR.sS (fun q _ h => hFc q h) hFc (fun r28 u9 t9 H1 locs ht9 hvm9 hw9 hB9 hz9 hk9 hS => ?_)
      have hR : RepC g ad A s S25 H1 locs := hR.call ht9 hB9 hR.w hS hFc
      obtain ⟨rfl, hz_r28⟩ := hw9
      clear hB9 hz9 hk9 hvm9 ht9 hS
      generalize H1 = H at hR ⊢
      exact W.zret (v := (fX6_isTaken S25 x1 (r24.toInt32) (r3.toInt32))) hx hb hr (nz hz_r28) (fun t9 ht9 hW9 => ⟨⟨_, S25, rfl, ⟨h, hR.w, hsh, hz_r28⟩, ⟨by rw [ht9]; exact hR.P, hR.D⟩⟩, hR.sS.F ht9⟩) hR.sS.2.2 dX5_isJumpTaken_138
    · replace h := h.2 (k_nle (by decide) rfl c22)
      refine lv_iload_n hx hb dX5_isJumpTaken_117 rfl (lv_at hl 2 rfl) ?_
      refine lv_lload_n hx hb dX5_isJumpTaken_118 rfl (lv_at hl 0 rfl) ?_
      refine lv_l2i (v := (r3.toInt32)) hx hb dX5_isJumpTaken_119 rfl ?_
      refine lv_iconst (v := 0) hx hb dX5_isJumpTaken_120 (by decide) ?_
      obtain ⟨hv30, h⟩ := h
      have hFc := cfree hR hA
      refine va_calli (va_runS (As := [.int x1, .int (r3.toInt32), .int 0]) (rest := []) ⟨hx, hb, hml, hown, hts⟩ (rX6_isTaken l g ad H.size S4 x1 (r3.toInt32) (0 : Int32) hR.w  hv30) (va_cwS 3 hts (gd_S kw_1081 kw_1235 kw_1207 kw_1234) rfl rfl rfl (by decide +kernel) ⟨Nat.le_of_ble_eq_true rfl, Nat.le_of_ble_eq_true rfl⟩) ⟨cblind, fun U hU hW9 => cmk hU hW9 hR hex hE hFc⟩ rfl rfl hl.1 rfl (lv_room (Nat.le_of_ble_eq_true rfl)) dX5_isJumpTaken_121 ⟨Nat.le_of_ble_eq_true rfl, Nat.le_of_ble_eq_true rfl⟩) hR.sS (fun q _ h => hFc q h) hFc (fun r31 u9 t9 H1 locs ht9 hvm9 hw9 hB9 hz9 hk9 hS => ?_)
      have hR : RepC g ad A s S4 H1 locs := hR.call ht9 hB9 hR.w hS hFc
      obtain ⟨rfl, hz_r31⟩ := hw9
      clear hB9 hz9 hk9 hvm9 ht9 hS
      generalize H1 = H at hR ⊢
      refine lv_goto (tgt := 138) hx hb dX5_isJumpTaken_124 (by decide) ?_
      exact W.zret (v := (fX6_isTaken S4 x1 (r3.toInt32) (0 : Int32))) hx hb hr (nz hz_r31) (fun t9 ht9 hW9 => ⟨⟨_, S4, rfl, ⟨h, hR.w, hsh, hz_r31⟩, ⟨by rw [ht9]; exact hR.P, hR.D⟩⟩, hR.sS.F ht9⟩) hR.sS.2.2 dX5_isJumpTaken_138
  · replace h := h.1 (k_eq rfl (by decide) c1)
    refine lv_iconst (v := 1) hx hb dX5_isJumpTaken_7 (by decide) ?_
    exact W.zret (v := 1) hx hb hr (nz (Or.inr rfl)) (fun t9 ht9 hW9 => ⟨⟨_, S, rfl, ⟨h, hR.w, hsh, (Or.inr rfl)⟩, ⟨by rw [ht9]; exact hR.P, hR.D⟩⟩, hR.sS.F ht9⟩) hR.sS.2.2 dX5_isJumpTaken_8
def w_X5_switchChoice_L80 (Q : Int32 → MS → Prop) : Nat → MS → Int32 → Int32 → Int32 → Int32 → Prop
  | 0, _, _, _, _, _ => False
  | n80 + 1, U80, v80_2, v80_3, v80_4, v80_5 => (wfC U80 → ((v80_4.toInt < v80_5.toInt → Q (0 : Int32) U80) ∧ (¬ v80_4.toInt < v80_5.toInt → ((qR U80 44 12 = some (qO U80 44 12)) ∧ (d_X8_tableAt U80 (qO U80 44 12) (((v80_3 + (2 : Int32)) + v80_4) + v80_5) ∧ (((fX8_tableAt U80 (qO U80 44 12) (((v80_3 + (2 : Int32)) + v80_4) + v80_5)).toInt = v80_2.toInt → Q v80_5 U80) ∧ (¬ (fX8_tableAt U80 (qO U80 44 12) (((v80_3 + (2 : Int32)) + v80_4) + v80_5)).toInt = v80_2.toInt → (∀ a25 : Int32, a25 = (v80_5 + Int32.ofInt 1) → (w_X5_switchChoice_L80 Q n80) U80 v80_2 v80_3 v80_4 a25))))))))
def w_X5_switchChoice_J67 (Q : Int32 → MS → Prop) (U67 : MS) : Prop := (wfC U67 → Q (0 : Int32) U67)
def wX5_switchChoice (S : MS) (x1 : Int32) (x2 : Int32) (Q : Int32 → MS → Prop) : Prop := ((qR S 44 12 = some (qO S 44 12)) ∧ (d_X8_argAt S (qO S 44 12) (qI S 44 13) ∧ (∀ a6 : Int32, a6 = ((fX8_argAt S (qO S 44 12) (qI S 44 13)).toInt32) → ((qR S 44 12 = some (qO S 44 12)) ∧ (d_X8_targetCount S (qO S 44 12) (qI S 44 13) ∧ (∀ a13 : Int32, a13 = ((fX8_targetCount S (qO S 44 12) (qI S 44 13)) - (1 : Int32)) → ((x1.toInt = 170 → ((qR S 44 12 = some (qO S 44 12)) ∧ (d_X8_tableAt S (qO S 44 12) (a6 + (1 : Int32)) ∧ (∀ a33 : Int64, a33 = ((x2.toInt64) - ((fX8_tableAt S (qO S 44 12) (a6 + (1 : Int32))).toInt64)) → (((lg_cmp a33 0).toInt < 0 → w_X5_switchChoice_J67 Q S) ∧ (¬ (lg_cmp a33 0).toInt < 0 → (((lg_cmp a33 (a13.toInt64)).toInt < 0 → Q ((a33.toInt32) + (1 : Int32)) S) ∧ (¬ (lg_cmp a33 (a13.toInt64)).toInt < 0 → w_X5_switchChoice_J67 Q S)))))))) ∧ (¬ x1.toInt = 170 → (∃ n, w_X5_switchChoice_L80 Q n S x2 a6 a13 1)))))))))
set_option maxHeartbeats 2000000 in
set_option maxRecDepth 100000 in
theorem rX5_switchChoice (l : Launch) (g : Gr) (ad : Nat → Nat) (sz : Nat) (S : MS) (x1 : Int32) (x2 : Int32) (hw : wfC S) (Q : Int32 → MS → Prop) (h : wX5_switchChoice S x1 x2 Q) : Met l yX5_switchChoice (wt yX5_switchChoice cX5_switchChoice 7 (some .int)) ({ frames := 2, cells := 0, slots := 0, locals := 43 }) (va_Pc [.ref (ad 44), .int x1, .int x2] (st_C g ad sz S)) (va_Qi (fun (r : Int32) (u : MS) => Q r u ∧ wfC u ∧ shy S u) (fun (u : MS) (t : State) => qEC g ad (va_A (WdC g ad S) sz) u t) (va_A (WdC g ad S) sz)) 0 0 (va_A (WdC g ad S) sz) := by
  refine Met.ofW (cc := cX5_switchChoice) (maxL := 7) (ret := (some .int)) (by decide) rfl ?_
  intro p e s m args below meth c s₁ B hml hv
  obtain ⟨rfl, hsz, hP, hK, hD0, hex, hE⟩ := hv
  have hx := B.exec
  have hb := B.bytes
  have hr := B.returns
  have hts0 := atoms_spec (ws := wt yX5_switchChoice cX5_switchChoice 7 (some .int)) B.pre
  have hts : ∀ w ∈ tb, w.before _ s = true := fun w h => hts0 w (List.mem_cons_of_mem _ h)
  have hown : s.vm.findClass RX5 = some m.cls := findClass_of_methodNamed B.named
  subst hsz
  have hD := hD0.self (sz := s.heap.size)
  generalize hAe : va_A (WdC g ad S) s.heap.size = A at hD hE ⊢
  have hA : ∀ q : Nat, s.heap.size ≤ q → A q := fun q h => by rw [← hAe]; exact Or.inr h
  have hR : RepC g ad A s S s.heap [] := ⟨hK, hP, hD, va_S.rf, hw⟩
  clear hK hP hD hD0
  have hl := lv_entry ([.ref (ad 44), .int x1, .int x2]) (n := 7) (Nat.le_of_ble_eq_true rfl)
  rw [lg_entry_eq]
  generalize (lg_sl ([.ref (ad 44), .int x1, .int x2]) ++ List.replicate (7 - (lg_sl ([.ref (ad 44), .int x1, .int x2])).length) Slot.unset).toArray = ls at hl ⊢
  have hl : lv_has ls 7 [(0, .ref (ad 44)), (1, .int x1), (2, .int x2)] := hl
  have hsh : shy S S := shy.rf
  unfold wX5_switchChoice at h
  refine lv_aload_n hx hb dX5_switchChoice_0 rfl (lv_at hl 0 rfl) ?_
  obtain ⟨hv2, h⟩ := h
  have hT_b1 : qT S (qO S 44 12) = 47 := hR.w.ref hv2 (hR.w.2.1 _ finC_29).2.1
  refine va_get (D := rD g) (ci := 5) (v := .ref (ad (qO S 44 12))) (C := RX5) (T := TX5) (N := 20) hx hb hts inX5 hown hR.K hR.P 44 (hR.at45 (hR.w.2.1 _ finC_29).2.1) rfl 12 (by decide) (hts _ kw_1030) (fun _ h9 => h9) (congrArg (fun z => some (vf ad z)) hv2) dX5_switchChoice_1 ?_
  refine lv_aload_n hx hb dX5_switchChoice_4 rfl (lv_at hl 0 rfl) ?_
  refine va_get (D := rD g) (ci := 5) (v := .int (qI S 44 13)) (C := RX5) (T := TX5) (N := 20) hx hb hts inX5 hown hR.K hR.P 44 (hR.at45 (hR.w.2.1 _ finC_29).2.1) rfl 13 (by decide) (hts _ kw_1021) (fun _ h9 => h9) rfl dX5_switchChoice_5 ?_
  obtain ⟨hv3, h⟩ := h
  have hFc := cfree hR hA
  refine va_calll (va_runV (As := [.int (qI S 44 13)]) (rest := []) ⟨hx, hb, hml, hown, hts⟩ (rX8_argAt l g ad s.heap.size S (qO S 44 12) (qI S 44 13) hR.w hT_b1 hv3) (cwV 1 hts (gd_V kw_1104 kw_1476 kw_1477 kw_782 kw_1475) rfl rfl rfl (by decide +kernel) ⟨Nat.le_of_ble_eq_true rfl, Nat.le_of_ble_eq_true rfl⟩) ⟨cblind, va_recv hR.K hR.P (ci := 7) (q0 := (qO S 44 12)) rfl (hR.at47 hT_b1), fun U hU hW9 => cmk hU hW9 hR hex hE hFc⟩ rfl rfl hl.1 rfl (lv_room (Nat.le_of_ble_eq_true rfl)) dX5_switchChoice_8 ⟨Nat.le_of_ble_eq_true rfl, Nat.le_of_ble_eq_true rfl⟩) hR.sS (fun q _ h => hFc q h) hFc (fun r4 u9 t9 H1 locs ht9 hvm9 hw9 hB9 hz9 hk9 hS => ?_)
  have hR : RepC g ad A s S H1 locs := hR.call ht9 hB9 hR.w hS hFc
  obtain rfl : r4 = (fX8_argAt S (qO S 44 12) (qI S 44 13)) := hw9
  clear hB9 hz9 hk9 hvm9 ht9 hS
  generalize H1 = H at hR ⊢
  refine lv_l2i (v := ((fX8_argAt S (qO S 44 12) (qI S 44 13)).toInt32)) hx hb dX5_switchChoice_11 rfl ?_
  obtain ⟨a6, ea6⟩ : ∃ z, z = ((fX8_argAt S (qO S 44 12) (qI S 44 13)).toInt32) := ⟨_, rfl⟩
  rw [← ea6]
  replace h := h a6 ea6
  refine lv_istore_n (lv' := [(3, .int a6), (0, .ref (ad 44)), (1, .int x1), (2, .int x2)]) hx hb dX5_switchChoice_12 rfl hl (by decide) rfl (fun ls hl => ?_)
  refine lv_aload_n hx hb dX5_switchChoice_13 rfl (lv_at hl 1 rfl) ?_
  obtain ⟨hv8, h⟩ := h
  have hT_b7 : qT S (qO S 44 12) = 47 := hR.w.ref hv8 (hR.w.2.1 _ finC_29).2.1
  refine va_get (D := rD g) (ci := 5) (v := .ref (ad (qO S 44 12))) (C := RX5) (T := TX5) (N := 20) hx hb hts inX5 hown hR.K hR.P 44 (hR.at45 (hR.w.2.1 _ finC_29).2.1) rfl 12 (by decide) (hts _ kw_1030) (fun _ h9 => h9) (congrArg (fun z => some (vf ad z)) hv8) dX5_switchChoice_14 ?_
  refine lv_aload_n hx hb dX5_switchChoice_17 rfl (lv_at hl 1 rfl) ?_
  refine va_get (D := rD g) (ci := 5) (v := .int (qI S 44 13)) (C := RX5) (T := TX5) (N := 20) hx hb hts inX5 hown hR.K hR.P 44 (hR.at45 (hR.w.2.1 _ finC_29).2.1) rfl 13 (by decide) (hts _ kw_1021) (fun _ h9 => h9) rfl dX5_switchChoice_18 ?_
  obtain ⟨hv9, h⟩ := h
  have hFc := cfree hR hA
  refine va_calli (va_runV (As := [.int (qI S 44 13)]) (rest := []) ⟨hx, hb, hml, hown, hts⟩ (rX8_targetCount l g ad H.size S (qO S 44 12) (qI S 44 13) hR.w hT_b7 hv9) (cwV 1 hts (gd_V kw_1181 kw_1541 kw_1542 kw_782 kw_1540) rfl rfl rfl (by decide +kernel) ⟨Nat.le_of_ble_eq_true rfl, Nat.le_of_ble_eq_true rfl⟩) ⟨cblind, va_recv hR.K hR.P (ci := 7) (q0 := (qO S 44 12)) rfl (hR.at47 hT_b7), fun U hU hW9 => cmk hU hW9 hR hex hE hFc⟩ rfl rfl hl.1 rfl (lv_room (Nat.le_of_ble_eq_true rfl)) dX5_switchChoice_21 ⟨Nat.le_of_ble_eq_true rfl, Nat.le_of_ble_eq_true rfl⟩) hR.sS (fun q _ h => hFc q h) hFc (fun r10 u9 t9 H1 locs ht9 hvm9 hw9 hB9 hz9 hk9 hS => ?_)
  have hR : RepC g ad A s S H1 locs := hR.call ht9 hB9 hR.w hS hFc
  obtain rfl : r10 = (fX8_targetCount S (qO S 44 12) (qI S 44 13)) := hw9
  clear hB9 hz9 hk9 hvm9 ht9 hS
  generalize H1 = H at hR ⊢
  refine lv_iconst (v := 1) hx hb dX5_switchChoice_24 (by decide) ?_
  refine lv_isub hx hb dX5_switchChoice_25 ?_
  refine lv_topi (fun z12 ez12 => ?_)
  obtain rfl : z12 = ((fX8_targetCount S (qO S 44 12) (qI S 44 13)) - (1 : Int32)) := ez12
  obtain ⟨a13, ea13⟩ : ∃ z, z = ((fX8_targetCount S (qO S 44 12) (qI S 44 13)) - (1 : Int32)) := ⟨_, rfl⟩
  rw [← ea13]
  replace h := h a13 ea13
  refine lv_istore (lv' := [(4, .int a13), (3, .int a6), (0, .ref (ad 44)), (1, .int x1), (2, .int x2)]) hx hb dX5_switchChoice_26 hl (by decide) rfl (fun ls hl => ?_)
  refine lv_iload_n hx hb dX5_switchChoice_28 rfl (lv_at hl 3 rfl) ?_
  refine lv_sipush (v := 170) hx hb dX5_switchChoice_29 (by decide) ?_
  refine lv_icmp_ne (tgt := 77) hx hb dX5_switchChoice_32 (by decide) (fun c14 => ?_) (fun c14 => ?_)
  · replace h := h.2 (k_ne rfl (by decide) c14)
    refine lv_iconst (v := 1) hx hb dX5_switchChoice_77 (by decide) ?_
    refine lv_istore (lv' := [(5, .int 1), (4, .int a13), (3, .int a6), (0, .ref (ad 44)), (1, .int x1), (2, .int x2)]) hx hb dX5_switchChoice_78 hl (by decide) rfl (fun ls hl => ?_)
    have J_80 : ∀ (n80 : Nat) (U80 : MS) (v80_2 : Int32) (v80_3 : Int32) (v80_4 : Int32) (v80_5 : Int32) (H : Heap) (locs : List Loc) (ls : Array Slot), w_X5_switchChoice_L80 Q n80 U80 v80_2 v80_3 v80_4 v80_5 → shy S U80 → RepC g ad A s U80 H locs → lv_has ls 7 [(0, .ref (ad 44)), (2, .int v80_2), (3, .int v80_3), (4, .int v80_4), (5, .int v80_5)] → W p l e (headSpec (wt yX5_switchChoice cX5_switchChoice 7 (some .int)) ({ frames := 2, cells := 0, slots := 0, locals := 43 })).room s m ([.ref (ad 44), .int x1, .int x2] : List Value).toArray below meth c H locs 0 0 (MQ below (va_Qi (fun (r : Int32) (u : MS) => Q r u ∧ wfC u ∧ shy S u) (fun (u : MS) (t : State) => qEC g ad A u t) A) ([.ref (ad 44), .int x1, .int x2] : List Value).toArray s 0 0 A) (F0 m 80 ls []) := by
      intro n80
      induction n80 with
      | zero => intro U80 v80_2 v80_3 v80_4 v80_5 H locs ls h hsh hR hl; unfold w_X5_switchChoice_L80 at h; exact h.elim
      | succ n80 ih_80 =>
        intro U80 v80_2 v80_3 v80_4 v80_5 H locs ls h hsh hR hl
        unfold w_X5_switchChoice_L80 at h
        replace h := h hR.w
        refine lv_iload hx hb dX5_switchChoice_80 (lv_at hl 4 rfl) ?_
        refine lv_iload hx hb dX5_switchChoice_82 (lv_at hl 3 rfl) ?_
        refine lv_icmp_gt (tgt := 116) hx hb dX5_switchChoice_84 (by decide) (fun c15 => ?_) (fun c15 => ?_)
        · replace h := h.1 (k_lt rfl rfl c15)
          refine lv_iconst (v := 0) hx hb dX5_switchChoice_116 (by decide) ?_
          exact W.iret (v := 0) hx hb hr (fun t9 ht9 hW9 => ⟨⟨_, U80, rfl, ⟨h, hR.w, hsh⟩, ⟨by rw [ht9]; exact hR.P, hR.D⟩⟩, hR.sS.F ht9⟩) hR.sS.2.2 dX5_switchChoice_117
        · replace h := h.2 (k_nlt rfl rfl c15)
          refine lv_aload_n hx hb dX5_switchChoice_87 rfl (lv_at hl 0 rfl) ?_
          obtain ⟨hv17, h⟩ := h
          have hT_b16 : qT U80 (qO U80 44 12) = 47 := hR.w.ref hv17 (hR.w.2.1 _ finC_29).2.1
          refine va_get (D := rD g) (ci := 5) (v := .ref (ad (qO U80 44 12))) (C := RX5) (T := TX5) (N := 20) hx hb hts inX5 hown hR.K hR.P 44 (hR.at45 (hR.w.2.1 _ finC_29).2.1) rfl 12 (by decide) (hts _ kw_1030) (fun _ h9 => h9) (congrArg (fun z => some (vf ad z)) hv17) dX5_switchChoice_88 ?_
          refine lv_iload_n hx hb dX5_switchChoice_91 rfl (lv_at hl 2 rfl) ?_
          refine lv_iconst (v := 2) hx hb dX5_switchChoice_92 (by decide) ?_
          refine lv_iadd hx hb dX5_switchChoice_93 ?_
          refine lv_topi (fun z18 ez18 => ?_)
          obtain rfl : z18 = (v80_3 + (2 : Int32)) := ez18
          refine lv_iload hx hb dX5_switchChoice_94 (lv_at hl 3 rfl) ?_
          refine lv_iadd hx hb dX5_switchChoice_96 ?_
          refine lv_topi (fun z19 ez19 => ?_)
          obtain rfl : z19 = ((v80_3 + (2 : Int32)) + v80_4) := ez19
          refine lv_iload hx hb dX5_switchChoice_97 (lv_at hl 4 rfl) ?_
          refine lv_iadd hx hb dX5_switchChoice_99 ?_
          refine lv_topi (fun z20 ez20 => ?_)
          obtain rfl : z20 = (((v80_3 + (2 : Int32)) + v80_4) + v80_5) := ez20
          obtain ⟨hv21, h⟩ := h
          have hFc := cfree hR hA
          refine va_calli (va_runV (As := [.int (((v80_3 + (2 : Int32)) + v80_4) + v80_5)]) (rest := []) ⟨hx, hb, hml, hown, hts⟩ (rX8_tableAt l g ad H.size U80 (qO U80 44 12) (((v80_3 + (2 : Int32)) + v80_4) + v80_5) hR.w hT_b16 hv21) (cwV 1 hts (gd_V kw_1182 kw_1534 kw_1535 kw_782 kw_1533) rfl rfl rfl (by decide +kernel) ⟨Nat.le_of_ble_eq_true rfl, Nat.le_of_ble_eq_true rfl⟩) ⟨cblind, va_recv hR.K hR.P (ci := 7) (q0 := (qO U80 44 12)) rfl (hR.at47 hT_b16), fun U hU hW9 => cmk hU hW9 hR hex hE hFc⟩ rfl rfl hl.1 rfl (lv_room (Nat.le_of_ble_eq_true rfl)) dX5_switchChoice_100 ⟨Nat.le_of_ble_eq_true rfl, Nat.le_of_ble_eq_true rfl⟩) hR.sS (fun q _ h => hFc q h) hFc (fun r22 u9 t9 H1 locs ht9 hvm9 hw9 hB9 hz9 hk9 hS => ?_)
          have hR : RepC g ad A s U80 H1 locs := hR.call ht9 hB9 hR.w hS hFc
          obtain rfl : r22 = (fX8_tableAt U80 (qO U80 44 12) (((v80_3 + (2 : Int32)) + v80_4) + v80_5)) := hw9
          clear hB9 hz9 hk9 hvm9 ht9 hS
          generalize H1 = H at hR ⊢
          refine lv_iload_n hx hb dX5_switchChoice_103 rfl (lv_at hl 1 rfl) ?_
          refine lv_icmp_ne (tgt := 110) hx hb dX5_switchChoice_104 (by decide) (fun c24 => ?_) (fun c24 => ?_)
          · replace h := h.2 (k_ne rfl rfl c24)
            obtain ⟨a25, ea25⟩ : ∃ z, z = (v80_5 + Int32.ofInt 1) := ⟨_, rfl⟩
            replace h := h a25 ea25
            refine lv_iinc (v := a25) (lv' := [(5, .int a25), (0, .ref (ad 44)), (2, .int v80_2), (3, .int v80_3), (4, .int v80_4)]) hx hb dX5_switchChoice_110 hl (k := 4) rfl ea25.symm (by decide) rfl (fun ls hl => ?_)
            refine lv_goto (tgt := 80) hx hb dX5_switchChoice_113 (by decide) ?_
            exact ih_80 U80 v80_2 v80_3 v80_4 a25 _ _ ls h  hsh hR (lv_sub hl [1, 2, 3, 4, 0] rfl)
          · replace h := h.1 (k_eq rfl rfl c24)
            refine lv_iload hx hb dX5_switchChoice_107 (lv_at hl 4 rfl) ?_
            exact W.iret (v := v80_5) hx hb hr (fun t9 ht9 hW9 => ⟨⟨_, U80, rfl, ⟨h, hR.w, hsh⟩, ⟨by rw [ht9]; exact hR.P, hR.D⟩⟩, hR.sS.F ht9⟩) hR.sS.2.2 dX5_switchChoice_109
    obtain ⟨n9, h⟩ := h
    exact J_80 n9 S x2 a6 a13 1 _ _ ls h  hsh hR (lv_sub hl [3, 5, 2, 1, 0] rfl)
  · replace h := h.1 (k_eq rfl (by decide) c14)
    refine lv_iload_n hx hb dX5_switchChoice_35 rfl (lv_at hl 4 rfl) ?_
    refine lv_i2l (v := (x2.toInt64)) hx hb dX5_switchChoice_36 rfl ?_
    refine lv_aload_n hx hb dX5_switchChoice_37 rfl (lv_at hl 2 rfl) ?_
    obtain ⟨hv27, h⟩ := h
    have hT_b26 : qT S (qO S 44 12) = 47 := hR.w.ref hv27 (hR.w.2.1 _ finC_29).2.1
    refine va_get (D := rD g) (ci := 5) (v := .ref (ad (qO S 44 12))) (C := RX5) (T := TX5) (N := 20) hx hb hts inX5 hown hR.K hR.P 44 (hR.at45 (hR.w.2.1 _ finC_29).2.1) rfl 12 (by decide) (hts _ kw_1030) (fun _ h9 => h9) (congrArg (fun z => some (vf ad z)) hv27) dX5_switchChoice_38 ?_
    refine lv_iload_n hx hb dX5_switchChoice_41 rfl (lv_at hl 1 rfl) ?_
    refine lv_iconst (v := 1) hx hb dX5_switchChoice_42 (by decide) ?_
    refine lv_iadd hx hb dX5_switchChoice_43 ?_
    refine lv_topi (fun z28 ez28 => ?_)
    obtain rfl : z28 = (a6 + (1 : Int32)) := ez28
    obtain ⟨hv29, h⟩ := h
    have hFc := cfree hR hA
    refine va_calli (va_runV (As := [.int (a6 + (1 : Int32))]) (rest := [.long (x2.toInt64)]) ⟨hx, hb, hml, hown, hts⟩ (rX8_tableAt l g ad H.size S (qO S 44 12) (a6 + (1 : Int32)) hR.w hT_b26 hv29) (cwV 1 hts (gd_V kw_1182 kw_1534 kw_1535 kw_782 kw_1533) rfl rfl rfl (by decide +kernel) ⟨Nat.le_of_ble_eq_true rfl, Nat.le_of_ble_eq_true rfl⟩) ⟨cblind, va_recv hR.K hR.P (ci := 7) (q0 := (qO S 44 12)) rfl (hR.at47 hT_b26), fun U hU hW9 => cmk hU hW9 hR hex hE hFc⟩ rfl rfl hl.1 rfl (lv_room (Nat.le_of_ble_eq_true rfl)) dX5_switchChoice_44 ⟨Nat.le_of_ble_eq_true rfl, Nat.le_of_ble_eq_true rfl⟩) hR.sS (fun q _ h => hFc q h) hFc (fun r30 u9 t9 H1 locs ht9 hvm9 hw9 hB9 hz9 hk9 hS => ?_)
    have hR : RepC g ad A s S H1 locs := hR.call ht9 hB9 hR.w hS hFc
    obtain rfl : r30 = (fX8_tableAt S (qO S 44 12) (a6 + (1 : Int32))) := hw9
    clear hB9 hz9 hk9 hvm9 ht9 hS
    generalize H1 = H at hR ⊢
    refine lv_i2l (v := ((fX8_tableAt S (qO S 44 12) (a6 + (1 : Int32))).toInt64)) hx hb dX5_switchChoice_47 rfl ?_
    refine lv_lsub hx hb dX5_switchChoice_48 ?_
    refine lv_topl (fun z32 ez32 => ?_)
    obtain rfl : z32 = ((x2.toInt64) - ((fX8_tableAt S (qO S 44 12) (a6 + (1 : Int32))).toInt64)) := ez32
    obtain ⟨a33, ea33⟩ : ∃ z, z = ((x2.toInt64) - ((fX8_tableAt S (qO S 44 12) (a6 + (1 : Int32))).toInt64)) := ⟨_, rfl⟩
    rw [← ea33]
    replace h := h a33 ea33
    refine lv_lstore (lv' := [(5, .long a33), (4, .int a13), (3, .int a6), (0, .ref (ad 44)), (1, .int x1), (2, .int x2)]) hx hb dX5_switchChoice_49 hl (by decide) rfl (fun ls hl => ?_)
    refine lv_lload hx hb dX5_switchChoice_51 (lv_at hl 0 rfl) ?_
    refine lv_lconst (v := 0) hx hb dX5_switchChoice_53 (by decide) ?_
    refine W.lcmp hx hb dX5_switchChoice_54 ?_
    refine lv_topi (fun z34 ez34 => ?_)
    obtain rfl : z34 = (lg_cmp a33 0) := ez34
    have J_67 : ∀ (U67 : MS) (H : Heap) (locs : List Loc) (ls : Array Slot), w_X5_switchChoice_J67 Q U67 → shy S U67 → RepC g ad A s U67 H locs → lv_has ls 7 [] → W p l e (headSpec (wt yX5_switchChoice cX5_switchChoice 7 (some .int)) ({ frames := 2, cells := 0, slots := 0, locals := 43 })).room s m ([.ref (ad 44), .int x1, .int x2] : List Value).toArray below meth c H locs 0 0 (MQ below (va_Qi (fun (r : Int32) (u : MS) => Q r u ∧ wfC u ∧ shy S u) (fun (u : MS) (t : State) => qEC g ad A u t) A) ([.ref (ad 44), .int x1, .int x2] : List Value).toArray s 0 0 A) (F0 m 67 ls []) := by
      intro U67 H locs ls h hsh hR hl
      unfold w_X5_switchChoice_J67 at h
      replace h := h hR.w
      refine lv_iconst (v := 0) hx hb dX5_switchChoice_67 (by decide) ?_
      refine lv_goto (tgt := 76) hx hb dX5_switchChoice_68 (by decide) ?_
      exact W.iret (v := 0) hx hb hr (fun t9 ht9 hW9 => ⟨⟨_, U67, rfl, ⟨h, hR.w, hsh⟩, ⟨by rw [ht9]; exact hR.P, hR.D⟩⟩, hR.sS.F ht9⟩) hR.sS.2.2 dX5_switchChoice_76
    refine lv_if_lt (tgt := 67) hx hb dX5_switchChoice_55 (by decide) (fun c35 => ?_) (fun c35 => ?_)
    · replace h := h.1 (k_lt rfl (by decide) c35)
      exact J_67 S _ _ ls h  hsh hR (lv_sub hl [] rfl)
    · replace h := h.2 (k_nlt rfl (by decide) c35)
      refine lv_lload hx hb dX5_switchChoice_58 (lv_at hl 0 rfl) ?_
      refine lv_iload hx hb dX5_switchChoice_60 (lv_at hl 1 rfl) ?_
      refine lv_i2l (v := (a13.toInt64)) hx hb dX5_switchChoice_62 rfl ?_
      refine W.lcmp hx hb dX5_switchChoice_63 ?_
      refine lv_topi (fun z36 ez36 => ?_)
      obtain rfl : z36 = (lg_cmp a33 (a13.toInt64)) := ez36
      refine lv_if_lt (tgt := 71) hx hb dX5_switchChoice_64 (by decide) (fun c37 => ?_) (fun c37 => ?_)
      · replace h := h.1 (k_lt rfl (by decide) c37)
        refine lv_lload hx hb dX5_switchChoice_71 (lv_at hl 0 rfl) ?_
        refine lv_l2i (v := (a33.toInt32)) hx hb dX5_switchChoice_73 rfl ?_
        refine lv_iconst (v := 1) hx hb dX5_switchChoice_74 (by decide) ?_
        refine lv_iadd hx hb dX5_switchChoice_75 ?_
        refine lv_topi (fun z38 ez38 => ?_)
        obtain rfl : z38 = ((a33.toInt32) + (1 : Int32)) := ez38
        exact W.iret (v := ((a33.toInt32) + (1 : Int32))) hx hb hr (fun t9 ht9 hW9 => ⟨⟨_, S, rfl, ⟨h, hR.w, hsh⟩, ⟨by rw [ht9]; exact hR.P, hR.D⟩⟩, hR.sS.F ht9⟩) hR.sS.2.2 dX5_switchChoice_76
      · replace h := h.2 (k_nlt rfl (by decide) c37)
        exact J_67 S _ _ ls h  hsh hR (lv_sub hl [] rfl)
def w_X5_move_J29 (Q : MS → Prop) (U29 : MS) (v29_1 : Int32) : Prop := (wfC U29 → (d_X6_gives U29 v29_1 ∧ (∀ a10 : Int32, a10 = (fX6_gives U29 v29_1) → ((qR U29 44 12 = some (qO U29 44 12)) ∧ (d_X8_argAt U29 (qO U29 44 12) (qI U29 44 13) ∧ (∀ a16 : Int64, a16 = (fX8_argAt U29 (qO U29 44 12) (qI U29 44 13)) → (∃ Q17, wX5_push_ U29 a10 a16 Q17 ∧ ∀ S18, Q17 S18 → wfC S18 → shy U29 S18 → Q S18)))))))
def wX5_move (S : MS) (x1 : Int32) (Q : MS → Prop) : Prop := ((qR S 44 12 = some (qO S 44 12)) ∧ (d_X8_localOf S (qO S 44 12) (qI S 44 13) ∧ (∀ a6 : Int32, a6 = (fX8_localOf S (qO S 44 12) (qI S 44 13)) → ((x1.toInt = 17 → w_X5_move_J29 Q S x1) ∧ (¬ x1.toInt = 17 → ((x1.toInt = 20 → w_X5_move_J29 Q S x1) ∧ (¬ x1.toInt = 20 → ((x1.toInt = 1 → w_X5_move_J29 Q S x1) ∧ (¬ x1.toInt = 1 → (d_X6_isLoad S x1 ∧ (∀ a26 : Int32, a26 = (fX6_isLoad S x1) → ((a26.toInt = 0 → (d_X6_isStore S x1 ∧ (∀ a31 : Int32, a31 = (fX6_isStore S x1) → ((a31.toInt = 0 → ((x1.toInt = 132 → (∃ Q37, wX5_localAt S a6 Q37 ∧ ∀ r38 S39, Q37 r38 S39 → wfC S39 → shy S S39 → ((qR S39 44 12 = some (qO S39 44 12)) ∧ (d_X8_stepOf S39 (qO S39 44 12) (qI S39 44 13) ∧ (∀ a46 : Int32, a46 = (fX8_stepOf S39 (qO S39 44 12) (qI S39 44 13)) → (∃ Q48, wX5_setLocal S39 a6 (((r38.toInt32) + a46).toInt64) Q48 ∧ ∀ S49, Q48 S49 → wfC S49 → shy S39 S49 → Q S49)))))) ∧ (¬ x1.toInt = 132 → ((x1.toInt = 0 → Q S) ∧ (¬ x1.toInt = 0 → (∀ S36, S36 = wI S 44 19 ((qI S 44 19) + (1 : Int32)) → qT S 44 = 45 → wfC S36 → Q S36)))))) ∧ (¬ a31.toInt = 0 → (d_X6_takes S x1 ∧ (∀ a54 : Int32, a54 = (fX6_takes S x1) → (∃ Q55, wX5_pop_ S a54 Q55 ∧ ∀ r56 S57, Q55 r56 S57 → wfC S57 → shy S S57 → (∃ Q59, wX5_setLocal S57 a6 r56 Q59 ∧ ∀ S60, Q59 S60 → wfC S60 → shy S57 S60 → Q S60))))))))) ∧ (¬ a26.toInt = 0 → (d_X6_gives S x1 ∧ (∀ a65 : Int32, a65 = (fX6_gives S x1) → (∃ Q66, wX5_localAt S a6 Q66 ∧ ∀ r67 S68, Q66 r67 S68 → wfC S68 → shy S S68 → (∃ Q70, wX5_push_ S68 a65 r67 Q70 ∧ ∀ S71, Q70 S71 → wfC S71 → shy S68 S71 → Q S71)))))))))))))))))
set_option maxHeartbeats 2000000 in
set_option maxRecDepth 100000 in
theorem rX5_move (l : Launch) (g : Gr) (ad : Nat → Nat) (sz : Nat) (S : MS) (x1 : Int32) (hw : wfC S) (Q : MS → Prop) (h : wX5_move S x1 Q) : Met l yX5_move (wt yX5_move cX5_move 3 none) ({ frames := 2, cells := 0, slots := 0, locals := 46 }) (va_Pc [.ref (ad 44), .int x1] (st_C g ad sz S)) (va_Qv (fun (u : MS) => Q u ∧ wfC u ∧ shy S u) (fun (u : MS) (t : State) => qEC g ad (va_A (WdC g ad S) sz) u t) (va_A (WdC g ad S) sz)) 0 0 (va_A (WdC g ad S) sz) := by
  refine Met.ofW (cc := cX5_move) (maxL := 3) (ret := none) (by decide) rfl ?_
  intro p e s m args below meth c s₁ B hml hv
  obtain ⟨rfl, hsz, hP, hK, hD0, hex, hE⟩ := hv
  have hx := B.exec
  have hb := B.bytes
  have hr := B.returns
  have hts0 := atoms_spec (ws := wt yX5_move cX5_move 3 none) B.pre
  have hts : ∀ w ∈ tb, w.before _ s = true := fun w h => hts0 w (List.mem_cons_of_mem _ h)
  have hown : s.vm.findClass RX5 = some m.cls := findClass_of_methodNamed B.named
  subst hsz
  have hD := hD0.self (sz := s.heap.size)
  generalize hAe : va_A (WdC g ad S) s.heap.size = A at hD hE ⊢
  have hA : ∀ q : Nat, s.heap.size ≤ q → A q := fun q h => by rw [← hAe]; exact Or.inr h
  have hR : RepC g ad A s S s.heap [] := ⟨hK, hP, hD, va_S.rf, hw⟩
  clear hK hP hD hD0
  have hl := lv_entry ([.ref (ad 44), .int x1]) (n := 3) (Nat.le_of_ble_eq_true rfl)
  rw [lg_entry_eq]
  generalize (lg_sl ([.ref (ad 44), .int x1]) ++ List.replicate (3 - (lg_sl ([.ref (ad 44), .int x1])).length) Slot.unset).toArray = ls at hl ⊢
  have hl : lv_has ls 3 [(0, .ref (ad 44)), (1, .int x1)] := hl
  have hsh : shy S S := shy.rf
  unfold wX5_move at h
  refine lv_aload_n hx hb dX5_move_0 rfl (lv_at hl 0 rfl) ?_
  obtain ⟨hv2, h⟩ := h
  have hT_b1 : qT S (qO S 44 12) = 47 := hR.w.ref hv2 (hR.w.2.1 _ finC_29).2.1
  refine va_get (D := rD g) (ci := 5) (v := .ref (ad (qO S 44 12))) (C := RX5) (T := TX5) (N := 20) hx hb hts inX5 hown hR.K hR.P 44 (hR.at45 (hR.w.2.1 _ finC_29).2.1) rfl 12 (by decide) (hts _ kw_1030) (fun _ h9 => h9) (congrArg (fun z => some (vf ad z)) hv2) dX5_move_1 ?_
  refine lv_aload_n hx hb dX5_move_4 rfl (lv_at hl 0 rfl) ?_
  refine va_get (D := rD g) (ci := 5) (v := .int (qI S 44 13)) (C := RX5) (T := TX5) (N := 20) hx hb hts inX5 hown hR.K hR.P 44 (hR.at45 (hR.w.2.1 _ finC_29).2.1) rfl 13 (by decide) (hts _ kw_1021) (fun _ h9 => h9) rfl dX5_move_5 ?_
  obtain ⟨hv3, h⟩ := h
  have hFc := cfree hR hA
  refine va_calli (va_runV (As := [.int (qI S 44 13)]) (rest := []) ⟨hx, hb, hml, hown, hts⟩ (rX8_localOf l g ad s.heap.size S (qO S 44 12) (qI S 44 13) hR.w hT_b1 hv3) (cwV 1 hts (gd_V kw_1103 kw_1509 kw_1510 kw_782 kw_1508) rfl rfl rfl (by decide +kernel) ⟨Nat.le_of_ble_eq_true rfl, Nat.le_of_ble_eq_true rfl⟩) ⟨cblind, va_recv hR.K hR.P (ci := 7) (q0 := (qO S 44 12)) rfl (hR.at47 hT_b1), fun U hU hW9 => cmk hU hW9 hR hex hE hFc⟩ rfl rfl hl.1 rfl (lv_room (Nat.le_of_ble_eq_true rfl)) dX5_move_8 ⟨Nat.le_of_ble_eq_true rfl, Nat.le_of_ble_eq_true rfl⟩) hR.sS (fun q _ h => hFc q h) hFc (fun r4 u9 t9 H1 locs ht9 hvm9 hw9 hB9 hz9 hk9 hS => ?_)
  have hR : RepC g ad A s S H1 locs := hR.call ht9 hB9 hR.w hS hFc
  obtain rfl : r4 = (fX8_localOf S (qO S 44 12) (qI S 44 13)) := hw9
  clear hB9 hz9 hk9 hvm9 ht9 hS
  generalize H1 = H at hR ⊢
  obtain ⟨a6, ea6⟩ : ∃ z, z = (fX8_localOf S (qO S 44 12) (qI S 44 13)) := ⟨_, rfl⟩
  rw [← ea6]
  replace h := h a6 ea6
  refine lv_istore_n (lv' := [(2, .int a6), (0, .ref (ad 44)), (1, .int x1)]) hx hb dX5_move_11 rfl hl (by decide) rfl (fun ls hl => ?_)
  refine lv_iload_n hx hb dX5_move_12 rfl (lv_at hl 2 rfl) ?_
  refine lv_bipush (v := 17) hx hb dX5_move_13 (by decide) ?_
  have J_29 : ∀ (U29 : MS) (v29_1 : Int32) (H : Heap) (locs : List Loc) (ls : Array Slot), w_X5_move_J29 Q U29 v29_1 → shy S U29 → RepC g ad A s U29 H locs → lv_has ls 3 [(0, .ref (ad 44)), (1, .int v29_1)] → W p l e (headSpec (wt yX5_move cX5_move 3 none) ({ frames := 2, cells := 0, slots := 0, locals := 46 })).room s m ([.ref (ad 44), .int x1] : List Value).toArray below meth c H locs 0 0 (MQ below (va_Qv (fun (u : MS) => Q u ∧ wfC u ∧ shy S u) (fun (u : MS) (t : State) => qEC g ad A u t) A) ([.ref (ad 44), .int x1] : List Value).toArray s 0 0 A) (F0 m 29 ls []) := by
    intro U29 v29_1 H locs ls h hsh hR hl
    unfold w_X5_move_J29 at h
    replace h := h hR.w
    refine lv_aload_n hx hb dX5_move_29 rfl (lv_at hl 0 rfl) ?_
    refine lv_iload_n hx hb dX5_move_30 rfl (lv_at hl 1 rfl) ?_
    obtain ⟨hv7, h⟩ := h
    have hFc := cfree hR hA
    refine va_calli (va_runS (As := [.int v29_1]) (rest := [.ref (ad 44)]) ⟨hx, hb, hml, hown, hts⟩ (rX6_gives l g ad H.size U29 v29_1 hR.w  hv7) (va_cwS 1 hts (gd_S kw_1018 kw_1216 kw_1207 kw_1215) rfl rfl rfl (by decide +kernel) ⟨Nat.le_of_ble_eq_true rfl, Nat.le_of_ble_eq_true rfl⟩) ⟨cblind, fun U hU hW9 => cmk hU hW9 hR hex hE hFc⟩ rfl rfl hl.1 rfl (lv_room (Nat.le_of_ble_eq_true rfl)) dX5_move_31 ⟨Nat.le_of_ble_eq_true rfl, Nat.le_of_ble_eq_true rfl⟩) hR.sS (fun q _ h => hFc q h) hFc (fun r8 u9 t9 H1 locs ht9 hvm9 hw9 hB9 hz9 hk9 hS => ?_)
    have hR : RepC g ad A s U29 H1 locs := hR.call ht9 hB9 hR.w hS hFc
    obtain rfl : r8 = (fX6_gives U29 v29_1) := hw9
    clear hB9 hz9 hk9 hvm9 ht9 hS
    generalize H1 = H at hR ⊢
    obtain ⟨a10, ea10⟩ : ∃ z, z = (fX6_gives U29 v29_1) := ⟨_, rfl⟩
    rw [← ea10]
    replace h := h a10 ea10
    refine lv_aload_n hx hb dX5_move_34 rfl (lv_at hl 0 rfl) ?_
    obtain ⟨hv12, h⟩ := h
    have hT_b11 : qT U29 (qO U29 44 12) = 47 := hR.w.ref hv12 (hR.w.2.1 _ finC_29).2.1
    refine va_get (D := rD g) (ci := 5) (v := .ref (ad (qO U29 44 12))) (C := RX5) (T := TX5) (N := 20) hx hb hts inX5 hown hR.K hR.P 44 (hR.at45 (hR.w.2.1 _ finC_29).2.1) rfl 12 (by decide) (hts _ kw_1030) (fun _ h9 => h9) (congrArg (fun z => some (vf ad z)) hv12) dX5_move_35 ?_
    refine lv_aload_n hx hb dX5_move_38 rfl (lv_at hl 0 rfl) ?_
    refine va_get (D := rD g) (ci := 5) (v := .int (qI U29 44 13)) (C := RX5) (T := TX5) (N := 20) hx hb hts inX5 hown hR.K hR.P 44 (hR.at45 (hR.w.2.1 _ finC_29).2.1) rfl 13 (by decide) (hts _ kw_1021) (fun _ h9 => h9) rfl dX5_move_39 ?_
    obtain ⟨hv13, h⟩ := h
    have hFc := cfree hR hA
    refine va_calll (va_runV (As := [.int (qI U29 44 13)]) (rest := [.int a10, .ref (ad 44)]) ⟨hx, hb, hml, hown, hts⟩ (rX8_argAt l g ad H.size U29 (qO U29 44 12) (qI U29 44 13) hR.w hT_b11 hv13) (cwV 1 hts (gd_V kw_1104 kw_1476 kw_1477 kw_782 kw_1475) rfl rfl rfl (by decide +kernel) ⟨Nat.le_of_ble_eq_true rfl, Nat.le_of_ble_eq_true rfl⟩) ⟨cblind, va_recv hR.K hR.P (ci := 7) (q0 := (qO U29 44 12)) rfl (hR.at47 hT_b11), fun U hU hW9 => cmk hU hW9 hR hex hE hFc⟩ rfl rfl hl.1 rfl (lv_room (Nat.le_of_ble_eq_true rfl)) dX5_move_42 ⟨Nat.le_of_ble_eq_true rfl, Nat.le_of_ble_eq_true rfl⟩) hR.sS (fun q _ h => hFc q h) hFc (fun r14 u9 t9 H1 locs ht9 hvm9 hw9 hB9 hz9 hk9 hS => ?_)
    have hR : RepC g ad A s U29 H1 locs := hR.call ht9 hB9 hR.w hS hFc
    obtain rfl : r14 = (fX8_argAt U29 (qO U29 44 12) (qI U29 44 13)) := hw9
    clear hB9 hz9 hk9 hvm9 ht9 hS
    generalize H1 = H at hR ⊢
    obtain ⟨a16, ea16⟩ : ∃ z, z = (fX8_argAt U29 (qO U29 44 12) (qI U29 44 13)) := ⟨_, rfl⟩
    rw [← ea16]
    replace h := h a16 ea16
    obtain ⟨Q17, h0, h⟩ := h
    have hFc := cfree hR hA
    refine va_callv (va_runV (As := [.int a10, .long a16]) (rest := []) ⟨hx, hb, hml, hown, hts⟩ (rX5_push_ l g ad H.size U29 a10 a16 hR.w  Q17 h0) (cwV 2 hts (gd_V kw_1020 kw_1133 kw_1134 kw_398 kw_1132) rfl rfl rfl (by decide +kernel) ⟨Nat.le_of_ble_eq_true rfl, Nat.le_of_ble_eq_true rfl⟩) ⟨cblind, va_recv hR.K hR.P (ci := 5) (q0 := 44) rfl (hR.at45 (hR.w.2.1 _ finC_29).2.1), fun U hU hW9 => cmk hU hW9 hR hex hE hFc⟩ rfl rfl hl.1 rfl (lv_room (Nat.le_of_ble_eq_true rfl)) dX5_move_45 ⟨Nat.le_of_ble_eq_true rfl, Nat.le_of_ble_eq_true rfl⟩) hR.sS (fun q _ h => hFc q h) hFc (fun  S18 t9 H1 locs ht9 hvm9 hw9 hB9 hz9 hk9 hS => ?_)
    obtain ⟨hq19, hw9, hs9⟩ := hw9
    have hR : RepC g ad A s S18 H1 locs := hR.call ht9 hB9 hw9 hS hFc
    have hsh := hsh.tr hs9
    replace h := h  S18 hq19 hw9 hs9
    clear hB9 hz9 hk9 hvm9 ht9 hw9 hs9 hS
    generalize H1 = H at hR ⊢
    refine lv_goto (tgt := 145) hx hb dX5_move_48 (by decide) ?_
    exact W.vret hx hb hr (fun t9 ht9 hW9 => ⟨⟨S18, rfl, ⟨h, hR.w, hsh⟩, ⟨by rw [ht9]; exact hR.P, hR.D⟩⟩, hR.sS.F ht9⟩) hR.sS.2.2 dX5_move_145
  refine lv_icmp_eq (tgt := 29) hx hb dX5_move_15 (by decide) (fun c20 => ?_) (fun c20 => ?_)
  · replace h := h.1 (k_eq rfl (by decide) c20)
    exact J_29 S x1 _ _ ls h  hsh hR (lv_sub hl [1, 2] rfl)
  · replace h := h.2 (k_ne rfl (by decide) c20)
    refine lv_iload_n hx hb dX5_move_18 rfl (lv_at hl 2 rfl) ?_
    refine lv_bipush (v := 20) hx hb dX5_move_19 (by decide) ?_
    refine lv_icmp_eq (tgt := 29) hx hb dX5_move_21 (by decide) (fun c21 => ?_) (fun c21 => ?_)
    · replace h := h.1 (k_eq rfl (by decide) c21)
      exact J_29 S x1 _ _ ls h  hsh hR (lv_sub hl [1, 2] rfl)
    · replace h := h.2 (k_ne rfl (by decide) c21)
      refine lv_iload_n hx hb dX5_move_24 rfl (lv_at hl 2 rfl) ?_
      refine lv_iconst (v := 1) hx hb dX5_move_25 (by decide) ?_
      refine lv_icmp_ne (tgt := 51) hx hb dX5_move_26 (by decide) (fun c22 => ?_) (fun c22 => ?_)
      · replace h := h.2 (k_ne rfl (by decide) c22)
        refine lv_iload_n hx hb dX5_move_51 rfl (lv_at hl 2 rfl) ?_
        obtain ⟨hv23, h⟩ := h
        have hFc := cfree hR hA
        refine va_calli (va_runS (As := [.int x1]) (rest := []) ⟨hx, hb, hml, hown, hts⟩ (rX6_isLoad l g ad H.size S x1 hR.w  hv23) (va_cwS 1 hts (gd_S kw_1105 kw_1227 kw_1207 kw_1226) rfl rfl rfl (by decide +kernel) ⟨Nat.le_of_ble_eq_true rfl, Nat.le_of_ble_eq_true rfl⟩) ⟨cblind, fun U hU hW9 => cmk hU hW9 hR hex hE hFc⟩ rfl rfl hl.1 rfl (lv_room (Nat.le_of_ble_eq_true rfl)) dX5_move_52 ⟨Nat.le_of_ble_eq_true rfl, Nat.le_of_ble_eq_true rfl⟩) hR.sS (fun q _ h => hFc q h) hFc (fun r24 u9 t9 H1 locs ht9 hvm9 hw9 hB9 hz9 hk9 hS => ?_)
        have hR : RepC g ad A s S H1 locs := hR.call ht9 hB9 hR.w hS hFc
        obtain ⟨rfl, hz_r24⟩ := hw9
        clear hB9 hz9 hk9 hvm9 ht9 hS
        generalize H1 = H at hR ⊢
        obtain ⟨a26, ea26⟩ : ∃ z, z = (fX6_isLoad S x1) := ⟨_, rfl⟩
        rw [← ea26]
        replace h := h a26 ea26
        rw [← ea26] at hz_r24
        refine lv_if_eq (tgt := 74) hx hb dX5_move_55 (by decide) (fun c27 => ?_) (fun c27 => ?_)
        · replace h := h.1 (k_eq rfl (by decide) c27)
          refine lv_iload_n hx hb dX5_move_74 rfl (lv_at hl 2 rfl) ?_
          obtain ⟨hv28, h⟩ := h
          have hFc := cfree hR hA
          refine va_calli (va_runS (As := [.int x1]) (rest := []) ⟨hx, hb, hml, hown, hts⟩ (rX6_isStore l g ad H.size S x1 hR.w  hv28) (va_cwS 1 hts (gd_S kw_1107 kw_1231 kw_1207 kw_1230) rfl rfl rfl (by decide +kernel) ⟨Nat.le_of_ble_eq_true rfl, Nat.le_of_ble_eq_true rfl⟩) ⟨cblind, fun U hU hW9 => cmk hU hW9 hR hex hE hFc⟩ rfl rfl hl.1 rfl (lv_room (Nat.le_of_ble_eq_true rfl)) dX5_move_75 ⟨Nat.le_of_ble_eq_true rfl, Nat.le_of_ble_eq_true rfl⟩) hR.sS (fun q _ h => hFc q h) hFc (fun r29 u9 t9 H1 locs ht9 hvm9 hw9 hB9 hz9 hk9 hS => ?_)
          have hR : RepC g ad A s S H1 locs := hR.call ht9 hB9 hR.w hS hFc
          obtain ⟨rfl, hz_r29⟩ := hw9
          clear hB9 hz9 hk9 hvm9 ht9 hS
          generalize H1 = H at hR ⊢
          obtain ⟨a31, ea31⟩ : ∃ z, z = (fX6_isStore S x1) := ⟨_, rfl⟩
          rw [← ea31]
          replace h := h a31 ea31
          rw [← ea31] at hz_r29
          refine lv_if_eq (tgt := 97) hx hb dX5_move_78 (by decide) (fun c32 => ?_) (fun c32 => ?_)
          · replace h := h.1 (k_eq rfl (by decide) c32)
            refine lv_iload_n hx hb dX5_move_97 rfl (lv_at hl 2 rfl) ?_
            refine lv_sipush (v := 132) hx hb dX5_move_98 (by decide) ?_
            refine lv_icmp_ne (tgt := 131) hx hb dX5_move_101 (by decide) (fun c33 => ?_) (fun c33 => ?_)
            · replace h := h.2 (k_ne rfl (by decide) c33)
              refine lv_iload_n hx hb dX5_move_131 rfl (lv_at hl 2 rfl) ?_
              refine lv_if_eq (tgt := 145) hx hb dX5_move_132 (by decide) (fun c34 => ?_) (fun c34 => ?_)
              · replace h := h.1 (k_eq rfl (by decide) c34)
                exact W.vret hx hb hr (fun t9 ht9 hW9 => ⟨⟨S, rfl, ⟨h, hR.w, hsh⟩, ⟨by rw [ht9]; exact hR.P, hR.D⟩⟩, hR.sS.F ht9⟩) hR.sS.2.2 dX5_move_145
              · replace h := h.2 (k_ne rfl (by decide) c34)
                refine lv_aload_n hx hb dX5_move_135 rfl (lv_at hl 1 rfl) ?_
                refine lv_dup hx hb dX5_move_136 rfl ?_
                refine va_get (D := rD g) (ci := 5) (v := .int (qI S 44 19)) (C := RX5) (T := TX5) (N := 20) hx hb hts inX5 hown hR.K hR.P 44 (hR.at45 (hR.w.2.1 _ finC_29).2.1) rfl 19 (by decide) (hts _ kw_1045) (fun _ h9 => h9) rfl dX5_move_137 ?_
                refine lv_iconst (v := 1) hx hb dX5_move_140 (by decide) ?_
                refine lv_iadd hx hb dX5_move_141 ?_
                refine lv_topi (fun z35 ez35 => ?_)
                obtain rfl : z35 = ((qI S 44 19) + (1 : Int32)) := ez35
                refine va_put (D := rD g) (ci := 5) (v := .int ((qI S 44 19) + (1 : Int32))) (ty := .int) (C := RX5) (T := TX5) (N := 20) hx hb hts inX5 tyX5 tyX5_ok nmX5 hown hR.K hR.P hR.D hR.sS 44 (hR.at45 (hR.w.2.1 _ finC_29).2.1) rfl 19 (by decide) (hts _ kw_1045) (fun _ h9 => h9) rfl (by decide +kernel) rfl rfl (Nat.le_of_ble_eq_true rfl) dX5_move_142 (fun H locs hP hD hS => ?_)
                have hTk9 : qT S 44 = 45 := (hR.w.2.1 _ finC_29).2.1
                have hR : RepC g ad A s (wI S 44 19 ((qI S 44 19) + (1 : Int32))) H locs := hR.pI45 (hR.w.2.1 _ finC_29).2.1 FX5_s19 (fun q9 => absurd q9 (by decide)) hP hD hS
                obtain ⟨S36, eS36⟩ : ∃ z, z = wI S 44 19 ((qI S 44 19) + (1 : Int32)) := ⟨_, rfl⟩
                rw [← eS36] at hR
                replace h := h S36 eS36 hTk9 hR.w
                have hsh : shy S S36 := by rw [eS36]; exact hsh
                exact W.vret hx hb hr (fun t9 ht9 hW9 => ⟨⟨S36, rfl, ⟨h, hR.w, hsh⟩, ⟨by rw [ht9]; exact hR.P, hR.D⟩⟩, hR.sS.F ht9⟩) hR.sS.2.2 dX5_move_145
            · replace h := h.1 (k_eq rfl (by decide) c33)
              refine lv_aload_n hx hb dX5_move_104 rfl (lv_at hl 1 rfl) ?_
              refine lv_iload_n hx hb dX5_move_105 rfl (lv_at hl 0 rfl) ?_
              refine lv_aload_n hx hb dX5_move_106 rfl (lv_at hl 1 rfl) ?_
              refine lv_iload_n hx hb dX5_move_107 rfl (lv_at hl 0 rfl) ?_
              obtain ⟨Q37, h0, h⟩ := h
              have hFc := cfree hR hA
              refine va_calll (va_runV (As := [.int a6]) (rest := [.int a6, .ref (ad 44)]) ⟨hx, hb, hml, hown, hts⟩ (rX5_localAt l g ad H.size S a6 hR.w  Q37 h0) (cwV 1 hts (gd_V kw_1106 kw_1092 kw_1093 kw_398 kw_1091) rfl rfl rfl (by decide +kernel) ⟨Nat.le_of_ble_eq_true rfl, Nat.le_of_ble_eq_true rfl⟩) ⟨cblind, va_recv hR.K hR.P (ci := 5) (q0 := 44) rfl (hR.at45 (hR.w.2.1 _ finC_29).2.1), fun U hU hW9 => cmk hU hW9 hR hex hE hFc⟩ rfl rfl hl.1 rfl (lv_room (Nat.le_of_ble_eq_true rfl)) dX5_move_108 ⟨Nat.le_of_ble_eq_true rfl, Nat.le_of_ble_eq_true rfl⟩) hR.sS (fun q _ h => hFc q h) hFc (fun r38 S39 t9 H1 locs ht9 hvm9 hw9 hB9 hz9 hk9 hS => ?_)
              obtain ⟨hq40, hw9, hs9⟩ := hw9
              have hR : RepC g ad A s S39 H1 locs := hR.call ht9 hB9 hw9 hS hFc
              have hsh := hsh.tr hs9
              replace h := h r38 S39 hq40 hw9 hs9
              clear hB9 hz9 hk9 hvm9 ht9 hw9 hs9 hS
              generalize H1 = H at hR ⊢
              refine lv_l2i (v := (r38.toInt32)) hx hb dX5_move_111 rfl ?_
              refine lv_aload_n hx hb dX5_move_112 rfl (lv_at hl 1 rfl) ?_
              obtain ⟨hv42, h⟩ := h
              have hT_b41 : qT S39 (qO S39 44 12) = 47 := hR.w.ref hv42 (hR.w.2.1 _ finC_29).2.1
              refine va_get (D := rD g) (ci := 5) (v := .ref (ad (qO S39 44 12))) (C := RX5) (T := TX5) (N := 20) hx hb hts inX5 hown hR.K hR.P 44 (hR.at45 (hR.w.2.1 _ finC_29).2.1) rfl 12 (by decide) (hts _ kw_1030) (fun _ h9 => h9) (congrArg (fun z => some (vf ad z)) hv42) dX5_move_113 ?_
              refine lv_aload_n hx hb dX5_move_116 rfl (lv_at hl 1 rfl) ?_
              refine va_get (D := rD g) (ci := 5) (v := .int (qI S39 44 13)) (C := RX5) (T := TX5) (N := 20) hx hb hts inX5 hown hR.K hR.P 44 (hR.at45 (hR.w.2.1 _ finC_29).2.1) rfl 13 (by decide) (hts _ kw_1021) (fun _ h9 => h9) rfl dX5_move_117 ?_
              obtain ⟨hv43, h⟩ := h
              have hFc := cfree hR hA
              refine va_calli (va_runV (As := [.int (qI S39 44 13)]) (rest := [.int (r38.toInt32), .int a6, .ref (ad 44)]) ⟨hx, hb, hml, hown, hts⟩ (rX8_stepOf l g ad H.size S39 (qO S39 44 12) (qI S39 44 13) hR.w hT_b41 hv43) (cwV 1 hts (gd_V kw_1109 kw_1531 kw_1532 kw_782 kw_1530) rfl rfl rfl (by decide +kernel) ⟨Nat.le_of_ble_eq_true rfl, Nat.le_of_ble_eq_true rfl⟩) ⟨cblind, va_recv hR.K hR.P (ci := 7) (q0 := (qO S39 44 12)) rfl (hR.at47 hT_b41), fun U hU hW9 => cmk hU hW9 hR hex hE hFc⟩ rfl rfl hl.1 rfl (lv_room (Nat.le_of_ble_eq_true rfl)) dX5_move_120 ⟨Nat.le_of_ble_eq_true rfl, Nat.le_of_ble_eq_true rfl⟩) hR.sS (fun q _ h => hFc q h) hFc (fun r44 u9 t9 H1 locs ht9 hvm9 hw9 hB9 hz9 hk9 hS => ?_)
              have hR : RepC g ad A s S39 H1 locs := hR.call ht9 hB9 hR.w hS hFc
              obtain rfl : r44 = (fX8_stepOf S39 (qO S39 44 12) (qI S39 44 13)) := hw9
              clear hB9 hz9 hk9 hvm9 ht9 hS
              generalize H1 = H at hR ⊢
              obtain ⟨a46, ea46⟩ : ∃ z, z = (fX8_stepOf S39 (qO S39 44 12) (qI S39 44 13)) := ⟨_, rfl⟩
              rw [← ea46]
              replace h := h a46 ea46
              refine lv_iadd hx hb dX5_move_123 ?_
              refine lv_topi (fun z47 ez47 => ?_)
              obtain rfl : z47 = ((r38.toInt32) + a46) := ez47
              refine lv_i2l (v := (((r38.toInt32) + a46).toInt64)) hx hb dX5_move_124 rfl ?_
              obtain ⟨Q48, h0, h⟩ := h
              have hFc := cfree hR hA
              refine va_callv (va_runV (As := [.int a6, .long (((r38.toInt32) + a46).toInt64)]) (rest := []) ⟨hx, hb, hml, hown, hts⟩ (rX5_setLocal l g ad H.size S39 a6 (((r38.toInt32) + a46).toInt64) hR.w  Q48 h0) (cwV 2 hts (gd_V kw_1108 kw_1151 kw_1152 kw_398 kw_1150) rfl rfl rfl (by decide +kernel) ⟨Nat.le_of_ble_eq_true rfl, Nat.le_of_ble_eq_true rfl⟩) ⟨cblind, va_recv hR.K hR.P (ci := 5) (q0 := 44) rfl (hR.at45 (hR.w.2.1 _ finC_29).2.1), fun U hU hW9 => cmk hU hW9 hR hex hE hFc⟩ rfl rfl hl.1 rfl (lv_room (Nat.le_of_ble_eq_true rfl)) dX5_move_125 ⟨Nat.le_of_ble_eq_true rfl, Nat.le_of_ble_eq_true rfl⟩) hR.sS (fun q _ h => hFc q h) hFc (fun  S49 t9 H1 locs ht9 hvm9 hw9 hB9 hz9 hk9 hS => ?_)
              obtain ⟨hq50, hw9, hs9⟩ := hw9
              have hR : RepC g ad A s S49 H1 locs := hR.call ht9 hB9 hw9 hS hFc
              have hsh := hsh.tr hs9
              replace h := h  S49 hq50 hw9 hs9
              clear hB9 hz9 hk9 hvm9 ht9 hw9 hs9 hS
              generalize H1 = H at hR ⊢
              refine lv_goto (tgt := 145) hx hb dX5_move_128 (by decide) ?_
              exact W.vret hx hb hr (fun t9 ht9 hW9 => ⟨⟨S49, rfl, ⟨h, hR.w, hsh⟩, ⟨by rw [ht9]; exact hR.P, hR.D⟩⟩, hR.sS.F ht9⟩) hR.sS.2.2 dX5_move_145
          · replace h := h.2 (k_ne rfl (by decide) c32)
            refine lv_aload_n hx hb dX5_move_81 rfl (lv_at hl 1 rfl) ?_
            refine lv_iload_n hx hb dX5_move_82 rfl (lv_at hl 0 rfl) ?_
            refine lv_aload_n hx hb dX5_move_83 rfl (lv_at hl 1 rfl) ?_
            refine lv_iload_n hx hb dX5_move_84 rfl (lv_at hl 2 rfl) ?_
            obtain ⟨hv51, h⟩ := h
            have hFc := cfree hR hA
            refine va_calli (va_runS (As := [.int x1]) (rest := [.ref (ad 44), .int a6, .ref (ad 44)]) ⟨hx, hb, hml, hown, hts⟩ (rX6_takes l g ad H.size S x1 hR.w  hv51) (va_cwS 1 hts (gd_S kw_1014 kw_1255 kw_1207 kw_1254) rfl rfl rfl (by decide +kernel) ⟨Nat.le_of_ble_eq_true rfl, Nat.le_of_ble_eq_true rfl⟩) ⟨cblind, fun U hU hW9 => cmk hU hW9 hR hex hE hFc⟩ rfl rfl hl.1 rfl (lv_room (Nat.le_of_ble_eq_true rfl)) dX5_move_85 ⟨Nat.le_of_ble_eq_true rfl, Nat.le_of_ble_eq_true rfl⟩) hR.sS (fun q _ h => hFc q h) hFc (fun r52 u9 t9 H1 locs ht9 hvm9 hw9 hB9 hz9 hk9 hS => ?_)
            have hR : RepC g ad A s S H1 locs := hR.call ht9 hB9 hR.w hS hFc
            obtain rfl : r52 = (fX6_takes S x1) := hw9
            clear hB9 hz9 hk9 hvm9 ht9 hS
            generalize H1 = H at hR ⊢
            obtain ⟨a54, ea54⟩ : ∃ z, z = (fX6_takes S x1) := ⟨_, rfl⟩
            rw [← ea54]
            replace h := h a54 ea54
            obtain ⟨Q55, h0, h⟩ := h
            have hFc := cfree hR hA
            refine va_calll (va_runV (As := [.int a54]) (rest := [.int a6, .ref (ad 44)]) ⟨hx, hb, hml, hown, hts⟩ (rX5_pop_ l g ad H.size S a54 hR.w  Q55 h0) (cwV 1 hts (gd_V kw_1015 kw_1127 kw_1128 kw_398 kw_1126) rfl rfl rfl (by decide +kernel) ⟨Nat.le_of_ble_eq_true rfl, Nat.le_of_ble_eq_true rfl⟩) ⟨cblind, va_recv hR.K hR.P (ci := 5) (q0 := 44) rfl (hR.at45 (hR.w.2.1 _ finC_29).2.1), fun U hU hW9 => cmk hU hW9 hR hex hE hFc⟩ rfl rfl hl.1 rfl (lv_room (Nat.le_of_ble_eq_true rfl)) dX5_move_88 ⟨Nat.le_of_ble_eq_true rfl, Nat.le_of_ble_eq_true rfl⟩) hR.sS (fun q _ h => hFc q h) hFc (fun r56 S57 t9 H1 locs ht9 hvm9 hw9 hB9 hz9 hk9 hS => ?_)
            obtain ⟨hq58, hw9, hs9⟩ := hw9
            have hR : RepC g ad A s S57 H1 locs := hR.call ht9 hB9 hw9 hS hFc
            have hsh := hsh.tr hs9
            replace h := h r56 S57 hq58 hw9 hs9
            clear hB9 hz9 hk9 hvm9 ht9 hw9 hs9 hS
            generalize H1 = H at hR ⊢
            obtain ⟨Q59, h0, h⟩ := h
            have hFc := cfree hR hA
            refine va_callv (va_runV (As := [.int a6, .long r56]) (rest := []) ⟨hx, hb, hml, hown, hts⟩ (rX5_setLocal l g ad H.size S57 a6 r56 hR.w  Q59 h0) (cwV 2 hts (gd_V kw_1108 kw_1151 kw_1152 kw_398 kw_1150) rfl rfl rfl (by decide +kernel) ⟨Nat.le_of_ble_eq_true rfl, Nat.le_of_ble_eq_true rfl⟩) ⟨cblind, va_recv hR.K hR.P (ci := 5) (q0 := 44) rfl (hR.at45 (hR.w.2.1 _ finC_29).2.1), fun U hU hW9 => cmk hU hW9 hR hex hE hFc⟩ rfl rfl hl.1 rfl (lv_room (Nat.le_of_ble_eq_true rfl)) dX5_move_91 ⟨Nat.le_of_ble_eq_true rfl, Nat.le_of_ble_eq_true rfl⟩) hR.sS (fun q _ h => hFc q h) hFc (fun  S60 t9 H1 locs ht9 hvm9 hw9 hB9 hz9 hk9 hS => ?_)
            obtain ⟨hq61, hw9, hs9⟩ := hw9
            have hR : RepC g ad A s S60 H1 locs := hR.call ht9 hB9 hw9 hS hFc
            have hsh := hsh.tr hs9
            replace h := h  S60 hq61 hw9 hs9
            clear hB9 hz9 hk9 hvm9 ht9 hw9 hs9 hS
            generalize H1 = H at hR ⊢
            refine lv_goto (tgt := 145) hx hb dX5_move_94 (by decide) ?_
            exact W.vret hx hb hr (fun t9 ht9 hW9 => ⟨⟨S60, rfl, ⟨h, hR.w, hsh⟩, ⟨by rw [ht9]; exact hR.P, hR.D⟩⟩, hR.sS.F ht9⟩) hR.sS.2.2 dX5_move_145
        · replace h := h.2 (k_ne rfl (by decide) c27)
          refine lv_aload_n hx hb dX5_move_58 rfl (lv_at hl 1 rfl) ?_
          refine lv_iload_n hx hb dX5_move_59 rfl (lv_at hl 2 rfl) ?_
          obtain ⟨hv62, h⟩ := h
          have hFc := cfree hR hA
          refine va_calli (va_runS (As := [.int x1]) (rest := [.ref (ad 44)]) ⟨hx, hb, hml, hown, hts⟩ (rX6_gives l g ad H.size S x1 hR.w  hv62) (va_cwS 1 hts (gd_S kw_1018 kw_1216 kw_1207 kw_1215) rfl rfl rfl (by decide +kernel) ⟨Nat.le_of_ble_eq_true rfl, Nat.le_of_ble_eq_true rfl⟩) ⟨cblind, fun U hU hW9 => cmk hU hW9 hR hex hE hFc⟩ rfl rfl hl.1 rfl (lv_room (Nat.le_of_ble_eq_true rfl)) dX5_move_60 ⟨Nat.le_of_ble_eq_true rfl, Nat.le_of_ble_eq_true rfl⟩) hR.sS (fun q _ h => hFc q h) hFc (fun r63 u9 t9 H1 locs ht9 hvm9 hw9 hB9 hz9 hk9 hS => ?_)
          have hR : RepC g ad A s S H1 locs := hR.call ht9 hB9 hR.w hS hFc
          obtain rfl : r63 = (fX6_gives S x1) := hw9
          clear hB9 hz9 hk9 hvm9 ht9 hS
          generalize H1 = H at hR ⊢
          obtain ⟨a65, ea65⟩ : ∃ z, z = (fX6_gives S x1) := ⟨_, rfl⟩
          rw [← ea65]
          replace h := h a65 ea65
          refine lv_aload_n hx hb dX5_move_63 rfl (lv_at hl 1 rfl) ?_
          refine lv_iload_n hx hb dX5_move_64 rfl (lv_at hl 0 rfl) ?_
          obtain ⟨Q66, h0, h⟩ := h
          have hFc := cfree hR hA
          refine va_calll (va_runV (As := [.int a6]) (rest := [.int a65, .ref (ad 44)]) ⟨hx, hb, hml, hown, hts⟩ (rX5_localAt l g ad H.size S a6 hR.w  Q66 h0) (cwV 1 hts (gd_V kw_1106 kw_1092 kw_1093 kw_398 kw_1091) rfl rfl rfl (by decide +kernel) ⟨Nat.le_of_ble_eq_true rfl, Nat.le_of_ble_eq_true rfl⟩) ⟨cblind, va_recv hR.K hR.P (ci := 5) (q0 := 44) rfl (hR.at45 (hR.w.2.1 _ finC_29).2.1), fun U hU hW9 => cmk hU hW9 hR hex hE hFc⟩ rfl rfl hl.1 rfl (lv_room (Nat.le_of_ble_eq_true rfl)) dX5_move_65 ⟨Nat.le_of_ble_eq_true rfl, Nat.le_of_ble_eq_true rfl⟩) hR.sS (fun q _ h => hFc q h) hFc (fun r67 S68 t9 H1 locs ht9 hvm9 hw9 hB9 hz9 hk9 hS => ?_)
          obtain ⟨hq69, hw9, hs9⟩ := hw9
          have hR : RepC g ad A s S68 H1 locs := hR.call ht9 hB9 hw9 hS hFc
          have hsh := hsh.tr hs9
          replace h := h r67 S68 hq69 hw9 hs9
          clear hB9 hz9 hk9 hvm9 ht9 hw9 hs9 hS
          generalize H1 = H at hR ⊢
          obtain ⟨Q70, h0, h⟩ := h
          have hFc := cfree hR hA
          refine va_callv (va_runV (As := [.int a65, .long r67]) (rest := []) ⟨hx, hb, hml, hown, hts⟩ (rX5_push_ l g ad H.size S68 a65 r67 hR.w  Q70 h0) (cwV 2 hts (gd_V kw_1020 kw_1133 kw_1134 kw_398 kw_1132) rfl rfl rfl (by decide +kernel) ⟨Nat.le_of_ble_eq_true rfl, Nat.le_of_ble_eq_true rfl⟩) ⟨cblind, va_recv hR.K hR.P (ci := 5) (q0 := 44) rfl (hR.at45 (hR.w.2.1 _ finC_29).2.1), fun U hU hW9 => cmk hU hW9 hR hex hE hFc⟩ rfl rfl hl.1 rfl (lv_room (Nat.le_of_ble_eq_true rfl)) dX5_move_68 ⟨Nat.le_of_ble_eq_true rfl, Nat.le_of_ble_eq_true rfl⟩) hR.sS (fun q _ h => hFc q h) hFc (fun  S71 t9 H1 locs ht9 hvm9 hw9 hB9 hz9 hk9 hS => ?_)
          obtain ⟨hq72, hw9, hs9⟩ := hw9
          have hR : RepC g ad A s S71 H1 locs := hR.call ht9 hB9 hw9 hS hFc
          have hsh := hsh.tr hs9
          replace h := h  S71 hq72 hw9 hs9
          clear hB9 hz9 hk9 hvm9 ht9 hw9 hs9 hS
          generalize H1 = H at hR ⊢
          refine lv_goto (tgt := 145) hx hb dX5_move_71 (by decide) ?_
          exact W.vret hx hb hr (fun t9 ht9 hW9 => ⟨⟨S71, rfl, ⟨h, hR.w, hsh⟩, ⟨by rw [ht9]; exact hR.P, hR.D⟩⟩, hR.sS.F ht9⟩) hR.sS.2.2 dX5_move_145
      · replace h := h.1 (k_eq rfl (by decide) c22)
        exact J_29 S x1 _ _ ls h  hsh hR (lv_sub hl [1, 2] rfl)
def w_X5_enter_J95 (Q : MS → Prop) (U95 : MS) : Prop := (wfC U95 → (∀ S28, S28 = wI U95 44 19 ((qI U95 44 19) + (1 : Int32)) → qT U95 44 = 45 → wfC S28 → (∀ S30, S30 = wI S28 44 13 ((qI S28 44 13) + (1 : Int32)) → qT S28 44 = 45 → wfC S30 → Q S30)))
def wX5_enter (S : MS) (x1 : Int32) (Q : MS → Prop) : Prop := ((((qI S 44 11) + (1 : Int32)).toInt < 60 → ((qR S 44 0 = some (qO S 44 0)) ∧ (d_X10_takesOfMethod S (qO S 44 0) x1 ∧ (∀ a8 : Int32, a8 = (fX10_takesOfMethod S (qO S 44 0) x1) → (∃ Q9, wX6_placesOf S a8 Q9 ∧ ∀ r10 S11, Q9 r10 S11 → wfC S11 → shy S S11 → (∀ a16 : Int32, a16 = ((((qI S11 44 11) * (24 : Int32)) + (qI S11 44 14)) - r10) → (∀ a19 : Int32, a19 = (((qI S11 44 11) + (1 : Int32)) * (24 : Int32)) → ((qR S11 44 0 = some (qO S11 44 0)) ∧ (qT S11 (qO S11 44 0) = 49 → (∃ Q22, wX10_rowAt S11 (qO S11 44 0) x1 Q22 ∧ ∀ b26 S24, Q22 b26 S24 → wfC S24 → shy S11 S24 → (∀ z, b26 = some z → qT S24 z = 47) → ((b26 = none → w_X5_enter_J95 Q S24) ∧ (¬ b26 = none → (((qI S24 44 14).toInt < r10.toInt → w_X5_enter_J95 Q S24) ∧ (¬ (qI S24 44 14).toInt < r10.toInt → (((qN S24 (qO S24 44 8) : Int) < (a19 + r10).toInt → w_X5_enter_J95 Q S24) ∧ (¬ (qN S24 (qO S24 44 8) : Int) < (a19 + r10).toInt → (((qI S24 44 14).toInt ≤ 24 → ((¬ a16 < 0 ∧ ¬ a19 < 0 ∧ ¬ r10 < 0 ∧ a16.toNatClampNeg + r10.toNatClampNeg ≤ qN S24 (qO S24 44 9) ∧ a19.toNatClampNeg + r10.toNatClampNeg ≤ qN S24 (qO S24 44 8)) ∧ (∀ S41, S41 = wL S24 (qO S24 44 8) (va_cpy (qJ S24 (qO S24 44 9)) (qJ S24 (qO S24 44 8)) a16.toNatClampNeg a19.toNatClampNeg r10.toNatClampNeg) → qT S24 (qO S24 44 8) = 404 → wfC S41 → (∃ Q42, wX5_setFrame S41 (1 : Int32) (qI S41 44 13) Q42 ∧ ∀ S43, Q42 S43 → wfC S43 → shy S41 S43 → (∃ Q46, wX5_setFrame S43 (2 : Int32) ((qI S43 44 14) - r10) Q46 ∧ ∀ S47, Q46 S47 → wfC S47 → shy S43 S47 → (∀ S50, S50 = wI S47 44 11 ((qI S47 44 11) + (1 : Int32)) → qT S47 44 = 45 → wfC S50 → (∃ Q51, wX5_openFrame S50 x1 Q51 ∧ ∀ S52, Q51 S52 → wfC S52 → shy S50 S52 → Q S52))))))) ∧ (¬ (qI S24 44 14).toInt ≤ 24 → w_X5_enter_J95 Q S24)))))))))))))))))) ∧ (¬ ((qI S 44 11) + (1 : Int32)).toInt < 60 → (∀ S54, S54 = wI S 44 15 (3 : Int32) → qT S 44 = 45 → wfC S54 → Q S54)))
set_option maxHeartbeats 2000000 in
set_option maxRecDepth 100000 in
theorem rX5_enter (l : Launch) (g : Gr) (ad : Nat → Nat) (sz : Nat) (S : MS) (x1 : Int32) (hw : wfC S) (Q : MS → Prop) (h : wX5_enter S x1 Q) : Met l yX5_enter (wt yX5_enter cX5_enter 5 none) ({ frames := 2, cells := 0, slots := 0, locals := 43 }) (va_Pc [.ref (ad 44), .int x1] (st_C g ad sz S)) (va_Qv (fun (u : MS) => Q u ∧ wfC u ∧ shy S u) (fun (u : MS) (t : State) => qEC g ad (va_A (WdC g ad S) sz) u t) (va_A (WdC g ad S) sz)) 0 0 (va_A (WdC g ad S) sz) := by
  refine Met.ofW (cc := cX5_enter) (maxL := 5) (ret := none) (by decide) rfl ?_
  intro p e s m args below meth c s₁ B hml hv
  obtain ⟨rfl, hsz, hP, hK, hD0, hex, hE⟩ := hv
  have hx := B.exec
  have hb := B.bytes
  have hr := B.returns
  have hts0 := atoms_spec (ws := wt yX5_enter cX5_enter 5 none) B.pre
  have hts : ∀ w ∈ tb, w.before _ s = true := fun w h => hts0 w (List.mem_cons_of_mem _ h)
  have hown : s.vm.findClass RX5 = some m.cls := findClass_of_methodNamed B.named
  subst hsz
  have hD := hD0.self (sz := s.heap.size)
  generalize hAe : va_A (WdC g ad S) s.heap.size = A at hD hE ⊢
  have hA : ∀ q : Nat, s.heap.size ≤ q → A q := fun q h => by rw [← hAe]; exact Or.inr h
  have hR : RepC g ad A s S s.heap [] := ⟨hK, hP, hD, va_S.rf, hw⟩
  clear hK hP hD hD0
  have hl := lv_entry ([.ref (ad 44), .int x1]) (n := 5) (Nat.le_of_ble_eq_true rfl)
  rw [lg_entry_eq]
  generalize (lg_sl ([.ref (ad 44), .int x1]) ++ List.replicate (5 - (lg_sl ([.ref (ad 44), .int x1])).length) Slot.unset).toArray = ls at hl ⊢
  have hl : lv_has ls 5 [(0, .ref (ad 44)), (1, .int x1)] := hl
  have hsh : shy S S := shy.rf
  unfold wX5_enter at h
  refine lv_aload_n hx hb dX5_enter_0 rfl (lv_at hl 0 rfl) ?_
  refine va_get (D := rD g) (ci := 5) (v := .int (qI S 44 11)) (C := RX5) (T := TX5) (N := 20) hx hb hts inX5 hown hR.K hR.P 44 (hR.at45 (hR.w.2.1 _ finC_29).2.1) rfl 11 (by decide) (hts _ kw_1025) (fun _ h9 => h9) rfl dX5_enter_1 ?_
  refine lv_iconst (v := 1) hx hb dX5_enter_4 (by decide) ?_
  refine lv_iadd hx hb dX5_enter_5 ?_
  refine lv_topi (fun z1 ez1 => ?_)
  obtain rfl : z1 = ((qI S 44 11) + (1 : Int32)) := ez1
  refine lv_bipush (v := 60) hx hb dX5_enter_6 (by decide) ?_
  refine lv_icmp_lt (tgt := 17) hx hb dX5_enter_8 (by decide) (fun c2 => ?_) (fun c2 => ?_)
  · replace h := h.1 (k_lt rfl (by decide) c2)
    refine lv_aload_n hx hb dX5_enter_17 rfl (lv_at hl 0 rfl) ?_
    obtain ⟨hv4, h⟩ := h
    have hT_b3 : qT S (qO S 44 0) = 49 := hR.w.ref hv4 (hR.w.2.1 _ finC_29).2.1
    refine va_get (D := rD g) (ci := 5) (v := .ref (ad (qO S 44 0))) (C := RX5) (T := TX5) (N := 20) hx hb hts inX5 hown hR.K hR.P 44 (hR.at45 (hR.w.2.1 _ finC_29).2.1) rfl 0 (by decide) (hts _ kw_1027) (fun _ h9 => h9) (congrArg (fun z => some (vf ad z)) hv4) dX5_enter_18 ?_
    refine lv_iload_n hx hb dX5_enter_21 rfl (lv_at hl 1 rfl) ?_
    obtain ⟨hv5, h⟩ := h
    have hFc := cfree hR hA
    refine va_calli (va_runV (As := [.int x1]) (rest := []) ⟨hx, hb, hml, hown, hts⟩ (rX10_takesOfMethod l g ad s.heap.size S (qO S 44 0) x1 hR.w hT_b3 hv5) (cwV 1 hts (gd_V kw_1042 kw_78 kw_79 kw_34 kw_77) rfl rfl rfl (by decide +kernel) ⟨Nat.le_of_ble_eq_true rfl, Nat.le_of_ble_eq_true rfl⟩) ⟨cblind, va_recv hR.K hR.P (ci := 9) (q0 := (qO S 44 0)) rfl (hR.at49 hT_b3), fun U hU hW9 => cmk hU hW9 hR hex hE hFc⟩ rfl rfl hl.1 rfl (lv_room (Nat.le_of_ble_eq_true rfl)) dX5_enter_22 ⟨Nat.le_of_ble_eq_true rfl, Nat.le_of_ble_eq_true rfl⟩) hR.sS (fun q _ h => hFc q h) hFc (fun r6 u9 t9 H1 locs ht9 hvm9 hw9 hB9 hz9 hk9 hS => ?_)
    have hR : RepC g ad A s S H1 locs := hR.call ht9 hB9 hR.w hS hFc
    obtain rfl : r6 = (fX10_takesOfMethod S (qO S 44 0) x1) := hw9
    clear hB9 hz9 hk9 hvm9 ht9 hS
    generalize H1 = H at hR ⊢
    obtain ⟨a8, ea8⟩ : ∃ z, z = (fX10_takesOfMethod S (qO S 44 0) x1) := ⟨_, rfl⟩
    rw [← ea8]
    replace h := h a8 ea8
    obtain ⟨Q9, h0, h⟩ := h
    have hFc := cfree hR hA
    refine va_calli (va_runS (As := [.int a8]) (rest := []) ⟨hx, hb, hml, hown, hts⟩ (rX6_placesOf l g ad H.size S a8 hR.w  Q9 h0) (va_cwS 1 hts (gd_S kw_1043 kw_1253 kw_1207 kw_1252) rfl rfl rfl (by decide +kernel) ⟨Nat.le_of_ble_eq_true rfl, Nat.le_of_ble_eq_true rfl⟩) ⟨cblind, fun U hU hW9 => cmk hU hW9 hR hex hE hFc⟩ rfl rfl hl.1 rfl (lv_room (Nat.le_of_ble_eq_true rfl)) dX5_enter_25 ⟨Nat.le_of_ble_eq_true rfl, Nat.le_of_ble_eq_true rfl⟩) hR.sS (fun q _ h => hFc q h) hFc (fun r10 S11 t9 H1 locs ht9 hvm9 hw9 hB9 hz9 hk9 hS => ?_)
    obtain ⟨hq12, hw9, hs9⟩ := hw9
    have hR : RepC g ad A s S11 H1 locs := hR.call ht9 hB9 hw9 hS hFc
    have hsh := hsh.tr hs9
    replace h := h r10 S11 hq12 hw9 hs9
    clear hB9 hz9 hk9 hvm9 ht9 hw9 hs9 hS
    generalize H1 = H at hR ⊢
    refine lv_istore_n (lv' := [(2, .int r10), (0, .ref (ad 44)), (1, .int x1)]) hx hb dX5_enter_28 rfl hl (by decide) rfl (fun ls hl => ?_)
    refine lv_aload_n hx hb dX5_enter_29 rfl (lv_at hl 1 rfl) ?_
    refine va_get (D := rD g) (ci := 5) (v := .int (qI S11 44 11)) (C := RX5) (T := TX5) (N := 20) hx hb hts inX5 hown hR.K hR.P 44 (hR.at45 (hR.w.2.1 _ finC_29).2.1) rfl 11 (by decide) (hts _ kw_1025) (fun _ h9 => h9) rfl dX5_enter_30 ?_
    refine lv_bipush (v := 24) hx hb dX5_enter_33 (by decide) ?_
    refine lv_imul hx hb dX5_enter_35 ?_
    refine lv_topi (fun z13 ez13 => ?_)
    obtain rfl : z13 = ((qI S11 44 11) * (24 : Int32)) := ez13
    refine lv_aload_n hx hb dX5_enter_36 rfl (lv_at hl 1 rfl) ?_
    refine va_get (D := rD g) (ci := 5) (v := .int (qI S11 44 14)) (C := RX5) (T := TX5) (N := 20) hx hb hts inX5 hown hR.K hR.P 44 (hR.at45 (hR.w.2.1 _ finC_29).2.1) rfl 14 (by decide) (hts _ kw_1031) (fun _ h9 => h9) rfl dX5_enter_37 ?_
    refine lv_iadd hx hb dX5_enter_40 ?_
    refine lv_topi (fun z14 ez14 => ?_)
    obtain rfl : z14 = (((qI S11 44 11) * (24 : Int32)) + (qI S11 44 14)) := ez14
    refine lv_iload_n hx hb dX5_enter_41 rfl (lv_at hl 0 rfl) ?_
    refine lv_isub hx hb dX5_enter_42 ?_
    refine lv_topi (fun z15 ez15 => ?_)
    obtain rfl : z15 = ((((qI S11 44 11) * (24 : Int32)) + (qI S11 44 14)) - r10) := ez15
    obtain ⟨a16, ea16⟩ : ∃ z, z = ((((qI S11 44 11) * (24 : Int32)) + (qI S11 44 14)) - r10) := ⟨_, rfl⟩
    rw [← ea16]
    replace h := h a16 ea16
    refine lv_istore_n (lv' := [(3, .int a16), (2, .int r10), (0, .ref (ad 44)), (1, .int x1)]) hx hb dX5_enter_43 rfl hl (by decide) rfl (fun ls hl => ?_)
    refine lv_aload_n hx hb dX5_enter_44 rfl (lv_at hl 2 rfl) ?_
    refine va_get (D := rD g) (ci := 5) (v := .int (qI S11 44 11)) (C := RX5) (T := TX5) (N := 20) hx hb hts inX5 hown hR.K hR.P 44 (hR.at45 (hR.w.2.1 _ finC_29).2.1) rfl 11 (by decide) (hts _ kw_1025) (fun _ h9 => h9) rfl dX5_enter_45 ?_
    refine lv_iconst (v := 1) hx hb dX5_enter_48 (by decide) ?_
    refine lv_iadd hx hb dX5_enter_49 ?_
    refine lv_topi (fun z17 ez17 => ?_)
    obtain rfl : z17 = ((qI S11 44 11) + (1 : Int32)) := ez17
    refine lv_bipush (v := 24) hx hb dX5_enter_50 (by decide) ?_
    refine lv_imul hx hb dX5_enter_52 ?_
    refine lv_topi (fun z18 ez18 => ?_)
    obtain rfl : z18 = (((qI S11 44 11) + (1 : Int32)) * (24 : Int32)) := ez18
    obtain ⟨a19, ea19⟩ : ∃ z, z = (((qI S11 44 11) + (1 : Int32)) * (24 : Int32)) := ⟨_, rfl⟩
    rw [← ea19]
    replace h := h a19 ea19
    refine lv_istore (lv' := [(4, .int a19), (3, .int a16), (2, .int r10), (0, .ref (ad 44)), (1, .int x1)]) hx hb dX5_enter_53 hl (by decide) rfl (fun ls hl => ?_)
    refine lv_aload_n hx hb dX5_enter_55 rfl (lv_at hl 3 rfl) ?_
    obtain ⟨hv21, h⟩ := h
    have hT_b20 : qT S11 (qO S11 44 0) = 49 := hR.w.ref hv21 (hR.w.2.1 _ finC_29).2.1
    refine va_get (D := rD g) (ci := 5) (v := .ref (ad (qO S11 44 0))) (C := RX5) (T := TX5) (N := 20) hx hb hts inX5 hown hR.K hR.P 44 (hR.at45 (hR.w.2.1 _ finC_29).2.1) rfl 0 (by decide) (hts _ kw_1027) (fun _ h9 => h9) (congrArg (fun z => some (vf ad z)) hv21) dX5_enter_56 ?_
    refine lv_iload_n hx hb dX5_enter_59 rfl (lv_at hl 4 rfl) ?_
    replace h := h (hT_b20)
    obtain ⟨Q22, h0, h⟩ := h
    have hFc := cfree hR hA
    refine va_callq (va_runV (As := [.int x1]) (rest := []) ⟨hx, hb, hml, hown, hts⟩ (rX10_rowAt l g ad H.size S11 (qO S11 44 0) x1 hR.w hT_b20 Q22 h0) (cwV 1 hts (gd_V kw_1029 kw_70 kw_71 kw_34 kw_69) rfl rfl rfl (by decide +kernel) ⟨Nat.le_of_ble_eq_true rfl, Nat.le_of_ble_eq_true rfl⟩) ⟨cblind, va_recv hR.K hR.P (ci := 9) (q0 := (qO S11 44 0)) rfl (hR.at49 hT_b20), fun U hU hW9 => cmk hU hW9 hR hex hE hFc⟩ rfl rfl hl.1 rfl (lv_room (Nat.le_of_ble_eq_true rfl)) dX5_enter_60 ⟨Nat.le_of_ble_eq_true rfl, Nat.le_of_ble_eq_true rfl⟩) hR.sS (fun q _ h => hFc q h) hFc (fun r23 S24 t9 H1 locs ht9 hvm9 hw9 hB9 hz9 hk9 hS => ?_)
    obtain ⟨b26, rfl, hq25, hw9, hs9, hO_b26⟩ := hw9
    have hR : RepC g ad A s S24 H1 locs := hR.call ht9 hB9 hw9 hS hFc
    have hsh := hsh.tr hs9
    replace h := h b26 S24 hq25 hw9 hs9 hO_b26
    clear hB9 hz9 hk9 hvm9 ht9 hw9 hs9 hS
    generalize H1 = H at hR ⊢
    have J_95 : ∀ (U95 : MS) (H : Heap) (locs : List Loc) (ls : Array Slot), w_X5_enter_J95 Q U95 → shy S U95 → RepC g ad A s U95 H locs → lv_has ls 5 [(0, .ref (ad 44))] → W p l e (headSpec (wt yX5_enter cX5_enter 5 none) ({ frames := 2, cells := 0, slots := 0, locals := 43 })).room s m ([.ref (ad 44), .int x1] : List Value).toArray below meth c H locs 0 0 (MQ below (va_Qv (fun (u : MS) => Q u ∧ wfC u ∧ shy S u) (fun (u : MS) (t : State) => qEC g ad A u t) A) ([.ref (ad 44), .int x1] : List Value).toArray s 0 0 A) (F0 m 95 ls []) := by
      intro U95 H locs ls h hsh hR hl
      unfold w_X5_enter_J95 at h
      replace h := h hR.w
      refine lv_aload_n hx hb dX5_enter_95 rfl (lv_at hl 0 rfl) ?_
      refine lv_dup hx hb dX5_enter_96 rfl ?_
      refine va_get (D := rD g) (ci := 5) (v := .int (qI U95 44 19)) (C := RX5) (T := TX5) (N := 20) hx hb hts inX5 hown hR.K hR.P 44 (hR.at45 (hR.w.2.1 _ finC_29).2.1) rfl 19 (by decide) (hts _ kw_1045) (fun _ h9 => h9) rfl dX5_enter_97 ?_
      refine lv_iconst (v := 1) hx hb dX5_enter_100 (by decide) ?_
      refine lv_iadd hx hb dX5_enter_101 ?_
      refine lv_topi (fun z27 ez27 => ?_)
      obtain rfl : z27 = ((qI U95 44 19) + (1 : Int32)) := ez27
      refine va_put (D := rD g) (ci := 5) (v := .int ((qI U95 44 19) + (1 : Int32))) (ty := .int) (C := RX5) (T := TX5) (N := 20) hx hb hts inX5 tyX5 tyX5_ok nmX5 hown hR.K hR.P hR.D hR.sS 44 (hR.at45 (hR.w.2.1 _ finC_29).2.1) rfl 19 (by decide) (hts _ kw_1045) (fun _ h9 => h9) rfl (by decide +kernel) rfl rfl (Nat.le_of_ble_eq_true rfl) dX5_enter_102 (fun H locs hP hD hS => ?_)
      have hTk9 : qT U95 44 = 45 := (hR.w.2.1 _ finC_29).2.1
      have hR : RepC g ad A s (wI U95 44 19 ((qI U95 44 19) + (1 : Int32))) H locs := hR.pI45 (hR.w.2.1 _ finC_29).2.1 FX5_s19 (fun q9 => absurd q9 (by decide)) hP hD hS
      obtain ⟨S28, eS28⟩ : ∃ z, z = wI U95 44 19 ((qI U95 44 19) + (1 : Int32)) := ⟨_, rfl⟩
      rw [← eS28] at hR
      replace h := h S28 eS28 hTk9 hR.w
      have hsh : shy S S28 := by rw [eS28]; exact hsh
      refine lv_aload_n hx hb dX5_enter_105 rfl (lv_at hl 0 rfl) ?_
      refine lv_dup hx hb dX5_enter_106 rfl ?_
      refine va_get (D := rD g) (ci := 5) (v := .int (qI S28 44 13)) (C := RX5) (T := TX5) (N := 20) hx hb hts inX5 hown hR.K hR.P 44 (hR.at45 (hR.w.2.1 _ finC_29).2.1) rfl 13 (by decide) (hts _ kw_1021) (fun _ h9 => h9) rfl dX5_enter_107 ?_
      refine lv_iconst (v := 1) hx hb dX5_enter_110 (by decide) ?_
      refine lv_iadd hx hb dX5_enter_111 ?_
      refine lv_topi (fun z29 ez29 => ?_)
      obtain rfl : z29 = ((qI S28 44 13) + (1 : Int32)) := ez29
      refine va_put (D := rD g) (ci := 5) (v := .int ((qI S28 44 13) + (1 : Int32))) (ty := .int) (C := RX5) (T := TX5) (N := 20) hx hb hts inX5 tyX5 tyX5_ok nmX5 hown hR.K hR.P hR.D hR.sS 44 (hR.at45 (hR.w.2.1 _ finC_29).2.1) rfl 13 (by decide) (hts _ kw_1021) (fun _ h9 => h9) rfl (by decide +kernel) rfl rfl (Nat.le_of_ble_eq_true rfl) dX5_enter_112 (fun H locs hP hD hS => ?_)
      have hTk9 : qT S28 44 = 45 := (hR.w.2.1 _ finC_29).2.1
      have hR : RepC g ad A s (wI S28 44 13 ((qI S28 44 13) + (1 : Int32))) H locs := hR.pI45 (hR.w.2.1 _ finC_29).2.1 FX5_s13 (fun q9 => absurd q9 (by decide)) hP hD hS
      obtain ⟨S30, eS30⟩ : ∃ z, z = wI S28 44 13 ((qI S28 44 13) + (1 : Int32)) := ⟨_, rfl⟩
      rw [← eS30] at hR
      replace h := h S30 eS30 hTk9 hR.w
      have hsh : shy S S30 := by rw [eS30]; exact hsh
      exact W.vret hx hb hr (fun t9 ht9 hW9 => ⟨⟨S30, rfl, ⟨h, hR.w, hsh⟩, ⟨by rw [ht9]; exact hR.P, hR.D⟩⟩, hR.sS.F ht9⟩) hR.sS.2.2 dX5_enter_115
    rcases hq_b31 : b26 with _ | b31
    · skip
      replace h := h.1 (hq_b31)
      refine lv_ifnullN (tgt := 95) hx hb dX5_enter_63 (by decide) ?_
      exact J_95 S24 _ _ ls h  hsh hR (lv_sub hl [3] rfl)
    · have hg_b31 : b31 = (b26).getD 0 := by rw [hq_b31]; rfl
      have hT_b31 : qT S24 ((b26).getD 0) = 47 := hg_b31 ▸ hO_b26 _ hq_b31
      subst hg_b31
      replace h := h.2 (fun q9 => Option.some_ne_none _ (hq_b31.symm.trans q9))
      refine lv_ifnull hx hb dX5_enter_63 ?_
      refine lv_iload_n hx hb dX5_enter_66 rfl (lv_at hl 2 rfl) ?_
      refine lv_aload_n hx hb dX5_enter_67 rfl (lv_at hl 3 rfl) ?_
      refine va_get (D := rD g) (ci := 5) (v := .int (qI S24 44 14)) (C := RX5) (T := TX5) (N := 20) hx hb hts inX5 hown hR.K hR.P 44 (hR.at45 (hR.w.2.1 _ finC_29).2.1) rfl 14 (by decide) (hts _ kw_1031) (fun _ h9 => h9) rfl dX5_enter_68 ?_
      refine lv_icmp_gt (tgt := 95) hx hb dX5_enter_71 (by decide) (fun c32 => ?_) (fun c32 => ?_)
      · replace h := h.1 (k_lt rfl rfl c32)
        exact J_95 S24 _ _ ls h  hsh hR (lv_sub hl [3] rfl)
      · replace h := h.2 (k_nlt rfl rfl c32)
        refine lv_iload hx hb dX5_enter_74 (lv_at hl 0 rfl) ?_
        refine lv_iload_n hx hb dX5_enter_76 rfl (lv_at hl 2 rfl) ?_
        refine lv_iadd hx hb dX5_enter_77 ?_
        refine lv_topi (fun z33 ez33 => ?_)
        obtain rfl : z33 = (a19 + r10) := ez33
        refine lv_aload_n hx hb dX5_enter_78 rfl (lv_at hl 3 rfl) ?_
        have hT_b34 : qT S24 (qO S24 44 8) = 404 := hR.w.ref (hR.w.ptr ptrC_20) (hR.w.2.1 _ finC_29).2.1
        refine va_get (D := rD g) (ci := 5) (v := .ref (ad (qO S24 44 8))) (C := RX5) (T := TX5) (N := 20) hx hb hts inX5 hown hR.K hR.P 44 (hR.at45 (hR.w.2.1 _ finC_29).2.1) rfl 8 (by decide) (hts _ kw_1044) (fun _ h9 => h9) (congrArg (fun z => some (vf ad z)) (hR.w.ptr ptrC_20)) dX5_enter_79 ?_
        refine va_alen (v := (Int32.ofNat (qN S24 (qO S24 44 8)))) hx hb hR.K hR.P (qO S24 44 8) 3 (hR.atL hT_b34 (by decide)) rfl rfl dX5_enter_82 ?_
        have hln35 : (Int32.ofNat (qN S24 (qO S24 44 8))).toInt = (qN S24 (qO S24 44 8) : Int) := toI_len (hR.w.len9 (hT_b34) (by decide))
        refine lv_icmp_gt (tgt := 95) hx hb dX5_enter_83 (by decide) (fun c36 => ?_) (fun c36 => ?_)
        · replace h := h.1 (k_lt hln35 rfl c36)
          exact J_95 S24 _ _ ls h  hsh hR (lv_sub hl [3] rfl)
        · replace h := h.2 (k_nlt hln35 rfl c36)
          refine lv_aload_n hx hb dX5_enter_86 rfl (lv_at hl 3 rfl) ?_
          refine va_get (D := rD g) (ci := 5) (v := .int (qI S24 44 14)) (C := RX5) (T := TX5) (N := 20) hx hb hts inX5 hown hR.K hR.P 44 (hR.at45 (hR.w.2.1 _ finC_29).2.1) rfl 14 (by decide) (hts _ kw_1031) (fun _ h9 => h9) rfl dX5_enter_87 ?_
          refine lv_bipush (v := 24) hx hb dX5_enter_90 (by decide) ?_
          refine lv_icmp_le (tgt := 116) hx hb dX5_enter_92 (by decide) (fun c37 => ?_) (fun c37 => ?_)
          · replace h := h.1 (k_le rfl (by decide) c37)
            refine lv_aload_n hx hb dX5_enter_116 rfl (lv_at hl 3 rfl) ?_
            have hT_b38 : qT S24 (qO S24 44 9) = 405 := hR.w.ref (hR.w.ptr ptrC_21) (hR.w.2.1 _ finC_29).2.1
            refine va_get (D := rD g) (ci := 5) (v := .ref (ad (qO S24 44 9))) (C := RX5) (T := TX5) (N := 20) hx hb hts inX5 hown hR.K hR.P 44 (hR.at45 (hR.w.2.1 _ finC_29).2.1) rfl 9 (by decide) (hts _ kw_1046) (fun _ h9 => h9) (congrArg (fun z => some (vf ad z)) (hR.w.ptr ptrC_21)) dX5_enter_117 ?_
            refine lv_iload_n hx hb dX5_enter_120 rfl (lv_at hl 1 rfl) ?_
            refine lv_aload_n hx hb dX5_enter_121 rfl (lv_at hl 3 rfl) ?_
            have hT_b39 : qT S24 (qO S24 44 8) = 404 := hR.w.ref (hR.w.ptr ptrC_20) (hR.w.2.1 _ finC_29).2.1
            refine va_get (D := rD g) (ci := 5) (v := .ref (ad (qO S24 44 8))) (C := RX5) (T := TX5) (N := 20) hx hb hts inX5 hown hR.K hR.P 44 (hR.at45 (hR.w.2.1 _ finC_29).2.1) rfl 8 (by decide) (hts _ kw_1044) (fun _ h9 => h9) (congrArg (fun z => some (vf ad z)) (hR.w.ptr ptrC_20)) dX5_enter_122 ?_
            refine lv_iload hx hb dX5_enter_125 (lv_at hl 0 rfl) ?_
            refine lv_iload_n hx hb dX5_enter_127 rfl (lv_at hl 2 rfl) ?_
            obtain ⟨hv40, h⟩ := h
            refine va_copyl hx hb (by rw [hml]; exact hl.1.symm) hown (hts _ kw_1047) (hts _ kw_28) (hts _ kw_29) (hts _ kw_30) hR.K hR.P hR.D hR.sS (qO S24 44 9) (qO S24 44 8) 3 3 (hR.atL hT_b38 (by decide)) (hR.atL hT_b39 (by decide)) rfl rfl rfl hv40.1 hv40.2.1 hv40.2.2.1 hv40.2.2.2.1 hv40.2.2.2.2 (fun i _ => rfl) (Nat.le_of_ble_eq_true rfl) (Nat.le_of_ble_eq_true rfl) dX5_enter_128 (fun H locs hP hD hS => ?_)
            have hTk9 : qT S24 (qO S24 44 8) = 404 := hT_b39
            have hR : RepC g ad A s (wL S24 (qO S24 44 8) (va_cpy (qJ S24 (qO S24 44 9)) (qJ S24 (qO S24 44 8)) a16.toNatClampNeg a19.toNatClampNeg r10.toNatClampNeg)) H locs := hR.cL hT_b39 (by decide) hP hD hS
            obtain ⟨S41, eS41⟩ : ∃ z, z = wL S24 (qO S24 44 8) (va_cpy (qJ S24 (qO S24 44 9)) (qJ S24 (qO S24 44 8)) a16.toNatClampNeg a19.toNatClampNeg r10.toNatClampNeg) := ⟨_, rfl⟩
            rw [← eS41] at hR
            replace h := h S41 eS41 hTk9 hR.w
            have hsh : shy S S41 := by rw [eS41]; exact hsh
            refine lv_aload_n hx hb dX5_enter_131 rfl (lv_at hl 3 rfl) ?_
            refine lv_iconst (v := 1) hx hb dX5_enter_132 (by decide) ?_
            refine lv_aload_n hx hb dX5_enter_133 rfl (lv_at hl 3 rfl) ?_
            refine va_get (D := rD g) (ci := 5) (v := .int (qI S41 44 13)) (C := RX5) (T := TX5) (N := 20) hx hb hts inX5 hown hR.K hR.P 44 (hR.at45 (hR.w.2.1 _ finC_29).2.1) rfl 13 (by decide) (hts _ kw_1021) (fun _ h9 => h9) rfl dX5_enter_134 ?_
            obtain ⟨Q42, h0, h⟩ := h
            have hFc := cfree hR hA
            refine va_callv (va_runV (As := [.int 1, .int (qI S41 44 13)]) (rest := []) ⟨hx, hb, hml, hown, hts⟩ (rX5_setFrame l g ad H.size S41 (1 : Int32) (qI S41 44 13) hR.w  Q42 h0) (cwV 2 hts (gd_V kw_1048 kw_1148 kw_1149 kw_398 kw_1147) rfl rfl rfl (by decide +kernel) ⟨Nat.le_of_ble_eq_true rfl, Nat.le_of_ble_eq_true rfl⟩) ⟨cblind, va_recv hR.K hR.P (ci := 5) (q0 := 44) rfl (hR.at45 (hR.w.2.1 _ finC_29).2.1), fun U hU hW9 => cmk hU hW9 hR hex hE hFc⟩ rfl rfl hl.1 rfl (lv_room (Nat.le_of_ble_eq_true rfl)) dX5_enter_137 ⟨Nat.le_of_ble_eq_true rfl, Nat.le_of_ble_eq_true rfl⟩) hR.sS (fun q _ h => hFc q h) hFc (fun  S43 t9 H1 locs ht9 hvm9 hw9 hB9 hz9 hk9 hS => ?_)
            obtain ⟨hq44, hw9, hs9⟩ := hw9
            have hR : RepC g ad A s S43 H1 locs := hR.call ht9 hB9 hw9 hS hFc
            have hsh := hsh.tr hs9
            replace h := h  S43 hq44 hw9 hs9
            clear hB9 hz9 hk9 hvm9 ht9 hw9 hs9 hS
            generalize H1 = H at hR ⊢
            refine lv_aload_n hx hb dX5_enter_140 rfl (lv_at hl 3 rfl) ?_
            refine lv_iconst (v := 2) hx hb dX5_enter_141 (by decide) ?_
            refine lv_aload_n hx hb dX5_enter_142 rfl (lv_at hl 3 rfl) ?_
            refine va_get (D := rD g) (ci := 5) (v := .int (qI S43 44 14)) (C := RX5) (T := TX5) (N := 20) hx hb hts inX5 hown hR.K hR.P 44 (hR.at45 (hR.w.2.1 _ finC_29).2.1) rfl 14 (by decide) (hts _ kw_1031) (fun _ h9 => h9) rfl dX5_enter_143 ?_
            refine lv_iload_n hx hb dX5_enter_146 rfl (lv_at hl 2 rfl) ?_
            refine lv_isub hx hb dX5_enter_147 ?_
            refine lv_topi (fun z45 ez45 => ?_)
            obtain rfl : z45 = ((qI S43 44 14) - r10) := ez45
            obtain ⟨Q46, h0, h⟩ := h
            have hFc := cfree hR hA
            refine va_callv (va_runV (As := [.int 2, .int ((qI S43 44 14) - r10)]) (rest := []) ⟨hx, hb, hml, hown, hts⟩ (rX5_setFrame l g ad H.size S43 (2 : Int32) ((qI S43 44 14) - r10) hR.w  Q46 h0) (cwV 2 hts (gd_V kw_1048 kw_1148 kw_1149 kw_398 kw_1147) rfl rfl rfl (by decide +kernel) ⟨Nat.le_of_ble_eq_true rfl, Nat.le_of_ble_eq_true rfl⟩) ⟨cblind, va_recv hR.K hR.P (ci := 5) (q0 := 44) rfl (hR.at45 (hR.w.2.1 _ finC_29).2.1), fun U hU hW9 => cmk hU hW9 hR hex hE hFc⟩ rfl rfl hl.1 rfl (lv_room (Nat.le_of_ble_eq_true rfl)) dX5_enter_148 ⟨Nat.le_of_ble_eq_true rfl, Nat.le_of_ble_eq_true rfl⟩) hR.sS (fun q _ h => hFc q h) hFc (fun  S47 t9 H1 locs ht9 hvm9 hw9 hB9 hz9 hk9 hS => ?_)
            obtain ⟨hq48, hw9, hs9⟩ := hw9
            have hR : RepC g ad A s S47 H1 locs := hR.call ht9 hB9 hw9 hS hFc
            have hsh := hsh.tr hs9
            replace h := h  S47 hq48 hw9 hs9
            clear hB9 hz9 hk9 hvm9 ht9 hw9 hs9 hS
            generalize H1 = H at hR ⊢
            refine lv_aload_n hx hb dX5_enter_151 rfl (lv_at hl 3 rfl) ?_
            refine lv_dup hx hb dX5_enter_152 rfl ?_
            refine va_get (D := rD g) (ci := 5) (v := .int (qI S47 44 11)) (C := RX5) (T := TX5) (N := 20) hx hb hts inX5 hown hR.K hR.P 44 (hR.at45 (hR.w.2.1 _ finC_29).2.1) rfl 11 (by decide) (hts _ kw_1025) (fun _ h9 => h9) rfl dX5_enter_153 ?_
            refine lv_iconst (v := 1) hx hb dX5_enter_156 (by decide) ?_
            refine lv_iadd hx hb dX5_enter_157 ?_
            refine lv_topi (fun z49 ez49 => ?_)
            obtain rfl : z49 = ((qI S47 44 11) + (1 : Int32)) := ez49
            refine va_put (D := rD g) (ci := 5) (v := .int ((qI S47 44 11) + (1 : Int32))) (ty := .int) (C := RX5) (T := TX5) (N := 20) hx hb hts inX5 tyX5 tyX5_ok nmX5 hown hR.K hR.P hR.D hR.sS 44 (hR.at45 (hR.w.2.1 _ finC_29).2.1) rfl 11 (by decide) (hts _ kw_1025) (fun _ h9 => h9) rfl (by decide +kernel) rfl rfl (Nat.le_of_ble_eq_true rfl) dX5_enter_158 (fun H locs hP hD hS => ?_)
            have hTk9 : qT S47 44 = 45 := (hR.w.2.1 _ finC_29).2.1
            have hR : RepC g ad A s (wI S47 44 11 ((qI S47 44 11) + (1 : Int32))) H locs := hR.pI45 (hR.w.2.1 _ finC_29).2.1 FX5_s11 (fun q9 => absurd q9 (by decide)) hP hD hS
            obtain ⟨S50, eS50⟩ : ∃ z, z = wI S47 44 11 ((qI S47 44 11) + (1 : Int32)) := ⟨_, rfl⟩
            rw [← eS50] at hR
            replace h := h S50 eS50 hTk9 hR.w
            have hsh : shy S S50 := by rw [eS50]; exact hsh
            refine lv_aload_n hx hb dX5_enter_161 rfl (lv_at hl 3 rfl) ?_
            refine lv_iload_n hx hb dX5_enter_162 rfl (lv_at hl 4 rfl) ?_
            obtain ⟨Q51, h0, h⟩ := h
            have hFc := cfree hR hA
            refine va_callv (va_runV (As := [.int x1]) (rest := []) ⟨hx, hb, hml, hown, hts⟩ (rX5_openFrame l g ad H.size S50 x1 hR.w  Q51 h0) (cwV 1 hts (gd_V kw_1049 kw_1111 kw_1112 kw_398 kw_1110) rfl rfl rfl (by decide +kernel) ⟨Nat.le_of_ble_eq_true rfl, Nat.le_of_ble_eq_true rfl⟩) ⟨cblind, va_recv hR.K hR.P (ci := 5) (q0 := 44) rfl (hR.at45 (hR.w.2.1 _ finC_29).2.1), fun U hU hW9 => cmk hU hW9 hR hex hE hFc⟩ rfl rfl hl.1 rfl (lv_room (Nat.le_of_ble_eq_true rfl)) dX5_enter_163 ⟨Nat.le_of_ble_eq_true rfl, Nat.le_of_ble_eq_true rfl⟩) hR.sS (fun q _ h => hFc q h) hFc (fun  S52 t9 H1 locs ht9 hvm9 hw9 hB9 hz9 hk9 hS => ?_)
            obtain ⟨hq53, hw9, hs9⟩ := hw9
            have hR : RepC g ad A s S52 H1 locs := hR.call ht9 hB9 hw9 hS hFc
            have hsh := hsh.tr hs9
            replace h := h  S52 hq53 hw9 hs9
            clear hB9 hz9 hk9 hvm9 ht9 hw9 hs9 hS
            generalize H1 = H at hR ⊢
            exact W.vret hx hb hr (fun t9 ht9 hW9 => ⟨⟨S52, rfl, ⟨h, hR.w, hsh⟩, ⟨by rw [ht9]; exact hR.P, hR.D⟩⟩, hR.sS.F ht9⟩) hR.sS.2.2 dX5_enter_166
          · replace h := h.2 (k_nle rfl (by decide) c37)
            exact J_95 S24 _ _ ls h  hsh hR (lv_sub hl [3] rfl)
  · replace h := h.2 (k_nlt rfl (by decide) c2)
    refine lv_aload_n hx hb dX5_enter_11 rfl (lv_at hl 0 rfl) ?_
    refine lv_iconst (v := 3) hx hb dX5_enter_12 (by decide) ?_
    refine va_put (D := rD g) (ci := 5) (v := .int 3) (ty := .int) (C := RX5) (T := TX5) (N := 20) hx hb hts inX5 tyX5 tyX5_ok nmX5 hown hR.K hR.P hR.D hR.sS 44 (hR.at45 (hR.w.2.1 _ finC_29).2.1) rfl 15 (by decide) (hts _ kw_1041) (fun _ h9 => h9) rfl (by decide +kernel) rfl rfl (Nat.le_of_ble_eq_true rfl) dX5_enter_13 (fun H locs hP hD hS => ?_)
    have hTk9 : qT S 44 = 45 := (hR.w.2.1 _ finC_29).2.1
    have hR : RepC g ad A s (wI S 44 15 (3 : Int32)) H locs := hR.pI45 (hR.w.2.1 _ finC_29).2.1 FX5_s15 (fun q9 => absurd q9 (by decide)) hP hD hS
    obtain ⟨S54, eS54⟩ : ∃ z, z = wI S 44 15 (3 : Int32) := ⟨_, rfl⟩
    rw [← eS54] at hR
    replace h := h S54 eS54 hTk9 hR.w
    have hsh : shy S S54 := by rw [eS54]; exact hsh
    exact W.vret hx hb hr (fun t9 ht9 hW9 => ⟨⟨S54, rfl, ⟨h, hR.w, hsh⟩, ⟨by rw [ht9]; exact hR.P, hR.D⟩⟩, hR.sS.F ht9⟩) hR.sS.2.2 dX5_enter_16
def wX5_closeFrame (S : MS) (Q : MS → Prop) : Prop := (∀ S3, S3 = wI S 44 11 (if (0 : Int32) < ((qI S 44 11) - (1 : Int32)) then ((qI S 44 11) - (1 : Int32)) else (0 : Int32)) → qT S 44 = 45 → wfC S3 → ((qR S3 44 0 = some (qO S3 44 0)) ∧ (d_X5_frameAt S3 (0 : Int32) ∧ (qT S3 (qO S3 44 0) = 49 → (∃ Q9, wX10_rowAt S3 (qO S3 44 0) (fX5_frameAt S3 (0 : Int32)) Q9 ∧ ∀ b13 S11, Q9 b13 S11 → wfC S11 → shy S3 S11 → (∀ z, b13 = some z → qT S11 z = 47) → (∀ S14, S14 = wR S11 44 12 b13 → qT S11 44 = 45 → wfC S14 → (d_X5_frameAt S14 (1 : Int32) ∧ (∀ S18, S18 = wI S14 44 13 (fX5_frameAt S14 (1 : Int32)) → qT S14 44 = 45 → wfC S18 → (d_X5_frameAt S18 (2 : Int32) ∧ (∀ S22, S22 = wI S18 44 14 (fX5_frameAt S18 (2 : Int32)) → qT S18 44 = 45 → wfC S22 → Q S22))))))))))
set_option maxHeartbeats 2000000 in
set_option maxRecDepth 100000 in
theorem rX5_closeFrame (l : Launch) (g : Gr) (ad : Nat → Nat) (sz : Nat) (S : MS) (hw : wfC S) (Q : MS → Prop) (h : wX5_closeFrame S Q) : Met l yX5_closeFrame (wt yX5_closeFrame cX5_closeFrame 1 none) ({ frames := 1, cells := 0, slots := 0, locals := 21 }) (va_Pc [.ref (ad 44)] (st_C g ad sz S)) (va_Qv (fun (u : MS) => Q u ∧ wfC u ∧ shy S u) (fun (u : MS) (t : State) => qEC g ad (va_A (WdC g ad S) sz) u t) (va_A (WdC g ad S) sz)) 0 0 (va_A (WdC g ad S) sz) := by
  refine Met.ofW (cc := cX5_closeFrame) (maxL := 1) (ret := none) (by decide) rfl ?_
  intro p e s m args below meth c s₁ B hml hv
  obtain ⟨rfl, hsz, hP, hK, hD0, hex, hE⟩ := hv
  have hx := B.exec
  have hb := B.bytes
  have hr := B.returns
  have hts0 := atoms_spec (ws := wt yX5_closeFrame cX5_closeFrame 1 none) B.pre
  have hts : ∀ w ∈ tb, w.before _ s = true := fun w h => hts0 w (List.mem_cons_of_mem _ h)
  have hown : s.vm.findClass RX5 = some m.cls := findClass_of_methodNamed B.named
  subst hsz
  have hD := hD0.self (sz := s.heap.size)
  generalize hAe : va_A (WdC g ad S) s.heap.size = A at hD hE ⊢
  have hA : ∀ q : Nat, s.heap.size ≤ q → A q := fun q h => by rw [← hAe]; exact Or.inr h
  have hR : RepC g ad A s S s.heap [] := ⟨hK, hP, hD, va_S.rf, hw⟩
  clear hK hP hD hD0
  have hl := lv_entry ([.ref (ad 44)]) (n := 1) (Nat.le_of_ble_eq_true rfl)
  rw [lg_entry_eq]
  generalize (lg_sl ([.ref (ad 44)]) ++ List.replicate (1 - (lg_sl ([.ref (ad 44)])).length) Slot.unset).toArray = ls at hl ⊢
  have hl : lv_has ls 1 [(0, .ref (ad 44))] := hl
  have hsh : shy S S := shy.rf
  unfold wX5_closeFrame at h
  refine lv_aload_n hx hb dX5_closeFrame_0 rfl (lv_at hl 0 rfl) ?_
  refine lv_iconst (v := 0) hx hb dX5_closeFrame_1 (by decide) ?_
  refine lv_aload_n hx hb dX5_closeFrame_2 rfl (lv_at hl 0 rfl) ?_
  refine va_get (D := rD g) (ci := 5) (v := .int (qI S 44 11)) (C := RX5) (T := TX5) (N := 20) hx hb hts inX5 hown hR.K hR.P 44 (hR.at45 (hR.w.2.1 _ finC_29).2.1) rfl 11 (by decide) (hts _ kw_1025) (fun _ h9 => h9) rfl dX5_closeFrame_3 ?_
  refine lv_iconst (v := 1) hx hb dX5_closeFrame_6 (by decide) ?_
  refine lv_isub hx hb dX5_closeFrame_7 ?_
  refine lv_topi (fun z1 ez1 => ?_)
  obtain rfl : z1 = ((qI S 44 11) - (1 : Int32)) := ez1
  refine va_mmax hx hb (by rw [hml]; exact hl.1.symm) hown (hts _ kw_1026) (hts _ kw_1747) (hts _ kw_1748) (hts _ kw_1746) (Nat.le_of_ble_eq_true rfl) (Nat.le_of_ble_eq_true rfl) (Nat.le_of_ble_eq_true rfl) (Nat.le_of_ble_eq_true rfl) dX5_closeFrame_8 ?_
  refine lv_topi (fun z2 ez2 => ?_)
  obtain rfl : z2 = (if (0 : Int32) < ((qI S 44 11) - (1 : Int32)) then ((qI S 44 11) - (1 : Int32)) else (0 : Int32)) := ez2
  refine va_put (D := rD g) (ci := 5) (v := .int (if (0 : Int32) < ((qI S 44 11) - (1 : Int32)) then ((qI S 44 11) - (1 : Int32)) else (0 : Int32))) (ty := .int) (C := RX5) (T := TX5) (N := 20) hx hb hts inX5 tyX5 tyX5_ok nmX5 hown hR.K hR.P hR.D hR.sS 44 (hR.at45 (hR.w.2.1 _ finC_29).2.1) rfl 11 (by decide) (hts _ kw_1025) (fun _ h9 => h9) rfl (by decide +kernel) rfl rfl (Nat.le_of_ble_eq_true rfl) dX5_closeFrame_11 (fun H locs hP hD hS => ?_)
  have hTk9 : qT S 44 = 45 := (hR.w.2.1 _ finC_29).2.1
  have hR : RepC g ad A s (wI S 44 11 (if (0 : Int32) < ((qI S 44 11) - (1 : Int32)) then ((qI S 44 11) - (1 : Int32)) else (0 : Int32))) H locs := hR.pI45 (hR.w.2.1 _ finC_29).2.1 FX5_s11 (fun q9 => absurd q9 (by decide)) hP hD hS
  obtain ⟨S3, eS3⟩ : ∃ z, z = wI S 44 11 (if (0 : Int32) < ((qI S 44 11) - (1 : Int32)) then ((qI S 44 11) - (1 : Int32)) else (0 : Int32)) := ⟨_, rfl⟩
  rw [← eS3] at hR
  replace h := h S3 eS3 hTk9 hR.w
  have hsh : shy S S3 := by rw [eS3]; exact hsh
  refine lv_aload_n hx hb dX5_closeFrame_14 rfl (lv_at hl 0 rfl) ?_
  refine lv_aload_n hx hb dX5_closeFrame_15 rfl (lv_at hl 0 rfl) ?_
  obtain ⟨hv5, h⟩ := h
  have hT_b4 : qT S3 (qO S3 44 0) = 49 := hR.w.ref hv5 (hR.w.2.1 _ finC_29).2.1
  refine va_get (D := rD g) (ci := 5) (v := .ref (ad (qO S3 44 0))) (C := RX5) (T := TX5) (N := 20) hx hb hts inX5 hown hR.K hR.P 44 (hR.at45 (hR.w.2.1 _ finC_29).2.1) rfl 0 (by decide) (hts _ kw_1027) (fun _ h9 => h9) (congrArg (fun z => some (vf ad z)) hv5) dX5_closeFrame_16 ?_
  refine lv_aload_n hx hb dX5_closeFrame_19 rfl (lv_at hl 0 rfl) ?_
  refine lv_iconst (v := 0) hx hb dX5_closeFrame_20 (by decide) ?_
  obtain ⟨hv6, h⟩ := h
  have hFc := cfree hR hA
  refine va_calli (va_runV (As := [.int 0]) (rest := [.ref (ad (qO S3 44 0)), .ref (ad 44)]) ⟨hx, hb, hml, hown, hts⟩ (rX5_frameAt l g ad H.size S3 (0 : Int32) hR.w  hv6) (cwV 1 hts (gd_V kw_1028 kw_1056 kw_1057 kw_398 kw_1055) rfl rfl rfl (by decide +kernel) ⟨Nat.le_of_ble_eq_true rfl, Nat.le_of_ble_eq_true rfl⟩) ⟨cblind, va_recv hR.K hR.P (ci := 5) (q0 := 44) rfl (hR.at45 (hR.w.2.1 _ finC_29).2.1), fun U hU hW9 => cmk hU hW9 hR hex hE hFc⟩ rfl rfl hl.1 rfl (lv_room (Nat.le_of_ble_eq_true rfl)) dX5_closeFrame_21 ⟨Nat.le_of_ble_eq_true rfl, Nat.le_of_ble_eq_true rfl⟩) hR.sS (fun q _ h => hFc q h) hFc (fun r7 u9 t9 H1 locs ht9 hvm9 hw9 hB9 hz9 hk9 hS => ?_)
  have hR : RepC g ad A s S3 H1 locs := hR.call ht9 hB9 hR.w hS hFc
  obtain rfl : r7 = (fX5_frameAt S3 (0 : Int32)) := hw9
  clear hB9 hz9 hk9 hvm9 ht9 hS
  generalize H1 = H at hR ⊢
  replace h := h (hT_b4)
  obtain ⟨Q9, h0, h⟩ := h
  have hFc := cfree hR hA
  refine va_callq (va_runV (As := [.int (fX5_frameAt S3 (0 : Int32))]) (rest := [.ref (ad 44)]) ⟨hx, hb, hml, hown, hts⟩ (rX10_rowAt l g ad H.size S3 (qO S3 44 0) (fX5_frameAt S3 (0 : Int32)) hR.w hT_b4 Q9 h0) (cwV 1 hts (gd_V kw_1029 kw_70 kw_71 kw_34 kw_69) rfl rfl rfl (by decide +kernel) ⟨Nat.le_of_ble_eq_true rfl, Nat.le_of_ble_eq_true rfl⟩) ⟨cblind, va_recv hR.K hR.P (ci := 9) (q0 := (qO S3 44 0)) rfl (hR.at49 hT_b4), fun U hU hW9 => cmk hU hW9 hR hex hE hFc⟩ rfl rfl hl.1 rfl (lv_room (Nat.le_of_ble_eq_true rfl)) dX5_closeFrame_24 ⟨Nat.le_of_ble_eq_true rfl, Nat.le_of_ble_eq_true rfl⟩) hR.sS (fun q _ h => hFc q h) hFc (fun r10 S11 t9 H1 locs ht9 hvm9 hw9 hB9 hz9 hk9 hS => ?_)
  obtain ⟨b13, rfl, hq12, hw9, hs9, hO_b13⟩ := hw9
  have hR : RepC g ad A s S11 H1 locs := hR.call ht9 hB9 hw9 hS hFc
  have hsh := hsh.tr hs9
  replace h := h b13 S11 hq12 hw9 hs9 hO_b13
  clear hB9 hz9 hk9 hvm9 ht9 hw9 hs9 hS
  generalize H1 = H at hR ⊢
  refine va_put (D := rD g) (ci := 5) (v := vf ad b13) (ty := (.object "CodeFoundry$Row")) (C := RX5) (T := TX5) (N := 20) hx hb hts inX5 tyX5 tyX5_ok nmX5 hown hR.K hR.P hR.D hR.sS 44 (hR.at45 (hR.w.2.1 _ finC_29).2.1) rfl 12 (by decide) (hts _ kw_1030) (fun _ h9 => h9) rfl (by decide +kernel) (by cases b13 <;> rfl) (by cases b13 <;> rfl) (Nat.le_of_ble_eq_true rfl) dX5_closeFrame_27 (fun H locs hP hD hS => ?_)
  have hw9 : wfC (wR S11 44 12 b13) := hR.w.put (fun b q9 => (hO_b13 b q9).trans (by rw [(hR.w.2.1 _ finC_29).2.1]; rfl)) (nofC_44_12) (by rw [(hR.w.2.1 _ finC_29).2.1]; decide) (fun b _ q9 => absurd (show otgC (qT S11 44) 12 = 0 by rw [(hR.w.2.1 _ finC_29).2.1]; decide) q9) (fun q9 => absurd q9 nopC_44_12)
  have hTk9 : qT S11 44 = 45 := (hR.w.2.1 _ finC_29).2.1
  have hR : RepC g ad A s (wR S11 44 12 b13) H locs := hR.pR45 (hR.w.2.1 _ finC_29).2.1 FX5_s12 hw9 hP hD hS
  obtain ⟨S14, eS14⟩ : ∃ z, z = wR S11 44 12 b13 := ⟨_, rfl⟩
  rw [← eS14] at hR
  replace h := h S14 eS14 hTk9 hR.w
  have hsh : shy S S14 := by rw [eS14]; exact hsh
  refine lv_aload_n hx hb dX5_closeFrame_30 rfl (lv_at hl 0 rfl) ?_
  refine lv_aload_n hx hb dX5_closeFrame_31 rfl (lv_at hl 0 rfl) ?_
  refine lv_iconst (v := 1) hx hb dX5_closeFrame_32 (by decide) ?_
  obtain ⟨hv15, h⟩ := h
  have hFc := cfree hR hA
  refine va_calli (va_runV (As := [.int 1]) (rest := [.ref (ad 44)]) ⟨hx, hb, hml, hown, hts⟩ (rX5_frameAt l g ad H.size S14 (1 : Int32) hR.w  hv15) (cwV 1 hts (gd_V kw_1028 kw_1056 kw_1057 kw_398 kw_1055) rfl rfl rfl (by decide +kernel) ⟨Nat.le_of_ble_eq_true rfl, Nat.le_of_ble_eq_true rfl⟩) ⟨cblind, va_recv hR.K hR.P (ci := 5) (q0 := 44) rfl (hR.at45 (hR.w.2.1 _ finC_29).2.1), fun U hU hW9 => cmk hU hW9 hR hex hE hFc⟩ rfl rfl hl.1 rfl (lv_room (Nat.le_of_ble_eq_true rfl)) dX5_closeFrame_33 ⟨Nat.le_of_ble_eq_true rfl, Nat.le_of_ble_eq_true rfl⟩) hR.sS (fun q _ h => hFc q h) hFc (fun r16 u9 t9 H1 locs ht9 hvm9 hw9 hB9 hz9 hk9 hS => ?_)
  have hR : RepC g ad A s S14 H1 locs := hR.call ht9 hB9 hR.w hS hFc
  obtain rfl : r16 = (fX5_frameAt S14 (1 : Int32)) := hw9
  clear hB9 hz9 hk9 hvm9 ht9 hS
  generalize H1 = H at hR ⊢
  refine va_put (D := rD g) (ci := 5) (v := .int (fX5_frameAt S14 (1 : Int32))) (ty := .int) (C := RX5) (T := TX5) (N := 20) hx hb hts inX5 tyX5 tyX5_ok nmX5 hown hR.K hR.P hR.D hR.sS 44 (hR.at45 (hR.w.2.1 _ finC_29).2.1) rfl 13 (by decide) (hts _ kw_1021) (fun _ h9 => h9) rfl (by decide +kernel) rfl rfl (Nat.le_of_ble_eq_true rfl) dX5_closeFrame_36 (fun H locs hP hD hS => ?_)
  have hTk9 : qT S14 44 = 45 := (hR.w.2.1 _ finC_29).2.1
  have hR : RepC g ad A s (wI S14 44 13 (fX5_frameAt S14 (1 : Int32))) H locs := hR.pI45 (hR.w.2.1 _ finC_29).2.1 FX5_s13 (fun q9 => absurd q9 (by decide)) hP hD hS
  obtain ⟨S18, eS18⟩ : ∃ z, z = wI S14 44 13 (fX5_frameAt S14 (1 : Int32)) := ⟨_, rfl⟩
  rw [← eS18] at hR
  replace h := h S18 eS18 hTk9 hR.w
  have hsh : shy S S18 := by rw [eS18]; exact hsh
  refine lv_aload_n hx hb dX5_closeFrame_39 rfl (lv_at hl 0 rfl) ?_
  refine lv_aload_n hx hb dX5_closeFrame_40 rfl (lv_at hl 0 rfl) ?_
  refine lv_iconst (v := 2) hx hb dX5_closeFrame_41 (by decide) ?_
  obtain ⟨hv19, h⟩ := h
  have hFc := cfree hR hA
  refine va_calli (va_runV (As := [.int 2]) (rest := [.ref (ad 44)]) ⟨hx, hb, hml, hown, hts⟩ (rX5_frameAt l g ad H.size S18 (2 : Int32) hR.w  hv19) (cwV 1 hts (gd_V kw_1028 kw_1056 kw_1057 kw_398 kw_1055) rfl rfl rfl (by decide +kernel) ⟨Nat.le_of_ble_eq_true rfl, Nat.le_of_ble_eq_true rfl⟩) ⟨cblind, va_recv hR.K hR.P (ci := 5) (q0 := 44) rfl (hR.at45 (hR.w.2.1 _ finC_29).2.1), fun U hU hW9 => cmk hU hW9 hR hex hE hFc⟩ rfl rfl hl.1 rfl (lv_room (Nat.le_of_ble_eq_true rfl)) dX5_closeFrame_42 ⟨Nat.le_of_ble_eq_true rfl, Nat.le_of_ble_eq_true rfl⟩) hR.sS (fun q _ h => hFc q h) hFc (fun r20 u9 t9 H1 locs ht9 hvm9 hw9 hB9 hz9 hk9 hS => ?_)
  have hR : RepC g ad A s S18 H1 locs := hR.call ht9 hB9 hR.w hS hFc
  obtain rfl : r20 = (fX5_frameAt S18 (2 : Int32)) := hw9
  clear hB9 hz9 hk9 hvm9 ht9 hS
  generalize H1 = H at hR ⊢
  refine va_put (D := rD g) (ci := 5) (v := .int (fX5_frameAt S18 (2 : Int32))) (ty := .int) (C := RX5) (T := TX5) (N := 20) hx hb hts inX5 tyX5 tyX5_ok nmX5 hown hR.K hR.P hR.D hR.sS 44 (hR.at45 (hR.w.2.1 _ finC_29).2.1) rfl 14 (by decide) (hts _ kw_1031) (fun _ h9 => h9) rfl (by decide +kernel) rfl rfl (Nat.le_of_ble_eq_true rfl) dX5_closeFrame_45 (fun H locs hP hD hS => ?_)
  have hTk9 : qT S18 44 = 45 := (hR.w.2.1 _ finC_29).2.1
  have hR : RepC g ad A s (wI S18 44 14 (fX5_frameAt S18 (2 : Int32))) H locs := hR.pI45 (hR.w.2.1 _ finC_29).2.1 FX5_s14 (fun q9 => absurd q9 (by decide)) hP hD hS
  obtain ⟨S22, eS22⟩ : ∃ z, z = wI S18 44 14 (fX5_frameAt S18 (2 : Int32)) := ⟨_, rfl⟩
  rw [← eS22] at hR
  replace h := h S22 eS22 hTk9 hR.w
  have hsh : shy S S22 := by rw [eS22]; exact hsh
  exact W.vret hx hb hr (fun t9 ht9 hW9 => ⟨⟨S22, rfl, ⟨h, hR.w, hsh⟩, ⟨by rw [ht9]; exact hR.P, hR.D⟩⟩, hR.sS.F ht9⟩) hR.sS.2.2 dX5_closeFrame_48
def w_X5_handlerOf_J64 (Q : Int32 → MS → Prop) (k2 : MS → Int32 → Int32 → Prop) (U64 : MS) (v64_1 : Int32) (v64_2 : Int32) : Prop := (wfC U64 → (∀ a9 : Int32, a9 = (v64_2 + Int32.ofInt 1) → k2 U64 v64_1 a9))
def w_X5_handlerOf_J54 (Q : Int32 → MS → Prop) (U54 : MS) (v54_2 : Int32) : Prop := (wfC U54 → ((qR U54 44 12 = some (qO U54 44 12)) ∧ ((qR U54 (qO U54 44 12) 7 = some (qO U54 (qO U54 44 12) 7)) ∧ (((0 : Int) ≤ v54_2.toInt ∧ v54_2.toInt < (qN U54 (qO U54 (qO U54 44 12) 7) : Int)) ∧ Q (qI U54 (qO U54 (qO U54 44 12) 7) v54_2.toInt.toNat) U54))))
def w_X5_handlerOf_L2 (Q : Int32 → MS → Prop) : Nat → MS → Int32 → Int32 → Prop
  | 0, _, _, _ => False
  | n2 + 1, U2, v2_1, v2_2 => (wfC U2 → ((qR U2 44 12 = some (qO U2 44 12)) ∧ (((qI U2 (qO U2 44 12) 9).toInt ≤ v2_2.toInt → Q (-1 : Int32) U2) ∧ (¬ (qI U2 (qO U2 44 12) 9).toInt ≤ v2_2.toInt → ((qR U2 44 12 = some (qO U2 44 12)) ∧ (d_X8_catchHas U2 (qO U2 44 12) v2_2 (qI U2 44 13) ∧ (((fX8_catchHas U2 (qO U2 44 12) v2_2 (qI U2 44 13)).toInt = 0 → w_X5_handlerOf_J64 Q (w_X5_handlerOf_L2 Q n2) U2 v2_1 v2_2) ∧ (¬ (fX8_catchHas U2 (qO U2 44 12) v2_2 (qI U2 44 13)).toInt = 0 → ((qR U2 44 12 = some (qO U2 44 12)) ∧ ((qR U2 (qO U2 44 12) 8 = some (qO U2 (qO U2 44 12) 8)) ∧ (((0 : Int) ≤ v2_2.toInt ∧ v2_2.toInt < (qN U2 (qO U2 (qO U2 44 12) 8) : Int)) ∧ (((qI U2 (qO U2 (qO U2 44 12) 8) v2_2.toInt.toNat).toInt = v2_1.toInt → w_X5_handlerOf_J54 Q U2 v2_2) ∧ (¬ (qI U2 (qO U2 (qO U2 44 12) 8) v2_2.toInt.toNat).toInt = v2_1.toInt → ((qR U2 44 12 = some (qO U2 44 12)) ∧ ((qR U2 (qO U2 44 12) 8 = some (qO U2 (qO U2 44 12) 8)) ∧ (((0 : Int) ≤ v2_2.toInt ∧ v2_2.toInt < (qN U2 (qO U2 (qO U2 44 12) 8) : Int)) ∧ (((qI U2 (qO U2 (qO U2 44 12) 8) v2_2.toInt.toNat).toInt = (-1) → w_X5_handlerOf_J54 Q U2 v2_2) ∧ (¬ (qI U2 (qO U2 (qO U2 44 12) 8) v2_2.toInt.toNat).toInt = (-1) → w_X5_handlerOf_J64 Q (w_X5_handlerOf_L2 Q n2) U2 v2_1 v2_2))))))))))))))))))
def wX5_handlerOf (S : MS) (x1 : Int32) (Q : Int32 → MS → Prop) : Prop := (∃ n, w_X5_handlerOf_L2 Q n S x1 0)
set_option maxHeartbeats 2000000 in
set_option maxRecDepth 100000 in
theorem rX5_handlerOf (l : Launch) (g : Gr) (ad : Nat → Nat) (sz : Nat) (S : MS) (x1 : Int32) (hw : wfC S) (Q : Int32 → MS → Prop) (h : wX5_handlerOf S x1 Q) : Met l yX5_handlerOf (wt yX5_handlerOf cX5_handlerOf 3 (some .int)) ({ frames := 1, cells := 0, slots := 0, locals := 22 }) (va_Pc [.ref (ad 44), .int x1] (st_C g ad sz S)) (va_Qi (fun (r : Int32) (u : MS) => Q r u ∧ wfC u ∧ shy S u) (fun (u : MS) (t : State) => qEC g ad (va_A (WdC g ad S) sz) u t) (va_A (WdC g ad S) sz)) 0 0 (va_A (WdC g ad S) sz) := by
  refine Met.ofW (cc := cX5_handlerOf) (maxL := 3) (ret := (some .int)) (by decide) rfl ?_
  intro p e s m args below meth c s₁ B hml hv
  obtain ⟨rfl, hsz, hP, hK, hD0, hex, hE⟩ := hv
  have hx := B.exec
  have hb := B.bytes
  have hr := B.returns
  have hts0 := atoms_spec (ws := wt yX5_handlerOf cX5_handlerOf 3 (some .int)) B.pre
  have hts : ∀ w ∈ tb, w.before _ s = true := fun w h => hts0 w (List.mem_cons_of_mem _ h)
  have hown : s.vm.findClass RX5 = some m.cls := findClass_of_methodNamed B.named
  subst hsz
  have hD := hD0.self (sz := s.heap.size)
  generalize hAe : va_A (WdC g ad S) s.heap.size = A at hD hE ⊢
  have hA : ∀ q : Nat, s.heap.size ≤ q → A q := fun q h => by rw [← hAe]; exact Or.inr h
  have hR : RepC g ad A s S s.heap [] := ⟨hK, hP, hD, va_S.rf, hw⟩
  clear hK hP hD hD0
  have hl := lv_entry ([.ref (ad 44), .int x1]) (n := 3) (Nat.le_of_ble_eq_true rfl)
  rw [lg_entry_eq]
  generalize (lg_sl ([.ref (ad 44), .int x1]) ++ List.replicate (3 - (lg_sl ([.ref (ad 44), .int x1])).length) Slot.unset).toArray = ls at hl ⊢
  have hl : lv_has ls 3 [(0, .ref (ad 44)), (1, .int x1)] := hl
  have hsh : shy S S := shy.rf
  unfold wX5_handlerOf at h
  refine lv_iconst (v := 0) hx hb dX5_handlerOf_0 (by decide) ?_
  refine lv_istore_n (lv' := [(2, .int 0), (0, .ref (ad 44)), (1, .int x1)]) hx hb dX5_handlerOf_1 rfl hl (by decide) rfl (fun ls hl => ?_)
  have J_2 : ∀ (n2 : Nat) (U2 : MS) (v2_1 : Int32) (v2_2 : Int32) (H : Heap) (locs : List Loc) (ls : Array Slot), w_X5_handlerOf_L2 Q n2 U2 v2_1 v2_2 → shy S U2 → RepC g ad A s U2 H locs → lv_has ls 3 [(0, .ref (ad 44)), (1, .int v2_1), (2, .int v2_2)] → W p l e (headSpec (wt yX5_handlerOf cX5_handlerOf 3 (some .int)) ({ frames := 1, cells := 0, slots := 0, locals := 22 })).room s m ([.ref (ad 44), .int x1] : List Value).toArray below meth c H locs 0 0 (MQ below (va_Qi (fun (r : Int32) (u : MS) => Q r u ∧ wfC u ∧ shy S u) (fun (u : MS) (t : State) => qEC g ad A u t) A) ([.ref (ad 44), .int x1] : List Value).toArray s 0 0 A) (F0 m 2 ls []) := by
    intro n2
    induction n2 with
    | zero => intro U2 v2_1 v2_2 H locs ls h hsh hR hl; unfold w_X5_handlerOf_L2 at h; exact h.elim
    | succ n2 ih_2 =>
      intro U2 v2_1 v2_2 H locs ls h hsh hR hl
      unfold w_X5_handlerOf_L2 at h
      replace h := h hR.w
      refine lv_iload_n hx hb dX5_handlerOf_2 rfl (lv_at hl 2 rfl) ?_
      refine lv_aload_n hx hb dX5_handlerOf_3 rfl (lv_at hl 0 rfl) ?_
      obtain ⟨hv2, h⟩ := h
      have hT_b1 : qT U2 (qO U2 44 12) = 47 := hR.w.ref hv2 (hR.w.2.1 _ finC_29).2.1
      refine va_get (D := rD g) (ci := 5) (v := .ref (ad (qO U2 44 12))) (C := RX5) (T := TX5) (N := 20) hx hb hts inX5 hown hR.K hR.P 44 (hR.at45 (hR.w.2.1 _ finC_29).2.1) rfl 12 (by decide) (hts _ kw_1030) (fun _ h9 => h9) (congrArg (fun z => some (vf ad z)) hv2) dX5_handlerOf_4 ?_
      refine va_get (D := rD g) (ci := 7) (v := .int (qI U2 (qO U2 44 12) 9)) (C := RX8) (T := TX8) (N := 15) hx hb hts inX8 hown hR.K hR.P (qO U2 44 12) (hR.at47 hT_b1) rfl 9 (by decide) (hts _ kw_1062) (fun _ h9 => h9) rfl dX5_handlerOf_7 ?_
      refine lv_icmp_ge (tgt := 70) hx hb dX5_handlerOf_10 (by decide) (fun c3 => ?_) (fun c3 => ?_)
      · replace h := h.1 (k_le rfl rfl c3)
        refine lv_iconst (v := (-1)) hx hb dX5_handlerOf_70 (by decide) ?_
        exact W.iret (v := (-1)) hx hb hr (fun t9 ht9 hW9 => ⟨⟨_, U2, rfl, ⟨h, hR.w, hsh⟩, ⟨by rw [ht9]; exact hR.P, hR.D⟩⟩, hR.sS.F ht9⟩) hR.sS.2.2 dX5_handlerOf_71
      · replace h := h.2 (k_nle rfl rfl c3)
        refine lv_aload_n hx hb dX5_handlerOf_13 rfl (lv_at hl 0 rfl) ?_
        obtain ⟨hv5, h⟩ := h
        have hT_b4 : qT U2 (qO U2 44 12) = 47 := hR.w.ref hv5 (hR.w.2.1 _ finC_29).2.1
        refine va_get (D := rD g) (ci := 5) (v := .ref (ad (qO U2 44 12))) (C := RX5) (T := TX5) (N := 20) hx hb hts inX5 hown hR.K hR.P 44 (hR.at45 (hR.w.2.1 _ finC_29).2.1) rfl 12 (by decide) (hts _ kw_1030) (fun _ h9 => h9) (congrArg (fun z => some (vf ad z)) hv5) dX5_handlerOf_14 ?_
        refine lv_iload_n hx hb dX5_handlerOf_17 rfl (lv_at hl 2 rfl) ?_
        refine lv_aload_n hx hb dX5_handlerOf_18 rfl (lv_at hl 0 rfl) ?_
        refine va_get (D := rD g) (ci := 5) (v := .int (qI U2 44 13)) (C := RX5) (T := TX5) (N := 20) hx hb hts inX5 hown hR.K hR.P 44 (hR.at45 (hR.w.2.1 _ finC_29).2.1) rfl 13 (by decide) (hts _ kw_1021) (fun _ h9 => h9) rfl dX5_handlerOf_19 ?_
        obtain ⟨hv6, h⟩ := h
        have hFc := cfree hR hA
        refine va_calli (va_runV (As := [.int v2_2, .int (qI U2 44 13)]) (rest := []) ⟨hx, hb, hml, hown, hts⟩ (rX8_catchHas l g ad H.size U2 (qO U2 44 12) v2_2 (qI U2 44 13) hR.w hT_b4 hv6) (cwV 2 hts (gd_V kw_1063 kw_1483 kw_1484 kw_782 kw_1482) rfl rfl rfl (by decide +kernel) ⟨Nat.le_of_ble_eq_true rfl, Nat.le_of_ble_eq_true rfl⟩) ⟨cblind, va_recv hR.K hR.P (ci := 7) (q0 := (qO U2 44 12)) rfl (hR.at47 hT_b4), fun U hU hW9 => cmk hU hW9 hR hex hE hFc⟩ rfl rfl hl.1 rfl (lv_room (Nat.le_of_ble_eq_true rfl)) dX5_handlerOf_22 ⟨Nat.le_of_ble_eq_true rfl, Nat.le_of_ble_eq_true rfl⟩) hR.sS (fun q _ h => hFc q h) hFc (fun r7 u9 t9 H1 locs ht9 hvm9 hw9 hB9 hz9 hk9 hS => ?_)
        have hR : RepC g ad A s U2 H1 locs := hR.call ht9 hB9 hR.w hS hFc
        obtain ⟨rfl, hz_r7⟩ := hw9
        clear hB9 hz9 hk9 hvm9 ht9 hS
        generalize H1 = H at hR ⊢
        have J_64 : ∀ (U64 : MS) (v64_1 : Int32) (v64_2 : Int32) (H : Heap) (locs : List Loc) (ls : Array Slot), w_X5_handlerOf_J64 Q (w_X5_handlerOf_L2 Q n2) U64 v64_1 v64_2 → shy S U64 → RepC g ad A s U64 H locs → lv_has ls 3 [(0, .ref (ad 44)), (1, .int v64_1), (2, .int v64_2)] → W p l e (headSpec (wt yX5_handlerOf cX5_handlerOf 3 (some .int)) ({ frames := 1, cells := 0, slots := 0, locals := 22 })).room s m ([.ref (ad 44), .int x1] : List Value).toArray below meth c H locs 0 0 (MQ below (va_Qi (fun (r : Int32) (u : MS) => Q r u ∧ wfC u ∧ shy S u) (fun (u : MS) (t : State) => qEC g ad A u t) A) ([.ref (ad 44), .int x1] : List Value).toArray s 0 0 A) (F0 m 64 ls []) := by
          intro U64 v64_1 v64_2 H locs ls h hsh hR hl
          unfold w_X5_handlerOf_J64 at h
          replace h := h hR.w
          obtain ⟨a9, ea9⟩ : ∃ z, z = (v64_2 + Int32.ofInt 1) := ⟨_, rfl⟩
          replace h := h a9 ea9
          refine lv_iinc (v := a9) (lv' := [(2, .int a9), (0, .ref (ad 44)), (1, .int v64_1)]) hx hb dX5_handlerOf_64 hl (k := 2) rfl ea9.symm (by decide) rfl (fun ls hl => ?_)
          refine lv_goto (tgt := 2) hx hb dX5_handlerOf_67 (by decide) ?_
          exact ih_2 U64 v64_1 a9 _ _ ls h  hsh hR (lv_sub hl [1, 2, 0] rfl)
        refine lv_if_eq (tgt := 64) hx hb dX5_handlerOf_25 (by decide) (fun c10 => ?_) (fun c10 => ?_)
        · replace h := h.1 (k_eq rfl (by decide) c10)
          exact J_64 U2 v2_1 v2_2 _ _ ls h  hsh hR (lv_sub hl [0, 1, 2] rfl)
        · replace h := h.2 (k_ne rfl (by decide) c10)
          refine lv_aload_n hx hb dX5_handlerOf_28 rfl (lv_at hl 0 rfl) ?_
          obtain ⟨hv12, h⟩ := h
          have hT_b11 : qT U2 (qO U2 44 12) = 47 := hR.w.ref hv12 (hR.w.2.1 _ finC_29).2.1
          refine va_get (D := rD g) (ci := 5) (v := .ref (ad (qO U2 44 12))) (C := RX5) (T := TX5) (N := 20) hx hb hts inX5 hown hR.K hR.P 44 (hR.at45 (hR.w.2.1 _ finC_29).2.1) rfl 12 (by decide) (hts _ kw_1030) (fun _ h9 => h9) (congrArg (fun z => some (vf ad z)) hv12) dX5_handlerOf_29 ?_
          obtain ⟨hv14, h⟩ := h
          have hT_b13 : qT U2 (qO U2 (qO U2 44 12) 8) = 227 := hR.w.ref hv14 hT_b11
          refine va_get (D := rD g) (ci := 7) (v := .ref (ad (qO U2 (qO U2 44 12) 8))) (C := RX8) (T := TX8) (N := 15) hx hb hts inX8 hown hR.K hR.P (qO U2 44 12) (hR.at47 hT_b11) rfl 8 (by decide) (hts _ kw_1064) (fun _ h9 => h9) (congrArg (fun z => some (vf ad z)) hv14) dX5_handlerOf_32 ?_
          refine lv_iload_n hx hb dX5_handlerOf_35 rfl (lv_at hl 2 rfl) ?_
          obtain ⟨hv15, h⟩ := h
          refine va_iald hx hb hR.K hR.P (qO U2 (qO U2 44 12) 8) 1 (hR.atI hT_b13 (by decide)) rfl (k_ix (x := v2_2) (a := v2_2.toInt) rfl hv15) dX5_handlerOf_36 ?_
          refine lv_topi (fun z16 ez16 => ?_)
          obtain rfl : z16 = (qI U2 (qO U2 (qO U2 44 12) 8) v2_2.toInt.toNat) := ez16
          refine lv_iload_n hx hb dX5_handlerOf_37 rfl (lv_at hl 1 rfl) ?_
          have J_54 : ∀ (U54 : MS) (v54_2 : Int32) (H : Heap) (locs : List Loc) (ls : Array Slot), w_X5_handlerOf_J54 Q U54 v54_2 → shy S U54 → RepC g ad A s U54 H locs → lv_has ls 3 [(0, .ref (ad 44)), (2, .int v54_2)] → W p l e (headSpec (wt yX5_handlerOf cX5_handlerOf 3 (some .int)) ({ frames := 1, cells := 0, slots := 0, locals := 22 })).room s m ([.ref (ad 44), .int x1] : List Value).toArray below meth c H locs 0 0 (MQ below (va_Qi (fun (r : Int32) (u : MS) => Q r u ∧ wfC u ∧ shy S u) (fun (u : MS) (t : State) => qEC g ad A u t) A) ([.ref (ad 44), .int x1] : List Value).toArray s 0 0 A) (F0 m 54 ls []) := by
            intro U54 v54_2 H locs ls h hsh hR hl
            unfold w_X5_handlerOf_J54 at h
            replace h := h hR.w
            refine lv_aload_n hx hb dX5_handlerOf_54 rfl (lv_at hl 0 rfl) ?_
            obtain ⟨hv18, h⟩ := h
            have hT_b17 : qT U54 (qO U54 44 12) = 47 := hR.w.ref hv18 (hR.w.2.1 _ finC_29).2.1
            refine va_get (D := rD g) (ci := 5) (v := .ref (ad (qO U54 44 12))) (C := RX5) (T := TX5) (N := 20) hx hb hts inX5 hown hR.K hR.P 44 (hR.at45 (hR.w.2.1 _ finC_29).2.1) rfl 12 (by decide) (hts _ kw_1030) (fun _ h9 => h9) (congrArg (fun z => some (vf ad z)) hv18) dX5_handlerOf_55 ?_
            obtain ⟨hv20, h⟩ := h
            have hT_b19 : qT U54 (qO U54 (qO U54 44 12) 7) = 226 := hR.w.ref hv20 hT_b17
            refine va_get (D := rD g) (ci := 7) (v := .ref (ad (qO U54 (qO U54 44 12) 7))) (C := RX8) (T := TX8) (N := 15) hx hb hts inX8 hown hR.K hR.P (qO U54 44 12) (hR.at47 hT_b17) rfl 7 (by decide) (hts _ kw_1065) (fun _ h9 => h9) (congrArg (fun z => some (vf ad z)) hv20) dX5_handlerOf_58 ?_
            refine lv_iload_n hx hb dX5_handlerOf_61 rfl (lv_at hl 1 rfl) ?_
            obtain ⟨hv21, h⟩ := h
            refine va_iald hx hb hR.K hR.P (qO U54 (qO U54 44 12) 7) 1 (hR.atI hT_b19 (by decide)) rfl (k_ix (x := v54_2) (a := v54_2.toInt) rfl hv21) dX5_handlerOf_62 ?_
            refine lv_topi (fun z22 ez22 => ?_)
            obtain rfl : z22 = (qI U54 (qO U54 (qO U54 44 12) 7) v54_2.toInt.toNat) := ez22
            exact W.iret (v := (qI U54 (qO U54 (qO U54 44 12) 7) v54_2.toInt.toNat)) hx hb hr (fun t9 ht9 hW9 => ⟨⟨_, U54, rfl, ⟨h, hR.w, hsh⟩, ⟨by rw [ht9]; exact hR.P, hR.D⟩⟩, hR.sS.F ht9⟩) hR.sS.2.2 dX5_handlerOf_63
          refine lv_icmp_eq (tgt := 54) hx hb dX5_handlerOf_38 (by decide) (fun c23 => ?_) (fun c23 => ?_)
          · replace h := h.1 (k_eq rfl rfl c23)
            exact J_54 U2 v2_2 _ _ ls h  hsh hR (lv_sub hl [0, 2] rfl)
          · replace h := h.2 (k_ne rfl rfl c23)
            refine lv_aload_n hx hb dX5_handlerOf_41 rfl (lv_at hl 0 rfl) ?_
            obtain ⟨hv25, h⟩ := h
            have hT_b24 : qT U2 (qO U2 44 12) = 47 := hR.w.ref hv25 (hR.w.2.1 _ finC_29).2.1
            refine va_get (D := rD g) (ci := 5) (v := .ref (ad (qO U2 44 12))) (C := RX5) (T := TX5) (N := 20) hx hb hts inX5 hown hR.K hR.P 44 (hR.at45 (hR.w.2.1 _ finC_29).2.1) rfl 12 (by decide) (hts _ kw_1030) (fun _ h9 => h9) (congrArg (fun z => some (vf ad z)) hv25) dX5_handlerOf_42 ?_
            obtain ⟨hv27, h⟩ := h
            have hT_b26 : qT U2 (qO U2 (qO U2 44 12) 8) = 227 := hR.w.ref hv27 hT_b24
            refine va_get (D := rD g) (ci := 7) (v := .ref (ad (qO U2 (qO U2 44 12) 8))) (C := RX8) (T := TX8) (N := 15) hx hb hts inX8 hown hR.K hR.P (qO U2 44 12) (hR.at47 hT_b24) rfl 8 (by decide) (hts _ kw_1064) (fun _ h9 => h9) (congrArg (fun z => some (vf ad z)) hv27) dX5_handlerOf_45 ?_
            refine lv_iload_n hx hb dX5_handlerOf_48 rfl (lv_at hl 2 rfl) ?_
            obtain ⟨hv28, h⟩ := h
            refine va_iald hx hb hR.K hR.P (qO U2 (qO U2 44 12) 8) 1 (hR.atI hT_b26 (by decide)) rfl (k_ix (x := v2_2) (a := v2_2.toInt) rfl hv28) dX5_handlerOf_49 ?_
            refine lv_topi (fun z29 ez29 => ?_)
            obtain rfl : z29 = (qI U2 (qO U2 (qO U2 44 12) 8) v2_2.toInt.toNat) := ez29
            refine lv_iconst (v := (-1)) hx hb dX5_handlerOf_50 (by decide) ?_
            refine lv_icmp_ne (tgt := 64) hx hb dX5_handlerOf_51 (by decide) (fun c30 => ?_) (fun c30 => ?_)
            · replace h := h.2 (k_ne rfl (by decide) c30)
              exact J_64 U2 v2_1 v2_2 _ _ ls h  hsh hR (lv_sub hl [0, 1, 2] rfl)
            · replace h := h.1 (k_eq rfl (by decide) c30)
              exact J_54 U2 v2_2 _ _ ls h  hsh hR (lv_sub hl [0, 2] rfl)
  obtain ⟨n9, h⟩ := h
  exact J_2 n9 S x1 0 _ _ ls h  hsh hR (lv_sub hl [1, 2, 0] rfl)
def fX6_binary (S : MS) (x0 : Int32) (y1 : Int64) (y3 : Int64) : Int64 := (if x0.toInt = 148 then ((fJ13_compare_74951 S y1 y3).toInt64) else (if (fX6_takes S x0).toInt = 17 then ((fX6_ofInts S x0 (y1.toInt32) (y3.toInt32)).toInt64) else (if (fX6_takes S x0).toInt = 33 then (fX6_ofLongs S x0 y1 (y3 &&& (63 : Int64))) else (fX6_ofLongs S x0 y1 y3))))
def d_X6_binary (S : MS) (x0 : Int32) (y1 : Int64) (y3 : Int64) : Prop := (if x0.toInt = 148 then (d_J13_compare_74951 S y1 y3 ∧ True) else (d_X6_takes S x0 ∧ (if (fX6_takes S x0).toInt = 17 then (d_X6_ofInts S x0 (y1.toInt32) (y3.toInt32) ∧ True) else (if (fX6_takes S x0).toInt = 33 then (d_X6_ofLongs S x0 y1 (y3 &&& (63 : Int64)) ∧ True) else (d_X6_ofLongs S x0 y1 y3 ∧ True)))))
set_option maxHeartbeats 2000000 in
set_option maxRecDepth 100000 in
theorem rX6_binary (l : Launch) (g : Gr) (ad : Nat → Nat) (sz : Nat) (S : MS) (x0 : Int32) (y1 : Int64) (y3 : Int64) (hw : wfC S) (hd : d_X6_binary S x0 y1 y3) : Met l yX6_binary (wt yX6_binary cX6_binary 5 (some .long)) ({ frames := 1, cells := 0, slots := 0, locals := 24 }) (va_Pc [.int x0, .long y1, .long y3] (st_C g ad sz S)) (va_Ql (fun (r : Int64) (_ : Unit) => r = fX6_binary S x0 y1 y3) (fun (_ : Unit) (t : State) => qEC g ad (va_A (WdC g ad S) sz) S t) (va_A (WdC g ad S) sz)) 0 0 (va_A (WdC g ad S) sz) := by
  refine Met.ofW (cc := cX6_binary) (maxL := 5) (ret := (some .long)) (by decide) rfl ?_
  intro p e s m args below meth c s₁ B hml hv
  obtain ⟨rfl, hsz, hP, hK, hD0, hex, hE⟩ := hv
  have hx := B.exec
  have hb := B.bytes
  have hr := B.returns
  have hts0 := atoms_spec (ws := wt yX6_binary cX6_binary 5 (some .long)) B.pre
  have hts : ∀ w ∈ tb, w.before _ s = true := fun w h => hts0 w (List.mem_cons_of_mem _ h)
  have hown : s.vm.findClass RX6 = some m.cls := findClass_of_methodNamed B.named
  subst hsz
  have hD := hD0.self (sz := s.heap.size)
  generalize hAe : va_A (WdC g ad S) s.heap.size = A at hD hE ⊢
  have hA : ∀ q : Nat, s.heap.size ≤ q → A q := fun q h => by rw [← hAe]; exact Or.inr h
  have hR : RepC g ad A s S s.heap [] := ⟨hK, hP, hD, va_S.rf, hw⟩
  clear hK hP hD hD0
  have hl := lv_entry ([.int x0, .long y1, .long y3]) (n := 5) (Nat.le_of_ble_eq_true rfl)
  rw [lg_entry_eq]
  generalize (lg_sl ([.int x0, .long y1, .long y3]) ++ List.replicate (5 - (lg_sl ([.int x0, .long y1, .long y3])).length) Slot.unset).toArray = ls at hl ⊢
  have hl : lv_has ls 5 [(0, .int x0), (1, .long y1), (3, .long y3)] := hl
  obtain ⟨r0, hf⟩ : ∃ r0, fX6_binary S x0 y1 y3 = r0 := ⟨_, rfl⟩
  have hf0 := hf
  unfold fX6_binary at hf
  unfold d_X6_binary at hd
  refine lv_iload_n hx hb dX6_binary_0 rfl (lv_at hl 0 rfl) ?_
  refine lv_sipush (v := 148) hx hb dX6_binary_1 (by decide) ?_
  refine lv_icmp_ne (tgt := 14) hx hb dX6_binary_4 (by decide) (fun c1 => ?_) (fun c1 => ?_)
  · rw [if_neg (k_ne rfl (by decide) c1)] at hf
    (try rw [if_neg (k_ne rfl (by decide) c1)] at hd)
    refine lv_iload_n hx hb dX6_binary_14 rfl (lv_at hl 0 rfl) ?_
    obtain ⟨hv2, hd⟩ := hd
    have hFc := cfree hR hA
    refine va_calli (va_runS (As := [.int x0]) (rest := []) ⟨hx, hb, hml, hown, hts⟩ (rX6_takes l g ad s.heap.size S x0 hR.w  hv2) (va_cwS 1 hts (gd_S kw_1209 kw_1255 kw_1207 kw_1254) rfl rfl rfl (by decide +kernel) ⟨Nat.le_of_ble_eq_true rfl, Nat.le_of_ble_eq_true rfl⟩) ⟨cblind, fun U hU hW9 => cmk hU hW9 hR hex hE hFc⟩ rfl rfl hl.1 rfl (lv_room (Nat.le_of_ble_eq_true rfl)) dX6_binary_15 ⟨Nat.le_of_ble_eq_true rfl, Nat.le_of_ble_eq_true rfl⟩) hR.sS (fun q _ h => hFc q h) hFc (fun r3 u9 t9 H1 locs ht9 hvm9 hw9 hB9 hz9 hk9 hS => ?_)
    have hR : RepC g ad A s S H1 locs := hR.call ht9 hB9 hR.w hS hFc
    obtain rfl : r3 = (fX6_takes S x0) := hw9
    clear hB9 hz9 hk9 hvm9 ht9 hS
    generalize H1 = H at hR ⊢
    by_cases c9_17 : (fX6_takes S x0).toInt = 17
    · refine lv_lookup (off := 26) (tgt := 44) hx hb dX6_binary_18 (by decide) (by rw [c9_17]; decide) (by decide) ?_
      rw [if_pos (c9_17)] at hf
      (try rw [if_pos (c9_17)] at hd)
      refine lv_iload_n hx hb dX6_binary_44 rfl (lv_at hl 0 rfl) ?_
      refine lv_lload_n hx hb dX6_binary_45 rfl (lv_at hl 1 rfl) ?_
      refine lv_l2i (v := (y1.toInt32)) hx hb dX6_binary_46 rfl ?_
      refine lv_lload_n hx hb dX6_binary_47 rfl (lv_at hl 2 rfl) ?_
      refine lv_l2i (v := (y3.toInt32)) hx hb dX6_binary_48 rfl ?_
      obtain ⟨hv5, hd⟩ := hd
      have hFc := cfree hR hA
      refine va_calli (va_runS (As := [.int x0, .int (y1.toInt32), .int (y3.toInt32)]) (rest := []) ⟨hx, hb, hml, hown, hts⟩ (rX6_ofInts l g ad H.size S x0 (y1.toInt32) (y3.toInt32) hR.w  hv5) (va_cwS 3 hts (gd_S kw_1210 kw_1249 kw_1207 kw_1248) rfl rfl rfl (by decide +kernel) ⟨Nat.le_of_ble_eq_true rfl, Nat.le_of_ble_eq_true rfl⟩) ⟨cblind, fun U hU hW9 => cmk hU hW9 hR hex hE hFc⟩ rfl rfl hl.1 rfl (lv_room (Nat.le_of_ble_eq_true rfl)) dX6_binary_49 ⟨Nat.le_of_ble_eq_true rfl, Nat.le_of_ble_eq_true rfl⟩) hR.sS (fun q _ h => hFc q h) hFc (fun r6 u9 t9 H1 locs ht9 hvm9 hw9 hB9 hz9 hk9 hS => ?_)
      have hR : RepC g ad A s S H1 locs := hR.call ht9 hB9 hR.w hS hFc
      obtain rfl : r6 = (fX6_ofInts S x0 (y1.toInt32) (y3.toInt32)) := hw9
      clear hB9 hz9 hk9 hvm9 ht9 hS
      generalize H1 = H at hR ⊢
      refine lv_i2l (v := ((fX6_ofInts S x0 (y1.toInt32) (y3.toInt32)).toInt64)) hx hb dX6_binary_52 rfl ?_
      exact W.lret (v := ((fX6_ofInts S x0 (y1.toInt32) (y3.toInt32)).toInt64)) hx hb hr (fun t9 ht9 hW9 => ⟨⟨_, (), rfl, hf.trans hf0.symm, ⟨by rw [ht9]; exact hR.P, hR.D⟩⟩, hR.sS.F ht9⟩) hR.sS.2.2 dX6_binary_53
    rw [if_neg c9_17] at hf
    (try rw [if_neg c9_17] at hd)
    by_cases c9_33 : (fX6_takes S x0).toInt = 33
    · refine lv_lookup (off := 36) (tgt := 54) hx hb dX6_binary_18 (by decide) (by rw [c9_33]; decide) (by decide) ?_
      rw [if_pos (c9_33)] at hf
      (try rw [if_pos (c9_33)] at hd)
      refine lv_iload_n hx hb dX6_binary_54 rfl (lv_at hl 0 rfl) ?_
      refine lv_lload_n hx hb dX6_binary_55 rfl (lv_at hl 1 rfl) ?_
      refine lv_lload_n hx hb dX6_binary_56 rfl (lv_at hl 2 rfl) ?_
      refine lv_ldc2 hx hb hown (hts _ kw_1211) dX6_binary_57 ?_
      refine lv_land hx hb dX6_binary_60 ?_
      refine lv_topl (fun z8 ez8 => ?_)
      obtain rfl : z8 = (y3 &&& (63 : Int64)) := ez8
      obtain ⟨hv9, hd⟩ := hd
      have hFc := cfree hR hA
      refine va_calll (va_runS (As := [.int x0, .long y1, .long (y3 &&& (63 : Int64))]) (rest := []) ⟨hx, hb, hml, hown, hts⟩ (rX6_ofLongs l g ad H.size S x0 y1 (y3 &&& (63 : Int64)) hR.w  hv9) (va_cwS 3 hts (gd_S kw_1212 kw_1251 kw_1207 kw_1250) rfl rfl rfl (by decide +kernel) ⟨Nat.le_of_ble_eq_true rfl, Nat.le_of_ble_eq_true rfl⟩) ⟨cblind, fun U hU hW9 => cmk hU hW9 hR hex hE hFc⟩ rfl rfl hl.1 rfl (lv_room (Nat.le_of_ble_eq_true rfl)) dX6_binary_61 ⟨Nat.le_of_ble_eq_true rfl, Nat.le_of_ble_eq_true rfl⟩) hR.sS (fun q _ h => hFc q h) hFc (fun r10 u9 t9 H1 locs ht9 hvm9 hw9 hB9 hz9 hk9 hS => ?_)
      have hR : RepC g ad A s S H1 locs := hR.call ht9 hB9 hR.w hS hFc
      obtain rfl : r10 = (fX6_ofLongs S x0 y1 (y3 &&& (63 : Int64))) := hw9
      clear hB9 hz9 hk9 hvm9 ht9 hS
      generalize H1 = H at hR ⊢
      exact W.lret (v := (fX6_ofLongs S x0 y1 (y3 &&& (63 : Int64)))) hx hb hr (fun t9 ht9 hW9 => ⟨⟨_, (), rfl, hf.trans hf0.symm, ⟨by rw [ht9]; exact hR.P, hR.D⟩⟩, hR.sS.F ht9⟩) hR.sS.2.2 dX6_binary_64
    rw [if_neg c9_33] at hf
    (try rw [if_neg c9_33] at hd)
    refine lv_lookup (off := 47) (tgt := 65) hx hb dX6_binary_18 (by decide) (lx_cons c9_17 (lx_cons c9_33 lx_nil)) (by decide) ?_
    refine lv_iload_n hx hb dX6_binary_65 rfl (lv_at hl 0 rfl) ?_
    refine lv_lload_n hx hb dX6_binary_66 rfl (lv_at hl 1 rfl) ?_
    refine lv_lload_n hx hb dX6_binary_67 rfl (lv_at hl 2 rfl) ?_
    obtain ⟨hv12, hd⟩ := hd
    have hFc := cfree hR hA
    refine va_calll (va_runS (As := [.int x0, .long y1, .long y3]) (rest := []) ⟨hx, hb, hml, hown, hts⟩ (rX6_ofLongs l g ad H.size S x0 y1 y3 hR.w  hv12) (va_cwS 3 hts (gd_S kw_1212 kw_1251 kw_1207 kw_1250) rfl rfl rfl (by decide +kernel) ⟨Nat.le_of_ble_eq_true rfl, Nat.le_of_ble_eq_true rfl⟩) ⟨cblind, fun U hU hW9 => cmk hU hW9 hR hex hE hFc⟩ rfl rfl hl.1 rfl (lv_room (Nat.le_of_ble_eq_true rfl)) dX6_binary_68 ⟨Nat.le_of_ble_eq_true rfl, Nat.le_of_ble_eq_true rfl⟩) hR.sS (fun q _ h => hFc q h) hFc (fun r13 u9 t9 H1 locs ht9 hvm9 hw9 hB9 hz9 hk9 hS => ?_)
    have hR : RepC g ad A s S H1 locs := hR.call ht9 hB9 hR.w hS hFc
    obtain rfl : r13 = (fX6_ofLongs S x0 y1 y3) := hw9
    clear hB9 hz9 hk9 hvm9 ht9 hS
    generalize H1 = H at hR ⊢
    exact W.lret (v := (fX6_ofLongs S x0 y1 y3)) hx hb hr (fun t9 ht9 hW9 => ⟨⟨_, (), rfl, hf.trans hf0.symm, ⟨by rw [ht9]; exact hR.P, hR.D⟩⟩, hR.sS.F ht9⟩) hR.sS.2.2 dX6_binary_71
  · rw [if_pos (k_eq rfl (by decide) c1)] at hf
    (try rw [if_pos (k_eq rfl (by decide) c1)] at hd)
    refine lv_lload_n hx hb dX6_binary_7 rfl (lv_at hl 1 rfl) ?_
    refine lv_lload_n hx hb dX6_binary_8 rfl (lv_at hl 2 rfl) ?_
    obtain ⟨hv15, hd⟩ := hd
    have hFc := cfree hR hA
    refine va_calli (va_runS (As := [.long y1, .long y3]) (rest := []) ⟨hx, hb, hml, hown, hts⟩ (rJ13_compare_74951 l g ad s.heap.size S y1 y3 hR.w  hv15) (va_cwS 2 hts (gd_S kw_1208 kw_1719 kw_1720 kw_1718) rfl rfl rfl (by decide +kernel) ⟨Nat.le_of_ble_eq_true rfl, Nat.le_of_ble_eq_true rfl⟩) ⟨cblind, fun U hU hW9 => cmk hU hW9 hR hex hE hFc⟩ rfl rfl hl.1 rfl (lv_room (Nat.le_of_ble_eq_true rfl)) dX6_binary_9 ⟨Nat.le_of_ble_eq_true rfl, Nat.le_of_ble_eq_true rfl⟩) hR.sS (fun q _ h => hFc q h) hFc (fun r16 u9 t9 H1 locs ht9 hvm9 hw9 hB9 hz9 hk9 hS => ?_)
    have hR : RepC g ad A s S H1 locs := hR.call ht9 hB9 hR.w hS hFc
    obtain rfl : r16 = (fJ13_compare_74951 S y1 y3) := hw9
    clear hB9 hz9 hk9 hvm9 ht9 hS
    generalize H1 = H at hR ⊢
    refine lv_i2l (v := ((fJ13_compare_74951 S y1 y3).toInt64)) hx hb dX6_binary_12 rfl ?_
    exact W.lret (v := ((fJ13_compare_74951 S y1 y3).toInt64)) hx hb hr (fun t9 ht9 hW9 => ⟨⟨_, (), rfl, hf.trans hf0.symm, ⟨by rw [ht9]; exact hR.P, hR.D⟩⟩, hR.sS.F ht9⟩) hR.sS.2.2 dX6_binary_13
def wX7_entryFits (S : MS) (Q : Int32 → MS → Prop) : Prop := (∃ Q1, wX7_isThere S (1 : Int32) Q1 ∧ ∀ r2 S3, Q1 r2 S3 → wfC S3 → shy S S3 → ((r2.toInt = 0 → Q (0 : Int32) S3) ∧ (¬ r2.toInt = 0 → (d_X7_u1 S3 (qI S3 9 15) ∧ (∀ a9 : Int32, a9 = (fX7_u1 S3 (qI S3 9 15)) → ((a9.toInt = 1 → (∃ Q28, wX7_nameFits S3 Q28 ∧ ∀ r29 S30, Q28 r29 S30 → wfC S30 → shy S3 S30 → Q r29 S30)) ∧ (¬ a9.toInt = 1 → (d_X7_entryLength S3 a9 ∧ (∀ a14 : Int32, a14 = (fX7_entryLength S3 a9) → ((a14.toInt = 0 → (∃ Q24, wX7_breaks S3 (3 : Int32) (qI S3 9 15) Q24 ∧ ∀ r25 S26, Q24 r25 S26 → wfC S26 → shy S3 S26 → Q r25 S26)) ∧ (¬ a14.toInt = 0 → (d_X7_entryLength S3 a9 ∧ (∀ a19 : Int32, a19 = (fX7_entryLength S3 a9) → (∃ Q20, wX7_isThere S3 a19 Q20 ∧ ∀ r21 S22, Q20 r21 S22 → wfC S22 → shy S3 S22 → Q r21 S22))))))))))))))
set_option maxHeartbeats 2000000 in
set_option maxRecDepth 100000 in
theorem rX7_entryFits (l : Launch) (g : Gr) (ad : Nat → Nat) (sz : Nat) (S : MS) (hw : wfC S) (Q : Int32 → MS → Prop) (h : wX7_entryFits S Q) : Met l yX7_entryFits (wt yX7_entryFits cX7_entryFits 2 (some .boolean)) ({ frames := 3, cells := 0, slots := 0, locals := 65 }) (va_Pc [.ref (ad 9)] (st_C g ad sz S)) (va_Qi (fun (r : Int32) (u : MS) => Q r u ∧ wfC u ∧ shy S u ∧ (r = 0 ∨ r = 1)) (fun (u : MS) (t : State) => qEC g ad (va_A (WdC g ad S) sz) u t) (va_A (WdC g ad S) sz)) 0 0 (va_A (WdC g ad S) sz) := by
  refine Met.ofW (cc := cX7_entryFits) (maxL := 2) (ret := (some .boolean)) (by decide) rfl ?_
  intro p e s m args below meth c s₁ B hml hv
  obtain ⟨rfl, hsz, hP, hK, hD0, hex, hE⟩ := hv
  have hx := B.exec
  have hb := B.bytes
  have hr := B.returns
  have hts0 := atoms_spec (ws := wt yX7_entryFits cX7_entryFits 2 (some .boolean)) B.pre
  have hts : ∀ w ∈ tb, w.before _ s = true := fun w h => hts0 w (List.mem_cons_of_mem _ h)
  have hown : s.vm.findClass RX7 = some m.cls := findClass_of_methodNamed B.named
  subst hsz
  have hD := hD0.self (sz := s.heap.size)
  generalize hAe : va_A (WdC g ad S) s.heap.size = A at hD hE ⊢
  have hA : ∀ q : Nat, s.heap.size ≤ q → A q := fun q h => by rw [← hAe]; exact Or.inr h
  have hR : RepC g ad A s S s.heap [] := ⟨hK, hP, hD, va_S.rf, hw⟩
  clear hK hP hD hD0
  have hl := lv_entry ([.ref (ad 9)]) (n := 2) (Nat.le_of_ble_eq_true rfl)
  rw [lg_entry_eq]
  generalize (lg_sl ([.ref (ad 9)]) ++ List.replicate (2 - (lg_sl ([.ref (ad 9)])).length) Slot.unset).toArray = ls at hl ⊢
  have hl : lv_has ls 2 [(0, .ref (ad 9))] := hl
  have hsh : shy S S := shy.rf
  unfold wX7_entryFits at h
  refine lv_aload_n hx hb dX7_entryFits_0 rfl (lv_at hl 0 rfl) ?_
  refine lv_iconst (v := 1) hx hb dX7_entryFits_1 (by decide) ?_
  obtain ⟨Q1, h0, h⟩ := h
  have hFc := cfree hR hA
  refine va_calli (va_runV (As := [.int 1]) (rest := []) ⟨hx, hb, hml, hown, hts⟩ (rX7_isThere l g ad s.heap.size S (1 : Int32) hR.w  Q1 h0) (cwV 1 hts (gd_V kw_1272 kw_1382 kw_1383 kw_710 kw_1381) rfl rfl rfl (by decide +kernel) ⟨Nat.le_of_ble_eq_true rfl, Nat.le_of_ble_eq_true rfl⟩) ⟨cblind, va_recv hR.K hR.P (ci := 6) (q0 := 9) rfl (hR.at46 (hR.w.2.1 _ finC_2).2.1), fun U hU hW9 => cmk hU hW9 hR hex hE hFc⟩ rfl rfl hl.1 rfl (lv_room (Nat.le_of_ble_eq_true rfl)) dX7_entryFits_2 ⟨Nat.le_of_ble_eq_true rfl, Nat.le_of_ble_eq_true rfl⟩) hR.sS (fun q _ h => hFc q h) hFc (fun r2 S3 t9 H1 locs ht9 hvm9 hw9 hB9 hz9 hk9 hS => ?_)
  obtain ⟨hq4, hw9, hs9, hz_r2⟩ := hw9
  have hR : RepC g ad A s S3 H1 locs := hR.call ht9 hB9 hw9 hS hFc
  have hsh := hsh.tr hs9
  replace h := h r2 S3 hq4 hw9 hs9
  clear hB9 hz9 hk9 hvm9 ht9 hw9 hs9 hS
  generalize H1 = H at hR ⊢
  refine lv_if_ne (tgt := 10) hx hb dX7_entryFits_5 (by decide) (fun c5 => ?_) (fun c5 => ?_)
  · replace h := h.2 (k_ne rfl (by decide) c5)
    refine lv_aload_n hx hb dX7_entryFits_10 rfl (lv_at hl 0 rfl) ?_
    refine lv_aload_n hx hb dX7_entryFits_11 rfl (lv_at hl 0 rfl) ?_
    refine va_get (D := rD g) (ci := 6) (v := .int (qI S3 9 15)) (C := RX7) (T := TX7) (N := 17) hx hb hts inX7 hown hR.K hR.P 9 (hR.at46 (hR.w.2.1 _ finC_2).2.1) rfl 15 (by decide) (hts _ kw_1273) (fun _ h9 => h9) rfl dX7_entryFits_12 ?_
    obtain ⟨hv6, h⟩ := h
    have hFc := cfree hR hA
    refine va_calli (va_runV (As := [.int (qI S3 9 15)]) (rest := []) ⟨hx, hb, hml, hown, hts⟩ (rX7_u1 l g ad H.size S3 (qI S3 9 15) hR.w  hv6) (cwV 1 hts (gd_V kw_1304 kw_1447 kw_1448 kw_710 kw_1446) rfl rfl rfl (by decide +kernel) ⟨Nat.le_of_ble_eq_true rfl, Nat.le_of_ble_eq_true rfl⟩) ⟨cblind, va_recv hR.K hR.P (ci := 6) (q0 := 9) rfl (hR.at46 (hR.w.2.1 _ finC_2).2.1), fun U hU hW9 => cmk hU hW9 hR hex hE hFc⟩ rfl rfl hl.1 rfl (lv_room (Nat.le_of_ble_eq_true rfl)) dX7_entryFits_15 ⟨Nat.le_of_ble_eq_true rfl, Nat.le_of_ble_eq_true rfl⟩) hR.sS (fun q _ h => hFc q h) hFc (fun r7 u9 t9 H1 locs ht9 hvm9 hw9 hB9 hz9 hk9 hS => ?_)
    have hR : RepC g ad A s S3 H1 locs := hR.call ht9 hB9 hR.w hS hFc
    obtain rfl : r7 = (fX7_u1 S3 (qI S3 9 15)) := hw9
    clear hB9 hz9 hk9 hvm9 ht9 hS
    generalize H1 = H at hR ⊢
    obtain ⟨a9, ea9⟩ : ∃ z, z = (fX7_u1 S3 (qI S3 9 15)) := ⟨_, rfl⟩
    rw [← ea9]
    replace h := h a9 ea9
    refine lv_istore_n (lv' := [(1, .int a9), (0, .ref (ad 9))]) hx hb dX7_entryFits_18 rfl hl (by decide) rfl (fun ls hl => ?_)
    refine lv_iload_n hx hb dX7_entryFits_19 rfl (lv_at hl 0 rfl) ?_
    refine lv_iconst (v := 1) hx hb dX7_entryFits_20 (by decide) ?_
    refine lv_icmp_ne (tgt := 29) hx hb dX7_entryFits_21 (by decide) (fun c10 => ?_) (fun c10 => ?_)
    · replace h := h.2 (k_ne rfl (by decide) c10)
      refine lv_aload_n hx hb dX7_entryFits_29 rfl (lv_at hl 1 rfl) ?_
      refine lv_iload_n hx hb dX7_entryFits_30 rfl (lv_at hl 0 rfl) ?_
      obtain ⟨hv11, h⟩ := h
      have hFc := cfree hR hA
      refine va_calli (va_runV (As := [.int a9]) (rest := []) ⟨hx, hb, hml, hown, hts⟩ (rX7_entryLength l g ad H.size S3 a9 hR.w  hv11) (cwV 1 hts (gd_V kw_1306 kw_1308 kw_1309 kw_710 kw_1307) rfl rfl rfl (by decide +kernel) ⟨Nat.le_of_ble_eq_true rfl, Nat.le_of_ble_eq_true rfl⟩) ⟨cblind, va_recv hR.K hR.P (ci := 6) (q0 := 9) rfl (hR.at46 (hR.w.2.1 _ finC_2).2.1), fun U hU hW9 => cmk hU hW9 hR hex hE hFc⟩ rfl rfl hl.1 rfl (lv_room (Nat.le_of_ble_eq_true rfl)) dX7_entryFits_31 ⟨Nat.le_of_ble_eq_true rfl, Nat.le_of_ble_eq_true rfl⟩) hR.sS (fun q _ h => hFc q h) hFc (fun r12 u9 t9 H1 locs ht9 hvm9 hw9 hB9 hz9 hk9 hS => ?_)
      have hR : RepC g ad A s S3 H1 locs := hR.call ht9 hB9 hR.w hS hFc
      obtain rfl : r12 = (fX7_entryLength S3 a9) := hw9
      clear hB9 hz9 hk9 hvm9 ht9 hS
      generalize H1 = H at hR ⊢
      obtain ⟨a14, ea14⟩ : ∃ z, z = (fX7_entryLength S3 a9) := ⟨_, rfl⟩
      rw [← ea14]
      replace h := h a14 ea14
      refine lv_if_ne (tgt := 49) hx hb dX7_entryFits_34 (by decide) (fun c15 => ?_) (fun c15 => ?_)
      · replace h := h.2 (k_ne rfl (by decide) c15)
        refine lv_aload_n hx hb dX7_entryFits_49 rfl (lv_at hl 1 rfl) ?_
        refine lv_aload_n hx hb dX7_entryFits_50 rfl (lv_at hl 1 rfl) ?_
        refine lv_iload_n hx hb dX7_entryFits_51 rfl (lv_at hl 0 rfl) ?_
        obtain ⟨hv16, h⟩ := h
        have hFc := cfree hR hA
        refine va_calli (va_runV (As := [.int a9]) (rest := [.ref (ad 9)]) ⟨hx, hb, hml, hown, hts⟩ (rX7_entryLength l g ad H.size S3 a9 hR.w  hv16) (cwV 1 hts (gd_V kw_1306 kw_1308 kw_1309 kw_710 kw_1307) rfl rfl rfl (by decide +kernel) ⟨Nat.le_of_ble_eq_true rfl, Nat.le_of_ble_eq_true rfl⟩) ⟨cblind, va_recv hR.K hR.P (ci := 6) (q0 := 9) rfl (hR.at46 (hR.w.2.1 _ finC_2).2.1), fun U hU hW9 => cmk hU hW9 hR hex hE hFc⟩ rfl rfl hl.1 rfl (lv_room (Nat.le_of_ble_eq_true rfl)) dX7_entryFits_52 ⟨Nat.le_of_ble_eq_true rfl, Nat.le_of_ble_eq_true rfl⟩) hR.sS (fun q _ h => hFc q h) hFc (fun r17 u9 t9 H1 locs ht9 hvm9 hw9 hB9 hz9 hk9 hS => ?_)
        have hR : RepC g ad A s S3 H1 locs := hR.call ht9 hB9 hR.w hS hFc
        obtain rfl : r17 = (fX7_entryLength S3 a9) := hw9
        clear hB9 hz9 hk9 hvm9 ht9 hS
        generalize H1 = H at hR ⊢
        obtain ⟨a19, ea19⟩ : ∃ z, z = (fX7_entryLength S3 a9) := ⟨_, rfl⟩
        rw [← ea19]
        replace h := h a19 ea19
        obtain ⟨Q20, h0, h⟩ := h
        have hFc := cfree hR hA
        refine va_calli (va_runV (As := [.int a19]) (rest := []) ⟨hx, hb, hml, hown, hts⟩ (rX7_isThere l g ad H.size S3 a19 hR.w  Q20 h0) (cwV 1 hts (gd_V kw_1272 kw_1382 kw_1383 kw_710 kw_1381) rfl rfl rfl (by decide +kernel) ⟨Nat.le_of_ble_eq_true rfl, Nat.le_of_ble_eq_true rfl⟩) ⟨cblind, va_recv hR.K hR.P (ci := 6) (q0 := 9) rfl (hR.at46 (hR.w.2.1 _ finC_2).2.1), fun U hU hW9 => cmk hU hW9 hR hex hE hFc⟩ rfl rfl hl.1 rfl (lv_room (Nat.le_of_ble_eq_true rfl)) dX7_entryFits_55 ⟨Nat.le_of_ble_eq_true rfl, Nat.le_of_ble_eq_true rfl⟩) hR.sS (fun q _ h => hFc q h) hFc (fun r21 S22 t9 H1 locs ht9 hvm9 hw9 hB9 hz9 hk9 hS => ?_)
        obtain ⟨hq23, hw9, hs9, hz_r21⟩ := hw9
        have hR : RepC g ad A s S22 H1 locs := hR.call ht9 hB9 hw9 hS hFc
        have hsh := hsh.tr hs9
        replace h := h r21 S22 hq23 hw9 hs9
        clear hB9 hz9 hk9 hvm9 ht9 hw9 hs9 hS
        generalize H1 = H at hR ⊢
        exact W.zret (v := r21) hx hb hr (nz hz_r21) (fun t9 ht9 hW9 => ⟨⟨_, S22, rfl, ⟨h, hR.w, hsh, hz_r21⟩, ⟨by rw [ht9]; exact hR.P, hR.D⟩⟩, hR.sS.F ht9⟩) hR.sS.2.2 dX7_entryFits_58
      · replace h := h.1 (k_eq rfl (by decide) c15)
        refine lv_aload_n hx hb dX7_entryFits_37 rfl (lv_at hl 1 rfl) ?_
        refine lv_iconst (v := 3) hx hb dX7_entryFits_38 (by decide) ?_
        refine lv_aload_n hx hb dX7_entryFits_39 rfl (lv_at hl 1 rfl) ?_
        refine va_get (D := rD g) (ci := 6) (v := .int (qI S3 9 15)) (C := RX7) (T := TX7) (N := 17) hx hb hts inX7 hown hR.K hR.P 9 (hR.at46 (hR.w.2.1 _ finC_2).2.1) rfl 15 (by decide) (hts _ kw_1273) (fun _ h9 => h9) rfl dX7_entryFits_40 ?_
        obtain ⟨Q24, h0, h⟩ := h
        have hFc := cfree hR hA
        refine va_calli (va_runV (As := [.int 3, .int (qI S3 9 15)]) (rest := []) ⟨hx, hb, hml, hown, hts⟩ (rX7_breaks l g ad H.size S3 (3 : Int32) (qI S3 9 15) hR.w  Q24 h0) (cwV 2 hts (gd_V kw_1276 kw_1278 kw_1279 kw_710 kw_1277) rfl rfl rfl (by decide +kernel) ⟨Nat.le_of_ble_eq_true rfl, Nat.le_of_ble_eq_true rfl⟩) ⟨cblind, va_recv hR.K hR.P (ci := 6) (q0 := 9) rfl (hR.at46 (hR.w.2.1 _ finC_2).2.1), fun U hU hW9 => cmk hU hW9 hR hex hE hFc⟩ rfl rfl hl.1 rfl (lv_room (Nat.le_of_ble_eq_true rfl)) dX7_entryFits_43 ⟨Nat.le_of_ble_eq_true rfl, Nat.le_of_ble_eq_true rfl⟩) hR.sS (fun q _ h => hFc q h) hFc (fun r25 S26 t9 H1 locs ht9 hvm9 hw9 hB9 hz9 hk9 hS => ?_)
        obtain ⟨hq27, hw9, hs9, hz_r25⟩ := hw9
        have hR : RepC g ad A s S26 H1 locs := hR.call ht9 hB9 hw9 hS hFc
        have hsh := hsh.tr hs9
        replace h := h r25 S26 hq27 hw9 hs9
        clear hB9 hz9 hk9 hvm9 ht9 hw9 hs9 hS
        generalize H1 = H at hR ⊢
        refine lv_goto (tgt := 58) hx hb dX7_entryFits_46 (by decide) ?_
        exact W.zret (v := r25) hx hb hr (nz hz_r25) (fun t9 ht9 hW9 => ⟨⟨_, S26, rfl, ⟨h, hR.w, hsh, hz_r25⟩, ⟨by rw [ht9]; exact hR.P, hR.D⟩⟩, hR.sS.F ht9⟩) hR.sS.2.2 dX7_entryFits_58
    · replace h := h.1 (k_eq rfl (by decide) c10)
      refine lv_aload_n hx hb dX7_entryFits_24 rfl (lv_at hl 1 rfl) ?_
      obtain ⟨Q28, h0, h⟩ := h
      have hFc := cfree hR hA
      refine va_calli (va_runV (As := []) (rest := []) ⟨hx, hb, hml, hown, hts⟩ (rX7_nameFits l g ad H.size S3 hR.w  Q28 h0) (cwV 0 hts (gd_V kw_1305 kw_1403 kw_1404 kw_710 kw_1402) rfl rfl rfl (by decide +kernel) ⟨Nat.le_of_ble_eq_true rfl, Nat.le_of_ble_eq_true rfl⟩) ⟨cblind, va_recv hR.K hR.P (ci := 6) (q0 := 9) rfl (hR.at46 (hR.w.2.1 _ finC_2).2.1), fun U hU hW9 => cmk hU hW9 hR hex hE hFc⟩ rfl rfl hl.1 rfl (lv_room (Nat.le_of_ble_eq_true rfl)) dX7_entryFits_25 ⟨Nat.le_of_ble_eq_true rfl, Nat.le_of_ble_eq_true rfl⟩) hR.sS (fun q _ h => hFc q h) hFc (fun r29 S30 t9 H1 locs ht9 hvm9 hw9 hB9 hz9 hk9 hS => ?_)
      obtain ⟨hq31, hw9, hs9, hz_r29⟩ := hw9
      have hR : RepC g ad A s S30 H1 locs := hR.call ht9 hB9 hw9 hS hFc
      have hsh := hsh.tr hs9
      replace h := h r29 S30 hq31 hw9 hs9
      clear hB9 hz9 hk9 hvm9 ht9 hw9 hs9 hS
      generalize H1 = H at hR ⊢
      exact W.zret (v := r29) hx hb hr (nz hz_r29) (fun t9 ht9 hW9 => ⟨⟨_, S30, rfl, ⟨h, hR.w, hsh, hz_r29⟩, ⟨by rw [ht9]; exact hR.P, hR.D⟩⟩, hR.sS.F ht9⟩) hR.sS.2.2 dX7_entryFits_28
  · replace h := h.1 (k_eq rfl (by decide) c5)
    refine lv_iconst (v := 0) hx hb dX7_entryFits_8 (by decide) ?_
    exact W.zret (v := 0) hx hb hr (nz (Or.inl rfl)) (fun t9 ht9 hW9 => ⟨⟨_, S3, rfl, ⟨h, hR.w, hsh, (Or.inl rfl)⟩, ⟨by rw [ht9]; exact hR.P, hR.D⟩⟩, hR.sS.F ht9⟩) hR.sS.2.2 dX7_entryFits_9
def w_X7_membersFit_L49 (Q : Int32 → MS → Prop) : Nat → MS → Int32 → Int32 → Int32 → Prop
  | 0, _, _, _, _ => False
  | n49 + 1, U49, v49_1, v49_2, v49_3 => (wfC U49 → (((v49_1 + v49_2).toInt ≤ v49_3.toInt → Q v49_2 U49) ∧ (¬ (v49_1 + v49_2).toInt ≤ v49_3.toInt → ((48 ≤ v49_3.toInt → Q v49_2 U49) ∧ (¬ 48 ≤ v49_3.toInt → (((0 : Int) ≤ v49_3.toInt ∧ v49_3.toInt < 48) ∧ (∀ S17, S17 = wI U49 12 v49_3.toInt.toNat (qI U49 9 15) → qT U49 12 = 219 → wfC S17 → (∃ Q18, wX7_isThere S17 (6 : Int32) Q18 ∧ ∀ r19 S20, Q18 r19 S20 → wfC S20 → shy S17 S20 → ((r19.toInt = 0 → Q (-1 : Int32) S20) ∧ (¬ r19.toInt = 0 → (∀ S24, S24 = wI S20 9 15 ((qI S20 9 15) + (6 : Int32)) → qT S20 9 = 46 → wfC S24 → (∃ Q25, wX7_attributesFit S24 Q25 ∧ ∀ r26 S27, Q25 r26 S27 → wfC S27 → shy S24 S27 → ((r26.toInt = 0 → Q (-1 : Int32) S27) ∧ (¬ r26.toInt = 0 → (∀ a30 : Int32, a30 = (v49_3 + Int32.ofInt 1) → (w_X7_membersFit_L49 Q n49) S27 v49_1 v49_2 a30)))))))))))))))
def wX7_membersFit (S : MS) (x1 : Int32) (Q : Int32 → MS → Prop) : Prop := (∃ Q1, wX7_isThere S (2 : Int32) Q1 ∧ ∀ r2 S3, Q1 r2 S3 → wfC S3 → shy S S3 → ((r2.toInt = 0 → Q (-1 : Int32) S3) ∧ (¬ r2.toInt = 0 → (d_X7_u2 S3 (qI S3 9 15) ∧ (∀ a9 : Int32, a9 = (fX7_u2 S3 (qI S3 9 15)) → ((a9.toInt ≤ 24 → (∀ S12, S12 = wI S3 9 15 ((qI S3 9 15) + (2 : Int32)) → qT S3 9 = 46 → wfC S12 → (∃ n, w_X7_membersFit_L49 Q n S12 x1 a9 x1))) ∧ (¬ a9.toInt ≤ 24 → (∃ Q31, wX7_breaks S3 (5 : Int32) (qI S3 9 15) Q31 ∧ ∀ r32 S33, Q31 r32 S33 → wfC S33 → shy S3 S33 → Q (-1 : Int32) S33))))))))
set_option maxHeartbeats 2000000 in
set_option maxRecDepth 100000 in
theorem rX7_membersFit (l : Launch) (g : Gr) (ad : Nat → Nat) (sz : Nat) (S : MS) (x1 : Int32) (hw : wfC S) (Q : Int32 → MS → Prop) (h : wX7_membersFit S x1 Q) : Met l yX7_membersFit (wt yX7_membersFit cX7_membersFit 4 (some .int)) ({ frames := 3, cells := 0, slots := 0, locals := 67 }) (va_Pc [.ref (ad 9), .int x1] (st_C g ad sz S)) (va_Qi (fun (r : Int32) (u : MS) => Q r u ∧ wfC u ∧ shy S u) (fun (u : MS) (t : State) => qEC g ad (va_A (WdC g ad S) sz) u t) (va_A (WdC g ad S) sz)) 0 0 (va_A (WdC g ad S) sz) := by
  refine Met.ofW (cc := cX7_membersFit) (maxL := 4) (ret := (some .int)) (by decide) rfl ?_
  intro p e s m args below meth c s₁ B hml hv
  obtain ⟨rfl, hsz, hP, hK, hD0, hex, hE⟩ := hv
  have hx := B.exec
  have hb := B.bytes
  have hr := B.returns
  have hts0 := atoms_spec (ws := wt yX7_membersFit cX7_membersFit 4 (some .int)) B.pre
  have hts : ∀ w ∈ tb, w.before _ s = true := fun w h => hts0 w (List.mem_cons_of_mem _ h)
  have hown : s.vm.findClass RX7 = some m.cls := findClass_of_methodNamed B.named
  subst hsz
  have hD := hD0.self (sz := s.heap.size)
  generalize hAe : va_A (WdC g ad S) s.heap.size = A at hD hE ⊢
  have hA : ∀ q : Nat, s.heap.size ≤ q → A q := fun q h => by rw [← hAe]; exact Or.inr h
  have hR : RepC g ad A s S s.heap [] := ⟨hK, hP, hD, va_S.rf, hw⟩
  clear hK hP hD hD0
  have hl := lv_entry ([.ref (ad 9), .int x1]) (n := 4) (Nat.le_of_ble_eq_true rfl)
  rw [lg_entry_eq]
  generalize (lg_sl ([.ref (ad 9), .int x1]) ++ List.replicate (4 - (lg_sl ([.ref (ad 9), .int x1])).length) Slot.unset).toArray = ls at hl ⊢
  have hl : lv_has ls 4 [(0, .ref (ad 9)), (1, .int x1)] := hl
  have hsh : shy S S := shy.rf
  unfold wX7_membersFit at h
  refine lv_aload_n hx hb dX7_membersFit_0 rfl (lv_at hl 0 rfl) ?_
  refine lv_iconst (v := 2) hx hb dX7_membersFit_1 (by decide) ?_
  obtain ⟨Q1, h0, h⟩ := h
  have hFc := cfree hR hA
  refine va_calli (va_runV (As := [.int 2]) (rest := []) ⟨hx, hb, hml, hown, hts⟩ (rX7_isThere l g ad s.heap.size S (2 : Int32) hR.w  Q1 h0) (cwV 1 hts (gd_V kw_1272 kw_1382 kw_1383 kw_710 kw_1381) rfl rfl rfl (by decide +kernel) ⟨Nat.le_of_ble_eq_true rfl, Nat.le_of_ble_eq_true rfl⟩) ⟨cblind, va_recv hR.K hR.P (ci := 6) (q0 := 9) rfl (hR.at46 (hR.w.2.1 _ finC_2).2.1), fun U hU hW9 => cmk hU hW9 hR hex hE hFc⟩ rfl rfl hl.1 rfl (lv_room (Nat.le_of_ble_eq_true rfl)) dX7_membersFit_2 ⟨Nat.le_of_ble_eq_true rfl, Nat.le_of_ble_eq_true rfl⟩) hR.sS (fun q _ h => hFc q h) hFc (fun r2 S3 t9 H1 locs ht9 hvm9 hw9 hB9 hz9 hk9 hS => ?_)
  obtain ⟨hq4, hw9, hs9, hz_r2⟩ := hw9
  have hR : RepC g ad A s S3 H1 locs := hR.call ht9 hB9 hw9 hS hFc
  have hsh := hsh.tr hs9
  replace h := h r2 S3 hq4 hw9 hs9
  clear hB9 hz9 hk9 hvm9 ht9 hw9 hs9 hS
  generalize H1 = H at hR ⊢
  refine lv_if_ne (tgt := 10) hx hb dX7_membersFit_5 (by decide) (fun c5 => ?_) (fun c5 => ?_)
  · replace h := h.2 (k_ne rfl (by decide) c5)
    refine lv_aload_n hx hb dX7_membersFit_10 rfl (lv_at hl 0 rfl) ?_
    refine lv_aload_n hx hb dX7_membersFit_11 rfl (lv_at hl 0 rfl) ?_
    refine va_get (D := rD g) (ci := 6) (v := .int (qI S3 9 15)) (C := RX7) (T := TX7) (N := 17) hx hb hts inX7 hown hR.K hR.P 9 (hR.at46 (hR.w.2.1 _ finC_2).2.1) rfl 15 (by decide) (hts _ kw_1273) (fun _ h9 => h9) rfl dX7_membersFit_12 ?_
    obtain ⟨hv6, h⟩ := h
    have hFc := cfree hR hA
    refine va_calli (va_runV (As := [.int (qI S3 9 15)]) (rest := []) ⟨hx, hb, hml, hown, hts⟩ (rX7_u2 l g ad H.size S3 (qI S3 9 15) hR.w  hv6) (cwV 1 hts (gd_V kw_1266 kw_1450 kw_1451 kw_710 kw_1449) rfl rfl rfl (by decide +kernel) ⟨Nat.le_of_ble_eq_true rfl, Nat.le_of_ble_eq_true rfl⟩) ⟨cblind, va_recv hR.K hR.P (ci := 6) (q0 := 9) rfl (hR.at46 (hR.w.2.1 _ finC_2).2.1), fun U hU hW9 => cmk hU hW9 hR hex hE hFc⟩ rfl rfl hl.1 rfl (lv_room (Nat.le_of_ble_eq_true rfl)) dX7_membersFit_15 ⟨Nat.le_of_ble_eq_true rfl, Nat.le_of_ble_eq_true rfl⟩) hR.sS (fun q _ h => hFc q h) hFc (fun r7 u9 t9 H1 locs ht9 hvm9 hw9 hB9 hz9 hk9 hS => ?_)
    have hR : RepC g ad A s S3 H1 locs := hR.call ht9 hB9 hR.w hS hFc
    obtain rfl : r7 = (fX7_u2 S3 (qI S3 9 15)) := hw9
    clear hB9 hz9 hk9 hvm9 ht9 hS
    generalize H1 = H at hR ⊢
    obtain ⟨a9, ea9⟩ : ∃ z, z = (fX7_u2 S3 (qI S3 9 15)) := ⟨_, rfl⟩
    rw [← ea9]
    replace h := h a9 ea9
    refine lv_istore_n (lv' := [(2, .int a9), (0, .ref (ad 9)), (1, .int x1)]) hx hb dX7_membersFit_18 rfl hl (by decide) rfl (fun ls hl => ?_)
    refine lv_iload_n hx hb dX7_membersFit_19 rfl (lv_at hl 0 rfl) ?_
    refine lv_bipush (v := 24) hx hb dX7_membersFit_20 (by decide) ?_
    refine lv_icmp_le (tgt := 37) hx hb dX7_membersFit_22 (by decide) (fun c10 => ?_) (fun c10 => ?_)
    · replace h := h.1 (k_le rfl (by decide) c10)
      refine lv_aload_n hx hb dX7_membersFit_37 rfl (lv_at hl 1 rfl) ?_
      refine lv_dup hx hb dX7_membersFit_38 rfl ?_
      refine va_get (D := rD g) (ci := 6) (v := .int (qI S3 9 15)) (C := RX7) (T := TX7) (N := 17) hx hb hts inX7 hown hR.K hR.P 9 (hR.at46 (hR.w.2.1 _ finC_2).2.1) rfl 15 (by decide) (hts _ kw_1273) (fun _ h9 => h9) rfl dX7_membersFit_39 ?_
      refine lv_iconst (v := 2) hx hb dX7_membersFit_42 (by decide) ?_
      refine lv_iadd hx hb dX7_membersFit_43 ?_
      refine lv_topi (fun z11 ez11 => ?_)
      obtain rfl : z11 = ((qI S3 9 15) + (2 : Int32)) := ez11
      refine va_put (D := rD g) (ci := 6) (v := .int ((qI S3 9 15) + (2 : Int32))) (ty := .int) (C := RX7) (T := TX7) (N := 17) hx hb hts inX7 tyX7 tyX7_ok nmX7 hown hR.K hR.P hR.D hR.sS 9 (hR.at46 (hR.w.2.1 _ finC_2).2.1) rfl 15 (by decide) (hts _ kw_1273) (fun _ h9 => h9) rfl (by decide +kernel) rfl rfl (Nat.le_of_ble_eq_true rfl) dX7_membersFit_44 (fun H locs hP hD hS => ?_)
      have hTk9 : qT S3 9 = 46 := (hR.w.2.1 _ finC_2).2.1
      have hR : RepC g ad A s (wI S3 9 15 ((qI S3 9 15) + (2 : Int32))) H locs := hR.pI46 (hR.w.2.1 _ finC_2).2.1 FX7_s15 (fun q9 => absurd q9 (by decide)) hP hD hS
      obtain ⟨S12, eS12⟩ : ∃ z, z = wI S3 9 15 ((qI S3 9 15) + (2 : Int32)) := ⟨_, rfl⟩
      rw [← eS12] at hR
      replace h := h S12 eS12 hTk9 hR.w
      have hsh : shy S S12 := by rw [eS12]; exact hsh
      refine lv_iload_n hx hb dX7_membersFit_47 rfl (lv_at hl 2 rfl) ?_
      refine lv_istore_n (lv' := [(3, .int x1), (2, .int a9), (0, .ref (ad 9)), (1, .int x1)]) hx hb dX7_membersFit_48 rfl hl (by decide) rfl (fun ls hl => ?_)
      have J_49 : ∀ (n49 : Nat) (U49 : MS) (v49_1 : Int32) (v49_2 : Int32) (v49_3 : Int32) (H : Heap) (locs : List Loc) (ls : Array Slot), w_X7_membersFit_L49 Q n49 U49 v49_1 v49_2 v49_3 → shy S U49 → RepC g ad A s U49 H locs → lv_has ls 4 [(0, .ref (ad 9)), (1, .int v49_1), (2, .int v49_2), (3, .int v49_3)] → W p l e (headSpec (wt yX7_membersFit cX7_membersFit 4 (some .int)) ({ frames := 3, cells := 0, slots := 0, locals := 67 })).room s m ([.ref (ad 9), .int x1] : List Value).toArray below meth c H locs 0 0 (MQ below (va_Qi (fun (r : Int32) (u : MS) => Q r u ∧ wfC u ∧ shy S u) (fun (u : MS) (t : State) => qEC g ad A u t) A) ([.ref (ad 9), .int x1] : List Value).toArray s 0 0 A) (F0 m 49 ls []) := by
        intro n49
        induction n49 with
        | zero => intro U49 v49_1 v49_2 v49_3 H locs ls h hsh hR hl; unfold w_X7_membersFit_L49 at h; exact h.elim
        | succ n49 ih_49 =>
          intro U49 v49_1 v49_2 v49_3 H locs ls h hsh hR hl
          unfold w_X7_membersFit_L49 at h
          replace h := h hR.w
          refine lv_iload_n hx hb dX7_membersFit_49 rfl (lv_at hl 3 rfl) ?_
          refine lv_iload_n hx hb dX7_membersFit_50 rfl (lv_at hl 1 rfl) ?_
          refine lv_iload_n hx hb dX7_membersFit_51 rfl (lv_at hl 2 rfl) ?_
          refine lv_iadd hx hb dX7_membersFit_52 ?_
          refine lv_topi (fun z13 ez13 => ?_)
          obtain rfl : z13 = (v49_1 + v49_2) := ez13
          refine lv_icmp_ge (tgt := 112) hx hb dX7_membersFit_53 (by decide) (fun c14 => ?_) (fun c14 => ?_)
          · replace h := h.1 (k_le rfl rfl c14)
            refine lv_iload_n hx hb dX7_membersFit_112 rfl (lv_at hl 2 rfl) ?_
            exact W.iret (v := v49_2) hx hb hr (fun t9 ht9 hW9 => ⟨⟨_, U49, rfl, ⟨h, hR.w, hsh⟩, ⟨by rw [ht9]; exact hR.P, hR.D⟩⟩, hR.sS.F ht9⟩) hR.sS.2.2 dX7_membersFit_113
          · replace h := h.2 (k_nle rfl rfl c14)
            refine lv_iload_n hx hb dX7_membersFit_56 rfl (lv_at hl 3 rfl) ?_
            refine lv_aload_n hx hb dX7_membersFit_57 rfl (lv_at hl 0 rfl) ?_
            refine va_get (D := rD g) (ci := 6) (v := .ref (ad 12)) (C := RX7) (T := TX7) (N := 17) hx hb hts inX7 hown hR.K hR.P 9 (hR.at46 (hR.w.2.1 _ finC_2).2.1) rfl 9 (by decide) (hts _ kw_1342) (fun _ h9 => h9) (congrArg (fun z => some (vf ad z)) (hR.w.2.1 _ finC_8).1) dX7_membersFit_58 ?_
            refine va_alen (v := 48) hx hb hR.K hR.P 12 1 (hR.atI (hR.w.2.1 _ finC_8).2.1 (by decide)) rfl (by rw [(hR.w.2.1 _ finC_8).2.2]; rfl) dX7_membersFit_61 ?_
            refine lv_icmp_ge (tgt := 112) hx hb dX7_membersFit_62 (by decide) (fun c15 => ?_) (fun c15 => ?_)
            · replace h := h.1 (k_le (by decide) rfl c15)
              refine lv_iload_n hx hb dX7_membersFit_112 rfl (lv_at hl 2 rfl) ?_
              exact W.iret (v := v49_2) hx hb hr (fun t9 ht9 hW9 => ⟨⟨_, U49, rfl, ⟨h, hR.w, hsh⟩, ⟨by rw [ht9]; exact hR.P, hR.D⟩⟩, hR.sS.F ht9⟩) hR.sS.2.2 dX7_membersFit_113
            · replace h := h.2 (k_nle (by decide) rfl c15)
              refine lv_aload_n hx hb dX7_membersFit_65 rfl (lv_at hl 0 rfl) ?_
              refine va_get (D := rD g) (ci := 6) (v := .ref (ad 12)) (C := RX7) (T := TX7) (N := 17) hx hb hts inX7 hown hR.K hR.P 9 (hR.at46 (hR.w.2.1 _ finC_2).2.1) rfl 9 (by decide) (hts _ kw_1342) (fun _ h9 => h9) (congrArg (fun z => some (vf ad z)) (hR.w.2.1 _ finC_8).1) dX7_membersFit_66 ?_
              refine lv_iload_n hx hb dX7_membersFit_69 rfl (lv_at hl 3 rfl) ?_
              refine lv_aload_n hx hb dX7_membersFit_70 rfl (lv_at hl 0 rfl) ?_
              refine va_get (D := rD g) (ci := 6) (v := .int (qI U49 9 15)) (C := RX7) (T := TX7) (N := 17) hx hb hts inX7 hown hR.K hR.P 9 (hR.at46 (hR.w.2.1 _ finC_2).2.1) rfl 15 (by decide) (hts _ kw_1273) (fun _ h9 => h9) rfl dX7_membersFit_71 ?_
              obtain ⟨hv16, h⟩ := h
              refine va_iast hx hb hR.K hR.P hR.D hR.sS 12 1 (hR.atI (hR.w.2.1 _ finC_8).2.1 (by decide)) rfl (k_ixN (k_ix (n := 48) (x := v49_3) (a := v49_3.toInt) rfl hv16) (hR.w.2.1 _ finC_8).2.2) dX7_membersFit_74 (fun H locs hP hD hS => ?_)
              have hTk9 : qT U49 12 = 219 := (hR.w.2.1 _ finC_8).2.1
              have hR : RepC g ad A s (wI U49 12 v49_3.toInt.toNat (qI U49 9 15)) H locs := hR.aI (hR.w.2.1 _ finC_8).2.1 (by decide) hP hD hS
              obtain ⟨S17, eS17⟩ : ∃ z, z = wI U49 12 v49_3.toInt.toNat (qI U49 9 15) := ⟨_, rfl⟩
              rw [← eS17] at hR
              replace h := h S17 eS17 hTk9 hR.w
              have hsh : shy S S17 := by rw [eS17]; exact hsh
              refine lv_aload_n hx hb dX7_membersFit_75 rfl (lv_at hl 0 rfl) ?_
              refine lv_bipush (v := 6) hx hb dX7_membersFit_76 (by decide) ?_
              obtain ⟨Q18, h0, h⟩ := h
              have hFc := cfree hR hA
              refine va_calli (va_runV (As := [.int 6]) (rest := []) ⟨hx, hb, hml, hown, hts⟩ (rX7_isThere l g ad H.size S17 (6 : Int32) hR.w  Q18 h0) (cwV 1 hts (gd_V kw_1272 kw_1382 kw_1383 kw_710 kw_1381) rfl rfl rfl (by decide +kernel) ⟨Nat.le_of_ble_eq_true rfl, Nat.le_of_ble_eq_true rfl⟩) ⟨cblind, va_recv hR.K hR.P (ci := 6) (q0 := 9) rfl (hR.at46 (hR.w.2.1 _ finC_2).2.1), fun U hU hW9 => cmk hU hW9 hR hex hE hFc⟩ rfl rfl hl.1 rfl (lv_room (Nat.le_of_ble_eq_true rfl)) dX7_membersFit_78 ⟨Nat.le_of_ble_eq_true rfl, Nat.le_of_ble_eq_true rfl⟩) hR.sS (fun q _ h => hFc q h) hFc (fun r19 S20 t9 H1 locs ht9 hvm9 hw9 hB9 hz9 hk9 hS => ?_)
              obtain ⟨hq21, hw9, hs9, hz_r19⟩ := hw9
              have hR : RepC g ad A s S20 H1 locs := hR.call ht9 hB9 hw9 hS hFc
              have hsh := hsh.tr hs9
              replace h := h r19 S20 hq21 hw9 hs9
              clear hB9 hz9 hk9 hvm9 ht9 hw9 hs9 hS
              generalize H1 = H at hR ⊢
              refine lv_if_ne (tgt := 86) hx hb dX7_membersFit_81 (by decide) (fun c22 => ?_) (fun c22 => ?_)
              · replace h := h.2 (k_ne rfl (by decide) c22)
                refine lv_aload_n hx hb dX7_membersFit_86 rfl (lv_at hl 0 rfl) ?_
                refine lv_dup hx hb dX7_membersFit_87 rfl ?_
                refine va_get (D := rD g) (ci := 6) (v := .int (qI S20 9 15)) (C := RX7) (T := TX7) (N := 17) hx hb hts inX7 hown hR.K hR.P 9 (hR.at46 (hR.w.2.1 _ finC_2).2.1) rfl 15 (by decide) (hts _ kw_1273) (fun _ h9 => h9) rfl dX7_membersFit_88 ?_
                refine lv_bipush (v := 6) hx hb dX7_membersFit_91 (by decide) ?_
                refine lv_iadd hx hb dX7_membersFit_93 ?_
                refine lv_topi (fun z23 ez23 => ?_)
                obtain rfl : z23 = ((qI S20 9 15) + (6 : Int32)) := ez23
                refine va_put (D := rD g) (ci := 6) (v := .int ((qI S20 9 15) + (6 : Int32))) (ty := .int) (C := RX7) (T := TX7) (N := 17) hx hb hts inX7 tyX7 tyX7_ok nmX7 hown hR.K hR.P hR.D hR.sS 9 (hR.at46 (hR.w.2.1 _ finC_2).2.1) rfl 15 (by decide) (hts _ kw_1273) (fun _ h9 => h9) rfl (by decide +kernel) rfl rfl (Nat.le_of_ble_eq_true rfl) dX7_membersFit_94 (fun H locs hP hD hS => ?_)
                have hTk9 : qT S20 9 = 46 := (hR.w.2.1 _ finC_2).2.1
                have hR : RepC g ad A s (wI S20 9 15 ((qI S20 9 15) + (6 : Int32))) H locs := hR.pI46 (hR.w.2.1 _ finC_2).2.1 FX7_s15 (fun q9 => absurd q9 (by decide)) hP hD hS
                obtain ⟨S24, eS24⟩ : ∃ z, z = wI S20 9 15 ((qI S20 9 15) + (6 : Int32)) := ⟨_, rfl⟩
                rw [← eS24] at hR
                replace h := h S24 eS24 hTk9 hR.w
                have hsh : shy S S24 := by rw [eS24]; exact hsh
                refine lv_aload_n hx hb dX7_membersFit_97 rfl (lv_at hl 0 rfl) ?_
                obtain ⟨Q25, h0, h⟩ := h
                have hFc := cfree hR hA
                refine va_calli (va_runV (As := []) (rest := []) ⟨hx, hb, hml, hown, hts⟩ (rX7_attributesFit l g ad H.size S24 hR.w  Q25 h0) (cwV 0 hts (gd_V kw_1324 kw_1270 kw_1271 kw_710 kw_1269) rfl rfl rfl (by decide +kernel) ⟨Nat.le_of_ble_eq_true rfl, Nat.le_of_ble_eq_true rfl⟩) ⟨cblind, va_recv hR.K hR.P (ci := 6) (q0 := 9) rfl (hR.at46 (hR.w.2.1 _ finC_2).2.1), fun U hU hW9 => cmk hU hW9 hR hex hE hFc⟩ rfl rfl hl.1 rfl (lv_room (Nat.le_of_ble_eq_true rfl)) dX7_membersFit_98 ⟨Nat.le_of_ble_eq_true rfl, Nat.le_of_ble_eq_true rfl⟩) hR.sS (fun q _ h => hFc q h) hFc (fun r26 S27 t9 H1 locs ht9 hvm9 hw9 hB9 hz9 hk9 hS => ?_)
                obtain ⟨hq28, hw9, hs9, hz_r26⟩ := hw9
                have hR : RepC g ad A s S27 H1 locs := hR.call ht9 hB9 hw9 hS hFc
                have hsh := hsh.tr hs9
                replace h := h r26 S27 hq28 hw9 hs9
                clear hB9 hz9 hk9 hvm9 ht9 hw9 hs9 hS
                generalize H1 = H at hR ⊢
                refine lv_if_ne (tgt := 106) hx hb dX7_membersFit_101 (by decide) (fun c29 => ?_) (fun c29 => ?_)
                · replace h := h.2 (k_ne rfl (by decide) c29)
                  obtain ⟨a30, ea30⟩ : ∃ z, z = (v49_3 + Int32.ofInt 1) := ⟨_, rfl⟩
                  replace h := h a30 ea30
                  refine lv_iinc (v := a30) (lv' := [(3, .int a30), (0, .ref (ad 9)), (1, .int v49_1), (2, .int v49_2)]) hx hb dX7_membersFit_106 hl (k := 3) rfl ea30.symm (by decide) rfl (fun ls hl => ?_)
                  refine lv_goto (tgt := 49) hx hb dX7_membersFit_109 (by decide) ?_
                  exact ih_49 S27 v49_1 v49_2 a30 _ _ ls h  hsh hR (lv_sub hl [1, 2, 3, 0] rfl)
                · replace h := h.1 (k_eq rfl (by decide) c29)
                  refine lv_iconst (v := (-1)) hx hb dX7_membersFit_104 (by decide) ?_
                  exact W.iret (v := (-1)) hx hb hr (fun t9 ht9 hW9 => ⟨⟨_, S27, rfl, ⟨h, hR.w, hsh⟩, ⟨by rw [ht9]; exact hR.P, hR.D⟩⟩, hR.sS.F ht9⟩) hR.sS.2.2 dX7_membersFit_105
              · replace h := h.1 (k_eq rfl (by decide) c22)
                refine lv_iconst (v := (-1)) hx hb dX7_membersFit_84 (by decide) ?_
                exact W.iret (v := (-1)) hx hb hr (fun t9 ht9 hW9 => ⟨⟨_, S20, rfl, ⟨h, hR.w, hsh⟩, ⟨by rw [ht9]; exact hR.P, hR.D⟩⟩, hR.sS.F ht9⟩) hR.sS.2.2 dX7_membersFit_85
      obtain ⟨n9, h⟩ := h
      exact J_49 n9 S12 x1 a9 x1 _ _ ls h  hsh hR (lv_sub hl [2, 3, 1, 0] rfl)
    · replace h := h.2 (k_nle rfl (by decide) c10)
      refine lv_aload_n hx hb dX7_membersFit_25 rfl (lv_at hl 1 rfl) ?_
      refine lv_iconst (v := 5) hx hb dX7_membersFit_26 (by decide) ?_
      refine lv_aload_n hx hb dX7_membersFit_27 rfl (lv_at hl 1 rfl) ?_
      refine va_get (D := rD g) (ci := 6) (v := .int (qI S3 9 15)) (C := RX7) (T := TX7) (N := 17) hx hb hts inX7 hown hR.K hR.P 9 (hR.at46 (hR.w.2.1 _ finC_2).2.1) rfl 15 (by decide) (hts _ kw_1273) (fun _ h9 => h9) rfl dX7_membersFit_28 ?_
      obtain ⟨Q31, h0, h⟩ := h
      have hFc := cfree hR hA
      refine va_calli (va_runV (As := [.int 5, .int (qI S3 9 15)]) (rest := []) ⟨hx, hb, hml, hown, hts⟩ (rX7_breaks l g ad H.size S3 (5 : Int32) (qI S3 9 15) hR.w  Q31 h0) (cwV 2 hts (gd_V kw_1276 kw_1278 kw_1279 kw_710 kw_1277) rfl rfl rfl (by decide +kernel) ⟨Nat.le_of_ble_eq_true rfl, Nat.le_of_ble_eq_true rfl⟩) ⟨cblind, va_recv hR.K hR.P (ci := 6) (q0 := 9) rfl (hR.at46 (hR.w.2.1 _ finC_2).2.1), fun U hU hW9 => cmk hU hW9 hR hex hE hFc⟩ rfl rfl hl.1 rfl (lv_room (Nat.le_of_ble_eq_true rfl)) dX7_membersFit_31 ⟨Nat.le_of_ble_eq_true rfl, Nat.le_of_ble_eq_true rfl⟩) hR.sS (fun q _ h => hFc q h) hFc (fun r32 S33 t9 H1 locs ht9 hvm9 hw9 hB9 hz9 hk9 hS => ?_)
      obtain ⟨hq34, hw9, hs9, hz_r32⟩ := hw9
      have hR : RepC g ad A s S33 H1 locs := hR.call ht9 hB9 hw9 hS hFc
      have hsh := hsh.tr hs9
      replace h := h r32 S33 hq34 hw9 hs9
      clear hB9 hz9 hk9 hvm9 ht9 hw9 hs9 hS
      generalize H1 = H at hR ⊢
      refine lv_pop hx hb dX7_membersFit_34 rfl ?_
      refine lv_iconst (v := (-1)) hx hb dX7_membersFit_35 (by decide) ?_
      exact W.iret (v := (-1)) hx hb hr (fun t9 ht9 hW9 => ⟨⟨_, S33, rfl, ⟨h, hR.w, hsh⟩, ⟨by rw [ht9]; exact hR.P, hR.D⟩⟩, hR.sS.F ht9⟩) hR.sS.2.2 dX7_membersFit_36
  · replace h := h.1 (k_eq rfl (by decide) c5)
    refine lv_iconst (v := (-1)) hx hb dX7_membersFit_8 (by decide) ?_
    exact W.iret (v := (-1)) hx hb hr (fun t9 ht9 hW9 => ⟨⟨_, S3, rfl, ⟨h, hR.w, hsh⟩, ⟨by rw [ht9]; exact hR.P, hR.D⟩⟩, hR.sS.F ht9⟩) hR.sS.2.2 dX7_membersFit_9
