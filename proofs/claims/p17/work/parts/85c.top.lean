set_option maxHeartbeats 1000000 in
set_option maxRecDepth 100000 in
theorem m_X12_unitAt_x (l : Launch) (g : Gm) (sz : Nat) (ws : va_W) (h0 : Nat) (x1 : Int32) (hG : Good g ws) (o_h0 : gC ws h0 11) : Met l yX12_unitAt (wt yX12_unitAt cX12_unitAt 2 (some (.object "CodeFoundry$Unit"))) ({ frames := 0, cells := 0, slots := 0, locals := 0 }) (va_Pc [.ref h0, .int x1] (st_G g sz ws)) (va_Qq (fun (r : Option Nat) (u9 : Unit) => (∀ b, r = some b → gC ws b 9 ∧ full ws b) ∧ (∀ b, r = some b → unI ws h0 b)) (gQ0 g (va_A ws sz) ws) (va_A ws sz)) (0) (0) (va_A ws sz) := by
  refine Met.ofW (cc := cX12_unitAt) (maxL := 2) (ret := (some (.object "CodeFoundry$Unit"))) (by decide) rfl ?_
  intro p e s m args below meth c s₁ B hml hv
  obtain ⟨rfl, hsz, hP, hK, hD0, hex, hE⟩ := hv
  have hx := B.exec
  have hb := B.bytes
  have hr := B.returns
  have hts0 := atoms_spec (ws := wt yX12_unitAt cX12_unitAt 2 (some (.object "CodeFoundry$Unit"))) B.pre
  have hts : ∀ w ∈ tb, w.before _ s = true := fun w h => hts0 w (List.mem_cons_of_mem _ h)
  have hown : s.vm.findClass RX12 = some m.cls := findClass_of_methodNamed B.named
  subst hsz
  have hD := hD0.self (sz := s.heap.size)
  generalize hAe : va_A ws s.heap.size = A at hD hE ⊢
  have hA : ∀ q : Nat, s.heap.size ≤ q → A q := fun q h => by rw [← hAe]; exact Or.inr h
  have hS : va_S A s.heap s.heap [] := va_S.rf
  have hl := lv_entry ([.ref h0, .int x1]) (n := 2) (Nat.le_of_ble_eq_true rfl)
  rw [lg_entry_eq]
  generalize (lg_sl ([.ref h0, .int x1]) ++ List.replicate (2 - (lg_sl ([.ref h0, .int x1])).length) Slot.unset).toArray = ls at hl ⊢
  have hl : lv_has ls 2 [(0, .ref h0), (1, .int x1)] := hl
  refine lv_iload_n hx hb dX12_unitAt_0 rfl (lv_at hl 1 rfl) ?_
  refine lv_if_lt (tgt := 12) hx hb dX12_unitAt_1 (by decide) (fun c_1 => ?_) (fun c_1 => ?_)
  · refine lv_null hx hb dX12_unitAt_12 ?_
    refine lv_goto (tgt := 22) hx hb dX12_unitAt_13 (by decide) ?_
    refine W.widen (k := 0) (n := 0) (Nat.le_of_ble_eq_true rfl) (Nat.le_of_ble_eq_true rfl) ?_
    exact W.aret (v := .null) hx hb hr (Or.inl ⟨_, rfl⟩) (Or.inl rfl) (fun t9 ht9 hW9 => ⟨⟨none, (), rfl, ⟨fun b h9 => (by cases h9), (fun b h9 => (by cases h9))⟩, ⟨by rw [ht9]; exact hP, hD⟩⟩, hS.F ht9⟩) hS.2.2 dX12_unitAt_22
  · refine lv_iload_n hx hb dX12_unitAt_4 rfl (lv_at hl 1 rfl) ?_
    refine lv_aload_n hx hb dX12_unitAt_5 rfl (lv_at hl 0 rfl) ?_
    obtain ⟨k_2, fs9, hk_2⟩ := gC_of o_h0
    obtain ⟨r0_2, r1_2, r2_2, r3_2, n3_2, r4_2, r5_2, r6_2, r7_2, r8_2, r9_2, c10_2, c11_2, c12_2, c13_2, c14_2, c15_2, c16_2, c17_2, rfl, o_r0_2, o_r1_2, o_r2_2, a_r3_2, f4_2, o_r4_2, o_r5_2, o_r6_2, o_r7_2, o_r8_2, o_r9_2, f11_2, f12_2, f13_2, f14_2, f15_2, f16_2, f17_2, -⟩ := (hG.1 _ _ _ _ hk_2).hX12 rfl
    refine va_get (D := gD g) (ci := 11) (v := .int c11_2) (C := RX12) (T := TX12) (N := 18) hx hb hts inX12 hown hK hP k_2 hk_2 rfl 11 (by decide) (hts _ kw_317) (fun _ h9 => h9) rfl dX12_unitAt_6 ?_
    refine lv_icmp_lt (tgt := 16) hx hb dX12_unitAt_9 (by decide) (fun c_3 => ?_) (fun c_3 => ?_)
    · refine lv_aload_n hx hb dX12_unitAt_16 rfl (lv_at hl 0 rfl) ?_
      refine va_get (D := gD g) (ci := 11) (v := .ref r3_2) (C := RX12) (T := TX12) (N := 18) hx hb hts inX12 hown hK hP k_2 hk_2 rfl 3 (by decide) (hts _ kw_386) (fun _ h9 => h9) rfl dX12_unitAt_17 ?_
      refine lv_iload_n hx hb dX12_unitAt_20 rfl (lv_at hl 1 rfl) ?_
      obtain ⟨k_4, f_4, hk_4⟩ := gR_of a_r3_2
      refine va_aldq hx hb hK hP k_4 4 hk_4 rfl (i_in2 (by have e0 : (0 : Int32).toInt = 0 := (by decide); have q_c_1 := i_nlt c_1; have q_f4_2 := f4_2; have q_f11_2 := f11_2; have q_c_3 := i_lt c_3; have q_f12_2 := f12_2; have q_f13_2 := f13_2; have g_c11_2 := i_rg c11_2; have g_x1 := i_rg x1; omega)) dX12_unitAt_21 ?_
      obtain ⟨v_5, ev_5⟩ : ∃ z, f_4 (x1 : Int32).toNatClampNeg = z := ⟨_, rfl⟩
      rw [ev_5]
      have o_v_5 : ∀ b, v_5 = some b → gC ws b 9 := fun b h => ((hG.2.1 _ _ _ _ _ hk_4).1 rfl _ b (ev_5.trans h)).1
      have F_v_5 : ∀ b, v_5 = some b → full ws b := fun b h => ((hG.2.1 _ _ _ _ _ hk_4).1 rfl _ b (ev_5.trans h)).2
      rcases v_5 with _ | b_6
      · skip
        refine W.widen (k := 0) (n := 0) (Nat.le_of_ble_eq_true rfl) (Nat.le_of_ble_eq_true rfl) ?_
        exact W.aret (v := .null) hx hb hr (Or.inl ⟨_, rfl⟩) (Or.inl rfl) (fun t9 ht9 hW9 => ⟨⟨none, (), rfl, ⟨fun b h9 => (by cases h9), (fun b h9 => (by cases h9))⟩, ⟨by rw [ht9]; exact hP, hD⟩⟩, hS.F ht9⟩) hS.2.2 dX12_unitAt_22
      · have o_b_6 := o_v_5 _ rfl
        have F_b_6 := F_v_5 _ rfl
        refine W.widen (k := 0) (n := 0) (Nat.le_of_ble_eq_true rfl) (Nat.le_of_ble_eq_true rfl) ?_
        exact W.aret (v := .ref b_6) hx hb hr (Or.inl ⟨_, rfl⟩) (Or.inr ⟨_, rfl⟩) (fun t9 ht9 hW9 => ⟨⟨some b_6, (), rfl, ⟨(fun b h9 => by cases h9; exact ⟨o_b_6, F_b_6⟩), (fun b h9 => by cases h9; exact ⟨_, _, _, _, _, _, _, _, hk_2, rfl, hk_4, ev_5⟩)⟩, ⟨by rw [ht9]; exact hP, hD⟩⟩, hS.F ht9⟩) hS.2.2 dX12_unitAt_22
    · refine lv_null hx hb dX12_unitAt_12 ?_
      refine lv_goto (tgt := 22) hx hb dX12_unitAt_13 (by decide) ?_
      refine W.widen (k := 0) (n := 0) (Nat.le_of_ble_eq_true rfl) (Nat.le_of_ble_eq_true rfl) ?_
      exact W.aret (v := .null) hx hb hr (Or.inl ⟨_, rfl⟩) (Or.inl rfl) (fun t9 ht9 hW9 => ⟨⟨none, (), rfl, ⟨fun b h9 => (by cases h9), (fun b h9 => (by cases h9))⟩, ⟨by rw [ht9]; exact hP, hD⟩⟩, hS.F ht9⟩) hS.2.2 dX12_unitAt_22
set_option maxHeartbeats 1000000 in
set_option maxRecDepth 100000 in
theorem m_X12_rowAt_x (l : Launch) (g : Gm) (sz : Nat) (ws : va_W) (h0 : Nat) (x1 : Int32) (x2 : Int32) (hG : Good g ws) (o_h0 : gC ws h0 11) : Met l yX12_rowAt (wt yX12_rowAt cX12_rowAt 4 (some (.object "CodeFoundry$Row"))) ({ frames := 1, cells := 0, slots := 0, locals := 21 }) (va_Pc [.ref h0, .int x1, .int x2] (st_G g sz ws)) (va_Qq (fun (r : Option Nat) (u9 : Unit) => (∀ b, r = some b → gC ws b 7) ∧ (∀ b, r = some b → rwT ws h0 b)) (gQ0 g (va_A ws sz) ws) (va_A ws sz)) (0) (0) (va_A ws sz) := by
  refine Met.ofW (cc := cX12_rowAt) (maxL := 4) (ret := (some (.object "CodeFoundry$Row"))) (by decide) rfl ?_
  intro p e s m args below meth c s₁ B hml hv
  obtain ⟨rfl, hsz, hP, hK, hD0, hex, hE⟩ := hv
  have hx := B.exec
  have hb := B.bytes
  have hr := B.returns
  have hts0 := atoms_spec (ws := wt yX12_rowAt cX12_rowAt 4 (some (.object "CodeFoundry$Row"))) B.pre
  have hts : ∀ w ∈ tb, w.before _ s = true := fun w h => hts0 w (List.mem_cons_of_mem _ h)
  have hown : s.vm.findClass RX12 = some m.cls := findClass_of_methodNamed B.named
  subst hsz
  have hD := hD0.self (sz := s.heap.size)
  generalize hAe : va_A ws s.heap.size = A at hD hE ⊢
  have hA : ∀ q : Nat, s.heap.size ≤ q → A q := fun q h => by rw [← hAe]; exact Or.inr h
  have hS : va_S A s.heap s.heap [] := va_S.rf
  have hl := lv_entry ([.ref h0, .int x1, .int x2]) (n := 4) (Nat.le_of_ble_eq_true rfl)
  rw [lg_entry_eq]
  generalize (lg_sl ([.ref h0, .int x1, .int x2]) ++ List.replicate (4 - (lg_sl ([.ref h0, .int x1, .int x2])).length) Slot.unset).toArray = ls at hl ⊢
  have hl : lv_has ls 4 [(0, .ref h0), (1, .int x1), (2, .int x2)] := hl
  refine lv_aload_n hx hb dX12_rowAt_0 rfl (lv_at hl 0 rfl) ?_
  refine lv_iload_n hx hb dX12_rowAt_1 rfl (lv_at hl 1 rfl) ?_
  have hFc := gfree hD hS hA
  obtain ⟨k_1, fs_1, hk_1⟩ := gC_of o_h0
  refine va_callq (va_runV (As := [.int x1]) (rest := []) ⟨hx, hb, hml, hown, hts⟩ (m_X12_unitAt_x l g s.heap.size ws h0 (x1) hG o_h0) (cwV 1 hts (gd_V kw_431 kw_464 kw_465 kw_280 kw_463) rfl rfl rfl (by decide +kernel) ⟨Nat.le_of_ble_eq_true rfl, Nat.le_of_ble_eq_true rfl⟩) ⟨gblind, va_recv hK hP (ci := 11) (q0 := k_1) rfl hk_1, fun U hU hW9 => gmk hU hW9 hP hK hD hex hE hS hFc⟩ rfl rfl hl.1 rfl (lv_room (Nat.le_of_ble_eq_true rfl)) dX12_rowAt_2 ⟨Nat.le_of_ble_eq_true rfl, Nat.le_of_ble_eq_true rfl⟩) hS (fun q _ h => hFc q h) hFc (fun r_2 u9 t9 H1 locs ht9 hvm9 hw9 hB9 hz9 hk9 hS => ?_)
  have hP : va_P (gD g) cl0 ws H1 := by rw [← ht9]; exact hB9.1
  obtain ⟨o_r_2, h_r_2⟩ := id hw9
  clear hB9 hz9 hk9 hvm9 ht9 hw9
  generalize H1 = H at hP hS ⊢
  have F_r_2 := fun b h => (o_r_2 b h).2
  have o_r_2 := fun b h => (o_r_2 b h).1
  rcases r_2 with _ | b_3
  · skip
    refine lv_astore_nN (lv' := [(3, .null), (0, .ref h0), (1, .int x1), (2, .int x2)]) hx hb dX12_rowAt_5 rfl hl (by decide) rfl (fun ls hl => ?_)
    refine lv_aload_nN hx hb dX12_rowAt_6 rfl (lv_at hl 0 rfl) ?_
    refine lv_ifnonnullN hx hb dX12_rowAt_7 ?_
    refine lv_null hx hb dX12_rowAt_10 ?_
    refine lv_goto (tgt := 19) hx hb dX12_rowAt_11 (by decide) ?_
    refine W.widen (k := 0) (n := 0) (Nat.le_of_ble_eq_true rfl) (Nat.le_of_ble_eq_true rfl) ?_
    exact W.aret (v := .null) hx hb hr (Or.inl ⟨_, rfl⟩) (Or.inl rfl) (fun t9 ht9 hW9 => ⟨⟨none, (), rfl, ⟨fun b h9 => (by cases h9), (fun b h9 => (by cases h9))⟩, ⟨by rw [ht9]; exact hP, hD⟩⟩, hS.F ht9⟩) hS.2.2 dX12_rowAt_19
  · have o_b_3 := o_r_2 _ rfl
    have F_b_3 := F_r_2 _ rfl
    refine lv_astore_n (lv' := [(3, .ref b_3), (0, .ref h0), (1, .int x1), (2, .int x2)]) hx hb dX12_rowAt_5 rfl hl (by decide) rfl (fun ls hl => ?_)
    refine lv_aload_n hx hb dX12_rowAt_6 rfl (lv_at hl 0 rfl) ?_
    refine lv_ifnonnull (tgt := 14) hx hb dX12_rowAt_7 (by decide) ?_
    refine lv_aload_n hx hb dX12_rowAt_14 rfl (lv_at hl 0 rfl) ?_
    refine lv_iload_n hx hb dX12_rowAt_15 rfl (lv_at hl 3 rfl) ?_
    have hFc := gfree hD hS hA
    obtain ⟨k_4, fs_4, hk_4⟩ := gC_of o_b_3
    refine va_callq (va_runV (As := [.int x2]) (rest := []) ⟨hx, hb, hml, hown, hts⟩ (m_X10_rowAt l g H.size ws b_3 (x2) hG o_b_3) (cwV 1 hts (gd_V kw_324 kw_70 kw_71 kw_34 kw_69) rfl rfl rfl (by decide +kernel) ⟨Nat.le_of_ble_eq_true rfl, Nat.le_of_ble_eq_true rfl⟩) ⟨gblind, va_recv hK hP (ci := 9) (q0 := k_4) rfl hk_4, fun U hU hW9 => gmk hU hW9 hP hK hD hex hE hS hFc⟩ rfl rfl hl.1 rfl (lv_room (Nat.le_of_ble_eq_true rfl)) dX12_rowAt_16 ⟨Nat.le_of_ble_eq_true rfl, Nat.le_of_ble_eq_true rfl⟩) hS (fun q _ h => hFc q h) hFc (fun r_5 u9 t9 H1 locs ht9 hvm9 hw9 hB9 hz9 hk9 hS => ?_)
    have hP : va_P (gD g) cl0 ws H1 := by rw [← ht9]; exact hB9.1
    obtain ⟨o_r_5, h_r_5⟩ := id hw9
    clear hB9 hz9 hk9 hvm9 ht9 hw9
    generalize H1 = H at hP hS ⊢
    rcases r_5 with _ | b_6
    · skip
      refine W.widen (k := 0) (n := 0) (Nat.le_of_ble_eq_true rfl) (Nat.le_of_ble_eq_true rfl) ?_
      exact W.aret (v := .null) hx hb hr (Or.inl ⟨_, rfl⟩) (Or.inl rfl) (fun t9 ht9 hW9 => ⟨⟨none, (), rfl, ⟨fun b h9 => (by cases h9), (fun b h9 => (by cases h9))⟩, ⟨by rw [ht9]; exact hP, hD⟩⟩, hS.F ht9⟩) hS.2.2 dX12_rowAt_19
    · have o_b_6 := o_r_5 _ rfl
      refine W.widen (k := 0) (n := 0) (Nat.le_of_ble_eq_true rfl) (Nat.le_of_ble_eq_true rfl) ?_
      exact W.aret (v := .ref b_6) hx hb hr (Or.inl ⟨_, rfl⟩) (Or.inr ⟨_, rfl⟩) (fun t9 ht9 hW9 => ⟨⟨some b_6, (), rfl, ⟨(fun b h9 => by cases h9; exact o_b_6), (fun b h9 => by cases h9; exact ⟨_, h_r_2 _ rfl, (h_r_5.1 _ rfl).2⟩)⟩, ⟨by rw [ht9]; exact hP, hD⟩⟩, hS.F ht9⟩) hS.2.2 dX12_rowAt_19
set_option maxHeartbeats 1000000 in
set_option maxRecDepth 100000 in
theorem m_X12_blocks (l : Launch) (g : Gm) (H0 : Heap) (ws : va_W) (h0 : Nat) (x1 : Int32) (x2 : Int32) (hG : Good g ws) (o_h0 : gC ws h0 11) (tk0 : tpG ws h0) (tk1 : tpR ws h0) : Met l yX12_blocks (wt yX12_blocks cX12_blocks 4 (some .int)) ({ frames := 5, cells := PC ws + (0), slots := PS ws + (0), locals := 131 }) (va_Pc [.ref h0, .int x1, .int x2] (st_H g H0 ws)) (va_Qi (fun (r : Int32) (u9 : va_W) => (True) ∧ (tpG u9 h0)) (gQ2 g [(3, 0), (3, 1), (3, 2), (3, 3), (3, 4), (3, 5), (3, 6), (3, 7), (3, 8), (3, 9), (3, 10), (3, 11), (3, 12), (3, 13), (3, 14), (3, 15)] [(3, 2), (3, 3), (3, 4), (3, 5), (3, 6), (3, 7), (3, 8), (3, 9), (3, 11), (3, 12), (3, 13), (3, 14), (3, 15)] none (va_A ws H0.size) ws H0 (0) (0)) (va_A ws H0.size)) (PC ws + (0)) (PS ws + (0)) (va_A ws H0.size) := by
  refine Met.ofW (cc := cX12_blocks) (maxL := 4) (ret := (some .int)) (by decide) rfl ?_
  intro p e s m args below meth c s₁ B hml hv
  obtain ⟨rfl, hH0, hsz, hP, hK, hD0, hex, hE⟩ := hv
  have hx := B.exec
  have hb := B.bytes
  have hr := B.returns
  have hts0 := atoms_spec (ws := wt yX12_blocks cX12_blocks 4 (some .int)) B.pre
  have hts : ∀ w ∈ tb, w.before _ s = true := fun w h => hts0 w (List.mem_cons_of_mem _ h)
  have hown : s.vm.findClass RX12 = some m.cls := findClass_of_methodNamed B.named
  subst hH0
  have hD := hD0.self (sz := s.heap.size)
  generalize hAe : va_A ws s.heap.size = A at hD hE ⊢
  have hA : ∀ q : Nat, s.heap.size ≤ q → A q := fun q h => by rw [← hAe]; exact Or.inr h
  have hS : va_S A s.heap s.heap [] := va_S.rf
  have hl := lv_entry ([.ref h0, .int x1, .int x2]) (n := 4) (Nat.le_of_ble_eq_true rfl)
  rw [lg_entry_eq]
  generalize (lg_sl ([.ref h0, .int x1, .int x2]) ++ List.replicate (4 - (lg_sl ([.ref h0, .int x1, .int x2])).length) Slot.unset).toArray = ls at hl ⊢
  have hl : lv_has ls 4 [(0, .ref h0), (1, .int x1), (2, .int x2)] := hl
  refine lv_aload_n hx hb dX12_blocks_0 rfl (lv_at hl 0 rfl) ?_
  refine lv_iload_n hx hb dX12_blocks_1 rfl (lv_at hl 1 rfl) ?_
  refine lv_iload_n hx hb dX12_blocks_2 rfl (lv_at hl 2 rfl) ?_
  have hFc := gfree hD hS hA
  obtain ⟨k_1, fs_1, hk_1⟩ := gC_of o_h0
  refine va_callq (va_runV (As := [.int x1, .int x2]) (rest := []) ⟨hx, hb, hml, hown, hts⟩ (m_X12_rowAt_x l g s.heap.size ws h0 (x1) (x2) hG o_h0) (cwV 2 hts (gd_V kw_299 kw_429 kw_430 kw_280 kw_428) rfl rfl rfl (by decide +kernel) ⟨Nat.le_of_ble_eq_true rfl, Nat.le_of_ble_eq_true rfl⟩) ⟨gblind, va_recv hK hP (ci := 11) (q0 := k_1) rfl hk_1, fun U hU hW9 => gmk hU hW9 hP hK hD hex hE hS hFc⟩ rfl rfl hl.1 rfl (lv_room (Nat.le_of_ble_eq_true rfl)) dX12_blocks_3 ⟨(show 0 + 0 ≤ PC ws + (0) from (by have e0 : (0 : Int32).toInt = 0 := (by decide); omega)), (show 0 + 0 ≤ PS ws + (0) from (by have e0 : (0 : Int32).toInt = 0 := (by decide); omega))⟩) hS (fun q _ h => hFc q h) hFc (fun r_2 u9 t9 H1 locs ht9 hvm9 hw9 hB9 hz9 hk9 hS => ?_)
  have hP : va_P (gD g) cl0 ws H1 := by rw [← ht9]; exact hB9.1
  obtain ⟨o_r_2, h_r_2⟩ := id hw9
  clear hB9 hz9 hk9 hvm9 ht9 hw9
  generalize H1 = H at hP hS ⊢
  rcases r_2 with _ | b_3
  · skip
    refine lv_astore_nN (lv' := [(3, .null), (0, .ref h0), (1, .int x1), (2, .int x2)]) hx hb dX12_blocks_6 rfl hl (by decide) rfl (fun ls hl => ?_)
    refine lv_aload_nN hx hb dX12_blocks_7 rfl (lv_at hl 0 rfl) ?_
    refine lv_ifnonnullN hx hb dX12_blocks_8 ?_
    refine lv_iconst (v := (-1)) hx hb dX12_blocks_11 (by decide) ?_
    refine W_led (fun hLd => ?_)
    have hcl : 0 + PC ws ≤ PC ws + (0) := (by have e0 : (0 : Int32).toInt = 0 := (by decide); omega)
    have hsl : 0 + PS ws ≤ PS ws + (0) := (by have e0 : (0 : Int32).toInt = 0 := (by decide); omega)
    refine W.widen (k := PC ws + (0)) (n := PS ws + (0)) (by omega) (by omega) ?_
    exact W.iret (v := (-1)) hx hb hr (fun t9 ht9 hW9 => ⟨⟨_, ws, rfl, ⟨trivial, tk0⟩, ⟨gE.rf, gF.rf, hG, by rw [ht9]; exact hP, hD, _, _, by rw [ht9]; exact hLd, hcl, hsl⟩⟩, hS.F ht9⟩) hS.2.2 dX12_blocks_12
  · have o_b_3 := o_r_2 _ rfl
    refine lv_astore_n (lv' := [(3, .ref b_3), (0, .ref h0), (1, .int x1), (2, .int x2)]) hx hb dX12_blocks_6 rfl hl (by decide) rfl (fun ls hl => ?_)
    refine lv_aload_n hx hb dX12_blocks_7 rfl (lv_at hl 0 rfl) ?_
    refine lv_ifnonnull (tgt := 13) hx hb dX12_blocks_8 (by decide) ?_
    refine lv_aload_n hx hb dX12_blocks_13 rfl (lv_at hl 1 rfl) ?_
    obtain ⟨k_4, fs9, hk_4⟩ := gC_of o_h0
    obtain ⟨r0_4, r1_4, r2_4, r3_4, n3_4, r4_4, r5_4, r6_4, r7_4, r8_4, r9_4, c10_4, c11_4, c12_4, c13_4, c14_4, c15_4, c16_4, c17_4, rfl, o_r0_4, o_r1_4, o_r2_4, a_r3_4, f4_4, o_r4_4, o_r5_4, o_r6_4, o_r7_4, o_r8_4, o_r9_4, f11_4, f12_4, f13_4, f14_4, f15_4, f16_4, f17_4, -⟩ := (hG.1 _ _ _ _ hk_4).hX12 rfl
    refine va_get (D := gD g) (ci := 11) (v := .ref r8_4) (C := RX12) (T := TX12) (N := 18) hx hb hts inX12 hown hK hP k_4 hk_4 rfl 8 (by decide) (hts _ kw_300) (fun _ h9 => h9) rfl dX12_blocks_14 ?_
    refine lv_aload_n hx hb dX12_blocks_17 rfl (lv_at hl 0 rfl) ?_
    have tq_5 : rowC ws b_3 RV := tpR_row hD tk1 (h_r_2 _ rfl)
    have tq_6 : grR ws r8_4 := tpG_at hD hk_4 rfl tk0
    have hFc := gfree hD hS hA
    refine W_led (fun hL0 => ?_)
    obtain ⟨k_7, fs_7, hk_7⟩ := gC_of o_r8_4
    refine va_callv (va_runV (As := [.ref b_3]) (rest := []) ⟨hx, hb, hml, hown, hts⟩ (m_X3_draw l g H ws r8_4 b_3 hG o_r8_4 o_b_3 tq_6 tq_5) (cwV 1 hts (gd_V kw_301 kw_873 kw_874 kw_401 kw_872) rfl rfl rfl (by decide +kernel) ⟨Nat.le_of_ble_eq_true rfl, Nat.le_of_ble_eq_true rfl⟩) ⟨gblindH, va_recv hK hP (ci := 3) (q0 := k_7) rfl hk_7, fun U hU hW9 => gmkH hU hW9 hP hK hD hex hE hS hFc⟩ rfl rfl hl.1 rfl (lv_room (Nat.le_of_ble_eq_true rfl)) dX12_blocks_18 ⟨(show 0 + (PC ws + (0)) ≤ PC ws + (0) from (by have e0 : (0 : Int32).toInt = 0 := (by decide); omega)), (show 0 + (PS ws + (0)) ≤ PS ws + (0) from (by have e0 : (0 : Int32).toInt = 0 := (by decide); omega))⟩) hS (fun q _ h => hFc q h) hFc (fun  ws_8 t9 H1 locs ht9 hvm9 hw9 hB9 hz9 hk9 hS => ?_)
    obtain ⟨E_9, Fr_10, hG, hP1, hD1, dc_11, ds_12, hLd, hdc_11, hds_12⟩ := hB9
    rw [ht9] at hLd
    refine W_tight (hL0.tr hLd).1 (hL0.tr hLd).2.1 ?_
    clear hL0 hLd
    have hP : va_P (gD g) cl0 ws_8 H1 := by rw [← ht9]; exact hP1
    have hD : va_D A ws_8 := hD1.weaken (fun _ _ _ h => hFc _ h)
    obtain ⟨hw9, xp_13, xp_14⟩ := hw9
    clear hP1 hD1 hz9 hk9 hvm9 ht9 hw9
    generalize H1 = H at hP hS ⊢
    have aa_15 := a_r3_4
    have o_h0 := E_9.1 _ _ o_h0
    have o_b_3 := E_9.1 _ _ o_b_3
    obtain ⟨fs9, hk_16, hq_16⟩ := ((gF.a (F' := [(3, 0), (3, 1), (3, 2), (3, 3), (3, 4), (3, 5), (3, 6), (3, 7), (3, 8), (3, 9), (3, 10), (3, 11), (3, 12), (3, 13), (3, 14), (3, 15)]) Fr_10 (fun _ h => h))) _ _ _ hk_4
    obtain ⟨r0_16, r1_16, r2_16, r3_16, n3_16, r4_16, r5_16, r6_16, r7_16, r8_16, r9_16, c10_16, c11_16, c12_16, c13_16, c14_16, c15_16, c16_16, c17_16, rfl, o_r0_16, o_r1_16, o_r2_16, a_r3_16, f4_16, o_r4_16, o_r5_16, o_r6_16, o_r7_16, o_r8_16, o_r9_16, f11_16, f12_16, f13_16, f14_16, f15_16, f16_16, f17_16, -⟩ := (hG.1 _ _ _ _ hk_16).hX12 rfl
    obtain rfl := fe_r (hq_16 8 (by decide))
    have o_r8_4 := o_r8_16
    obtain ⟨k_17, fs9, hk_17⟩ := gC_of o_r8_4
    obtain ⟨v0_17, c1_17, r2_17, n2_17, r3_17, n3_17, r4_17, n4_17, r5_17, n5_17, r6_17, n6_17, r7_17, n7_17, r8_17, n8_17, r9_17, n9_17, c10_17, r11_17, n11_17, r12_17, n12_17, r13_17, n13_17, r14_17, n14_17, r15_17, n15_17, rfl, o_v0_17, a_r2_17, f2_17, a_r3_17, f4_17, a_r4_17, f6_17, a_r5_17, f8_17, a_r6_17, f10_17, a_r7_17, f12_17, a_r8_17, f14_17, a_r9_17, f16_17, a_r11_17, f18_17, a_r12_17, f20_17, a_r13_17, f22_17, a_r14_17, f24_17, a_r15_17, f26_17, f27_17, f28_17, f29_17, f30_17, f31_17, f32_17, f33_17, f34_17, f35_17, f36_17, f37_17, f38_17, f39_17, f40_17, -⟩ := (hG.1 _ _ _ _ hk_17).hX3 rfl
    obtain ⟨b_18, hn9⟩ := xp_13 _ _ _ hk_17
    have hn9 := fe_qr hn9
    subst hn9
    have o_b_18 := o_v0_17 _ rfl
    have tq_19 : tpG ws_8 h0 := ⟨_, r8_4, _, hk_16, rfl, xp_14⟩
    refine lv_aload_n hx hb dX12_blocks_21 rfl (lv_at hl 1 rfl) ?_
    refine va_get (D := gD g) (ci := 11) (v := .ref r8_4) (C := RX12) (T := TX12) (N := 18) hx hb hts inX12 hown hK hP k_4 hk_16 rfl 8 (by decide) (hts _ kw_300) (fun _ h9 => h9) rfl dX12_blocks_22 ?_
    refine va_get (D := gD g) (ci := 3) (v := .int c1_17) (C := RX3) (T := TX3) (N := 16) hx hb hts inX3 hown hK hP k_17 hk_17 rfl 1 (by decide) (hts _ kw_306) (fun _ h9 => h9) rfl dX12_blocks_25 ?_
    refine W_led (fun hLd => ?_)
    have hcl : 0 + dc_11 + PC ws_8 ≤ PC ws + (0) := (by omega)
    have hsl : 0 + ds_12 + PS ws_8 ≤ PS ws + (0) := (by omega)
    refine W.widen (k := PC ws + (0)) (n := PS ws + (0)) (by omega) (by omega) ?_
    exact W.iret (v := c1_17) hx hb hr (fun t9 ht9 hW9 => ⟨⟨_, ws_8, rfl, ⟨trivial, tq_19⟩, ⟨E_9, Fr_10, hG, by rw [ht9]; exact hP, hD, _, _, by rw [ht9]; exact hLd, hcl, hsl⟩⟩, hS.F ht9⟩) hS.2.2 dX12_blocks_28
set_option maxHeartbeats 1000000 in
set_option maxRecDepth 100000 in
theorem m_X12_block (l : Launch) (g : Gm) (H0 : Heap) (ws : va_W) (h0 : Nat) (x1 : Int32) (x2 : Int32) (x3 : Int32) (x4 : Int32) (hG : Good g ws) (o_h0 : gC ws h0 11) (tk0 : tpG ws h0) (tk1 : tpR ws h0) : Met l yX12_block (wt yX12_block cX12_block 6 (some .int)) ({ frames := 5, cells := PC ws + (0), slots := PS ws + (0), locals := 131 }) (va_Pc [.ref h0, .int x1, .int x2, .int x3, .int x4] (st_H g H0 ws)) (va_Qi (fun (r : Int32) (u9 : va_W) => (True) ∧ (tpG u9 h0)) (gQ2 g [(3, 0), (3, 1), (3, 2), (3, 3), (3, 4), (3, 5), (3, 6), (3, 7), (3, 8), (3, 9), (3, 10), (3, 11), (3, 12), (3, 13), (3, 14), (3, 15)] [(3, 2), (3, 3), (3, 4), (3, 5), (3, 6), (3, 7), (3, 8), (3, 9), (3, 11), (3, 12), (3, 13), (3, 14), (3, 15)] none (va_A ws H0.size) ws H0 (0) (0)) (va_A ws H0.size)) (PC ws + (0)) (PS ws + (0)) (va_A ws H0.size) := by
  refine Met.ofW (cc := cX12_block) (maxL := 6) (ret := (some .int)) (by decide) rfl ?_
  intro p e s m args below meth c s₁ B hml hv
  obtain ⟨rfl, hH0, hsz, hP, hK, hD0, hex, hE⟩ := hv
  have hx := B.exec
  have hb := B.bytes
  have hr := B.returns
  have hts0 := atoms_spec (ws := wt yX12_block cX12_block 6 (some .int)) B.pre
  have hts : ∀ w ∈ tb, w.before _ s = true := fun w h => hts0 w (List.mem_cons_of_mem _ h)
  have hown : s.vm.findClass RX12 = some m.cls := findClass_of_methodNamed B.named
  subst hH0
  have hD := hD0.self (sz := s.heap.size)
  generalize hAe : va_A ws s.heap.size = A at hD hE ⊢
  have hA : ∀ q : Nat, s.heap.size ≤ q → A q := fun q h => by rw [← hAe]; exact Or.inr h
  have hS : va_S A s.heap s.heap [] := va_S.rf
  have hl := lv_entry ([.ref h0, .int x1, .int x2, .int x3, .int x4]) (n := 6) (Nat.le_of_ble_eq_true rfl)
  rw [lg_entry_eq]
  generalize (lg_sl ([.ref h0, .int x1, .int x2, .int x3, .int x4]) ++ List.replicate (6 - (lg_sl ([.ref h0, .int x1, .int x2, .int x3, .int x4])).length) Slot.unset).toArray = ls at hl ⊢
  have hl : lv_has ls 6 [(0, .ref h0), (1, .int x1), (2, .int x2), (3, .int x3), (4, .int x4)] := hl
  refine lv_aload_n hx hb dX12_block_0 rfl (lv_at hl 0 rfl) ?_
  refine lv_iload_n hx hb dX12_block_1 rfl (lv_at hl 1 rfl) ?_
  refine lv_iload_n hx hb dX12_block_2 rfl (lv_at hl 2 rfl) ?_
  have hFc := gfree hD hS hA
  obtain ⟨k_1, fs_1, hk_1⟩ := gC_of o_h0
  refine va_callq (va_runV (As := [.int x1, .int x2]) (rest := []) ⟨hx, hb, hml, hown, hts⟩ (m_X12_rowAt_x l g s.heap.size ws h0 (x1) (x2) hG o_h0) (cwV 2 hts (gd_V kw_299 kw_429 kw_430 kw_280 kw_428) rfl rfl rfl (by decide +kernel) ⟨Nat.le_of_ble_eq_true rfl, Nat.le_of_ble_eq_true rfl⟩) ⟨gblind, va_recv hK hP (ci := 11) (q0 := k_1) rfl hk_1, fun U hU hW9 => gmk hU hW9 hP hK hD hex hE hS hFc⟩ rfl rfl hl.1 rfl (lv_room (Nat.le_of_ble_eq_true rfl)) dX12_block_3 ⟨(show 0 + 0 ≤ PC ws + (0) from (by have e0 : (0 : Int32).toInt = 0 := (by decide); omega)), (show 0 + 0 ≤ PS ws + (0) from (by have e0 : (0 : Int32).toInt = 0 := (by decide); omega))⟩) hS (fun q _ h => hFc q h) hFc (fun r_2 u9 t9 H1 locs ht9 hvm9 hw9 hB9 hz9 hk9 hS => ?_)
  have hP : va_P (gD g) cl0 ws H1 := by rw [← ht9]; exact hB9.1
  obtain ⟨o_r_2, h_r_2⟩ := id hw9
  clear hB9 hz9 hk9 hvm9 ht9 hw9
  generalize H1 = H at hP hS ⊢
  rcases r_2 with _ | b_3
  · skip
    refine lv_astoreN (lv' := [(5, .null), (0, .ref h0), (1, .int x1), (2, .int x2), (3, .int x3), (4, .int x4)]) hx hb dX12_block_6 hl (by decide) rfl (fun ls hl => ?_)
    refine lv_aloadN hx hb dX12_block_8 (lv_at hl 0 rfl) ?_
    refine lv_ifnonnullN hx hb dX12_block_10 ?_
    refine lv_iconst (v := (-1)) hx hb dX12_block_13 (by decide) ?_
    refine W_led (fun hLd => ?_)
    have hcl : 0 + PC ws ≤ PC ws + (0) := (by have e0 : (0 : Int32).toInt = 0 := (by decide); omega)
    have hsl : 0 + PS ws ≤ PS ws + (0) := (by have e0 : (0 : Int32).toInt = 0 := (by decide); omega)
    refine W.widen (k := PC ws + (0)) (n := PS ws + (0)) (by omega) (by omega) ?_
    exact W.iret (v := (-1)) hx hb hr (fun t9 ht9 hW9 => ⟨⟨_, ws, rfl, ⟨trivial, tk0⟩, ⟨gE.rf, gF.rf, hG, by rw [ht9]; exact hP, hD, _, _, by rw [ht9]; exact hLd, hcl, hsl⟩⟩, hS.F ht9⟩) hS.2.2 dX12_block_14
  · have o_b_3 := o_r_2 _ rfl
    refine lv_astore (lv' := [(5, .ref b_3), (0, .ref h0), (1, .int x1), (2, .int x2), (3, .int x3), (4, .int x4)]) hx hb dX12_block_6 hl (by decide) rfl (fun ls hl => ?_)
    refine lv_aload hx hb dX12_block_8 (lv_at hl 0 rfl) ?_
    refine lv_ifnonnull (tgt := 15) hx hb dX12_block_10 (by decide) ?_
    refine lv_aload_n hx hb dX12_block_15 rfl (lv_at hl 1 rfl) ?_
    obtain ⟨k_4, fs9, hk_4⟩ := gC_of o_h0
    obtain ⟨r0_4, r1_4, r2_4, r3_4, n3_4, r4_4, r5_4, r6_4, r7_4, r8_4, r9_4, c10_4, c11_4, c12_4, c13_4, c14_4, c15_4, c16_4, c17_4, rfl, o_r0_4, o_r1_4, o_r2_4, a_r3_4, f4_4, o_r4_4, o_r5_4, o_r6_4, o_r7_4, o_r8_4, o_r9_4, f11_4, f12_4, f13_4, f14_4, f15_4, f16_4, f17_4, -⟩ := (hG.1 _ _ _ _ hk_4).hX12 rfl
    refine va_get (D := gD g) (ci := 11) (v := .ref r8_4) (C := RX12) (T := TX12) (N := 18) hx hb hts inX12 hown hK hP k_4 hk_4 rfl 8 (by decide) (hts _ kw_300) (fun _ h9 => h9) rfl dX12_block_16 ?_
    refine lv_aload hx hb dX12_block_19 (lv_at hl 0 rfl) ?_
    have tq_5 : rowC ws b_3 RV := tpR_row hD tk1 (h_r_2 _ rfl)
    have tq_6 : grR ws r8_4 := tpG_at hD hk_4 rfl tk0
    have hFc := gfree hD hS hA
    refine W_led (fun hL0 => ?_)
    obtain ⟨k_7, fs_7, hk_7⟩ := gC_of o_r8_4
    refine va_callv (va_runV (As := [.ref b_3]) (rest := []) ⟨hx, hb, hml, hown, hts⟩ (m_X3_draw l g H ws r8_4 b_3 hG o_r8_4 o_b_3 tq_6 tq_5) (cwV 1 hts (gd_V kw_301 kw_873 kw_874 kw_401 kw_872) rfl rfl rfl (by decide +kernel) ⟨Nat.le_of_ble_eq_true rfl, Nat.le_of_ble_eq_true rfl⟩) ⟨gblindH, va_recv hK hP (ci := 3) (q0 := k_7) rfl hk_7, fun U hU hW9 => gmkH hU hW9 hP hK hD hex hE hS hFc⟩ rfl rfl hl.1 rfl (lv_room (Nat.le_of_ble_eq_true rfl)) dX12_block_21 ⟨(show 0 + (PC ws + (0)) ≤ PC ws + (0) from (by have e0 : (0 : Int32).toInt = 0 := (by decide); omega)), (show 0 + (PS ws + (0)) ≤ PS ws + (0) from (by have e0 : (0 : Int32).toInt = 0 := (by decide); omega))⟩) hS (fun q _ h => hFc q h) hFc (fun  ws_8 t9 H1 locs ht9 hvm9 hw9 hB9 hz9 hk9 hS => ?_)
    obtain ⟨E_9, Fr_10, hG, hP1, hD1, dc_11, ds_12, hLd, hdc_11, hds_12⟩ := hB9
    rw [ht9] at hLd
    refine W_tight (hL0.tr hLd).1 (hL0.tr hLd).2.1 ?_
    clear hL0 hLd
    have hP : va_P (gD g) cl0 ws_8 H1 := by rw [← ht9]; exact hP1
    have hD : va_D A ws_8 := hD1.weaken (fun _ _ _ h => hFc _ h)
    obtain ⟨hw9, xp_13, xp_14⟩ := hw9
    clear hP1 hD1 hz9 hk9 hvm9 ht9 hw9
    generalize H1 = H at hP hS ⊢
    have aa_15 := a_r3_4
    have o_h0 := E_9.1 _ _ o_h0
    have o_b_3 := E_9.1 _ _ o_b_3
    obtain ⟨fs9, hk_16, hq_16⟩ := ((gF.a (F' := [(3, 0), (3, 1), (3, 2), (3, 3), (3, 4), (3, 5), (3, 6), (3, 7), (3, 8), (3, 9), (3, 10), (3, 11), (3, 12), (3, 13), (3, 14), (3, 15)]) Fr_10 (fun _ h => h))) _ _ _ hk_4
    obtain ⟨r0_16, r1_16, r2_16, r3_16, n3_16, r4_16, r5_16, r6_16, r7_16, r8_16, r9_16, c10_16, c11_16, c12_16, c13_16, c14_16, c15_16, c16_16, c17_16, rfl, o_r0_16, o_r1_16, o_r2_16, a_r3_16, f4_16, o_r4_16, o_r5_16, o_r6_16, o_r7_16, o_r8_16, o_r9_16, f11_16, f12_16, f13_16, f14_16, f15_16, f16_16, f17_16, -⟩ := (hG.1 _ _ _ _ hk_16).hX12 rfl
    obtain rfl := fe_r (hq_16 8 (by decide))
    have o_r8_4 := o_r8_16
    obtain ⟨k_17, fs9, hk_17⟩ := gC_of o_r8_4
    obtain ⟨v0_17, c1_17, r2_17, n2_17, r3_17, n3_17, r4_17, n4_17, r5_17, n5_17, r6_17, n6_17, r7_17, n7_17, r8_17, n8_17, r9_17, n9_17, c10_17, r11_17, n11_17, r12_17, n12_17, r13_17, n13_17, r14_17, n14_17, r15_17, n15_17, rfl, o_v0_17, a_r2_17, f2_17, a_r3_17, f4_17, a_r4_17, f6_17, a_r5_17, f8_17, a_r6_17, f10_17, a_r7_17, f12_17, a_r8_17, f14_17, a_r9_17, f16_17, a_r11_17, f18_17, a_r12_17, f20_17, a_r13_17, f22_17, a_r14_17, f24_17, a_r15_17, f26_17, f27_17, f28_17, f29_17, f30_17, f31_17, f32_17, f33_17, f34_17, f35_17, f36_17, f37_17, f38_17, f39_17, f40_17, -⟩ := (hG.1 _ _ _ _ hk_17).hX3 rfl
    obtain ⟨b_18, hn9⟩ := xp_13 _ _ _ hk_17
    have hn9 := fe_qr hn9
    subst hn9
    have o_b_18 := o_v0_17 _ rfl
    have tq_19 : tpG ws_8 h0 := ⟨_, r8_4, _, hk_16, rfl, xp_14⟩
    refine lv_aload_n hx hb dX12_block_24 rfl (lv_at hl 1 rfl) ?_
    refine va_get (D := gD g) (ci := 11) (v := .ref r8_4) (C := RX12) (T := TX12) (N := 18) hx hb hts inX12 hown hK hP k_4 hk_16 rfl 8 (by decide) (hts _ kw_300) (fun _ h9 => h9) rfl dX12_block_25 ?_
    refine lv_iload_n hx hb dX12_block_28 rfl (lv_at hl 4 rfl) ?_
    refine lv_iload hx hb dX12_block_29 (lv_at hl 5 rfl) ?_
    have hFc := gfree hD hS hA
    refine va_calli (va_runV (As := [.int x3, .int x4]) (rest := []) ⟨hx, hb, hml, hown, hts⟩ (m_X3_tell l g H.size ws_8 r8_4 (x3) (x4) hG o_r8_4 xp_14) (cwV 2 hts (gd_V kw_302 kw_949 kw_950 kw_401 kw_948) rfl rfl rfl (by decide +kernel) ⟨Nat.le_of_ble_eq_true rfl, Nat.le_of_ble_eq_true rfl⟩) ⟨gblind, va_recv hK hP (ci := 3) (q0 := k_17) rfl hk_17, fun U hU hW9 => gmk hU hW9 hP hK hD hex hE hS hFc⟩ rfl rfl hl.1 rfl (lv_room (Nat.le_of_ble_eq_true rfl)) dX12_block_31 ⟨(show 0 + dc_11 + 0 ≤ PC ws + (0) from (by omega)), (show 0 + ds_12 + 0 ≤ PS ws + (0) from (by omega))⟩) hS (fun q _ h => hFc q h) hFc (fun r_20 u9 t9 H1 locs ht9 hvm9 hw9 hB9 hz9 hk9 hS => ?_)
    have hP : va_P (gD g) cl0 ws_8 H1 := by rw [← ht9]; exact hB9.1
    clear hB9 hz9 hk9 hvm9 ht9 hw9
    generalize H1 = H at hP hS ⊢
    refine W_led (fun hLd => ?_)
    have hcl : 0 + dc_11 + PC ws_8 ≤ PC ws + (0) := (by omega)
    have hsl : 0 + ds_12 + PS ws_8 ≤ PS ws + (0) := (by omega)
    refine W.widen (k := PC ws + (0)) (n := PS ws + (0)) (by omega) (by omega) ?_
    exact W.iret (v := r_20) hx hb hr (fun t9 ht9 hW9 => ⟨⟨_, ws_8, rfl, ⟨trivial, tq_19⟩, ⟨E_9, Fr_10, hG, by rw [ht9]; exact hP, hD, _, _, by rw [ht9]; exact hLd, hcl, hsl⟩⟩, hS.F ht9⟩) hS.2.2 dX12_block_34
set_option maxHeartbeats 1000000 in
set_option maxRecDepth 100000 in
theorem m_X12_edge (l : Launch) (g : Gm) (H0 : Heap) (ws : va_W) (h0 : Nat) (x1 : Int32) (x2 : Int32) (x3 : Int32) (x4 : Int32) (hG : Good g ws) (o_h0 : gC ws h0 11) (tk0 : tpG ws h0) (tk1 : tpR ws h0) : Met l yX12_edge (wt yX12_edge cX12_edge 6 (some .boolean)) ({ frames := 5, cells := PC ws + (0), slots := PS ws + (0), locals := 131 }) (va_Pc [.ref h0, .int x1, .int x2, .int x3, .int x4] (st_H g H0 ws)) (va_Qi (fun (r : Int32) (u9 : va_W) => (r = 0 ∨ r = 1) ∧ (tpG u9 h0)) (gQ2 g [(3, 0), (3, 1), (3, 2), (3, 3), (3, 4), (3, 5), (3, 6), (3, 7), (3, 8), (3, 9), (3, 10), (3, 11), (3, 12), (3, 13), (3, 14), (3, 15)] [(3, 2), (3, 3), (3, 4), (3, 5), (3, 6), (3, 7), (3, 8), (3, 9), (3, 11), (3, 12), (3, 13), (3, 14), (3, 15)] none (va_A ws H0.size) ws H0 (0) (0)) (va_A ws H0.size)) (PC ws + (0)) (PS ws + (0)) (va_A ws H0.size) := by
  refine Met.ofW (cc := cX12_edge) (maxL := 6) (ret := (some .boolean)) (by decide) rfl ?_
  intro p e s m args below meth c s₁ B hml hv
  obtain ⟨rfl, hH0, hsz, hP, hK, hD0, hex, hE⟩ := hv
  have hx := B.exec
  have hb := B.bytes
  have hr := B.returns
  have hts0 := atoms_spec (ws := wt yX12_edge cX12_edge 6 (some .boolean)) B.pre
  have hts : ∀ w ∈ tb, w.before _ s = true := fun w h => hts0 w (List.mem_cons_of_mem _ h)
  have hown : s.vm.findClass RX12 = some m.cls := findClass_of_methodNamed B.named
  subst hH0
  have hD := hD0.self (sz := s.heap.size)
  generalize hAe : va_A ws s.heap.size = A at hD hE ⊢
  have hA : ∀ q : Nat, s.heap.size ≤ q → A q := fun q h => by rw [← hAe]; exact Or.inr h
  have hS : va_S A s.heap s.heap [] := va_S.rf
  have hl := lv_entry ([.ref h0, .int x1, .int x2, .int x3, .int x4]) (n := 6) (Nat.le_of_ble_eq_true rfl)
  rw [lg_entry_eq]
  generalize (lg_sl ([.ref h0, .int x1, .int x2, .int x3, .int x4]) ++ List.replicate (6 - (lg_sl ([.ref h0, .int x1, .int x2, .int x3, .int x4])).length) Slot.unset).toArray = ls at hl ⊢
  have hl : lv_has ls 6 [(0, .ref h0), (1, .int x1), (2, .int x2), (3, .int x3), (4, .int x4)] := hl
  refine lv_aload_n hx hb dX12_edge_0 rfl (lv_at hl 0 rfl) ?_
  refine lv_iload_n hx hb dX12_edge_1 rfl (lv_at hl 1 rfl) ?_
  refine lv_iload_n hx hb dX12_edge_2 rfl (lv_at hl 2 rfl) ?_
  have hFc := gfree hD hS hA
  obtain ⟨k_1, fs_1, hk_1⟩ := gC_of o_h0
  refine va_callq (va_runV (As := [.int x1, .int x2]) (rest := []) ⟨hx, hb, hml, hown, hts⟩ (m_X12_rowAt_x l g s.heap.size ws h0 (x1) (x2) hG o_h0) (cwV 2 hts (gd_V kw_299 kw_429 kw_430 kw_280 kw_428) rfl rfl rfl (by decide +kernel) ⟨Nat.le_of_ble_eq_true rfl, Nat.le_of_ble_eq_true rfl⟩) ⟨gblind, va_recv hK hP (ci := 11) (q0 := k_1) rfl hk_1, fun U hU hW9 => gmk hU hW9 hP hK hD hex hE hS hFc⟩ rfl rfl hl.1 rfl (lv_room (Nat.le_of_ble_eq_true rfl)) dX12_edge_3 ⟨(show 0 + 0 ≤ PC ws + (0) from (by have e0 : (0 : Int32).toInt = 0 := (by decide); omega)), (show 0 + 0 ≤ PS ws + (0) from (by have e0 : (0 : Int32).toInt = 0 := (by decide); omega))⟩) hS (fun q _ h => hFc q h) hFc (fun r_2 u9 t9 H1 locs ht9 hvm9 hw9 hB9 hz9 hk9 hS => ?_)
  have hP : va_P (gD g) cl0 ws H1 := by rw [← ht9]; exact hB9.1
  obtain ⟨o_r_2, h_r_2⟩ := id hw9
  clear hB9 hz9 hk9 hvm9 ht9 hw9
  generalize H1 = H at hP hS ⊢
  rcases r_2 with _ | b_3
  · skip
    refine lv_astoreN (lv' := [(5, .null), (0, .ref h0), (1, .int x1), (2, .int x2), (3, .int x3), (4, .int x4)]) hx hb dX12_edge_6 hl (by decide) rfl (fun ls hl => ?_)
    refine lv_aloadN hx hb dX12_edge_8 (lv_at hl 0 rfl) ?_
    refine lv_ifnonnullN hx hb dX12_edge_10 ?_
    refine lv_iconst (v := 0) hx hb dX12_edge_13 (by decide) ?_
    refine W_led (fun hLd => ?_)
    have hcl : 0 + PC ws ≤ PC ws + (0) := (by have e0 : (0 : Int32).toInt = 0 := (by decide); omega)
    have hsl : 0 + PS ws ≤ PS ws + (0) := (by have e0 : (0 : Int32).toInt = 0 := (by decide); omega)
    refine W.widen (k := PC ws + (0)) (n := PS ws + (0)) (by omega) (by omega) ?_
    exact W.zret (v := 0) hx hb hr (nz (Or.inl rfl)) (fun t9 ht9 hW9 => ⟨⟨_, ws, rfl, ⟨(Or.inl rfl), tk0⟩, ⟨gE.rf, gF.rf, hG, by rw [ht9]; exact hP, hD, _, _, by rw [ht9]; exact hLd, hcl, hsl⟩⟩, hS.F ht9⟩) hS.2.2 dX12_edge_14
  · have o_b_3 := o_r_2 _ rfl
    refine lv_astore (lv' := [(5, .ref b_3), (0, .ref h0), (1, .int x1), (2, .int x2), (3, .int x3), (4, .int x4)]) hx hb dX12_edge_6 hl (by decide) rfl (fun ls hl => ?_)
    refine lv_aload hx hb dX12_edge_8 (lv_at hl 0 rfl) ?_
    refine lv_ifnonnull (tgt := 15) hx hb dX12_edge_10 (by decide) ?_
    refine lv_aload_n hx hb dX12_edge_15 rfl (lv_at hl 1 rfl) ?_
    obtain ⟨k_4, fs9, hk_4⟩ := gC_of o_h0
    obtain ⟨r0_4, r1_4, r2_4, r3_4, n3_4, r4_4, r5_4, r6_4, r7_4, r8_4, r9_4, c10_4, c11_4, c12_4, c13_4, c14_4, c15_4, c16_4, c17_4, rfl, o_r0_4, o_r1_4, o_r2_4, a_r3_4, f4_4, o_r4_4, o_r5_4, o_r6_4, o_r7_4, o_r8_4, o_r9_4, f11_4, f12_4, f13_4, f14_4, f15_4, f16_4, f17_4, -⟩ := (hG.1 _ _ _ _ hk_4).hX12 rfl
    refine va_get (D := gD g) (ci := 11) (v := .ref r8_4) (C := RX12) (T := TX12) (N := 18) hx hb hts inX12 hown hK hP k_4 hk_4 rfl 8 (by decide) (hts _ kw_300) (fun _ h9 => h9) rfl dX12_edge_16 ?_
    refine lv_aload hx hb dX12_edge_19 (lv_at hl 0 rfl) ?_
    have tq_5 : rowC ws b_3 RV := tpR_row hD tk1 (h_r_2 _ rfl)
    have tq_6 : grR ws r8_4 := tpG_at hD hk_4 rfl tk0
    have hFc := gfree hD hS hA
    refine W_led (fun hL0 => ?_)
    obtain ⟨k_7, fs_7, hk_7⟩ := gC_of o_r8_4
    refine va_callv (va_runV (As := [.ref b_3]) (rest := []) ⟨hx, hb, hml, hown, hts⟩ (m_X3_draw l g H ws r8_4 b_3 hG o_r8_4 o_b_3 tq_6 tq_5) (cwV 1 hts (gd_V kw_301 kw_873 kw_874 kw_401 kw_872) rfl rfl rfl (by decide +kernel) ⟨Nat.le_of_ble_eq_true rfl, Nat.le_of_ble_eq_true rfl⟩) ⟨gblindH, va_recv hK hP (ci := 3) (q0 := k_7) rfl hk_7, fun U hU hW9 => gmkH hU hW9 hP hK hD hex hE hS hFc⟩ rfl rfl hl.1 rfl (lv_room (Nat.le_of_ble_eq_true rfl)) dX12_edge_21 ⟨(show 0 + (PC ws + (0)) ≤ PC ws + (0) from (by have e0 : (0 : Int32).toInt = 0 := (by decide); omega)), (show 0 + (PS ws + (0)) ≤ PS ws + (0) from (by have e0 : (0 : Int32).toInt = 0 := (by decide); omega))⟩) hS (fun q _ h => hFc q h) hFc (fun  ws_8 t9 H1 locs ht9 hvm9 hw9 hB9 hz9 hk9 hS => ?_)
    obtain ⟨E_9, Fr_10, hG, hP1, hD1, dc_11, ds_12, hLd, hdc_11, hds_12⟩ := hB9
    rw [ht9] at hLd
    refine W_tight (hL0.tr hLd).1 (hL0.tr hLd).2.1 ?_
    clear hL0 hLd
    have hP : va_P (gD g) cl0 ws_8 H1 := by rw [← ht9]; exact hP1
    have hD : va_D A ws_8 := hD1.weaken (fun _ _ _ h => hFc _ h)
    obtain ⟨hw9, xp_13, xp_14⟩ := hw9
    clear hP1 hD1 hz9 hk9 hvm9 ht9 hw9
    generalize H1 = H at hP hS ⊢
    have aa_15 := a_r3_4
    have o_h0 := E_9.1 _ _ o_h0
    have o_b_3 := E_9.1 _ _ o_b_3
    obtain ⟨fs9, hk_16, hq_16⟩ := ((gF.a (F' := [(3, 0), (3, 1), (3, 2), (3, 3), (3, 4), (3, 5), (3, 6), (3, 7), (3, 8), (3, 9), (3, 10), (3, 11), (3, 12), (3, 13), (3, 14), (3, 15)]) Fr_10 (fun _ h => h))) _ _ _ hk_4
    obtain ⟨r0_16, r1_16, r2_16, r3_16, n3_16, r4_16, r5_16, r6_16, r7_16, r8_16, r9_16, c10_16, c11_16, c12_16, c13_16, c14_16, c15_16, c16_16, c17_16, rfl, o_r0_16, o_r1_16, o_r2_16, a_r3_16, f4_16, o_r4_16, o_r5_16, o_r6_16, o_r7_16, o_r8_16, o_r9_16, f11_16, f12_16, f13_16, f14_16, f15_16, f16_16, f17_16, -⟩ := (hG.1 _ _ _ _ hk_16).hX12 rfl
    obtain rfl := fe_r (hq_16 8 (by decide))
    have o_r8_4 := o_r8_16
    obtain ⟨k_17, fs9, hk_17⟩ := gC_of o_r8_4
    obtain ⟨v0_17, c1_17, r2_17, n2_17, r3_17, n3_17, r4_17, n4_17, r5_17, n5_17, r6_17, n6_17, r7_17, n7_17, r8_17, n8_17, r9_17, n9_17, c10_17, r11_17, n11_17, r12_17, n12_17, r13_17, n13_17, r14_17, n14_17, r15_17, n15_17, rfl, o_v0_17, a_r2_17, f2_17, a_r3_17, f4_17, a_r4_17, f6_17, a_r5_17, f8_17, a_r6_17, f10_17, a_r7_17, f12_17, a_r8_17, f14_17, a_r9_17, f16_17, a_r11_17, f18_17, a_r12_17, f20_17, a_r13_17, f22_17, a_r14_17, f24_17, a_r15_17, f26_17, f27_17, f28_17, f29_17, f30_17, f31_17, f32_17, f33_17, f34_17, f35_17, f36_17, f37_17, f38_17, f39_17, f40_17, -⟩ := (hG.1 _ _ _ _ hk_17).hX3 rfl
    obtain ⟨b_18, hn9⟩ := xp_13 _ _ _ hk_17
    have hn9 := fe_qr hn9
    subst hn9
    have o_b_18 := o_v0_17 _ rfl
    have tq_19 : tpG ws_8 h0 := ⟨_, r8_4, _, hk_16, rfl, xp_14⟩
    refine lv_aload_n hx hb dX12_edge_24 rfl (lv_at hl 1 rfl) ?_
    refine va_get (D := gD g) (ci := 11) (v := .ref r8_4) (C := RX12) (T := TX12) (N := 18) hx hb hts inX12 hown hK hP k_4 hk_16 rfl 8 (by decide) (hts _ kw_300) (fun _ h9 => h9) rfl dX12_edge_25 ?_
    refine lv_iload_n hx hb dX12_edge_28 rfl (lv_at hl 4 rfl) ?_
    refine lv_iload hx hb dX12_edge_29 (lv_at hl 5 rfl) ?_
    have hFc := gfree hD hS hA
    refine va_calli (va_runV (As := [.int x3, .int x4]) (rest := []) ⟨hx, hb, hml, hown, hts⟩ (m_X3_hasEdge l g H.size ws_8 r8_4 (x3) (x4) hG o_r8_4 xp_14) (cwV 2 hts (gd_V kw_341 kw_924 kw_925 kw_401 kw_923) rfl rfl rfl (by decide +kernel) ⟨Nat.le_of_ble_eq_true rfl, Nat.le_of_ble_eq_true rfl⟩) ⟨gblind, va_recv hK hP (ci := 3) (q0 := k_17) rfl hk_17, fun U hU hW9 => gmk hU hW9 hP hK hD hex hE hS hFc⟩ rfl rfl hl.1 rfl (lv_room (Nat.le_of_ble_eq_true rfl)) dX12_edge_31 ⟨(show 0 + dc_11 + 0 ≤ PC ws + (0) from (by omega)), (show 0 + ds_12 + 0 ≤ PS ws + (0) from (by omega))⟩) hS (fun q _ h => hFc q h) hFc (fun r_20 u9 t9 H1 locs ht9 hvm9 hw9 hB9 hz9 hk9 hS => ?_)
    have hP : va_P (gD g) cl0 ws_8 H1 := by rw [← ht9]; exact hB9.1
    have hz_r_20 : r_20 = 0 ∨ r_20 = 1 := hw9
    clear hB9 hz9 hk9 hvm9 ht9 hw9
    generalize H1 = H at hP hS ⊢
    refine W_led (fun hLd => ?_)
    have hcl : 0 + dc_11 + PC ws_8 ≤ PC ws + (0) := (by omega)
    have hsl : 0 + ds_12 + PS ws_8 ≤ PS ws + (0) := (by omega)
    refine W.widen (k := PC ws + (0)) (n := PS ws + (0)) (by omega) (by omega) ?_
    exact W.zret (v := r_20) hx hb hr (nz hz_r_20) (fun t9 ht9 hW9 => ⟨⟨_, ws_8, rfl, ⟨hz_r_20, tq_19⟩, ⟨E_9, Fr_10, hG, by rw [ht9]; exact hP, hD, _, _, by rw [ht9]; exact hLd, hcl, hsl⟩⟩, hS.F ht9⟩) hS.2.2 dX12_edge_34
set_option maxHeartbeats 1000000 in
set_option maxRecDepth 100000 in
theorem m_X12_countersOf (l : Launch) (g : Gm) (H0 : Heap) (ws : va_W) (h0 : Nat) (b1 : Nat) (hG : Good g ws) (o_h0 : gC ws h0 11) (o_b1 : gC ws b1 9) (F_b1 : full ws b1) (tk0 : tpG ws h0) (tk1 : rvM ws b1) : Met l yX12_countersOf (wt yX12_countersOf cX12_countersOf 4 (some .int)) ({ frames := 5, cells := PC ws + (0), slots := PS ws + (0), locals := 131 }) (va_Pc [.ref h0, .ref b1] (st_H g H0 ws)) (va_Qi (fun (r : Int32) (u9 : va_W) => (True) ∧ (tpG u9 h0)) (gQ2 g [(3, 0), (3, 1), (3, 2), (3, 3), (3, 4), (3, 5), (3, 6), (3, 7), (3, 8), (3, 9), (3, 10), (3, 11), (3, 12), (3, 13), (3, 14), (3, 15)] [(3, 2), (3, 3), (3, 4), (3, 5), (3, 6), (3, 7), (3, 8), (3, 9), (3, 11), (3, 12), (3, 13), (3, 14), (3, 15)] none (va_A ws H0.size) ws H0 (0) (0)) (va_A ws H0.size)) (PC ws + (0)) (PS ws + (0)) (va_A ws H0.size) := by
  refine Met.ofW (cc := cX12_countersOf) (maxL := 4) (ret := (some .int)) (by decide) rfl ?_
  intro p e s m args below meth c s₁ B hml hv
  obtain ⟨rfl, hH0, hsz, hP, hK, hD0, hex, hE⟩ := hv
  have hx := B.exec
  have hb := B.bytes
  have hr := B.returns
  have hts0 := atoms_spec (ws := wt yX12_countersOf cX12_countersOf 4 (some .int)) B.pre
  have hts : ∀ w ∈ tb, w.before _ s = true := fun w h => hts0 w (List.mem_cons_of_mem _ h)
  have hown : s.vm.findClass RX12 = some m.cls := findClass_of_methodNamed B.named
  subst hH0
  have hD := hD0.self (sz := s.heap.size)
  generalize hAe : va_A ws s.heap.size = A at hD hE ⊢
  have hA : ∀ q : Nat, s.heap.size ≤ q → A q := fun q h => by rw [← hAe]; exact Or.inr h
  have hS : va_S A s.heap s.heap [] := va_S.rf
  have hl := lv_entry ([.ref h0, .ref b1]) (n := 4) (Nat.le_of_ble_eq_true rfl)
  rw [lg_entry_eq]
  generalize (lg_sl ([.ref h0, .ref b1]) ++ List.replicate (4 - (lg_sl ([.ref h0, .ref b1])).length) Slot.unset).toArray = ls at hl ⊢
  have hl : lv_has ls 4 [(0, .ref h0), (1, .ref b1)] := hl
  refine lv_iconst (v := 0) hx hb dX12_countersOf_0 (by decide) ?_
  refine lv_istore_n (lv' := [(2, .int 0), (0, .ref h0), (1, .ref b1)]) hx hb dX12_countersOf_1 rfl hl (by decide) rfl (fun ls hl => ?_)
  refine lv_iconst (v := 0) hx hb dX12_countersOf_2 (by decide) ?_
  refine lv_istore_n (lv' := [(3, .int 0), (2, .int 0), (0, .ref h0), (1, .ref b1)]) hx hb dX12_countersOf_3 rfl hl (by decide) rfl (fun ls hl => ?_)
  have J_4 : ∀ (n9 : Nat) (v2_1 : Int32) (v3_2 : Int32) (dc_4_1 : Nat) (ds_4_1 : Nat) (ws_4 : va_W) (H : Heap) (locs : List Loc) (ls : Array Slot), (2147483647 - v3_2.toInt).toNat = n9 → 0 ≤ v3_2.toInt → gE ws ws_4 → gF [(3, 0), (3, 1), (3, 2), (3, 3), (3, 4), (3, 5), (3, 6), (3, 7), (3, 8), (3, 9), (3, 10), (3, 11), (3, 12), (3, 13), (3, 14), (3, 15)] [(3, 2), (3, 3), (3, 4), (3, 5), (3, 6), (3, 7), (3, 8), (3, 9), (3, 11), (3, 12), (3, 13), (3, 14), (3, 15)] none ws ws_4 → Good g ws_4 → dc_4_1 + PC ws_4 ≤ PC ws + (0) → ds_4_1 + PS ws_4 ≤ PS ws + (0) → tpG ws_4 h0 → va_P (gD g) cl0 ws_4 H → va_D A ws_4 → va_S A s.heap H locs → lv_has ls 4 [(0, .ref h0), (1, .ref b1), (2, .int v2_1), (3, .int v3_2)] → W p l e (headSpec (wt yX12_countersOf cX12_countersOf 4 (some .int)) ({ frames := 5, cells := PC ws + (0), slots := PS ws + (0), locals := 131 })).room s m ([.ref h0, .ref b1] : List Value).toArray below meth c H locs (dc_4_1) (ds_4_1) (MQ below (va_Qi (fun (r : Int32) (u9 : va_W) => (True) ∧ (tpG u9 h0)) (gQ2 g [(3, 0), (3, 1), (3, 2), (3, 3), (3, 4), (3, 5), (3, 6), (3, 7), (3, 8), (3, 9), (3, 10), (3, 11), (3, 12), (3, 13), (3, 14), (3, 15)] [(3, 2), (3, 3), (3, 4), (3, 5), (3, 6), (3, 7), (3, 8), (3, 9), (3, 11), (3, 12), (3, 13), (3, 14), (3, 15)] none A ws s.heap (0) (0)) A) ([.ref h0, .ref b1] : List Value).toArray s (PC ws + (0)) (PS ws + (0)) A) (F0 m 4 ls []) := by
    intro n9
    induction n9 using Nat.strongRecOn with
    | ind n9 ih_4 =>
      intro v2_1 v3_2 dc_4_1 ds_4_1 ws_4 H locs ls hm9 iv_3 E_5 Fr_6 hG hc9 hs9 jx_4_0 hP hD hS hl
      subst hm9
      have o_h0 := E_5.1 _ _ o_h0
      have o_b1 := E_5.1 _ _ o_b1
      have F_b1 := F_b1.mo E_5
      refine lv_iload_n hx hb dX12_countersOf_4 rfl (lv_at hl 3 rfl) ?_
      refine lv_aload_n hx hb dX12_countersOf_5 rfl (lv_at hl 1 rfl) ?_
      obtain ⟨k_7, fs9, hk_7⟩ := gC_of o_b1
      obtain ⟨r0_7, n0_7, c1_7, c2_7, c3_7, c4_7, r5_7, n5_7, r6_7, n6_7, r7_7, n7_7, c8_7, r9_7, n9_7, r10_7, n10_7, r11_7, n11_7, r12_7, n12_7, r13_7, n13_7, c14_7, c15_7, c16_7, c17_7, rfl, a_r0_7, f1_7, a_r5_7, f3_7, a_r6_7, f5_7, a_r7_7, f7_7, a_r9_7, f9_7, a_r10_7, f11_7, a_r11_7, f13_7, a_r12_7, f15_7, a_r13_7, f17_7, hz_c15_7, f19_7, f20_7, f21_7, f22_7, f23_7, f24_7, f25_7, f26_7, f27_7, f28_7, -⟩ := (hG.1 _ _ _ _ hk_7).hX10 rfl
      refine va_get (D := gD g) (ci := 9) (v := .int c8_7) (C := RX10) (T := TX10) (N := 18) hx hb hts inX10 hown hK hP k_7 hk_7 rfl 8 (by decide) (hts _ kw_323) (fun _ h9 => h9) rfl dX12_countersOf_6 ?_
      refine lv_icmp_ge (tgt := 40) hx hb dX12_countersOf_9 (by decide) (fun c_8 => ?_) (fun c_8 => ?_)
      · refine lv_iload_n hx hb dX12_countersOf_40 rfl (lv_at hl 2 rfl) ?_
        refine W_led (fun hLd => ?_)
        have hcl : dc_4_1 + PC ws_4 ≤ PC ws + (0) := (by omega)
        have hsl : ds_4_1 + PS ws_4 ≤ PS ws + (0) := (by omega)
        refine W.widen (k := PC ws + (0)) (n := PS ws + (0)) (by omega) (by omega) ?_
        exact W.iret (v := v2_1) hx hb hr (fun t9 ht9 hW9 => ⟨⟨_, ws_4, rfl, ⟨trivial, jx_4_0⟩, ⟨E_5, Fr_6, hG, by rw [ht9]; exact hP, hD, _, _, by rw [ht9]; exact hLd, hcl, hsl⟩⟩, hS.F ht9⟩) hS.2.2 dX12_countersOf_41
      · refine lv_aload_n hx hb dX12_countersOf_12 rfl (lv_at hl 0 rfl) ?_
        obtain ⟨k_9, fs9, hk_9⟩ := gC_of o_h0
        obtain ⟨r0_9, r1_9, r2_9, r3_9, n3_9, r4_9, r5_9, r6_9, r7_9, r8_9, r9_9, c10_9, c11_9, c12_9, c13_9, c14_9, c15_9, c16_9, c17_9, rfl, o_r0_9, o_r1_9, o_r2_9, a_r3_9, f4_9, o_r4_9, o_r5_9, o_r6_9, o_r7_9, o_r8_9, o_r9_9, f11_9, f12_9, f13_9, f14_9, f15_9, f16_9, f17_9, -⟩ := (hG.1 _ _ _ _ hk_9).hX12 rfl
        refine va_get (D := gD g) (ci := 11) (v := .ref r8_9) (C := RX12) (T := TX12) (N := 18) hx hb hts inX12 hown hK hP k_9 hk_9 rfl 8 (by decide) (hts _ kw_300) (fun _ h9 => h9) rfl dX12_countersOf_13 ?_
        refine lv_aload_n hx hb dX12_countersOf_16 rfl (lv_at hl 1 rfl) ?_
        refine lv_iload_n hx hb dX12_countersOf_17 rfl (lv_at hl 3 rfl) ?_
        have hFc := gfree hD hS hA
        refine va_callq (va_runV (As := [.int v3_2]) (rest := [.ref r8_9]) ⟨hx, hb, hml, hown, hts⟩ (m_X10_rowAt l g H.size ws_4 b1 (v3_2) hG o_b1) (cwV 1 hts (gd_V kw_324 kw_70 kw_71 kw_34 kw_69) rfl rfl rfl (by decide +kernel) ⟨Nat.le_of_ble_eq_true rfl, Nat.le_of_ble_eq_true rfl⟩) ⟨gblind, va_recv hK hP (ci := 9) (q0 := k_7) rfl hk_7, fun U hU hW9 => gmk hU hW9 hP hK hD hex hE hS hFc⟩ rfl rfl hl.1 rfl (lv_room (Nat.le_of_ble_eq_true rfl)) dX12_countersOf_18 ⟨(show dc_4_1 + 0 ≤ PC ws + (0) from (by omega)), (show ds_4_1 + 0 ≤ PS ws + (0) from (by omega))⟩) hS (fun q _ h => hFc q h) hFc (fun r_10 u9 t9 H1 locs ht9 hvm9 hw9 hB9 hz9 hk9 hS => ?_)
        have hP : va_P (gD g) cl0 ws_4 H1 := by rw [← ht9]; exact hB9.1
        obtain ⟨o_r_10, h_r_10⟩ := id hw9
        clear hB9 hz9 hk9 hvm9 ht9 hw9
        generalize H1 = H at hP hS ⊢
        have hM9 : inM ws_4 b1 v3_2 := ⟨_, _, _, hk_7, rfl, (by have q_iv_3 := iv_3; have q_f22_7 := f22_7; have q_c_8 := i_nle c_8; have q_f9_7 := f9_7; have q_f23_7 := f23_7; have q_f24_7 := f24_7; have q_f25_7 := f25_7; have q_f26_7 := f26_7; have q_f27_7 := f27_7; have q_f11_7 := f11_7; have q_f13_7 := f13_7; have q_f15_7 := f15_7; have q_f17_7 := f17_7; have g_c8_7 := i_rg c8_7; have g_v3_2 := i_rg v3_2; omega)⟩
        obtain ⟨b_11, hb9⟩ := h_r_10.2 F_b1 hM9
        subst hb9
        have o_b_11 := o_r_10 _ rfl
        have tq_12 : rvM ws_4 b1 := rvM_mo (Fr_6) (by decide) (by decide) (by decide) (by decide) (by decide) (by decide) (by decide) (by decide) (by decide) (by decide) tk1
        have tq_13 : rowC ws_4 b_11 RV := rvM_b hD tq_12 (h_r_10.1 _ rfl).2
        have tq_14 : grR ws_4 r8_9 := tpG_at hD hk_9 rfl jx_4_0
        have hFc := gfree hD hS hA
        refine W_led (fun hL0 => ?_)
        obtain ⟨k_15, fs_15, hk_15⟩ := gC_of o_r8_9
        refine va_callv (va_runV (As := [.ref b_11]) (rest := []) ⟨hx, hb, hml, hown, hts⟩ (m_X3_draw l g H ws_4 r8_9 b_11 hG o_r8_9 o_b_11 tq_14 tq_13) (cwV 1 hts (gd_V kw_301 kw_873 kw_874 kw_401 kw_872) rfl rfl rfl (by decide +kernel) ⟨Nat.le_of_ble_eq_true rfl, Nat.le_of_ble_eq_true rfl⟩) ⟨gblindH, va_recv hK hP (ci := 3) (q0 := k_15) rfl hk_15, fun U hU hW9 => gmkH hU hW9 hP hK hD hex hE hS hFc⟩ rfl rfl hl.1 rfl (lv_room (Nat.le_of_ble_eq_true rfl)) dX12_countersOf_21 ⟨(show dc_4_1 + (PC ws_4 + (0)) ≤ PC ws + (0) from (by have e0 : (0 : Int32).toInt = 0 := (by decide); omega)), (show ds_4_1 + (PS ws_4 + (0)) ≤ PS ws + (0) from (by have e0 : (0 : Int32).toInt = 0 := (by decide); omega))⟩) hS (fun q _ h => hFc q h) hFc (fun  ws_16 t9 H1 locs ht9 hvm9 hw9 hB9 hz9 hk9 hS => ?_)
        obtain ⟨E_17, Fr_18, hG, hP1, hD1, dc_19, ds_20, hLd, hdc_19, hds_20⟩ := hB9
        rw [ht9] at hLd
        refine W_tight (hL0.tr hLd).1 (hL0.tr hLd).2.1 ?_
        clear hL0 hLd
        have hP : va_P (gD g) cl0 ws_16 H1 := by rw [← ht9]; exact hP1
        have hD : va_D A ws_16 := hD1.weaken (fun _ _ _ h => hFc _ h)
        obtain ⟨hw9, xp_21, xp_22⟩ := hw9
        clear hP1 hD1 hz9 hk9 hvm9 ht9 hw9
        generalize H1 = H at hP hS ⊢
        have aa_23 := a_r0_7
        have aa_24 := a_r5_7
        have aa_25 := a_r6_7
        have aa_26 := a_r7_7
        have aa_27 := a_r9_7
        have aa_28 := a_r10_7
        have aa_29 := a_r11_7
        have aa_30 := a_r12_7
        have aa_31 := a_r13_7
        have aa_32 := a_r3_9
        have o_h0 := E_17.1 _ _ o_h0
        have o_b1 := E_17.1 _ _ o_b1
        have F_b1 := F_b1.mo E_17
        obtain ⟨fs9, hk_33, hq_33⟩ := ((gF.a (F' := [(3, 0), (3, 1), (3, 2), (3, 3), (3, 4), (3, 5), (3, 6), (3, 7), (3, 8), (3, 9), (3, 10), (3, 11), (3, 12), (3, 13), (3, 14), (3, 15)]) Fr_18 (fun _ h => h))) _ _ _ hk_9
        obtain ⟨r0_33, r1_33, r2_33, r3_33, n3_33, r4_33, r5_33, r6_33, r7_33, r8_33, r9_33, c10_33, c11_33, c12_33, c13_33, c14_33, c15_33, c16_33, c17_33, rfl, o_r0_33, o_r1_33, o_r2_33, a_r3_33, f4_33, o_r4_33, o_r5_33, o_r6_33, o_r7_33, o_r8_33, o_r9_33, f11_33, f12_33, f13_33, f14_33, f15_33, f16_33, f17_33, -⟩ := (hG.1 _ _ _ _ hk_33).hX12 rfl
        obtain rfl := fe_r (hq_33 8 (by decide))
        have o_r8_9 := o_r8_33
        obtain ⟨k_34, fs9, hk_34⟩ := gC_of o_r8_9
        obtain ⟨v0_34, c1_34, r2_34, n2_34, r3_34, n3_34, r4_34, n4_34, r5_34, n5_34, r6_34, n6_34, r7_34, n7_34, r8_34, n8_34, r9_34, n9_34, c10_34, r11_34, n11_34, r12_34, n12_34, r13_34, n13_34, r14_34, n14_34, r15_34, n15_34, rfl, o_v0_34, a_r2_34, f2_34, a_r3_34, f4_34, a_r4_34, f6_34, a_r5_34, f8_34, a_r6_34, f10_34, a_r7_34, f12_34, a_r8_34, f14_34, a_r9_34, f16_34, a_r11_34, f18_34, a_r12_34, f20_34, a_r13_34, f22_34, a_r14_34, f24_34, a_r15_34, f26_34, f27_34, f28_34, f29_34, f30_34, f31_34, f32_34, f33_34, f34_34, f35_34, f36_34, f37_34, f38_34, f39_34, f40_34, -⟩ := (hG.1 _ _ _ _ hk_34).hX3 rfl
        obtain ⟨b_35, hn9⟩ := xp_21 _ _ _ hk_34
        have hn9 := fe_qr hn9
        subst hn9
        have o_b_35 := o_v0_34 _ rfl
        refine lv_iload_n hx hb dX12_countersOf_24 rfl (lv_at hl 2 rfl) ?_
        refine lv_aload_n hx hb dX12_countersOf_25 rfl (lv_at hl 0 rfl) ?_
        refine va_get (D := gD g) (ci := 11) (v := .ref r8_9) (C := RX12) (T := TX12) (N := 18) hx hb hts inX12 hown hK hP k_9 hk_33 rfl 8 (by decide) (hts _ kw_300) (fun _ h9 => h9) rfl dX12_countersOf_26 ?_
        have tq_36 : tpG ws_16 h0 := ⟨_, r8_9, _, hk_33, rfl, xp_22⟩
        obtain ⟨k_37, f_37, hk_37⟩ := gI_of a_r2_34
        obtain ⟨k_38, f_38, hk_38⟩ := gI_of a_r8_34
        obtain ⟨k_39, f_39, hk_39⟩ := gI_of a_r5_34
        have gn_40 := grR_n hD hk_34 rfl rfl rfl rfl hk_37 hk_38 hk_39 xp_22
        have hFc := gfree hD hS hA
        refine va_calli (va_runV (As := []) (rest := [.int v2_1]) ⟨hx, hb, hml, hown, hts⟩ (m_X3_reachedCount l g H.size ws_16 r8_9 hG o_r8_9 (gP_of hD hk_34 (fun q90 e90 p91 q91 e91 g91 => by cases e90; cases e91; have z91 := gI_n hD a_r8_34 g91; subst z91; exact (by have q_f14_34 := f14_34; have q_f29_34 := f29_34; have q_f30_34 := f30_34; have q_f31_34 := f31_34; have q_f32_34 := f32_34; have q_f33_34 := f33_34; have q_f34_34 := f34_34; have q_f37_34 := f37_34; have q_gn_40 := gn_40; have q_f2_34 := f2_34; have q_f6_34 := f6_34; have q_f8_34 := f8_34; have q_f18_34 := f18_34; have q_f20_34 := f20_34; have q_f22_34 := f22_34; have q_f24_34 := f24_34; have q_f26_34 := f26_34; have q_f27_34 := f27_34; have q_f28_34 := f28_34; have q_f35_34 := f35_34; have q_f38_34 := f38_34; have q_f39_34 := f39_34; have q_f4_34 := f4_34; have q_f10_34 := f10_34; have q_f12_34 := f12_34; have q_f36_34 := f36_34; have g_c1_34 := i_rg c1_34; omega)))) (cwV 0 hts (gd_V kw_326 kw_946 kw_947 kw_401 kw_945) rfl rfl rfl (by decide +kernel) ⟨Nat.le_of_ble_eq_true rfl, Nat.le_of_ble_eq_true rfl⟩) ⟨gblind, va_recv hK hP (ci := 3) (q0 := k_34) rfl hk_34, fun U hU hW9 => gmk hU hW9 hP hK hD hex hE hS hFc⟩ rfl rfl hl.1 rfl (lv_room (Nat.le_of_ble_eq_true rfl)) dX12_countersOf_29 ⟨(show dc_4_1 + dc_19 + 0 ≤ PC ws + (0) from (by omega)), (show ds_4_1 + ds_20 + 0 ≤ PS ws + (0) from (by omega))⟩) hS (fun q _ h => hFc q h) hFc (fun r_41 u9 t9 H1 locs ht9 hvm9 hw9 hB9 hz9 hk9 hS => ?_)
        have hP : va_P (gD g) cl0 ws_16 H1 := by rw [← ht9]; exact hB9.1
        clear hB9 hz9 hk9 hvm9 ht9 hw9
        generalize H1 = H at hP hS ⊢
        refine lv_iadd hx hb dX12_countersOf_32 ?_
        refine lv_topi (fun z_42 ez_42 => ?_)
        refine lv_istore_n (lv' := [(2, .int z_42), (0, .ref h0), (1, .ref b1), (3, .int v3_2)]) hx hb dX12_countersOf_33 rfl hl (by decide) rfl (fun ls hl => ?_)
        obtain ⟨z_43, ez_43⟩ : ∃ z : Int32, v3_2 + Int32.ofInt 1 = z := ⟨_, rfl⟩
        refine lv_iinc (v := z_43) (lv' := [(3, .int z_43), (2, .int z_42), (0, .ref h0), (1, .ref b1)]) hx hb dX12_countersOf_34 hl (k := 3) rfl ez_43 (by decide) rfl (fun ls hl => ?_)
        refine lv_goto (tgt := 4) hx hb dX12_countersOf_37 (by decide) ?_
        exact ih_4 _ (by obtain ⟨u_z_42, q_z_42⟩ := i_add ez_42; obtain ⟨u_z_43, q_z_43⟩ := i_iz ez_43 (by decide) (by decide); have q_iv_3 := iv_3; have q_c_8 := i_nle c_8; have q_f22_7 := f22_7; have g_c8_7 := i_rg c8_7; have g_r_41 := i_rg r_41; have g_v2_1 := i_rg v2_1; have g_v3_2 := i_rg v3_2; have g_z_42 := i_rg z_42; have g_z_43 := i_rg z_43; omega) (z_42) (z_43) (dc_4_1 + dc_19) (ds_4_1 + ds_20) ws_16 H locs ls rfl (by obtain ⟨u_z_43, q_z_43⟩ := i_iz ez_43 (by decide) (by decide); have q_iv_3 := iv_3; have q_c_8 := i_nle c_8; have q_f22_7 := f22_7; have g_c8_7 := i_rg c8_7; have g_v3_2 := i_rg v3_2; have g_z_43 := i_rg z_43; omega) ((E_5.tr E_17)) ((gF.tr Fr_6 Fr_18)) hG (by omega) (by omega) tq_36 hP hD hS (lv_sub hl [2, 3, 1, 0] rfl)
  exact J_4 _ (0) (0) (0) (0) ws _ _ ls rfl (by have e0 : (0 : Int32).toInt = 0 := (by decide); omega) (gE.rf) (gF.rf) hG (by have e0 : (0 : Int32).toInt = 0 := (by decide); omega) (by have e0 : (0 : Int32).toInt = 0 := (by decide); omega) tk0 hP hD hS (lv_sub hl [2, 3, 1, 0] rfl)
