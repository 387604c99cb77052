set_option maxHeartbeats 1000000 in
set_option maxRecDepth 100000 in
theorem m_X8_opAt_x (l : Launch) (g : Gm) (sz : Nat) (ws : va_W) (h0 : Nat) (x1 : Int32) (hG : Good g ws) (o_h0 : gC ws h0 7) : Met l yX8_opAt (wt yX8_opAt cX8_opAt 2 (some .int)) ({ frames := 0, cells := 0, slots := 0, locals := 0 }) (va_Pc [.ref h0, .int x1] (st_G g sz ws)) (va_Qi (fun (r : Int32) (u9 : Unit) => (True) ∧ (opX ws h0 x1 r)) (gQ0 g (va_A ws sz) ws) (va_A ws sz)) (0) (0) (va_A ws sz) := by
  refine Met.ofW (cc := cX8_opAt) (maxL := 2) (ret := (some .int)) (by decide) rfl ?_
  intro p e s m args below meth c s₁ B hml hv
  obtain ⟨rfl, hsz, hP, hK, hD0, hex, hE⟩ := hv
  have hx := B.exec
  have hb := B.bytes
  have hr := B.returns
  have hts0 := atoms_spec (ws := wt yX8_opAt cX8_opAt 2 (some .int)) B.pre
  have hts : ∀ w ∈ tb, w.before _ s = true := fun w h => hts0 w (List.mem_cons_of_mem _ h)
  have hown : s.vm.findClass RX8 = some m.cls := findClass_of_methodNamed B.named
  subst hsz
  have hD := hD0.self (sz := s.heap.size)
  generalize hAe : va_A ws s.heap.size = A at hD hE ⊢
  have hA : ∀ q : Nat, s.heap.size ≤ q → A q := fun q h => by rw [← hAe]; exact Or.inr h
  have hS : va_S A s.heap s.heap [] := va_S.rf
  have hl := lv_entry ([.ref h0, .int x1]) (n := 2) (Nat.le_of_ble_eq_true rfl)
  rw [lg_entry_eq]
  generalize (lg_sl ([.ref h0, .int x1]) ++ List.replicate (2 - (lg_sl ([.ref h0, .int x1])).length) Slot.unset).toArray = ls at hl ⊢
  have hl : lv_has ls 2 [(0, .ref h0), (1, .int x1)] := hl
  refine lv_iload_n hx hb dX8_opAt_0 rfl (lv_at hl 1 rfl) ?_
  refine lv_if_lt (tgt := 12) hx hb dX8_opAt_1 (by decide) (fun c_1 => ?_) (fun c_1 => ?_)
  · refine lv_iconst (v := (-1)) hx hb dX8_opAt_12 (by decide) ?_
    refine lv_goto (tgt := 22) hx hb dX8_opAt_13 (by decide) ?_
    refine W.widen (k := 0) (n := 0) (Nat.le_of_ble_eq_true rfl) (Nat.le_of_ble_eq_true rfl) ?_
    obtain ⟨k_2, fs9, hk_2⟩ := gC_of o_h0
    obtain ⟨r0_2, n0_2, r1_2, n1_2, c2_2, r3_2, n3_2, c4_2, r5_2, n5_2, r6_2, n6_2, r7_2, n7_2, r8_2, n8_2, c9_2, c10_2, c11_2, v12_2, v13_2, v14_2, rfl, a_r0_2, f1_2, a_r1_2, f3_2, a_r3_2, f5_2, a_r5_2, f7_2, a_r6_2, f9_2, a_r7_2, f11_2, a_r8_2, f13_2, o_v12_2, o_v13_2, o_v14_2, f17_2, f18_2, f19_2, f20_2, f21_2, f22_2, f23_2, f24_2, f25_2, f26_2, f27_2, f28_2, f29_2, -⟩ := (hG.1 _ _ _ _ hk_2).hX8 rfl
    exact W.iret (v := (-1)) hx hb hr (fun t9 ht9 hW9 => ⟨⟨_, (), rfl, ⟨trivial, (opX_out hD hk_2 rfl (by have e0 : (0 : Int32).toInt = 0 := (by decide); have q_c_1 := i_lt c_1; have q_f19_2 := f19_2; have q_f20_2 := f20_2; have q_f1_2 := f1_2; have q_f17_2 := f17_2; have q_f18_2 := f18_2; have g_c2_2 := i_rg c2_2; have g_x1 := i_rg x1; omega))⟩, ⟨by rw [ht9]; exact hP, hD⟩⟩, hS.F ht9⟩) hS.2.2 dX8_opAt_22
  · refine lv_iload_n hx hb dX8_opAt_4 rfl (lv_at hl 1 rfl) ?_
    refine lv_aload_n hx hb dX8_opAt_5 rfl (lv_at hl 0 rfl) ?_
    obtain ⟨k_3, fs9, hk_3⟩ := gC_of o_h0
    obtain ⟨r0_3, n0_3, r1_3, n1_3, c2_3, r3_3, n3_3, c4_3, r5_3, n5_3, r6_3, n6_3, r7_3, n7_3, r8_3, n8_3, c9_3, c10_3, c11_3, v12_3, v13_3, v14_3, rfl, a_r0_3, f1_3, a_r1_3, f3_3, a_r3_3, f5_3, a_r5_3, f7_3, a_r6_3, f9_3, a_r7_3, f11_3, a_r8_3, f13_3, o_v12_3, o_v13_3, o_v14_3, f17_3, f18_3, f19_3, f20_3, f21_3, f22_3, f23_3, f24_3, f25_3, f26_3, f27_3, f28_3, f29_3, -⟩ := (hG.1 _ _ _ _ hk_3).hX8 rfl
    refine va_get (D := gD g) (ci := 7) (v := .int c2_3) (C := RX8) (T := TX8) (N := 15) hx hb hts inX8 hown hK hP k_3 hk_3 rfl 2 (by decide) (hts _ kw_1459) (fun _ h9 => h9) rfl dX8_opAt_6 ?_
    refine lv_icmp_lt (tgt := 16) hx hb dX8_opAt_9 (by decide) (fun c_4 => ?_) (fun c_4 => ?_)
    · refine lv_aload_n hx hb dX8_opAt_16 rfl (lv_at hl 0 rfl) ?_
      refine va_get (D := gD g) (ci := 7) (v := .ref r0_3) (C := RX8) (T := TX8) (N := 15) hx hb hts inX8 hown hK hP k_3 hk_3 rfl 0 (by decide) (hts _ kw_1460) (fun _ h9 => h9) rfl dX8_opAt_17 ?_
      refine lv_iload_n hx hb dX8_opAt_20 rfl (lv_at hl 1 rfl) ?_
      obtain ⟨k_5, f_5, hk_5⟩ := gI_of a_r0_3
      refine va_iald hx hb hK hP k_5 1 hk_5 rfl (i_in2 (by have e0 : (0 : Int32).toInt = 0 := (by decide); have q_c_1 := i_nlt c_1; have q_f1_3 := f1_3; have q_f17_3 := f17_3; have q_f18_3 := f18_3; have q_f20_3 := f20_3; have q_c_4 := i_lt c_4; have q_f3_3 := f3_3; have q_f19_3 := f19_3; have g_c2_3 := i_rg c2_3; have g_x1 := i_rg x1; omega)) dX8_opAt_21 ?_
      refine lv_topi (fun z_6 ez_6 => ?_)
      refine W.widen (k := 0) (n := 0) (Nat.le_of_ble_eq_true rfl) (Nat.le_of_ble_eq_true rfl) ?_
      exact W.iret (v := z_6) hx hb hr (fun t9 ht9 hW9 => ⟨⟨_, (), rfl, ⟨trivial, (opX_in hD hk_3 rfl rfl hk_5 (by have e0 : (0 : Int32).toInt = 0 := (by decide); have q_c_1 := i_nlt c_1; have q_f19_3 := f19_3; have q_f20_3 := f20_3; have q_c_4 := i_lt c_4; have q_f1_3 := f1_3; have q_f17_3 := f17_3; have q_f18_3 := f18_3; have g_c2_3 := i_rg c2_3; have g_x1 := i_rg x1; omega) ez_6)⟩, ⟨by rw [ht9]; exact hP, hD⟩⟩, hS.F ht9⟩) hS.2.2 dX8_opAt_22
    · refine lv_iconst (v := (-1)) hx hb dX8_opAt_12 (by decide) ?_
      refine lv_goto (tgt := 22) hx hb dX8_opAt_13 (by decide) ?_
      refine W.widen (k := 0) (n := 0) (Nat.le_of_ble_eq_true rfl) (Nat.le_of_ble_eq_true rfl) ?_
      exact W.iret (v := (-1)) hx hb hr (fun t9 ht9 hW9 => ⟨⟨_, (), rfl, ⟨trivial, (opX_out hD hk_3 rfl (by have e0 : (0 : Int32).toInt = 0 := (by decide); have q_c_1 := i_nlt c_1; have q_f19_3 := f19_3; have q_f20_3 := f20_3; have q_c_4 := i_nlt c_4; have q_f1_3 := f1_3; have q_f17_3 := f17_3; have q_f18_3 := f18_3; have g_c2_3 := i_rg c2_3; have g_x1 := i_rg x1; omega))⟩, ⟨by rw [ht9]; exact hP, hD⟩⟩, hS.F ht9⟩) hS.2.2 dX8_opAt_22
set_option maxHeartbeats 1000000 in
set_option maxRecDepth 100000 in
theorem m_X8_argAt_x (l : Launch) (g : Gm) (sz : Nat) (ws : va_W) (h0 : Nat) (x1 : Int32) (hG : Good g ws) (o_h0 : gC ws h0 7) : Met l yX8_argAt (wt yX8_argAt cX8_argAt 2 (some .long)) ({ frames := 0, cells := 0, slots := 0, locals := 0 }) (va_Pc [.ref h0, .int x1] (st_G g sz ws)) (va_Ql (fun (r : Int64) (u9 : Unit) => (True) ∧ (agX ws h0 x1 r)) (gQ0 g (va_A ws sz) ws) (va_A ws sz)) (0) (0) (va_A ws sz) := by
  refine Met.ofW (cc := cX8_argAt) (maxL := 2) (ret := (some .long)) (by decide) rfl ?_
  intro p e s m args below meth c s₁ B hml hv
  obtain ⟨rfl, hsz, hP, hK, hD0, hex, hE⟩ := hv
  have hx := B.exec
  have hb := B.bytes
  have hr := B.returns
  have hts0 := atoms_spec (ws := wt yX8_argAt cX8_argAt 2 (some .long)) B.pre
  have hts : ∀ w ∈ tb, w.before _ s = true := fun w h => hts0 w (List.mem_cons_of_mem _ h)
  have hown : s.vm.findClass RX8 = some m.cls := findClass_of_methodNamed B.named
  subst hsz
  have hD := hD0.self (sz := s.heap.size)
  generalize hAe : va_A ws s.heap.size = A at hD hE ⊢
  have hA : ∀ q : Nat, s.heap.size ≤ q → A q := fun q h => by rw [← hAe]; exact Or.inr h
  have hS : va_S A s.heap s.heap [] := va_S.rf
  have hl := lv_entry ([.ref h0, .int x1]) (n := 2) (Nat.le_of_ble_eq_true rfl)
  rw [lg_entry_eq]
  generalize (lg_sl ([.ref h0, .int x1]) ++ List.replicate (2 - (lg_sl ([.ref h0, .int x1])).length) Slot.unset).toArray = ls at hl ⊢
  have hl : lv_has ls 2 [(0, .ref h0), (1, .int x1)] := hl
  refine lv_iload_n hx hb dX8_argAt_0 rfl (lv_at hl 1 rfl) ?_
  refine lv_if_lt (tgt := 12) hx hb dX8_argAt_1 (by decide) (fun c_1 => ?_) (fun c_1 => ?_)
  · refine lv_lconst (v := 0) hx hb dX8_argAt_12 (by decide) ?_
    refine lv_goto (tgt := 22) hx hb dX8_argAt_13 (by decide) ?_
    refine W.widen (k := 0) (n := 0) (Nat.le_of_ble_eq_true rfl) (Nat.le_of_ble_eq_true rfl) ?_
    obtain ⟨k_2, fs9, hk_2⟩ := gC_of o_h0
    obtain ⟨r0_2, n0_2, r1_2, n1_2, c2_2, r3_2, n3_2, c4_2, r5_2, n5_2, r6_2, n6_2, r7_2, n7_2, r8_2, n8_2, c9_2, c10_2, c11_2, v12_2, v13_2, v14_2, rfl, a_r0_2, f1_2, a_r1_2, f3_2, a_r3_2, f5_2, a_r5_2, f7_2, a_r6_2, f9_2, a_r7_2, f11_2, a_r8_2, f13_2, o_v12_2, o_v13_2, o_v14_2, f17_2, f18_2, f19_2, f20_2, f21_2, f22_2, f23_2, f24_2, f25_2, f26_2, f27_2, f28_2, f29_2, -⟩ := (hG.1 _ _ _ _ hk_2).hX8 rfl
    exact W.lret (v := 0) hx hb hr (fun t9 ht9 hW9 => ⟨⟨_, (), rfl, ⟨trivial, (agX_out hD hk_2 rfl (by have e0 : (0 : Int32).toInt = 0 := (by decide); have q_c_1 := i_lt c_1; have q_f19_2 := f19_2; have q_f20_2 := f20_2; have q_f1_2 := f1_2; have q_f17_2 := f17_2; have q_f18_2 := f18_2; have g_c2_2 := i_rg c2_2; have g_x1 := i_rg x1; omega))⟩, ⟨by rw [ht9]; exact hP, hD⟩⟩, hS.F ht9⟩) hS.2.2 dX8_argAt_22
  · refine lv_iload_n hx hb dX8_argAt_4 rfl (lv_at hl 1 rfl) ?_
    refine lv_aload_n hx hb dX8_argAt_5 rfl (lv_at hl 0 rfl) ?_
    obtain ⟨k_3, fs9, hk_3⟩ := gC_of o_h0
    obtain ⟨r0_3, n0_3, r1_3, n1_3, c2_3, r3_3, n3_3, c4_3, r5_3, n5_3, r6_3, n6_3, r7_3, n7_3, r8_3, n8_3, c9_3, c10_3, c11_3, v12_3, v13_3, v14_3, rfl, a_r0_3, f1_3, a_r1_3, f3_3, a_r3_3, f5_3, a_r5_3, f7_3, a_r6_3, f9_3, a_r7_3, f11_3, a_r8_3, f13_3, o_v12_3, o_v13_3, o_v14_3, f17_3, f18_3, f19_3, f20_3, f21_3, f22_3, f23_3, f24_3, f25_3, f26_3, f27_3, f28_3, f29_3, -⟩ := (hG.1 _ _ _ _ hk_3).hX8 rfl
    refine va_get (D := gD g) (ci := 7) (v := .int c2_3) (C := RX8) (T := TX8) (N := 15) hx hb hts inX8 hown hK hP k_3 hk_3 rfl 2 (by decide) (hts _ kw_1459) (fun _ h9 => h9) rfl dX8_argAt_6 ?_
    refine lv_icmp_lt (tgt := 16) hx hb dX8_argAt_9 (by decide) (fun c_4 => ?_) (fun c_4 => ?_)
    · refine lv_aload_n hx hb dX8_argAt_16 rfl (lv_at hl 0 rfl) ?_
      refine va_get (D := gD g) (ci := 7) (v := .ref r1_3) (C := RX8) (T := TX8) (N := 15) hx hb hts inX8 hown hK hP k_3 hk_3 rfl 1 (by decide) (hts _ kw_1478) (fun _ h9 => h9) rfl dX8_argAt_17 ?_
      refine lv_iload_n hx hb dX8_argAt_20 rfl (lv_at hl 1 rfl) ?_
      obtain ⟨k_5, f_5, hk_5⟩ := gJ_of a_r1_3
      refine va_lald hx hb hK hP k_5 3 hk_5 rfl (i_in2 (by have e0 : (0 : Int32).toInt = 0 := (by decide); have q_c_1 := i_nlt c_1; have q_f3_3 := f3_3; have q_f17_3 := f17_3; have q_c_4 := i_lt c_4; have q_f1_3 := f1_3; have q_f18_3 := f18_3; have q_f19_3 := f19_3; have q_f20_3 := f20_3; have g_c2_3 := i_rg c2_3; have g_x1 := i_rg x1; omega)) dX8_argAt_21 ?_
      refine lv_topl (fun z_6 ez_6 => ?_)
      refine W.widen (k := 0) (n := 0) (Nat.le_of_ble_eq_true rfl) (Nat.le_of_ble_eq_true rfl) ?_
      exact W.lret (v := z_6) hx hb hr (fun t9 ht9 hW9 => ⟨⟨_, (), rfl, ⟨trivial, (agX_in hD hk_3 rfl rfl hk_5 (by have e0 : (0 : Int32).toInt = 0 := (by decide); have q_c_1 := i_nlt c_1; have q_f19_3 := f19_3; have q_f20_3 := f20_3; have q_c_4 := i_lt c_4; have q_f1_3 := f1_3; have q_f17_3 := f17_3; have q_f18_3 := f18_3; have g_c2_3 := i_rg c2_3; have g_x1 := i_rg x1; omega) ez_6)⟩, ⟨by rw [ht9]; exact hP, hD⟩⟩, hS.F ht9⟩) hS.2.2 dX8_argAt_22
    · refine lv_lconst (v := 0) hx hb dX8_argAt_12 (by decide) ?_
      refine lv_goto (tgt := 22) hx hb dX8_argAt_13 (by decide) ?_
      refine W.widen (k := 0) (n := 0) (Nat.le_of_ble_eq_true rfl) (Nat.le_of_ble_eq_true rfl) ?_
      exact W.lret (v := 0) hx hb hr (fun t9 ht9 hW9 => ⟨⟨_, (), rfl, ⟨trivial, (agX_out hD hk_3 rfl (by have e0 : (0 : Int32).toInt = 0 := (by decide); have q_c_1 := i_nlt c_1; have q_f19_3 := f19_3; have q_f20_3 := f20_3; have q_c_4 := i_nlt c_4; have q_f1_3 := f1_3; have q_f17_3 := f17_3; have q_f18_3 := f18_3; have g_c2_3 := i_rg c2_3; have g_x1 := i_rg x1; omega))⟩, ⟨by rw [ht9]; exact hP, hD⟩⟩, hS.F ht9⟩) hS.2.2 dX8_argAt_22
set_option maxHeartbeats 1000000 in
set_option maxRecDepth 100000 in
theorem m_X8_tableAt_x (l : Launch) (g : Gm) (sz : Nat) (ws : va_W) (h0 : Nat) (x1 : Int32) (hG : Good g ws) (o_h0 : gC ws h0 7) : Met l yX8_tableAt (wt yX8_tableAt cX8_tableAt 2 (some .int)) ({ frames := 0, cells := 0, slots := 0, locals := 0 }) (va_Pc [.ref h0, .int x1] (st_G g sz ws)) (va_Qi (fun (r : Int32) (u9 : Unit) => (True) ∧ (tbX ws h0 x1 r)) (gQ0 g (va_A ws sz) ws) (va_A ws sz)) (0) (0) (va_A ws sz) := by
  refine Met.ofW (cc := cX8_tableAt) (maxL := 2) (ret := (some .int)) (by decide) rfl ?_
  intro p e s m args below meth c s₁ B hml hv
  obtain ⟨rfl, hsz, hP, hK, hD0, hex, hE⟩ := hv
  have hx := B.exec
  have hb := B.bytes
  have hr := B.returns
  have hts0 := atoms_spec (ws := wt yX8_tableAt cX8_tableAt 2 (some .int)) B.pre
  have hts : ∀ w ∈ tb, w.before _ s = true := fun w h => hts0 w (List.mem_cons_of_mem _ h)
  have hown : s.vm.findClass RX8 = some m.cls := findClass_of_methodNamed B.named
  subst hsz
  have hD := hD0.self (sz := s.heap.size)
  generalize hAe : va_A ws s.heap.size = A at hD hE ⊢
  have hA : ∀ q : Nat, s.heap.size ≤ q → A q := fun q h => by rw [← hAe]; exact Or.inr h
  have hS : va_S A s.heap s.heap [] := va_S.rf
  have hl := lv_entry ([.ref h0, .int x1]) (n := 2) (Nat.le_of_ble_eq_true rfl)
  rw [lg_entry_eq]
  generalize (lg_sl ([.ref h0, .int x1]) ++ List.replicate (2 - (lg_sl ([.ref h0, .int x1])).length) Slot.unset).toArray = ls at hl ⊢
  have hl : lv_has ls 2 [(0, .ref h0), (1, .int x1)] := hl
  refine lv_iload_n hx hb dX8_tableAt_0 rfl (lv_at hl 1 rfl) ?_
  refine lv_if_lt (tgt := 12) hx hb dX8_tableAt_1 (by decide) (fun c_1 => ?_) (fun c_1 => ?_)
  · refine lv_iconst (v := 0) hx hb dX8_tableAt_12 (by decide) ?_
    refine lv_goto (tgt := 22) hx hb dX8_tableAt_13 (by decide) ?_
    refine W.widen (k := 0) (n := 0) (Nat.le_of_ble_eq_true rfl) (Nat.le_of_ble_eq_true rfl) ?_
    obtain ⟨k_2, fs9, hk_2⟩ := gC_of o_h0
    obtain ⟨r0_2, n0_2, r1_2, n1_2, c2_2, r3_2, n3_2, c4_2, r5_2, n5_2, r6_2, n6_2, r7_2, n7_2, r8_2, n8_2, c9_2, c10_2, c11_2, v12_2, v13_2, v14_2, rfl, a_r0_2, f1_2, a_r1_2, f3_2, a_r3_2, f5_2, a_r5_2, f7_2, a_r6_2, f9_2, a_r7_2, f11_2, a_r8_2, f13_2, o_v12_2, o_v13_2, o_v14_2, f17_2, f18_2, f19_2, f20_2, f21_2, f22_2, f23_2, f24_2, f25_2, f26_2, f27_2, f28_2, f29_2, -⟩ := (hG.1 _ _ _ _ hk_2).hX8 rfl
    exact W.iret (v := 0) hx hb hr (fun t9 ht9 hW9 => ⟨⟨_, (), rfl, ⟨trivial, (tbX_out hD hk_2 rfl (by have e0 : (0 : Int32).toInt = 0 := (by decide); have q_c_1 := i_lt c_1; have q_f21_2 := f21_2; have q_f22_2 := f22_2; have q_f5_2 := f5_2; have q_f28_2 := f28_2; have g_c4_2 := i_rg c4_2; have g_x1 := i_rg x1; omega))⟩, ⟨by rw [ht9]; exact hP, hD⟩⟩, hS.F ht9⟩) hS.2.2 dX8_tableAt_22
  · refine lv_iload_n hx hb dX8_tableAt_4 rfl (lv_at hl 1 rfl) ?_
    refine lv_aload_n hx hb dX8_tableAt_5 rfl (lv_at hl 0 rfl) ?_
    obtain ⟨k_3, fs9, hk_3⟩ := gC_of o_h0
    obtain ⟨r0_3, n0_3, r1_3, n1_3, c2_3, r3_3, n3_3, c4_3, r5_3, n5_3, r6_3, n6_3, r7_3, n7_3, r8_3, n8_3, c9_3, c10_3, c11_3, v12_3, v13_3, v14_3, rfl, a_r0_3, f1_3, a_r1_3, f3_3, a_r3_3, f5_3, a_r5_3, f7_3, a_r6_3, f9_3, a_r7_3, f11_3, a_r8_3, f13_3, o_v12_3, o_v13_3, o_v14_3, f17_3, f18_3, f19_3, f20_3, f21_3, f22_3, f23_3, f24_3, f25_3, f26_3, f27_3, f28_3, f29_3, -⟩ := (hG.1 _ _ _ _ hk_3).hX8 rfl
    refine va_get (D := gD g) (ci := 7) (v := .int c4_3) (C := RX8) (T := TX8) (N := 15) hx hb hts inX8 hown hK hP k_3 hk_3 rfl 4 (by decide) (hts _ kw_1473) (fun _ h9 => h9) rfl dX8_tableAt_6 ?_
    refine lv_icmp_lt (tgt := 16) hx hb dX8_tableAt_9 (by decide) (fun c_4 => ?_) (fun c_4 => ?_)
    · refine lv_aload_n hx hb dX8_tableAt_16 rfl (lv_at hl 0 rfl) ?_
      refine va_get (D := gD g) (ci := 7) (v := .ref r3_3) (C := RX8) (T := TX8) (N := 15) hx hb hts inX8 hown hK hP k_3 hk_3 rfl 3 (by decide) (hts _ kw_1474) (fun _ h9 => h9) rfl dX8_tableAt_17 ?_
      refine lv_iload_n hx hb dX8_tableAt_20 rfl (lv_at hl 1 rfl) ?_
      obtain ⟨k_5, f_5, hk_5⟩ := gI_of a_r3_3
      refine va_iald hx hb hK hP k_5 1 hk_5 rfl (i_in2 (by have e0 : (0 : Int32).toInt = 0 := (by decide); have q_c_1 := i_nlt c_1; have q_f5_3 := f5_3; have q_f22_3 := f22_3; have q_f28_3 := f28_3; have q_c_4 := i_lt c_4; have q_f21_3 := f21_3; have g_c4_3 := i_rg c4_3; have g_x1 := i_rg x1; omega)) dX8_tableAt_21 ?_
      refine lv_topi (fun z_6 ez_6 => ?_)
      refine W.widen (k := 0) (n := 0) (Nat.le_of_ble_eq_true rfl) (Nat.le_of_ble_eq_true rfl) ?_
      exact W.iret (v := z_6) hx hb hr (fun t9 ht9 hW9 => ⟨⟨_, (), rfl, ⟨trivial, (tbX_in hD hk_3 rfl rfl hk_5 (by have e0 : (0 : Int32).toInt = 0 := (by decide); have q_c_1 := i_nlt c_1; have q_f21_3 := f21_3; have q_f22_3 := f22_3; have q_c_4 := i_lt c_4; have q_f5_3 := f5_3; have q_f28_3 := f28_3; have g_c4_3 := i_rg c4_3; have g_x1 := i_rg x1; omega) ez_6)⟩, ⟨by rw [ht9]; exact hP, hD⟩⟩, hS.F ht9⟩) hS.2.2 dX8_tableAt_22
    · refine lv_iconst (v := 0) hx hb dX8_tableAt_12 (by decide) ?_
      refine lv_goto (tgt := 22) hx hb dX8_tableAt_13 (by decide) ?_
      refine W.widen (k := 0) (n := 0) (Nat.le_of_ble_eq_true rfl) (Nat.le_of_ble_eq_true rfl) ?_
      exact W.iret (v := 0) hx hb hr (fun t9 ht9 hW9 => ⟨⟨_, (), rfl, ⟨trivial, (tbX_out hD hk_3 rfl (by have e0 : (0 : Int32).toInt = 0 := (by decide); have q_c_1 := i_nlt c_1; have q_f21_3 := f21_3; have q_f22_3 := f22_3; have q_c_4 := i_nlt c_4; have q_f5_3 := f5_3; have q_f28_3 := f28_3; have g_c4_3 := i_rg c4_3; have g_x1 := i_rg x1; omega))⟩, ⟨by rw [ht9]; exact hP, hD⟩⟩, hS.F ht9⟩) hS.2.2 dX8_tableAt_22
set_option maxHeartbeats 1000000 in
set_option maxRecDepth 100000 in
theorem m_X6_isSwitch_x (l : Launch) (g : Gm) (sz : Nat) (ws : va_W) (x0 : Int32) (hG : Good g ws)  : Met l yX6_isSwitch (wt yX6_isSwitch cX6_isSwitch 1 (some .boolean)) ({ frames := 0, cells := 0, slots := 0, locals := 0 }) (va_Pc [.int x0] (st_G g sz ws)) (va_Qi (fun (r : Int32) (u9 : Unit) => (r = 0 ∨ r = 1) ∧ (r.toInt = 1 → x0.toInt = 170 ∨ x0.toInt = 171)) (gQ0 g (va_A ws sz) ws) (va_A ws sz)) (0) (0) (va_A ws sz) := by
  refine Met.ofW (cc := cX6_isSwitch) (maxL := 1) (ret := (some .boolean)) (by decide) rfl ?_
  intro p e s m args below meth c s₁ B hml hv
  obtain ⟨rfl, hsz, hP, hK, hD0, hex, hE⟩ := hv
  have hx := B.exec
  have hb := B.bytes
  have hr := B.returns
  have hts0 := atoms_spec (ws := wt yX6_isSwitch cX6_isSwitch 1 (some .boolean)) B.pre
  have hts : ∀ w ∈ tb, w.before _ s = true := fun w h => hts0 w (List.mem_cons_of_mem _ h)
  have hown : s.vm.findClass RX6 = some m.cls := findClass_of_methodNamed B.named
  subst hsz
  have hD := hD0.self (sz := s.heap.size)
  generalize hAe : va_A ws s.heap.size = A at hD hE ⊢
  have hA : ∀ q : Nat, s.heap.size ≤ q → A q := fun q h => by rw [← hAe]; exact Or.inr h
  have hS : va_S A s.heap s.heap [] := va_S.rf
  have hl := lv_entry ([.int x0]) (n := 1) (Nat.le_of_ble_eq_true rfl)
  rw [lg_entry_eq]
  generalize (lg_sl ([.int x0]) ++ List.replicate (1 - (lg_sl ([.int x0])).length) Slot.unset).toArray = ls at hl ⊢
  have hl : lv_has ls 1 [(0, .int x0)] := hl
  refine lv_iload_n hx hb dX6_isSwitch_0 rfl (lv_at hl 0 rfl) ?_
  refine lv_sipush (v := 170) hx hb dX6_isSwitch_1 (by decide) ?_
  refine lv_icmp_eq (tgt := 14) hx hb dX6_isSwitch_4 (by decide) (fun c_1 => ?_) (fun c_1 => ?_)
  · refine lv_iconst (v := 1) hx hb dX6_isSwitch_14 (by decide) ?_
    refine lv_goto (tgt := 19) hx hb dX6_isSwitch_15 (by decide) ?_
    refine W.widen (k := 0) (n := 0) (Nat.le_of_ble_eq_true rfl) (Nat.le_of_ble_eq_true rfl) ?_
    exact W.zret (v := 1) hx hb hr (nz (Or.inr rfl)) (fun t9 ht9 hW9 => ⟨⟨_, (), rfl, ⟨(Or.inr rfl), (fun _ => (by have e170 : (170 : Int32).toInt = 170 := (by decide); have q_c_1 := i_eq c_1; have g_x0 := i_rg x0; omega))⟩, ⟨by rw [ht9]; exact hP, hD⟩⟩, hS.F ht9⟩) hS.2.2 dX6_isSwitch_19
  · refine lv_iload_n hx hb dX6_isSwitch_7 rfl (lv_at hl 0 rfl) ?_
    refine lv_sipush (v := 171) hx hb dX6_isSwitch_8 (by decide) ?_
    refine lv_icmp_ne (tgt := 18) hx hb dX6_isSwitch_11 (by decide) (fun c_2 => ?_) (fun c_2 => ?_)
    · refine lv_iconst (v := 0) hx hb dX6_isSwitch_18 (by decide) ?_
      refine W.widen (k := 0) (n := 0) (Nat.le_of_ble_eq_true rfl) (Nat.le_of_ble_eq_true rfl) ?_
      exact W.zret (v := 0) hx hb hr (nz (Or.inl rfl)) (fun t9 ht9 hW9 => ⟨⟨_, (), rfl, ⟨(Or.inl rfl), (fun h9 => absurd h9 (by decide))⟩, ⟨by rw [ht9]; exact hP, hD⟩⟩, hS.F ht9⟩) hS.2.2 dX6_isSwitch_19
    · refine lv_iconst (v := 1) hx hb dX6_isSwitch_14 (by decide) ?_
      refine lv_goto (tgt := 19) hx hb dX6_isSwitch_15 (by decide) ?_
      refine W.widen (k := 0) (n := 0) (Nat.le_of_ble_eq_true rfl) (Nat.le_of_ble_eq_true rfl) ?_
      exact W.zret (v := 1) hx hb hr (nz (Or.inr rfl)) (fun t9 ht9 hW9 => ⟨⟨_, (), rfl, ⟨(Or.inr rfl), (fun _ => (by have e170 : (170 : Int32).toInt = 170 := (by decide); have e171 : (171 : Int32).toInt = 171 := (by decide); have q_c_1 := i_ne c_1; have q_c_2 := i_eq c_2; have g_x0 := i_rg x0; omega))⟩, ⟨by rw [ht9]; exact hP, hD⟩⟩, hS.F ht9⟩) hS.2.2 dX6_isSwitch_19
set_option maxHeartbeats 1000000 in
set_option maxRecDepth 100000 in
theorem m_X8_targetCount_x (l : Launch) (g : Gm) (sz : Nat) (ws : va_W) (h0 : Nat) (x1 : Int32) (hG : Good g ws) (o_h0 : gC ws h0 7) : Met l yX8_targetCount (wt yX8_targetCount cX8_targetCount 3 (some .int)) ({ frames := 1, cells := 0, slots := 0, locals := 21 }) (va_Pc [.ref h0, .int x1] (st_G g sz ws)) (va_Qi (fun (r : Int32) (u9 : Unit) => (True) ∧ (swR ws h0 → r.toInt ≠ -2147483648)) (gQ0 g (va_A ws sz) ws) (va_A ws sz)) (0) (0) (va_A ws sz) := by
  refine Met.ofW (cc := cX8_targetCount) (maxL := 3) (ret := (some .int)) (by decide) rfl ?_
  intro p e s m args below meth c s₁ B hml hv
  obtain ⟨rfl, hsz, hP, hK, hD0, hex, hE⟩ := hv
  have hx := B.exec
  have hb := B.bytes
  have hr := B.returns
  have hts0 := atoms_spec (ws := wt yX8_targetCount cX8_targetCount 3 (some .int)) B.pre
  have hts : ∀ w ∈ tb, w.before _ s = true := fun w h => hts0 w (List.mem_cons_of_mem _ h)
  have hown : s.vm.findClass RX8 = some m.cls := findClass_of_methodNamed B.named
  subst hsz
  have hD := hD0.self (sz := s.heap.size)
  generalize hAe : va_A ws s.heap.size = A at hD hE ⊢
  have hA : ∀ q : Nat, s.heap.size ≤ q → A q := fun q h => by rw [← hAe]; exact Or.inr h
  have hS : va_S A s.heap s.heap [] := va_S.rf
  have hl := lv_entry ([.ref h0, .int x1]) (n := 3) (Nat.le_of_ble_eq_true rfl)
  rw [lg_entry_eq]
  generalize (lg_sl ([.ref h0, .int x1]) ++ List.replicate (3 - (lg_sl ([.ref h0, .int x1])).length) Slot.unset).toArray = ls at hl ⊢
  have hl : lv_has ls 3 [(0, .ref h0), (1, .int x1)] := hl
  refine lv_aload_n hx hb dX8_targetCount_0 rfl (lv_at hl 0 rfl) ?_
  refine lv_iload_n hx hb dX8_targetCount_1 rfl (lv_at hl 1 rfl) ?_
  have hFc := gfree hD hS hA
  obtain ⟨k_1, fs_1, hk_1⟩ := gC_of o_h0
  refine va_calli (va_runV (As := [.int x1]) (rest := []) ⟨hx, hb, hml, hown, hts⟩ (m_X8_opAt_x l g s.heap.size ws h0 (x1) hG o_h0) (cwV 1 hts (gd_V kw_1528 kw_1513 kw_1514 kw_782 kw_1512) rfl rfl rfl (by decide +kernel) ⟨Nat.le_of_ble_eq_true rfl, Nat.le_of_ble_eq_true rfl⟩) ⟨gblind, va_recv hK hP (ci := 7) (q0 := k_1) rfl hk_1, fun U hU hW9 => gmk hU hW9 hP hK hD hex hE hS hFc⟩ rfl rfl hl.1 rfl (lv_room (Nat.le_of_ble_eq_true rfl)) dX8_targetCount_2 ⟨Nat.le_of_ble_eq_true rfl, Nat.le_of_ble_eq_true rfl⟩) hS (fun q _ h => hFc q h) hFc (fun r_2 u9 t9 H1 locs ht9 hvm9 hw9 hB9 hz9 hk9 hS => ?_)
  have hP : va_P (gD g) cl0 ws H1 := by rw [← ht9]; exact hB9.1
  obtain ⟨hw9, xp_3⟩ := hw9
  clear hB9 hz9 hk9 hvm9 ht9 hw9
  generalize H1 = H at hP hS ⊢
  refine lv_istore_n (lv' := [(2, .int r_2), (0, .ref h0), (1, .int x1)]) hx hb dX8_targetCount_5 rfl hl (by decide) rfl (fun ls hl => ?_)
  refine lv_iload_n hx hb dX8_targetCount_6 rfl (lv_at hl 0 rfl) ?_
  have hFc := gfree hD hS hA
  refine va_calli (va_runS (As := [.int r_2]) (rest := []) ⟨hx, hb, hml, hown, hts⟩ (m_X6_isJump l g H.size ws (r_2) hG ) (va_cwS 1 hts (gd_S kw_1529 kw_1225 kw_1207 kw_1224) rfl rfl rfl (by decide +kernel) ⟨Nat.le_of_ble_eq_true rfl, Nat.le_of_ble_eq_true rfl⟩) ⟨gblind, fun U hU hW9 => gmk hU hW9 hP hK hD hex hE hS hFc⟩ rfl rfl hl.1 rfl (lv_room (Nat.le_of_ble_eq_true rfl)) dX8_targetCount_7 ⟨Nat.le_of_ble_eq_true rfl, Nat.le_of_ble_eq_true rfl⟩) hS (fun q _ h => hFc q h) hFc (fun r_4 u9 t9 H1 locs ht9 hvm9 hw9 hB9 hz9 hk9 hS => ?_)
  have hP : va_P (gD g) cl0 ws H1 := by rw [← ht9]; exact hB9.1
  have hz_r_4 : r_4 = 0 ∨ r_4 = 1 := hw9
  clear hB9 hz9 hk9 hvm9 ht9 hw9
  generalize H1 = H at hP hS ⊢
  refine lv_if_eq (tgt := 15) hx hb dX8_targetCount_10 (by decide) (fun c_5 => ?_) (fun c_5 => ?_)
  · refine lv_iload_n hx hb dX8_targetCount_15 rfl (lv_at hl 0 rfl) ?_
    have hFc := gfree hD hS hA
    refine va_calli (va_runS (As := [.int r_2]) (rest := []) ⟨hx, hb, hml, hown, hts⟩ (m_X6_isSwitch_x l g H.size ws (r_2) hG ) (va_cwS 1 hts (gd_S kw_1543 kw_1233 kw_1207 kw_1232) rfl rfl rfl (by decide +kernel) ⟨Nat.le_of_ble_eq_true rfl, Nat.le_of_ble_eq_true rfl⟩) ⟨gblind, fun U hU hW9 => gmk hU hW9 hP hK hD hex hE hS hFc⟩ rfl rfl hl.1 rfl (lv_room (Nat.le_of_ble_eq_true rfl)) dX8_targetCount_16 ⟨Nat.le_of_ble_eq_true rfl, Nat.le_of_ble_eq_true rfl⟩) hS (fun q _ h => hFc q h) hFc (fun r_6 u9 t9 H1 locs ht9 hvm9 hw9 hB9 hz9 hk9 hS => ?_)
    have hP : va_P (gD g) cl0 ws H1 := by rw [← ht9]; exact hB9.1
    obtain ⟨hw9, xp_7⟩ := hw9
    have hz_r_6 : r_6 = 0 ∨ r_6 = 1 := hw9
    clear hB9 hz9 hk9 hvm9 ht9 hw9
    generalize H1 = H at hP hS ⊢
    refine lv_if_eq (tgt := 35) hx hb dX8_targetCount_19 (by decide) (fun c_8 => ?_) (fun c_8 => ?_)
    · refine lv_iconst (v := 0) hx hb dX8_targetCount_35 (by decide) ?_
      refine W.widen (k := 0) (n := 0) (Nat.le_of_ble_eq_true rfl) (Nat.le_of_ble_eq_true rfl) ?_
      exact W.iret (v := 0) hx hb hr (fun t9 ht9 hW9 => ⟨⟨_, (), rfl, ⟨trivial, (fun _ => by decide)⟩, ⟨by rw [ht9]; exact hP, hD⟩⟩, hS.F ht9⟩) hS.2.2 dX8_targetCount_36
    · refine lv_aload_n hx hb dX8_targetCount_22 rfl (lv_at hl 1 rfl) ?_
      refine lv_aload_n hx hb dX8_targetCount_23 rfl (lv_at hl 1 rfl) ?_
      refine lv_iload_n hx hb dX8_targetCount_24 rfl (lv_at hl 2 rfl) ?_
      have hFc := gfree hD hS hA
      obtain ⟨k_9, fs_9, hk_9⟩ := gC_of o_h0
      refine va_calll (va_runV (As := [.int x1]) (rest := [.ref h0]) ⟨hx, hb, hml, hown, hts⟩ (m_X8_argAt_x l g H.size ws h0 (x1) hG o_h0) (cwV 1 hts (gd_V kw_1511 kw_1476 kw_1477 kw_782 kw_1475) rfl rfl rfl (by decide +kernel) ⟨Nat.le_of_ble_eq_true rfl, Nat.le_of_ble_eq_true rfl⟩) ⟨gblind, va_recv hK hP (ci := 7) (q0 := k_9) rfl hk_9, fun U hU hW9 => gmk hU hW9 hP hK hD hex hE hS hFc⟩ rfl rfl hl.1 rfl (lv_room (Nat.le_of_ble_eq_true rfl)) dX8_targetCount_25 ⟨Nat.le_of_ble_eq_true rfl, Nat.le_of_ble_eq_true rfl⟩) hS (fun q _ h => hFc q h) hFc (fun r_10 u9 t9 H1 locs ht9 hvm9 hw9 hB9 hz9 hk9 hS => ?_)
      have hP : va_P (gD g) cl0 ws H1 := by rw [← ht9]; exact hB9.1
      obtain ⟨hw9, xp_11⟩ := hw9
      clear hB9 hz9 hk9 hvm9 ht9 hw9
      generalize H1 = H at hP hS ⊢
      obtain ⟨z_12, ez_12⟩ : ∃ y : Int32, (r_10 : Int64).toInt32 = y := ⟨_, rfl⟩
      refine lv_l2i (v := z_12) hx hb dX8_targetCount_28 ez_12 ?_
      have hFc := gfree hD hS hA
      obtain ⟨k_13, fs_13, hk_13⟩ := gC_of o_h0
      refine va_calli (va_runV (As := [.int z_12]) (rest := []) ⟨hx, hb, hml, hown, hts⟩ (m_X8_tableAt_x l g H.size ws h0 (z_12) hG o_h0) (cwV 1 hts (gd_V kw_1539 kw_1534 kw_1535 kw_782 kw_1533) rfl rfl rfl (by decide +kernel) ⟨Nat.le_of_ble_eq_true rfl, Nat.le_of_ble_eq_true rfl⟩) ⟨gblind, va_recv hK hP (ci := 7) (q0 := k_13) rfl hk_13, fun U hU hW9 => gmk hU hW9 hP hK hD hex hE hS hFc⟩ rfl rfl hl.1 rfl (lv_room (Nat.le_of_ble_eq_true rfl)) dX8_targetCount_29 ⟨Nat.le_of_ble_eq_true rfl, Nat.le_of_ble_eq_true rfl⟩) hS (fun q _ h => hFc q h) hFc (fun r_14 u9 t9 H1 locs ht9 hvm9 hw9 hB9 hz9 hk9 hS => ?_)
      have hP : va_P (gD g) cl0 ws H1 := by rw [← ht9]; exact hB9.1
      obtain ⟨hw9, xp_15⟩ := hw9
      clear hB9 hz9 hk9 hvm9 ht9 hw9
      generalize H1 = H at hP hS ⊢
      refine lv_goto (tgt := 36) hx hb dX8_targetCount_32 (by decide) ?_
      refine W.widen (k := 0) (n := 0) (Nat.le_of_ble_eq_true rfl) (Nat.le_of_ble_eq_true rfl) ?_
      exact W.iret (v := r_14) hx hb hr (fun t9 ht9 hW9 => ⟨⟨_, (), rfl, ⟨trivial, (fun q9 => tc_ok q9 xp_3 (xp_7 (by have e0 : (0 : Int32).toInt = 0 := (by decide); have q_c_8 := i_ne c_8; have g_r_6 := i_rg r_6; have b_r_6 := i_bit hz_r_6; omega)) xp_11 ez_12 xp_15)⟩, ⟨by rw [ht9]; exact hP, hD⟩⟩, hS.F ht9⟩) hS.2.2 dX8_targetCount_36
  · refine lv_iconst (v := 1) hx hb dX8_targetCount_13 (by decide) ?_
    refine W.widen (k := 0) (n := 0) (Nat.le_of_ble_eq_true rfl) (Nat.le_of_ble_eq_true rfl) ?_
    exact W.iret (v := 1) hx hb hr (fun t9 ht9 hW9 => ⟨⟨_, (), rfl, ⟨trivial, (fun _ => by decide)⟩, ⟨by rw [ht9]; exact hP, hD⟩⟩, hS.F ht9⟩) hS.2.2 dX8_targetCount_14
set_option maxHeartbeats 1000000 in
set_option maxRecDepth 100000 in
theorem m_X5_switchChoice (l : Launch) (g : Gm) (sz : Nat) (ws : va_W) (h0 : Nat) (x1 : Int32) (x2 : Int32) (hG : Good g ws) (o_h0 : gC ws h0 5) (nn_h0_12 : gN ws h0 12) (tk0 : swC ws h0) : Met l yX5_switchChoice (wt yX5_switchChoice cX5_switchChoice 7 (some .int)) ({ frames := 2, cells := 0, slots := 0, locals := 43 }) (va_Pc [.ref h0, .int x1, .int x2] (st_G g sz ws)) (va_Qi (fun (r : Int32) (u9 : Unit) => True) (gQ0 g (va_A ws sz) ws) (va_A ws sz)) (0) (0) (va_A ws sz) := by
  refine Met.ofW (cc := cX5_switchChoice) (maxL := 7) (ret := (some .int)) (by decide) rfl ?_
  intro p e s m args below meth c s₁ B hml hv
  obtain ⟨rfl, hsz, hP, hK, hD0, hex, hE⟩ := hv
  have hx := B.exec
  have hb := B.bytes
  have hr := B.returns
  have hts0 := atoms_spec (ws := wt yX5_switchChoice cX5_switchChoice 7 (some .int)) B.pre
  have hts : ∀ w ∈ tb, w.before _ s = true := fun w h => hts0 w (List.mem_cons_of_mem _ h)
  have hown : s.vm.findClass RX5 = some m.cls := findClass_of_methodNamed B.named
  subst hsz
  have hD := hD0.self (sz := s.heap.size)
  generalize hAe : va_A ws s.heap.size = A at hD hE ⊢
  have hA : ∀ q : Nat, s.heap.size ≤ q → A q := fun q h => by rw [← hAe]; exact Or.inr h
  have hS : va_S A s.heap s.heap [] := va_S.rf
  have hl := lv_entry ([.ref h0, .int x1, .int x2]) (n := 7) (Nat.le_of_ble_eq_true rfl)
  rw [lg_entry_eq]
  generalize (lg_sl ([.ref h0, .int x1, .int x2]) ++ List.replicate (7 - (lg_sl ([.ref h0, .int x1, .int x2])).length) Slot.unset).toArray = ls at hl ⊢
  have hl : lv_has ls 7 [(0, .ref h0), (1, .int x1), (2, .int x2)] := hl
  obtain ⟨k_1, fs9, hk_1⟩ := gC_of o_h0
  obtain ⟨v0_1, r1_1, n1_1, r2_1, n2_1, c3_1, r4_1, n4_1, c5_1, r6_1, n6_1, c7_1, r8_1, n8_1, r9_1, n9_1, r10_1, n10_1, c11_1, v12_1, c13_1, c14_1, c15_1, l16_1, c17_1, c18_1, c19_1, rfl, o_v0_1, F_v0_1, a_r1_1, f3_1, a_r2_1, f5_1, a_r4_1, f7_1, a_r6_1, f9_1, a_r8_1, f11_1, a_r9_1, f13_1, a_r10_1, f15_1, o_v12_1, f17_1, f18_1, f19_1, f20_1, f21_1, f22_1, f23_1, f24_1, f25_1, f26_1, f27_1, f28_1, f29_1, f30_1, f31_1, -⟩ := (hG.1 _ _ _ _ hk_1).hX5 rfl
  obtain ⟨b_2, hn9⟩ := nn_h0_12 _ _ _ hk_1
  have hn9 := fe_qr hn9
  subst hn9
  have o_b_2 := o_v12_1 _ rfl
  refine lv_aload_n hx hb dX5_switchChoice_0 rfl (lv_at hl 0 rfl) ?_
  refine va_get (D := gD g) (ci := 5) (v := .ref b_2) (C := RX5) (T := TX5) (N := 20) hx hb hts inX5 hown hK hP k_1 hk_1 rfl 12 (by decide) (hts _ kw_1030) (fun _ h9 => h9) rfl dX5_switchChoice_1 ?_
  refine lv_aload_n hx hb dX5_switchChoice_4 rfl (lv_at hl 0 rfl) ?_
  refine va_get (D := gD g) (ci := 5) (v := .int c13_1) (C := RX5) (T := TX5) (N := 20) hx hb hts inX5 hown hK hP k_1 hk_1 rfl 13 (by decide) (hts _ kw_1021) (fun _ h9 => h9) rfl dX5_switchChoice_5 ?_
  have hFc := gfree hD hS hA
  obtain ⟨k_3, fs_3, hk_3⟩ := gC_of o_b_2
  refine va_calll (va_runV (As := [.int c13_1]) (rest := []) ⟨hx, hb, hml, hown, hts⟩ (m_X8_argAt_x l g s.heap.size ws b_2 (c13_1) hG o_b_2) (cwV 1 hts (gd_V kw_1104 kw_1476 kw_1477 kw_782 kw_1475) rfl rfl rfl (by decide +kernel) ⟨Nat.le_of_ble_eq_true rfl, Nat.le_of_ble_eq_true rfl⟩) ⟨gblind, va_recv hK hP (ci := 7) (q0 := k_3) rfl hk_3, fun U hU hW9 => gmk hU hW9 hP hK hD hex hE hS hFc⟩ rfl rfl hl.1 rfl (lv_room (Nat.le_of_ble_eq_true rfl)) dX5_switchChoice_8 ⟨Nat.le_of_ble_eq_true rfl, Nat.le_of_ble_eq_true rfl⟩) hS (fun q _ h => hFc q h) hFc (fun r_4 u9 t9 H1 locs ht9 hvm9 hw9 hB9 hz9 hk9 hS => ?_)
  have hP : va_P (gD g) cl0 ws H1 := by rw [← ht9]; exact hB9.1
  obtain ⟨hw9, xp_5⟩ := hw9
  clear hB9 hz9 hk9 hvm9 ht9 hw9
  generalize H1 = H at hP hS ⊢
  obtain ⟨z_6, ez_6⟩ : ∃ y : Int32, (r_4 : Int64).toInt32 = y := ⟨_, rfl⟩
  refine lv_l2i (v := z_6) hx hb dX5_switchChoice_11 ez_6 ?_
  refine lv_istore_n (lv' := [(3, .int z_6), (0, .ref h0), (1, .int x1), (2, .int x2)]) hx hb dX5_switchChoice_12 rfl hl (by decide) rfl (fun ls hl => ?_)
  refine lv_aload_n hx hb dX5_switchChoice_13 rfl (lv_at hl 1 rfl) ?_
  refine va_get (D := gD g) (ci := 5) (v := .ref b_2) (C := RX5) (T := TX5) (N := 20) hx hb hts inX5 hown hK hP k_1 hk_1 rfl 12 (by decide) (hts _ kw_1030) (fun _ h9 => h9) rfl dX5_switchChoice_14 ?_
  refine lv_aload_n hx hb dX5_switchChoice_17 rfl (lv_at hl 1 rfl) ?_
  refine va_get (D := gD g) (ci := 5) (v := .int c13_1) (C := RX5) (T := TX5) (N := 20) hx hb hts inX5 hown hK hP k_1 hk_1 rfl 13 (by decide) (hts _ kw_1021) (fun _ h9 => h9) rfl dX5_switchChoice_18 ?_
  have hFc := gfree hD hS hA
  obtain ⟨k_7, fs_7, hk_7⟩ := gC_of o_b_2
  refine va_calli (va_runV (As := [.int c13_1]) (rest := []) ⟨hx, hb, hml, hown, hts⟩ (m_X8_targetCount_x l g H.size ws b_2 (c13_1) hG o_b_2) (cwV 1 hts (gd_V kw_1181 kw_1541 kw_1542 kw_782 kw_1540) rfl rfl rfl (by decide +kernel) ⟨Nat.le_of_ble_eq_true rfl, Nat.le_of_ble_eq_true rfl⟩) ⟨gblind, va_recv hK hP (ci := 7) (q0 := k_7) rfl hk_7, fun U hU hW9 => gmk hU hW9 hP hK hD hex hE hS hFc⟩ rfl rfl hl.1 rfl (lv_room (Nat.le_of_ble_eq_true rfl)) dX5_switchChoice_21 ⟨Nat.le_of_ble_eq_true rfl, Nat.le_of_ble_eq_true rfl⟩) hS (fun q _ h => hFc q h) hFc (fun r_8 u9 t9 H1 locs ht9 hvm9 hw9 hB9 hz9 hk9 hS => ?_)
  have hP : va_P (gD g) cl0 ws H1 := by rw [← ht9]; exact hB9.1
  obtain ⟨hw9, xp_9⟩ := hw9
  clear hB9 hz9 hk9 hvm9 ht9 hw9
  generalize H1 = H at hP hS ⊢
  have sc_10 := xp_9 (swC_at hD hk_1 rfl tk0)
  refine lv_iconst (v := 1) hx hb dX5_switchChoice_24 (by decide) ?_
  refine lv_isub hx hb dX5_switchChoice_25 ?_
  refine lv_topi (fun z_11 ez_11 => ?_)
  refine lv_istore (lv' := [(4, .int z_11), (3, .int z_6), (0, .ref h0), (1, .int x1), (2, .int x2)]) hx hb dX5_switchChoice_26 hl (by decide) rfl (fun ls hl => ?_)
  refine lv_iload_n hx hb dX5_switchChoice_28 rfl (lv_at hl 3 rfl) ?_
  refine lv_sipush (v := 170) hx hb dX5_switchChoice_29 (by decide) ?_
  refine lv_icmp_ne (tgt := 77) hx hb dX5_switchChoice_32 (by decide) (fun c_12 => ?_) (fun c_12 => ?_)
  · refine lv_iconst (v := 1) hx hb dX5_switchChoice_77 (by decide) ?_
    refine lv_istore (lv' := [(5, .int 1), (4, .int z_11), (3, .int z_6), (0, .ref h0), (1, .int x1), (2, .int x2)]) hx hb dX5_switchChoice_78 hl (by decide) rfl (fun ls hl => ?_)
    have J_80 : ∀ (n9 : Nat) (v5_13 : Int32) (H : Heap) (locs : List Loc) (ls : Array Slot), (2147483647 - v5_13.toInt).toNat = n9 → 0 ≤ v5_13.toInt → va_P (gD g) cl0 ws H → va_D A ws → va_S A s.heap H locs → lv_has ls 7 [(0, .ref h0), (2, .int x2), (3, .int z_6), (4, .int z_11), (5, .int v5_13)] → W p l e (headSpec (wt yX5_switchChoice cX5_switchChoice 7 (some .int)) ({ frames := 2, cells := 0, slots := 0, locals := 43 })).room s m ([.ref h0, .int x1, .int x2] : List Value).toArray below meth c H locs (0) (0) (MQ below (va_Qi (fun (r : Int32) (u9 : Unit) => True) (gQ0 g A ws) A) ([.ref h0, .int x1, .int x2] : List Value).toArray s (0) (0) A) (F0 m 80 ls []) := by
      intro n9
      induction n9 using Nat.strongRecOn with
      | ind n9 ih_80 =>
        intro v5_13 H locs ls hm9 iv_14 hP hD hS hl
        subst hm9
        refine lv_iload hx hb dX5_switchChoice_80 (lv_at hl 4 rfl) ?_
        refine lv_iload hx hb dX5_switchChoice_82 (lv_at hl 3 rfl) ?_
        refine lv_icmp_gt (tgt := 116) hx hb dX5_switchChoice_84 (by decide) (fun c_17 => ?_) (fun c_17 => ?_)
        · refine lv_iconst (v := 0) hx hb dX5_switchChoice_116 (by decide) ?_
          refine W.widen (k := 0) (n := 0) (Nat.le_of_ble_eq_true rfl) (Nat.le_of_ble_eq_true rfl) ?_
          exact W.iret (v := 0) hx hb hr (fun t9 ht9 hW9 => ⟨⟨_, (), rfl, trivial, ⟨by rw [ht9]; exact hP, hD⟩⟩, hS.F ht9⟩) hS.2.2 dX5_switchChoice_117
        · refine lv_aload_n hx hb dX5_switchChoice_87 rfl (lv_at hl 0 rfl) ?_
          refine va_get (D := gD g) (ci := 5) (v := .ref b_2) (C := RX5) (T := TX5) (N := 20) hx hb hts inX5 hown hK hP k_1 hk_1 rfl 12 (by decide) (hts _ kw_1030) (fun _ h9 => h9) rfl dX5_switchChoice_88 ?_
          refine lv_iload_n hx hb dX5_switchChoice_91 rfl (lv_at hl 2 rfl) ?_
          refine lv_iconst (v := 2) hx hb dX5_switchChoice_92 (by decide) ?_
          refine lv_iadd hx hb dX5_switchChoice_93 ?_
          refine lv_topi (fun z_18 ez_18 => ?_)
          refine lv_iload hx hb dX5_switchChoice_94 (lv_at hl 3 rfl) ?_
          refine lv_iadd hx hb dX5_switchChoice_96 ?_
          refine lv_topi (fun z_19 ez_19 => ?_)
          refine lv_iload hx hb dX5_switchChoice_97 (lv_at hl 4 rfl) ?_
          refine lv_iadd hx hb dX5_switchChoice_99 ?_
          refine lv_topi (fun z_20 ez_20 => ?_)
          have hFc := gfree hD hS hA
          obtain ⟨k_21, fs_21, hk_21⟩ := gC_of o_b_2
          refine va_calli (va_runV (As := [.int z_20]) (rest := []) ⟨hx, hb, hml, hown, hts⟩ (m_X8_tableAt_x l g H.size ws b_2 (z_20) hG o_b_2) (cwV 1 hts (gd_V kw_1182 kw_1534 kw_1535 kw_782 kw_1533) rfl rfl rfl (by decide +kernel) ⟨Nat.le_of_ble_eq_true rfl, Nat.le_of_ble_eq_true rfl⟩) ⟨gblind, va_recv hK hP (ci := 7) (q0 := k_21) rfl hk_21, fun U hU hW9 => gmk hU hW9 hP hK hD hex hE hS hFc⟩ rfl rfl hl.1 rfl (lv_room (Nat.le_of_ble_eq_true rfl)) dX5_switchChoice_100 ⟨Nat.le_of_ble_eq_true rfl, Nat.le_of_ble_eq_true rfl⟩) hS (fun q _ h => hFc q h) hFc (fun r_22 u9 t9 H1 locs ht9 hvm9 hw9 hB9 hz9 hk9 hS => ?_)
          have hP : va_P (gD g) cl0 ws H1 := by rw [← ht9]; exact hB9.1
          obtain ⟨hw9, xp_23⟩ := hw9
          clear hB9 hz9 hk9 hvm9 ht9 hw9
          generalize H1 = H at hP hS ⊢
          refine lv_iload_n hx hb dX5_switchChoice_103 rfl (lv_at hl 1 rfl) ?_
          refine lv_icmp_ne (tgt := 110) hx hb dX5_switchChoice_104 (by decide) (fun c_24 => ?_) (fun c_24 => ?_)
          · obtain ⟨z_25, ez_25⟩ : ∃ z : Int32, v5_13 + Int32.ofInt 1 = z := ⟨_, rfl⟩
            refine lv_iinc (v := z_25) (lv' := [(5, .int z_25), (0, .ref h0), (2, .int x2), (3, .int z_6), (4, .int z_11)]) hx hb dX5_switchChoice_110 hl (k := 4) rfl ez_25 (by decide) rfl (fun ls hl => ?_)
            refine lv_goto (tgt := 80) hx hb dX5_switchChoice_113 (by decide) ?_
            exact ih_80 _ (by have e1 : (1 : Int32).toInt = 1 := (by decide); have e2 : (2 : Int32).toInt = 2 := (by decide); obtain ⟨u_z_25, q_z_25⟩ := i_iz ez_25 (by decide) (by decide); have q_iv_14 := iv_14; have q_c_17 := i_nlt c_17; have q_z_20 := i_addD ez_20; have q_z_11 := i_subD ez_11; have q_z_19 := i_addD ez_19; have q_sc_10 := sc_10; have q_z_18 := i_addD ez_18; have g_r_8 := i_rg r_8; have g_v5_13 := i_rg v5_13; have g_z_11 := i_rg z_11; have g_z_18 := i_rg z_18; have g_z_19 := i_rg z_19; have g_z_20 := i_rg z_20; have g_z_25 := i_rg z_25; have g_z_6 := i_rg z_6; omega) (z_25) H locs ls rfl (by have e1 : (1 : Int32).toInt = 1 := (by decide); have e2 : (2 : Int32).toInt = 2 := (by decide); obtain ⟨u_z_25, q_z_25⟩ := i_iz ez_25 (by decide) (by decide); have q_iv_14 := iv_14; have q_c_17 := i_nlt c_17; have q_z_20 := i_addD ez_20; have q_z_11 := i_subD ez_11; have q_z_19 := i_addD ez_19; have q_sc_10 := sc_10; have q_z_18 := i_addD ez_18; have g_r_8 := i_rg r_8; have g_v5_13 := i_rg v5_13; have g_z_11 := i_rg z_11; have g_z_18 := i_rg z_18; have g_z_19 := i_rg z_19; have g_z_20 := i_rg z_20; have g_z_25 := i_rg z_25; have g_z_6 := i_rg z_6; omega) hP hD hS (lv_sub hl [1, 2, 3, 4, 0] rfl)
          · refine lv_iload hx hb dX5_switchChoice_107 (lv_at hl 4 rfl) ?_
            refine W.widen (k := 0) (n := 0) (Nat.le_of_ble_eq_true rfl) (Nat.le_of_ble_eq_true rfl) ?_
            exact W.iret (v := v5_13) hx hb hr (fun t9 ht9 hW9 => ⟨⟨_, (), rfl, trivial, ⟨by rw [ht9]; exact hP, hD⟩⟩, hS.F ht9⟩) hS.2.2 dX5_switchChoice_109
    exact J_80 _ (1) H locs ls rfl (by have e1 : (1 : Int32).toInt = 1 := (by decide); omega) hP hD hS (lv_sub hl [3, 5, 2, 1, 0] rfl)
  · refine lv_iload_n hx hb dX5_switchChoice_35 rfl (lv_at hl 4 rfl) ?_
    obtain ⟨z_26, ez_26⟩ : ∃ y : Int64, (x2 : Int32).toInt64 = y := ⟨_, rfl⟩
    refine lv_i2l (v := z_26) hx hb dX5_switchChoice_36 ez_26 ?_
    refine lv_aload_n hx hb dX5_switchChoice_37 rfl (lv_at hl 2 rfl) ?_
    refine va_get (D := gD g) (ci := 5) (v := .ref b_2) (C := RX5) (T := TX5) (N := 20) hx hb hts inX5 hown hK hP k_1 hk_1 rfl 12 (by decide) (hts _ kw_1030) (fun _ h9 => h9) rfl dX5_switchChoice_38 ?_
    refine lv_iload_n hx hb dX5_switchChoice_41 rfl (lv_at hl 1 rfl) ?_
    refine lv_iconst (v := 1) hx hb dX5_switchChoice_42 (by decide) ?_
    refine lv_iadd hx hb dX5_switchChoice_43 ?_
    refine lv_topi (fun z_27 ez_27 => ?_)
    have hFc := gfree hD hS hA
    obtain ⟨k_28, fs_28, hk_28⟩ := gC_of o_b_2
    refine va_calli (va_runV (As := [.int z_27]) (rest := [.long z_26]) ⟨hx, hb, hml, hown, hts⟩ (m_X8_tableAt_x l g H.size ws b_2 (z_27) hG o_b_2) (cwV 1 hts (gd_V kw_1182 kw_1534 kw_1535 kw_782 kw_1533) rfl rfl rfl (by decide +kernel) ⟨Nat.le_of_ble_eq_true rfl, Nat.le_of_ble_eq_true rfl⟩) ⟨gblind, va_recv hK hP (ci := 7) (q0 := k_28) rfl hk_28, fun U hU hW9 => gmk hU hW9 hP hK hD hex hE hS hFc⟩ rfl rfl hl.1 rfl (lv_room (Nat.le_of_ble_eq_true rfl)) dX5_switchChoice_44 ⟨Nat.le_of_ble_eq_true rfl, Nat.le_of_ble_eq_true rfl⟩) hS (fun q _ h => hFc q h) hFc (fun r_29 u9 t9 H1 locs ht9 hvm9 hw9 hB9 hz9 hk9 hS => ?_)
    have hP : va_P (gD g) cl0 ws H1 := by rw [← ht9]; exact hB9.1
    obtain ⟨hw9, xp_30⟩ := hw9
    clear hB9 hz9 hk9 hvm9 ht9 hw9
    generalize H1 = H at hP hS ⊢
    obtain ⟨z_31, ez_31⟩ : ∃ y : Int64, (r_29 : Int32).toInt64 = y := ⟨_, rfl⟩
    refine lv_i2l (v := z_31) hx hb dX5_switchChoice_47 ez_31 ?_
    refine lv_lsub hx hb dX5_switchChoice_48 ?_
    refine lv_topl (fun z_32 ez_32 => ?_)
    refine lv_lstore (lv' := [(5, .long z_32), (4, .int z_11), (3, .int z_6), (0, .ref h0), (1, .int x1), (2, .int x2)]) hx hb dX5_switchChoice_49 hl (by decide) rfl (fun ls hl => ?_)
    refine lv_lload hx hb dX5_switchChoice_51 (lv_at hl 0 rfl) ?_
    refine lv_lconst (v := 0) hx hb dX5_switchChoice_53 (by decide) ?_
    refine W.lcmp hx hb dX5_switchChoice_54 ?_
    refine lv_topi (fun z_33 ez_33 => ?_)
    have J_76 : ∀ (t_34 : Int32) (H : Heap) (locs : List Loc) (ls : Array Slot), va_P (gD g) cl0 ws H → va_D A ws → va_S A s.heap H locs → lv_has ls 7 [] → W p l e (headSpec (wt yX5_switchChoice cX5_switchChoice 7 (some .int)) ({ frames := 2, cells := 0, slots := 0, locals := 43 })).room s m ([.ref h0, .int x1, .int x2] : List Value).toArray below meth c H locs (0) (0) (MQ below (va_Qi (fun (r : Int32) (u9 : Unit) => True) (gQ0 g A ws) A) ([.ref h0, .int x1, .int x2] : List Value).toArray s (0) (0) A) (F0 m 76 ls [.int t_34]) := by
      intro t_34 H locs ls  hP hD hS hl
      refine W.widen (k := 0) (n := 0) (Nat.le_of_ble_eq_true rfl) (Nat.le_of_ble_eq_true rfl) ?_
      exact W.iret (v := t_34) hx hb hr (fun t9 ht9 hW9 => ⟨⟨_, (), rfl, trivial, ⟨by rw [ht9]; exact hP, hD⟩⟩, hS.F ht9⟩) hS.2.2 dX5_switchChoice_76
    have J_67 : ∀  (H : Heap) (locs : List Loc) (ls : Array Slot), va_P (gD g) cl0 ws H → va_D A ws → va_S A s.heap H locs → lv_has ls 7 [] → W p l e (headSpec (wt yX5_switchChoice cX5_switchChoice 7 (some .int)) ({ frames := 2, cells := 0, slots := 0, locals := 43 })).room s m ([.ref h0, .int x1, .int x2] : List Value).toArray below meth c H locs (0) (0) (MQ below (va_Qi (fun (r : Int32) (u9 : Unit) => True) (gQ0 g A ws) A) ([.ref h0, .int x1, .int x2] : List Value).toArray s (0) (0) A) (F0 m 67 ls []) := by
      intro  H locs ls  hP hD hS hl
      refine lv_iconst (v := 0) hx hb dX5_switchChoice_67 (by decide) ?_
      refine lv_goto (tgt := 76) hx hb dX5_switchChoice_68 (by decide) ?_
      exact J_76 (0) H locs ls  hP hD hS (lv_sub hl [] rfl)
    refine lv_if_lt (tgt := 67) hx hb dX5_switchChoice_55 (by decide) (fun c_39 => ?_) (fun c_39 => ?_)
    · exact J_67  H locs ls  hP hD hS (lv_sub hl [] rfl)
    · refine lv_lload hx hb dX5_switchChoice_58 (lv_at hl 0 rfl) ?_
      refine lv_iload hx hb dX5_switchChoice_60 (lv_at hl 1 rfl) ?_
      obtain ⟨z_40, ez_40⟩ : ∃ y : Int64, (z_11 : Int32).toInt64 = y := ⟨_, rfl⟩
      refine lv_i2l (v := z_40) hx hb dX5_switchChoice_62 ez_40 ?_
      refine W.lcmp hx hb dX5_switchChoice_63 ?_
      refine lv_topi (fun z_41 ez_41 => ?_)
      refine lv_if_lt (tgt := 71) hx hb dX5_switchChoice_64 (by decide) (fun c_42 => ?_) (fun c_42 => ?_)
      · refine lv_lload hx hb dX5_switchChoice_71 (lv_at hl 0 rfl) ?_
        obtain ⟨z_43, ez_43⟩ : ∃ y : Int32, (z_32 : Int64).toInt32 = y := ⟨_, rfl⟩
        refine lv_l2i (v := z_43) hx hb dX5_switchChoice_73 ez_43 ?_
        refine lv_iconst (v := 1) hx hb dX5_switchChoice_74 (by decide) ?_
        refine lv_iadd hx hb dX5_switchChoice_75 ?_
        refine lv_topi (fun z_44 ez_44 => ?_)
        exact J_76 (z_44) H locs ls  hP hD hS (lv_sub hl [] rfl)
      · exact J_67  H locs ls  hP hD hS (lv_sub hl [] rfl)
