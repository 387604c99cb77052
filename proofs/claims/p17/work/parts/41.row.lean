set_option maxHeartbeats 1000000 in
set_option maxRecDepth 100000 in
theorem m_X8_opAt (l : Launch) (g : Gm) (sz : Nat) (ws : va_W) (h0 : Nat) (x1 : Int32) (hG : Good g ws) (o_h0 : gC ws h0 7) : Met l yX8_opAt (wt yX8_opAt cX8_opAt 2 (some .int)) ({ frames := 0, cells := 0, slots := 0, locals := 0 }) (va_Pc [.ref h0, .int x1] (st_G g sz ws)) (va_Qi (fun (r : Int32) (u9 : Unit) => True) (gQ0 g (va_A ws sz) ws) (va_A ws sz)) (0) (0) (va_A ws sz) := by
  refine Met.ofW (cc := cX8_opAt) (maxL := 2) (ret := (some .int)) (by decide) rfl ?_
  intro p e s m args below meth c s₁ B hml hv
  obtain ⟨rfl, hsz, hP, hK, hD0, hex, hE⟩ := hv
  have hx := B.exec
  have hb := B.bytes
  have hr := B.returns
  have hts0 := atoms_spec (ws := wt yX8_opAt cX8_opAt 2 (some .int)) B.pre
  have hts : ∀ w ∈ tb, w.before _ s = true := fun w h => hts0 w (List.mem_cons_of_mem _ h)
  have hown : s.vm.findClass RX8 = some m.cls := findClass_of_methodNamed B.named
  subst hsz
  have hD := hD0.self (sz := s.heap.size)
  generalize hAe : va_A ws s.heap.size = A at hD hE ⊢
  have hA : ∀ q : Nat, s.heap.size ≤ q → A q := fun q h => by rw [← hAe]; exact Or.inr h
  have hS : va_S A s.heap s.heap [] := va_S.rf
  have hl := lv_entry ([.ref h0, .int x1]) (n := 2) (Nat.le_of_ble_eq_true rfl)
  rw [lg_entry_eq]
  generalize (lg_sl ([.ref h0, .int x1]) ++ List.replicate (2 - (lg_sl ([.ref h0, .int x1])).length) Slot.unset).toArray = ls at hl ⊢
  have hl : lv_has ls 2 [(0, .ref h0), (1, .int x1)] := hl
  refine lv_iload_n hx hb dX8_opAt_0 rfl (lv_at hl 1 rfl) ?_
  have J_22 : ∀ (t_1 : Int32) (H : Heap) (locs : List Loc) (ls : Array Slot), va_P (gD g) cl0 ws H → va_D A ws → va_S A s.heap H locs → lv_has ls 2 [] → W p l e (headSpec (wt yX8_opAt cX8_opAt 2 (some .int)) ({ frames := 0, cells := 0, slots := 0, locals := 0 })).room s m ([.ref h0, .int x1] : List Value).toArray below meth c H locs (0) (0) (MQ below (va_Qi (fun (r : Int32) (u9 : Unit) => True) (gQ0 g A ws) A) ([.ref h0, .int x1] : List Value).toArray s (0) (0) A) (F0 m 22 ls [.int t_1]) := by
    intro t_1 H locs ls  hP hD hS hl
    refine W.widen (k := 0) (n := 0) (Nat.le_of_ble_eq_true rfl) (Nat.le_of_ble_eq_true rfl) ?_
    exact W.iret (v := t_1) hx hb hr (fun t9 ht9 hW9 => ⟨⟨_, (), rfl, trivial, ⟨by rw [ht9]; exact hP, hD⟩⟩, hS.F ht9⟩) hS.2.2 dX8_opAt_22
  have J_12 : ∀  (H : Heap) (locs : List Loc) (ls : Array Slot), va_P (gD g) cl0 ws H → va_D A ws → va_S A s.heap H locs → lv_has ls 2 [] → W p l e (headSpec (wt yX8_opAt cX8_opAt 2 (some .int)) ({ frames := 0, cells := 0, slots := 0, locals := 0 })).room s m ([.ref h0, .int x1] : List Value).toArray below meth c H locs (0) (0) (MQ below (va_Qi (fun (r : Int32) (u9 : Unit) => True) (gQ0 g A ws) A) ([.ref h0, .int x1] : List Value).toArray s (0) (0) A) (F0 m 12 ls []) := by
    intro  H locs ls  hP hD hS hl
    refine lv_iconst (v := (-1)) hx hb dX8_opAt_12 (by decide) ?_
    refine lv_goto (tgt := 22) hx hb dX8_opAt_13 (by decide) ?_
    exact J_22 ((-1)) H locs ls  hP hD hS (lv_sub hl [] rfl)
  refine lv_if_lt (tgt := 12) hx hb dX8_opAt_1 (by decide) (fun c_6 => ?_) (fun c_6 => ?_)
  · exact J_12  _ _ ls  hP hD hS (lv_sub hl [] rfl)
  · refine lv_iload_n hx hb dX8_opAt_4 rfl (lv_at hl 1 rfl) ?_
    refine lv_aload_n hx hb dX8_opAt_5 rfl (lv_at hl 0 rfl) ?_
    obtain ⟨k_7, fs9, hk_7⟩ := gC_of o_h0
    obtain ⟨r0_7, n0_7, r1_7, n1_7, c2_7, r3_7, n3_7, c4_7, r5_7, n5_7, r6_7, n6_7, r7_7, n7_7, r8_7, n8_7, c9_7, c10_7, c11_7, v12_7, v13_7, v14_7, rfl, a_r0_7, f1_7, a_r1_7, f3_7, a_r3_7, f5_7, a_r5_7, f7_7, a_r6_7, f9_7, a_r7_7, f11_7, a_r8_7, f13_7, o_v12_7, o_v13_7, o_v14_7, f17_7, f18_7, f19_7, f20_7, f21_7, f22_7, f23_7, f24_7, f25_7, f26_7, f27_7, f28_7, f29_7, -⟩ := (hG.1 _ _ _ _ hk_7).hX8 rfl
    refine va_get (D := gD g) (ci := 7) (v := .int c2_7) (C := RX8) (T := TX8) (N := 15) hx hb hts inX8 hown hK hP k_7 hk_7 rfl 2 (by decide) (hts _ kw_1459) (fun _ h9 => h9) rfl dX8_opAt_6 ?_
    refine lv_icmp_lt (tgt := 16) hx hb dX8_opAt_9 (by decide) (fun c_8 => ?_) (fun c_8 => ?_)
    · refine lv_aload_n hx hb dX8_opAt_16 rfl (lv_at hl 0 rfl) ?_
      refine va_get (D := gD g) (ci := 7) (v := .ref r0_7) (C := RX8) (T := TX8) (N := 15) hx hb hts inX8 hown hK hP k_7 hk_7 rfl 0 (by decide) (hts _ kw_1460) (fun _ h9 => h9) rfl dX8_opAt_17 ?_
      refine lv_iload_n hx hb dX8_opAt_20 rfl (lv_at hl 1 rfl) ?_
      obtain ⟨k_9, f_9, hk_9⟩ := gI_of a_r0_7
      refine va_iald hx hb hK hP k_9 1 hk_9 rfl (i_in2 (by have e0 : (0 : Int32).toInt = 0 := (by decide); have q_c_6 := i_nlt c_6; have q_f1_7 := f1_7; have q_f17_7 := f17_7; have q_f18_7 := f18_7; have q_f20_7 := f20_7; have q_c_8 := i_lt c_8; have q_f3_7 := f3_7; have q_f19_7 := f19_7; have g_c2_7 := i_rg c2_7; have g_x1 := i_rg x1; omega)) dX8_opAt_21 ?_
      refine lv_topi (fun z_10 ez_10 => ?_)
      exact J_22 (z_10) _ _ ls  hP hD hS (lv_sub hl [] rfl)
    · exact J_12  _ _ ls  hP hD hS (lv_sub hl [] rfl)
set_option maxHeartbeats 1000000 in
set_option maxRecDepth 100000 in
theorem m_X8_argAt (l : Launch) (g : Gm) (sz : Nat) (ws : va_W) (h0 : Nat) (x1 : Int32) (hG : Good g ws) (o_h0 : gC ws h0 7) : Met l yX8_argAt (wt yX8_argAt cX8_argAt 2 (some .long)) ({ frames := 0, cells := 0, slots := 0, locals := 0 }) (va_Pc [.ref h0, .int x1] (st_G g sz ws)) (va_Ql (fun (r : Int64) (u9 : Unit) => True) (gQ0 g (va_A ws sz) ws) (va_A ws sz)) (0) (0) (va_A ws sz) := by
  refine Met.ofW (cc := cX8_argAt) (maxL := 2) (ret := (some .long)) (by decide) rfl ?_
  intro p e s m args below meth c s₁ B hml hv
  obtain ⟨rfl, hsz, hP, hK, hD0, hex, hE⟩ := hv
  have hx := B.exec
  have hb := B.bytes
  have hr := B.returns
  have hts0 := atoms_spec (ws := wt yX8_argAt cX8_argAt 2 (some .long)) B.pre
  have hts : ∀ w ∈ tb, w.before _ s = true := fun w h => hts0 w (List.mem_cons_of_mem _ h)
  have hown : s.vm.findClass RX8 = some m.cls := findClass_of_methodNamed B.named
  subst hsz
  have hD := hD0.self (sz := s.heap.size)
  generalize hAe : va_A ws s.heap.size = A at hD hE ⊢
  have hA : ∀ q : Nat, s.heap.size ≤ q → A q := fun q h => by rw [← hAe]; exact Or.inr h
  have hS : va_S A s.heap s.heap [] := va_S.rf
  have hl := lv_entry ([.ref h0, .int x1]) (n := 2) (Nat.le_of_ble_eq_true rfl)
  rw [lg_entry_eq]
  generalize (lg_sl ([.ref h0, .int x1]) ++ List.replicate (2 - (lg_sl ([.ref h0, .int x1])).length) Slot.unset).toArray = ls at hl ⊢
  have hl : lv_has ls 2 [(0, .ref h0), (1, .int x1)] := hl
  refine lv_iload_n hx hb dX8_argAt_0 rfl (lv_at hl 1 rfl) ?_
  have J_22 : ∀ (t_1 : Int64) (H : Heap) (locs : List Loc) (ls : Array Slot), va_P (gD g) cl0 ws H → va_D A ws → va_S A s.heap H locs → lv_has ls 2 [] → W p l e (headSpec (wt yX8_argAt cX8_argAt 2 (some .long)) ({ frames := 0, cells := 0, slots := 0, locals := 0 })).room s m ([.ref h0, .int x1] : List Value).toArray below meth c H locs (0) (0) (MQ below (va_Ql (fun (r : Int64) (u9 : Unit) => True) (gQ0 g A ws) A) ([.ref h0, .int x1] : List Value).toArray s (0) (0) A) (F0 m 22 ls [.long t_1]) := by
    intro t_1 H locs ls  hP hD hS hl
    refine W.widen (k := 0) (n := 0) (Nat.le_of_ble_eq_true rfl) (Nat.le_of_ble_eq_true rfl) ?_
    exact W.lret (v := t_1) hx hb hr (fun t9 ht9 hW9 => ⟨⟨_, (), rfl, trivial, ⟨by rw [ht9]; exact hP, hD⟩⟩, hS.F ht9⟩) hS.2.2 dX8_argAt_22
  have J_12 : ∀  (H : Heap) (locs : List Loc) (ls : Array Slot), va_P (gD g) cl0 ws H → va_D A ws → va_S A s.heap H locs → lv_has ls 2 [] → W p l e (headSpec (wt yX8_argAt cX8_argAt 2 (some .long)) ({ frames := 0, cells := 0, slots := 0, locals := 0 })).room s m ([.ref h0, .int x1] : List Value).toArray below meth c H locs (0) (0) (MQ below (va_Ql (fun (r : Int64) (u9 : Unit) => True) (gQ0 g A ws) A) ([.ref h0, .int x1] : List Value).toArray s (0) (0) A) (F0 m 12 ls []) := by
    intro  H locs ls  hP hD hS hl
    refine lv_lconst (v := 0) hx hb dX8_argAt_12 (by decide) ?_
    refine lv_goto (tgt := 22) hx hb dX8_argAt_13 (by decide) ?_
    exact J_22 (0) H locs ls  hP hD hS (lv_sub hl [] rfl)
  refine lv_if_lt (tgt := 12) hx hb dX8_argAt_1 (by decide) (fun c_6 => ?_) (fun c_6 => ?_)
  · exact J_12  _ _ ls  hP hD hS (lv_sub hl [] rfl)
  · refine lv_iload_n hx hb dX8_argAt_4 rfl (lv_at hl 1 rfl) ?_
    refine lv_aload_n hx hb dX8_argAt_5 rfl (lv_at hl 0 rfl) ?_
    obtain ⟨k_7, fs9, hk_7⟩ := gC_of o_h0
    obtain ⟨r0_7, n0_7, r1_7, n1_7, c2_7, r3_7, n3_7, c4_7, r5_7, n5_7, r6_7, n6_7, r7_7, n7_7, r8_7, n8_7, c9_7, c10_7, c11_7, v12_7, v13_7, v14_7, rfl, a_r0_7, f1_7, a_r1_7, f3_7, a_r3_7, f5_7, a_r5_7, f7_7, a_r6_7, f9_7, a_r7_7, f11_7, a_r8_7, f13_7, o_v12_7, o_v13_7, o_v14_7, f17_7, f18_7, f19_7, f20_7, f21_7, f22_7, f23_7, f24_7, f25_7, f26_7, f27_7, f28_7, f29_7, -⟩ := (hG.1 _ _ _ _ hk_7).hX8 rfl
    refine va_get (D := gD g) (ci := 7) (v := .int c2_7) (C := RX8) (T := TX8) (N := 15) hx hb hts inX8 hown hK hP k_7 hk_7 rfl 2 (by decide) (hts _ kw_1459) (fun _ h9 => h9) rfl dX8_argAt_6 ?_
    refine lv_icmp_lt (tgt := 16) hx hb dX8_argAt_9 (by decide) (fun c_8 => ?_) (fun c_8 => ?_)
    · refine lv_aload_n hx hb dX8_argAt_16 rfl (lv_at hl 0 rfl) ?_
      refine va_get (D := gD g) (ci := 7) (v := .ref r1_7) (C := RX8) (T := TX8) (N := 15) hx hb hts inX8 hown hK hP k_7 hk_7 rfl 1 (by decide) (hts _ kw_1478) (fun _ h9 => h9) rfl dX8_argAt_17 ?_
      refine lv_iload_n hx hb dX8_argAt_20 rfl (lv_at hl 1 rfl) ?_
      obtain ⟨k_9, f_9, hk_9⟩ := gJ_of a_r1_7
      refine va_lald hx hb hK hP k_9 3 hk_9 rfl (i_in2 (by have e0 : (0 : Int32).toInt = 0 := (by decide); have q_c_6 := i_nlt c_6; have q_f3_7 := f3_7; have q_f17_7 := f17_7; have q_c_8 := i_lt c_8; have q_f1_7 := f1_7; have q_f18_7 := f18_7; have q_f19_7 := f19_7; have q_f20_7 := f20_7; have g_c2_7 := i_rg c2_7; have g_x1 := i_rg x1; omega)) dX8_argAt_21 ?_
      refine lv_topl (fun z_10 ez_10 => ?_)
      exact J_22 (z_10) _ _ ls  hP hD hS (lv_sub hl [] rfl)
    · exact J_12  _ _ ls  hP hD hS (lv_sub hl [] rfl)
set_option maxHeartbeats 1000000 in
set_option maxRecDepth 100000 in
theorem m_X8_tableAt (l : Launch) (g : Gm) (sz : Nat) (ws : va_W) (h0 : Nat) (x1 : Int32) (hG : Good g ws) (o_h0 : gC ws h0 7) : Met l yX8_tableAt (wt yX8_tableAt cX8_tableAt 2 (some .int)) ({ frames := 0, cells := 0, slots := 0, locals := 0 }) (va_Pc [.ref h0, .int x1] (st_G g sz ws)) (va_Qi (fun (r : Int32) (u9 : Unit) => True) (gQ0 g (va_A ws sz) ws) (va_A ws sz)) (0) (0) (va_A ws sz) := by
  refine Met.ofW (cc := cX8_tableAt) (maxL := 2) (ret := (some .int)) (by decide) rfl ?_
  intro p e s m args below meth c s₁ B hml hv
  obtain ⟨rfl, hsz, hP, hK, hD0, hex, hE⟩ := hv
  have hx := B.exec
  have hb := B.bytes
  have hr := B.returns
  have hts0 := atoms_spec (ws := wt yX8_tableAt cX8_tableAt 2 (some .int)) B.pre
  have hts : ∀ w ∈ tb, w.before _ s = true := fun w h => hts0 w (List.mem_cons_of_mem _ h)
  have hown : s.vm.findClass RX8 = some m.cls := findClass_of_methodNamed B.named
  subst hsz
  have hD := hD0.self (sz := s.heap.size)
  generalize hAe : va_A ws s.heap.size = A at hD hE ⊢
  have hA : ∀ q : Nat, s.heap.size ≤ q → A q := fun q h => by rw [← hAe]; exact Or.inr h
  have hS : va_S A s.heap s.heap [] := va_S.rf
  have hl := lv_entry ([.ref h0, .int x1]) (n := 2) (Nat.le_of_ble_eq_true rfl)
  rw [lg_entry_eq]
  generalize (lg_sl ([.ref h0, .int x1]) ++ List.replicate (2 - (lg_sl ([.ref h0, .int x1])).length) Slot.unset).toArray = ls at hl ⊢
  have hl : lv_has ls 2 [(0, .ref h0), (1, .int x1)] := hl
  refine lv_iload_n hx hb dX8_tableAt_0 rfl (lv_at hl 1 rfl) ?_
  have J_22 : ∀ (t_1 : Int32) (H : Heap) (locs : List Loc) (ls : Array Slot), va_P (gD g) cl0 ws H → va_D A ws → va_S A s.heap H locs → lv_has ls 2 [] → W p l e (headSpec (wt yX8_tableAt cX8_tableAt 2 (some .int)) ({ frames := 0, cells := 0, slots := 0, locals := 0 })).room s m ([.ref h0, .int x1] : List Value).toArray below meth c H locs (0) (0) (MQ below (va_Qi (fun (r : Int32) (u9 : Unit) => True) (gQ0 g A ws) A) ([.ref h0, .int x1] : List Value).toArray s (0) (0) A) (F0 m 22 ls [.int t_1]) := by
    intro t_1 H locs ls  hP hD hS hl
    refine W.widen (k := 0) (n := 0) (Nat.le_of_ble_eq_true rfl) (Nat.le_of_ble_eq_true rfl) ?_
    exact W.iret (v := t_1) hx hb hr (fun t9 ht9 hW9 => ⟨⟨_, (), rfl, trivial, ⟨by rw [ht9]; exact hP, hD⟩⟩, hS.F ht9⟩) hS.2.2 dX8_tableAt_22
  have J_12 : ∀  (H : Heap) (locs : List Loc) (ls : Array Slot), va_P (gD g) cl0 ws H → va_D A ws → va_S A s.heap H locs → lv_has ls 2 [] → W p l e (headSpec (wt yX8_tableAt cX8_tableAt 2 (some .int)) ({ frames := 0, cells := 0, slots := 0, locals := 0 })).room s m ([.ref h0, .int x1] : List Value).toArray below meth c H locs (0) (0) (MQ below (va_Qi (fun (r : Int32) (u9 : Unit) => True) (gQ0 g A ws) A) ([.ref h0, .int x1] : List Value).toArray s (0) (0) A) (F0 m 12 ls []) := by
    intro  H locs ls  hP hD hS hl
    refine lv_iconst (v := 0) hx hb dX8_tableAt_12 (by decide) ?_
    refine lv_goto (tgt := 22) hx hb dX8_tableAt_13 (by decide) ?_
    exact J_22 (0) H locs ls  hP hD hS (lv_sub hl [] rfl)
  refine lv_if_lt (tgt := 12) hx hb dX8_tableAt_1 (by decide) (fun c_6 => ?_) (fun c_6 => ?_)
  · exact J_12  _ _ ls  hP hD hS (lv_sub hl [] rfl)
  · refine lv_iload_n hx hb dX8_tableAt_4 rfl (lv_at hl 1 rfl) ?_
    refine lv_aload_n hx hb dX8_tableAt_5 rfl (lv_at hl 0 rfl) ?_
    obtain ⟨k_7, fs9, hk_7⟩ := gC_of o_h0
    obtain ⟨r0_7, n0_7, r1_7, n1_7, c2_7, r3_7, n3_7, c4_7, r5_7, n5_7, r6_7, n6_7, r7_7, n7_7, r8_7, n8_7, c9_7, c10_7, c11_7, v12_7, v13_7, v14_7, rfl, a_r0_7, f1_7, a_r1_7, f3_7, a_r3_7, f5_7, a_r5_7, f7_7, a_r6_7, f9_7, a_r7_7, f11_7, a_r8_7, f13_7, o_v12_7, o_v13_7, o_v14_7, f17_7, f18_7, f19_7, f20_7, f21_7, f22_7, f23_7, f24_7, f25_7, f26_7, f27_7, f28_7, f29_7, -⟩ := (hG.1 _ _ _ _ hk_7).hX8 rfl
    refine va_get (D := gD g) (ci := 7) (v := .int c4_7) (C := RX8) (T := TX8) (N := 15) hx hb hts inX8 hown hK hP k_7 hk_7 rfl 4 (by decide) (hts _ kw_1473) (fun _ h9 => h9) rfl dX8_tableAt_6 ?_
    refine lv_icmp_lt (tgt := 16) hx hb dX8_tableAt_9 (by decide) (fun c_8 => ?_) (fun c_8 => ?_)
    · refine lv_aload_n hx hb dX8_tableAt_16 rfl (lv_at hl 0 rfl) ?_
      refine va_get (D := gD g) (ci := 7) (v := .ref r3_7) (C := RX8) (T := TX8) (N := 15) hx hb hts inX8 hown hK hP k_7 hk_7 rfl 3 (by decide) (hts _ kw_1474) (fun _ h9 => h9) rfl dX8_tableAt_17 ?_
      refine lv_iload_n hx hb dX8_tableAt_20 rfl (lv_at hl 1 rfl) ?_
      obtain ⟨k_9, f_9, hk_9⟩ := gI_of a_r3_7
      refine va_iald hx hb hK hP k_9 1 hk_9 rfl (i_in2 (by have e0 : (0 : Int32).toInt = 0 := (by decide); have q_c_6 := i_nlt c_6; have q_f5_7 := f5_7; have q_f22_7 := f22_7; have q_f28_7 := f28_7; have q_c_8 := i_lt c_8; have q_f21_7 := f21_7; have g_c4_7 := i_rg c4_7; have g_x1 := i_rg x1; omega)) dX8_tableAt_21 ?_
      refine lv_topi (fun z_10 ez_10 => ?_)
      exact J_22 (z_10) _ _ ls  hP hD hS (lv_sub hl [] rfl)
    · exact J_12  _ _ ls  hP hD hS (lv_sub hl [] rfl)
set_option maxHeartbeats 1000000 in
set_option maxRecDepth 100000 in
theorem m_X8_localOf (l : Launch) (g : Gm) (sz : Nat) (ws : va_W) (h0 : Nat) (x1 : Int32) (hG : Good g ws) (o_h0 : gC ws h0 7) : Met l yX8_localOf (wt yX8_localOf cX8_localOf 2 (some .int)) ({ frames := 1, cells := 0, slots := 0, locals := 21 }) (va_Pc [.ref h0, .int x1] (st_G g sz ws)) (va_Qi (fun (r : Int32) (u9 : Unit) => True) (gQ0 g (va_A ws sz) ws) (va_A ws sz)) (0) (0) (va_A ws sz) := by
  refine Met.ofW (cc := cX8_localOf) (maxL := 2) (ret := (some .int)) (by decide) rfl ?_
  intro p e s m args below meth c s₁ B hml hv
  obtain ⟨rfl, hsz, hP, hK, hD0, hex, hE⟩ := hv
  have hx := B.exec
  have hb := B.bytes
  have hr := B.returns
  have hts0 := atoms_spec (ws := wt yX8_localOf cX8_localOf 2 (some .int)) B.pre
  have hts : ∀ w ∈ tb, w.before _ s = true := fun w h => hts0 w (List.mem_cons_of_mem _ h)
  have hown : s.vm.findClass RX8 = some m.cls := findClass_of_methodNamed B.named
  subst hsz
  have hD := hD0.self (sz := s.heap.size)
  generalize hAe : va_A ws s.heap.size = A at hD hE ⊢
  have hA : ∀ q : Nat, s.heap.size ≤ q → A q := fun q h => by rw [← hAe]; exact Or.inr h
  have hS : va_S A s.heap s.heap [] := va_S.rf
  have hl := lv_entry ([.ref h0, .int x1]) (n := 2) (Nat.le_of_ble_eq_true rfl)
  rw [lg_entry_eq]
  generalize (lg_sl ([.ref h0, .int x1]) ++ List.replicate (2 - (lg_sl ([.ref h0, .int x1])).length) Slot.unset).toArray = ls at hl ⊢
  have hl : lv_has ls 2 [(0, .ref h0), (1, .int x1)] := hl
  refine lv_aload_n hx hb dX8_localOf_0 rfl (lv_at hl 0 rfl) ?_
  refine lv_iload_n hx hb dX8_localOf_1 rfl (lv_at hl 1 rfl) ?_
  have hFc := gfree hD hS hA
  obtain ⟨k_1, fs_1, hk_1⟩ := gC_of o_h0
  refine va_calll (va_runV (As := [.int x1]) (rest := []) ⟨hx, hb, hml, hown, hts⟩ (m_X8_argAt l g s.heap.size ws h0 (x1) hG o_h0) (cwV 1 hts (gd_V kw_1511 kw_1476 kw_1477 kw_782 kw_1475) rfl rfl rfl (by decide +kernel) ⟨Nat.le_of_ble_eq_true rfl, Nat.le_of_ble_eq_true rfl⟩) ⟨gblind, va_recv hK hP (ci := 7) (q0 := k_1) rfl hk_1, fun U hU hW9 => gmk hU hW9 hP hK hD hex hE hS hFc⟩ rfl rfl hl.1 rfl (lv_room (Nat.le_of_ble_eq_true rfl)) dX8_localOf_2 ⟨Nat.le_of_ble_eq_true rfl, Nat.le_of_ble_eq_true rfl⟩) hS (fun q _ h => hFc q h) hFc (fun r_2 u9 t9 H1 locs ht9 hvm9 hw9 hB9 hz9 hk9 hS => ?_)
  have hP : va_P (gD g) cl0 ws H1 := by rw [← ht9]; exact hB9.1
  clear hB9 hz9 hk9 hvm9 ht9 hw9
  generalize H1 = H at hP hS ⊢
  obtain ⟨z_3, ez_3⟩ : ∃ y : Int32, (r_2 : Int64).toInt32 = y := ⟨_, rfl⟩
  refine lv_l2i (v := z_3) hx hb dX8_localOf_5 ez_3 ?_
  refine lv_sipush (v := 255) hx hb dX8_localOf_6 (by decide) ?_
  refine lv_iand hx hb dX8_localOf_9 ?_
  refine lv_topi (fun z_4 ez_4 => ?_)
  refine W.widen (k := 0) (n := 0) (Nat.le_of_ble_eq_true rfl) (Nat.le_of_ble_eq_true rfl) ?_
  exact W.iret (v := z_4) hx hb hr (fun t9 ht9 hW9 => ⟨⟨_, (), rfl, trivial, ⟨by rw [ht9]; exact hP, hD⟩⟩, hS.F ht9⟩) hS.2.2 dX8_localOf_10
set_option maxHeartbeats 1000000 in
set_option maxRecDepth 100000 in
theorem m_X8_stepOf (l : Launch) (g : Gm) (sz : Nat) (ws : va_W) (h0 : Nat) (x1 : Int32) (hG : Good g ws) (o_h0 : gC ws h0 7) : Met l yX8_stepOf (wt yX8_stepOf cX8_stepOf 2 (some .int)) ({ frames := 1, cells := 0, slots := 0, locals := 21 }) (va_Pc [.ref h0, .int x1] (st_G g sz ws)) (va_Qi (fun (r : Int32) (u9 : Unit) => True) (gQ0 g (va_A ws sz) ws) (va_A ws sz)) (0) (0) (va_A ws sz) := by
  refine Met.ofW (cc := cX8_stepOf) (maxL := 2) (ret := (some .int)) (by decide) rfl ?_
  intro p e s m args below meth c s₁ B hml hv
  obtain ⟨rfl, hsz, hP, hK, hD0, hex, hE⟩ := hv
  have hx := B.exec
  have hb := B.bytes
  have hr := B.returns
  have hts0 := atoms_spec (ws := wt yX8_stepOf cX8_stepOf 2 (some .int)) B.pre
  have hts : ∀ w ∈ tb, w.before _ s = true := fun w h => hts0 w (List.mem_cons_of_mem _ h)
  have hown : s.vm.findClass RX8 = some m.cls := findClass_of_methodNamed B.named
  subst hsz
  have hD := hD0.self (sz := s.heap.size)
  generalize hAe : va_A ws s.heap.size = A at hD hE ⊢
  have hA : ∀ q : Nat, s.heap.size ≤ q → A q := fun q h => by rw [← hAe]; exact Or.inr h
  have hS : va_S A s.heap s.heap [] := va_S.rf
  have hl := lv_entry ([.ref h0, .int x1]) (n := 2) (Nat.le_of_ble_eq_true rfl)
  rw [lg_entry_eq]
  generalize (lg_sl ([.ref h0, .int x1]) ++ List.replicate (2 - (lg_sl ([.ref h0, .int x1])).length) Slot.unset).toArray = ls at hl ⊢
  have hl : lv_has ls 2 [(0, .ref h0), (1, .int x1)] := hl
  refine lv_aload_n hx hb dX8_stepOf_0 rfl (lv_at hl 0 rfl) ?_
  refine lv_iload_n hx hb dX8_stepOf_1 rfl (lv_at hl 1 rfl) ?_
  have hFc := gfree hD hS hA
  obtain ⟨k_1, fs_1, hk_1⟩ := gC_of o_h0
  refine va_calll (va_runV (As := [.int x1]) (rest := []) ⟨hx, hb, hml, hown, hts⟩ (m_X8_argAt l g s.heap.size ws h0 (x1) hG o_h0) (cwV 1 hts (gd_V kw_1511 kw_1476 kw_1477 kw_782 kw_1475) rfl rfl rfl (by decide +kernel) ⟨Nat.le_of_ble_eq_true rfl, Nat.le_of_ble_eq_true rfl⟩) ⟨gblind, va_recv hK hP (ci := 7) (q0 := k_1) rfl hk_1, fun U hU hW9 => gmk hU hW9 hP hK hD hex hE hS hFc⟩ rfl rfl hl.1 rfl (lv_room (Nat.le_of_ble_eq_true rfl)) dX8_stepOf_2 ⟨Nat.le_of_ble_eq_true rfl, Nat.le_of_ble_eq_true rfl⟩) hS (fun q _ h => hFc q h) hFc (fun r_2 u9 t9 H1 locs ht9 hvm9 hw9 hB9 hz9 hk9 hS => ?_)
  have hP : va_P (gD g) cl0 ws H1 := by rw [← ht9]; exact hB9.1
  clear hB9 hz9 hk9 hvm9 ht9 hw9
  generalize H1 = H at hP hS ⊢
  refine lv_bipush (v := 8) hx hb dX8_stepOf_5 (by decide) ?_
  refine lv_lshr hx hb dX8_stepOf_7 rfl ?_
  refine lv_topl (fun z_3 ez_3 => ?_)
  obtain ⟨z_4, ez_4⟩ : ∃ y : Int32, (z_3 : Int64).toInt32 = y := ⟨_, rfl⟩
  refine lv_l2i (v := z_4) hx hb dX8_stepOf_8 ez_4 ?_
  refine W.widen (k := 0) (n := 0) (Nat.le_of_ble_eq_true rfl) (Nat.le_of_ble_eq_true rfl) ?_
  exact W.iret (v := z_4) hx hb hr (fun t9 ht9 hW9 => ⟨⟨_, (), rfl, trivial, ⟨by rw [ht9]; exact hP, hD⟩⟩, hS.F ht9⟩) hS.2.2 dX8_stepOf_9
set_option maxHeartbeats 1000000 in
set_option maxRecDepth 100000 in
theorem m_X8_set (l : Launch) (g : Gm) (sz : Nat) (ws : va_W) (h0 : Nat) (x1 : Int32) (x2 : Int32) (y3 : Int64) (hG : Good g ws) (o_h0 : gC ws h0 7) : Met l yX8_set (wt yX8_set cX8_set 5 none) ({ frames := 0, cells := 0, slots := 0, locals := 0 }) (va_Pc [.ref h0, .int x1, .int x2, .long y3] (st_G g sz ws)) (va_Qv (fun (u9 : va_W) => True) (gQ1 g [] [(7, 0), (7, 1)] (some h0) (va_A ws sz) ws) (va_A ws sz)) (0) (0) (va_A ws sz) := by
  refine Met.ofW (cc := cX8_set) (maxL := 5) (ret := none) (by decide) rfl ?_
  intro p e s m args below meth c s₁ B hml hv
  obtain ⟨rfl, hsz, hP, hK, hD0, hex, hE⟩ := hv
  have hx := B.exec
  have hb := B.bytes
  have hr := B.returns
  have hts0 := atoms_spec (ws := wt yX8_set cX8_set 5 none) B.pre
  have hts : ∀ w ∈ tb, w.before _ s = true := fun w h => hts0 w (List.mem_cons_of_mem _ h)
  have hown : s.vm.findClass RX8 = some m.cls := findClass_of_methodNamed B.named
  subst hsz
  have hD := hD0.self (sz := s.heap.size)
  generalize hAe : va_A ws s.heap.size = A at hD hE ⊢
  have hA : ∀ q : Nat, s.heap.size ≤ q → A q := fun q h => by rw [← hAe]; exact Or.inr h
  have hS : va_S A s.heap s.heap [] := va_S.rf
  have hl := lv_entry ([.ref h0, .int x1, .int x2, .long y3]) (n := 5) (Nat.le_of_ble_eq_true rfl)
  rw [lg_entry_eq]
  generalize (lg_sl ([.ref h0, .int x1, .int x2, .long y3]) ++ List.replicate (5 - (lg_sl ([.ref h0, .int x1, .int x2, .long y3])).length) Slot.unset).toArray = ls at hl ⊢
  have hl : lv_has ls 5 [(0, .ref h0), (1, .int x1), (2, .int x2), (3, .long y3)] := hl
  refine lv_iload_n hx hb dX8_set_0 rfl (lv_at hl 1 rfl) ?_
  have J_27 : ∀ (ws_1 : va_W) (H : Heap) (locs : List Loc) (ls : Array Slot), gE ws ws_1 → gF [] [(7, 0), (7, 1)] (some h0) ws ws_1 → Good g ws_1 → va_P (gD g) cl0 ws_1 H → va_D A ws_1 → va_S A s.heap H locs → lv_has ls 5 [] → W p l e (headSpec (wt yX8_set cX8_set 5 none) ({ frames := 0, cells := 0, slots := 0, locals := 0 })).room s m ([.ref h0, .int x1, .int x2, .long y3] : List Value).toArray below meth c H locs (0) (0) (MQ below (va_Qv (fun (u9 : va_W) => True) (gQ1 g [] [(7, 0), (7, 1)] (some h0) A ws) A) ([.ref h0, .int x1, .int x2, .long y3] : List Value).toArray s (0) (0) A) (F0 m 27 ls []) := by
    intro ws_1 H locs ls  E_2 Fr_3 hG hP hD hS hl
    have o_h0 := E_2.1 _ _ o_h0
    refine W.widen (k := 0) (n := 0) (Nat.le_of_ble_eq_true rfl) (Nat.le_of_ble_eq_true rfl) ?_
    exact W.vret hx hb hr (fun t9 ht9 hW9 => ⟨⟨ws_1, rfl, trivial, ⟨E_2, Fr_3, hG, by rw [ht9]; exact hP, hD⟩⟩, hS.F ht9⟩) hS.2.2 dX8_set_27
  refine lv_if_lt (tgt := 27) hx hb dX8_set_1 (by decide) (fun c_4 => ?_) (fun c_4 => ?_)
  · exact J_27 ws _ _ ls (gE.rf) (gF.rf) hG hP hD hS (lv_sub hl [] rfl)
  · refine lv_iload_n hx hb dX8_set_4 rfl (lv_at hl 1 rfl) ?_
    refine lv_aload_n hx hb dX8_set_5 rfl (lv_at hl 0 rfl) ?_
    obtain ⟨k_5, fs9, hk_5⟩ := gC_of o_h0
    obtain ⟨r0_5, n0_5, r1_5, n1_5, c2_5, r3_5, n3_5, c4_5, r5_5, n5_5, r6_5, n6_5, r7_5, n7_5, r8_5, n8_5, c9_5, c10_5, c11_5, v12_5, v13_5, v14_5, rfl, a_r0_5, f1_5, a_r1_5, f3_5, a_r3_5, f5_5, a_r5_5, f7_5, a_r6_5, f9_5, a_r7_5, f11_5, a_r8_5, f13_5, o_v12_5, o_v13_5, o_v14_5, f17_5, f18_5, f19_5, f20_5, f21_5, f22_5, f23_5, f24_5, f25_5, f26_5, f27_5, f28_5, f29_5, -⟩ := (hG.1 _ _ _ _ hk_5).hX8 rfl
    refine va_get (D := gD g) (ci := 7) (v := .ref r0_5) (C := RX8) (T := TX8) (N := 15) hx hb hts inX8 hown hK hP k_5 hk_5 rfl 0 (by decide) (hts _ kw_1460) (fun _ h9 => h9) rfl dX8_set_6 ?_
    obtain ⟨k_6, f_6, hk_6⟩ := gI_of a_r0_5
    obtain ⟨z_7, ez_7⟩ : ∃ z : Int32, Int32.ofNat n0_5 = z := ⟨_, rfl⟩
    refine va_alen (v := z_7) hx hb hK hP k_6 1 hk_6 rfl ez_7 dX8_set_9 ?_
    refine lv_icmp_ge (tgt := 27) hx hb dX8_set_10 (by decide) (fun c_8 => ?_) (fun c_8 => ?_)
    · exact J_27 ws _ _ ls (gE.rf) (gF.rf) hG hP hD hS (lv_sub hl [] rfl)
    · refine lv_aload_n hx hb dX8_set_13 rfl (lv_at hl 0 rfl) ?_
      refine va_get (D := gD g) (ci := 7) (v := .ref r0_5) (C := RX8) (T := TX8) (N := 15) hx hb hts inX8 hown hK hP k_5 hk_5 rfl 0 (by decide) (hts _ kw_1460) (fun _ h9 => h9) rfl dX8_set_14 ?_
      refine lv_iload_n hx hb dX8_set_17 rfl (lv_at hl 1 rfl) ?_
      refine lv_iload_n hx hb dX8_set_18 rfl (lv_at hl 2 rfl) ?_
      have hC9 : hol ws r0_5 [(7, 0)] := (hol_u hG.u hk_5 (j := 0) rfl a_r0_5 (by decide))
      have hS9 : holS ws r0_5 (some h0) := holS_u hG.u hk_5 (j := 0) rfl a_r0_5
      refine va_iast hx hb hK hP hD hS k_6 1 hk_6 rfl (i_in2 (by have e0 : (0 : Int32).toInt = 0 := (by decide); have q_c_4 := i_nlt c_4; have q_f1_5 := f1_5; have q_f17_5 := f17_5; have q_f18_5 := f18_5; have q_f20_5 := f20_5; have q_z_7 := i_len ez_7 f1_5; have q_c_8 := i_nle c_8; have q_f3_5 := f3_5; have q_f19_5 := f19_5; have g_c2_5 := i_rg c2_5; have g_x1 := i_rg x1; have g_z_7 := i_rg z_7; omega)) dX8_set_19 (fun H locs hP hD hS => ?_)
      obtain ⟨ws_9, e_ws_9⟩ : ∃ z, z = ws.set k_6 (r0_5, .inl (g.cI, n0_5, .inl (upd f_6 (x1 : Int32).toNatClampNeg x2))) := ⟨_, rfl⟩
      have hP : va_P (gD g) cl0 ws_9 H := by rw [e_ws_9]; exact hP
      have hD : va_D A ws_9 := by rw [e_ws_9]; exact hD
      have E_10 : gE ws ws_9 := gE_ari e_ws_9 hk_6
      have hG : Good g ws_9 := Good_arI e_ws_9 hk_6 hG
      have Fr_11 : gF [] [(7, 0)] (some h0) ws ws_9 := gF_ar e_ws_9 hk_6 rfl hC9 hS9
      have hk_5 := gset_arO e_ws_9 hk_6 hk_5
      have o_h0 := E_10.1 _ _ o_h0
      have a_r0_5 := E_10.1 _ _ a_r0_5
      have a_r1_5 := E_10.1 _ _ a_r1_5
      have a_r3_5 := E_10.1 _ _ a_r3_5
      have a_r5_5 := E_10.1 _ _ a_r5_5
      have a_r6_5 := E_10.1 _ _ a_r6_5
      have a_r7_5 := E_10.1 _ _ a_r7_5
      have a_r8_5 := E_10.1 _ _ a_r8_5
      have o_v12_5 : ∀ b, v12_5 = some b → ∃ n, gI ws_9 b g.cB n ∧ n < 2147483648 := fun b h => (o_v12_5 b h).imp (fun n h => ⟨E_10.1 _ _ h.1, h.2⟩)
      have o_v13_5 : ∀ b, v13_5 = some b → ∃ n, gJ ws_9 b g.cL n ∧ n < 2147483648 := fun b h => (o_v13_5 b h).imp (fun n h => ⟨E_10.1 _ _ h.1, h.2⟩)
      have o_v14_5 : ∀ b, v14_5 = some b → ∃ n, gJ ws_9 b g.cL n ∧ n < 2147483648 := fun b h => (o_v14_5 b h).imp (fun n h => ⟨E_10.1 _ _ h.1, h.2⟩)
      refine lv_aload_n hx hb dX8_set_20 rfl (lv_at hl 0 rfl) ?_
      refine va_get (D := gD g) (ci := 7) (v := .ref r1_5) (C := RX8) (T := TX8) (N := 15) hx hb hts inX8 hown hK hP k_5 hk_5 rfl 1 (by decide) (hts _ kw_1478) (fun _ h9 => h9) rfl dX8_set_21 ?_
      refine lv_iload_n hx hb dX8_set_24 rfl (lv_at hl 1 rfl) ?_
      refine lv_lload_n hx hb dX8_set_25 rfl (lv_at hl 3 rfl) ?_
      obtain ⟨k_12, f_12, hk_12⟩ := gJ_of a_r1_5
      have hC9 : hol ws_9 r1_5 [(7, 1)] := (hol_u hG.u hk_5 (j := 1) rfl a_r1_5 (by decide))
      have hS9 : holS ws_9 r1_5 (some h0) := holS_u hG.u hk_5 (j := 1) rfl a_r1_5
      refine va_last hx hb hK hP hD hS k_12 3 hk_12 rfl (i_in2 (by have e0 : (0 : Int32).toInt = 0 := (by decide); have q_c_4 := i_nlt c_4; have q_f3_5 := f3_5; have q_f17_5 := f17_5; have q_c_8 := i_nle c_8; have q_f1_5 := f1_5; have q_f18_5 := f18_5; have q_f20_5 := f20_5; have q_z_7 := i_len ez_7 f1_5; have g_c2_5 := i_rg c2_5; have g_x1 := i_rg x1; have g_z_7 := i_rg z_7; omega)) dX8_set_26 (fun H locs hP hD hS => ?_)
      obtain ⟨ws_13, e_ws_13⟩ : ∃ z, z = ws_9.set k_12 (r1_5, .inl (g.cL, n1_5, .inr (.inl (vp_updL f_12 (x1 : Int32).toNatClampNeg y3)))) := ⟨_, rfl⟩
      have hP : va_P (gD g) cl0 ws_13 H := by rw [e_ws_13]; exact hP
      have hD : va_D A ws_13 := by rw [e_ws_13]; exact hD
      have E_14 : gE ws_9 ws_13 := gE_arj e_ws_13 hk_12
      have hG : Good g ws_13 := Good_arj e_ws_13 hk_12 hG
      have Fr_15 : gF [] [(7, 1)] (some h0) ws_9 ws_13 := gF_ar e_ws_13 hk_12 rfl hC9 hS9
      have hk_5 := gset_arO e_ws_13 hk_12 hk_5
      have o_h0 := E_14.1 _ _ o_h0
      have a_r0_5 := E_14.1 _ _ a_r0_5
      have a_r1_5 := E_14.1 _ _ a_r1_5
      have a_r3_5 := E_14.1 _ _ a_r3_5
      have a_r5_5 := E_14.1 _ _ a_r5_5
      have a_r6_5 := E_14.1 _ _ a_r6_5
      have a_r7_5 := E_14.1 _ _ a_r7_5
      have a_r8_5 := E_14.1 _ _ a_r8_5
      have o_v12_5 : ∀ b, v12_5 = some b → ∃ n, gI ws_13 b g.cB n ∧ n < 2147483648 := fun b h => (o_v12_5 b h).imp (fun n h => ⟨E_14.1 _ _ h.1, h.2⟩)
      have o_v13_5 : ∀ b, v13_5 = some b → ∃ n, gJ ws_13 b g.cL n ∧ n < 2147483648 := fun b h => (o_v13_5 b h).imp (fun n h => ⟨E_14.1 _ _ h.1, h.2⟩)
      have o_v14_5 : ∀ b, v14_5 = some b → ∃ n, gJ ws_13 b g.cL n ∧ n < 2147483648 := fun b h => (o_v14_5 b h).imp (fun n h => ⟨E_14.1 _ _ h.1, h.2⟩)
      exact J_27 ws_13 H locs ls ((E_10.tr E_14)) ((gF.tr (gF.mo (F' := []) (C' := [(7, 0), (7, 1)]) (S' := (some h0)) Fr_11 (fun _ h => h) (by decide) (Or.inr rfl)) (gF.mo (F' := []) (C' := [(7, 0), (7, 1)]) (S' := (some h0)) Fr_15 (fun _ h => h) (by decide) (Or.inr rfl)))) hG hP hD hS (lv_sub hl [] rfl)
set_option maxHeartbeats 1000000 in
set_option maxRecDepth 100000 in
theorem m_X8_add (l : Launch) (g : Gm) (sz : Nat) (ws : va_W) (h0 : Nat) (x1 : Int32) (y2 : Int64) (hG : Good g ws) (o_h0 : gC ws h0 7) : Met l yX8_add (wt yX8_add cX8_add 4 none) ({ frames := 1, cells := 0, slots := 0, locals := 24 }) (va_Pc [.ref h0, .int x1, .long y2] (st_G g sz ws)) (va_Qv (fun (u9 : va_W) => True) (gQ1 g [(7, 2)] [(7, 0), (7, 1)] (some h0) (va_A ws sz) ws) (va_A ws sz)) (0) (0) (va_A ws sz) := by
  refine Met.ofW (cc := cX8_add) (maxL := 4) (ret := none) (by decide) rfl ?_
  intro p e s m args below meth c s₁ B hml hv
  obtain ⟨rfl, hsz, hP, hK, hD0, hex, hE⟩ := hv
  have hx := B.exec
  have hb := B.bytes
  have hr := B.returns
  have hts0 := atoms_spec (ws := wt yX8_add cX8_add 4 none) B.pre
  have hts : ∀ w ∈ tb, w.before _ s = true := fun w h => hts0 w (List.mem_cons_of_mem _ h)
  have hown : s.vm.findClass RX8 = some m.cls := findClass_of_methodNamed B.named
  subst hsz
  have hD := hD0.self (sz := s.heap.size)
  generalize hAe : va_A ws s.heap.size = A at hD hE ⊢
  have hA : ∀ q : Nat, s.heap.size ≤ q → A q := fun q h => by rw [← hAe]; exact Or.inr h
  have hS : va_S A s.heap s.heap [] := va_S.rf
  have hl := lv_entry ([.ref h0, .int x1, .long y2]) (n := 4) (Nat.le_of_ble_eq_true rfl)
  rw [lg_entry_eq]
  generalize (lg_sl ([.ref h0, .int x1, .long y2]) ++ List.replicate (4 - (lg_sl ([.ref h0, .int x1, .long y2])).length) Slot.unset).toArray = ls at hl ⊢
  have hl : lv_has ls 4 [(0, .ref h0), (1, .int x1), (2, .long y2)] := hl
  refine lv_aload_n hx hb dX8_add_0 rfl (lv_at hl 0 rfl) ?_
  obtain ⟨k_1, fs9, hk_1⟩ := gC_of o_h0
  obtain ⟨r0_1, n0_1, r1_1, n1_1, c2_1, r3_1, n3_1, c4_1, r5_1, n5_1, r6_1, n6_1, r7_1, n7_1, r8_1, n8_1, c9_1, c10_1, c11_1, v12_1, v13_1, v14_1, rfl, a_r0_1, f1_1, a_r1_1, f3_1, a_r3_1, f5_1, a_r5_1, f7_1, a_r6_1, f9_1, a_r7_1, f11_1, a_r8_1, f13_1, o_v12_1, o_v13_1, o_v14_1, f17_1, f18_1, f19_1, f20_1, f21_1, f22_1, f23_1, f24_1, f25_1, f26_1, f27_1, f28_1, f29_1, -⟩ := (hG.1 _ _ _ _ hk_1).hX8 rfl
  refine va_get (D := gD g) (ci := 7) (v := .int c2_1) (C := RX8) (T := TX8) (N := 15) hx hb hts inX8 hown hK hP k_1 hk_1 rfl 2 (by decide) (hts _ kw_1459) (fun _ h9 => h9) rfl dX8_add_1 ?_
  refine lv_aload_n hx hb dX8_add_4 rfl (lv_at hl 0 rfl) ?_
  refine va_get (D := gD g) (ci := 7) (v := .ref r0_1) (C := RX8) (T := TX8) (N := 15) hx hb hts inX8 hown hK hP k_1 hk_1 rfl 0 (by decide) (hts _ kw_1460) (fun _ h9 => h9) rfl dX8_add_5 ?_
  obtain ⟨k_2, f_2, hk_2⟩ := gI_of a_r0_1
  obtain ⟨z_3, ez_3⟩ : ∃ z : Int32, Int32.ofNat n0_1 = z := ⟨_, rfl⟩
  refine va_alen (v := z_3) hx hb hK hP k_2 1 hk_2 rfl ez_3 dX8_add_8 ?_
  have J_32 : ∀ (ws_4 : va_W) (H : Heap) (locs : List Loc) (ls : Array Slot), gE ws ws_4 → gF [(7, 2)] [(7, 0), (7, 1)] (some h0) ws ws_4 → Good g ws_4 → va_P (gD g) cl0 ws_4 H → va_D A ws_4 → va_S A s.heap H locs → lv_has ls 4 [] → W p l e (headSpec (wt yX8_add cX8_add 4 none) ({ frames := 1, cells := 0, slots := 0, locals := 24 })).room s m ([.ref h0, .int x1, .long y2] : List Value).toArray below meth c H locs (0) (0) (MQ below (va_Qv (fun (u9 : va_W) => True) (gQ1 g [(7, 2)] [(7, 0), (7, 1)] (some h0) A ws) A) ([.ref h0, .int x1, .long y2] : List Value).toArray s (0) (0) A) (F0 m 32 ls []) := by
    intro ws_4 H locs ls  E_5 Fr_6 hG hP hD hS hl
    have aa_7 := a_r0_1
    have aa_8 := a_r1_1
    have aa_9 := a_r3_1
    have aa_10 := a_r5_1
    have aa_11 := a_r6_1
    have aa_12 := a_r7_1
    have aa_13 := a_r8_1
    have o_h0 := E_5.1 _ _ o_h0
    refine W.widen (k := 0) (n := 0) (Nat.le_of_ble_eq_true rfl) (Nat.le_of_ble_eq_true rfl) ?_
    exact W.vret hx hb hr (fun t9 ht9 hW9 => ⟨⟨ws_4, rfl, trivial, ⟨E_5, Fr_6, hG, by rw [ht9]; exact hP, hD⟩⟩, hS.F ht9⟩) hS.2.2 dX8_add_32
  refine lv_icmp_ge (tgt := 32) hx hb dX8_add_9 (by decide) (fun c_14 => ?_) (fun c_14 => ?_)
  · exact J_32 ws _ _ ls (gE.rf) (gF.rf) hG hP hD hS (lv_sub hl [] rfl)
  · refine lv_aload_n hx hb dX8_add_12 rfl (lv_at hl 0 rfl) ?_
    refine lv_aload_n hx hb dX8_add_13 rfl (lv_at hl 0 rfl) ?_
    refine va_get (D := gD g) (ci := 7) (v := .int c2_1) (C := RX8) (T := TX8) (N := 15) hx hb hts inX8 hown hK hP k_1 hk_1 rfl 2 (by decide) (hts _ kw_1459) (fun _ h9 => h9) rfl dX8_add_14 ?_
    refine lv_iload_n hx hb dX8_add_17 rfl (lv_at hl 1 rfl) ?_
    refine lv_lload_n hx hb dX8_add_18 rfl (lv_at hl 2 rfl) ?_
    have hFc := gfree hD hS hA
    refine va_callv (va_runV (As := [.int c2_1, .int x1, .long y2]) (rest := []) ⟨hx, hb, hml, hown, hts⟩ (m_X8_set l g s.heap.size ws h0 (c2_1) (x1) (y2) hG o_h0) (cwV 3 hts (gd_V kw_1461 kw_1523 kw_1524 kw_782 kw_1522) rfl rfl rfl (by decide +kernel) ⟨Nat.le_of_ble_eq_true rfl, Nat.le_of_ble_eq_true rfl⟩) ⟨gblind, va_recv hK hP (ci := 7) (q0 := k_1) rfl hk_1, fun U hU hW9 => gmk hU hW9 hP hK hD hex hE hS hFc⟩ rfl rfl hl.1 rfl (lv_room (Nat.le_of_ble_eq_true rfl)) dX8_add_19 ⟨Nat.le_of_ble_eq_true rfl, Nat.le_of_ble_eq_true rfl⟩) hS (fun q _ h => hFc q h) hFc (fun  ws_15 t9 H1 locs ht9 hvm9 hw9 hB9 hz9 hk9 hS => ?_)
    obtain ⟨E_16, Fr_17, hG, hP1, hD1⟩ := hB9
    have hP : va_P (gD g) cl0 ws_15 H1 := by rw [← ht9]; exact hP1
    have hD : va_D A ws_15 := hD1.weaken (fun _ _ _ h => hFc _ h)
    clear hP1 hD1 hz9 hk9 hvm9 ht9 hw9
    generalize H1 = H at hP hS ⊢
    have aa_20 := a_r0_1
    have aa_21 := a_r1_1
    have aa_22 := a_r3_1
    have aa_23 := a_r5_1
    have aa_24 := a_r6_1
    have aa_25 := a_r7_1
    have aa_26 := a_r8_1
    have o_h0 := E_16.1 _ _ o_h0
    refine lv_aload_n hx hb dX8_add_22 rfl (lv_at hl 0 rfl) ?_
    refine lv_dup hx hb dX8_add_23 rfl ?_
    obtain ⟨fs9, hk_27, hq_27⟩ := ((gF.a (F' := []) Fr_17 (fun _ h => h))) _ _ _ hk_1
    obtain ⟨r0_27, n0_27, r1_27, n1_27, c2_27, r3_27, n3_27, c4_27, r5_27, n5_27, r6_27, n6_27, r7_27, n7_27, r8_27, n8_27, c9_27, c10_27, c11_27, v12_27, v13_27, v14_27, rfl, a_r0_27, f1_27, a_r1_27, f3_27, a_r3_27, f5_27, a_r5_27, f7_27, a_r6_27, f9_27, a_r7_27, f11_27, a_r8_27, f13_27, o_v12_27, o_v13_27, o_v14_27, f17_27, f18_27, f19_27, f20_27, f21_27, f22_27, f23_27, f24_27, f25_27, f26_27, f27_27, f28_27, f29_27, -⟩ := (hG.1 _ _ _ _ hk_27).hX8 rfl
    obtain rfl := fe_r (hq_27 0 (by decide))
    have hn9 := gI_n hD ((E_16).1 _ _ aa_20) a_r0_27
    subst hn9
    have a_r0_1 := a_r0_27
    obtain rfl := fe_i (hq_27 2 (by decide))
    refine va_get (D := gD g) (ci := 7) (v := .int c2_1) (C := RX8) (T := TX8) (N := 15) hx hb hts inX8 hown hK hP k_1 hk_27 rfl 2 (by decide) (hts _ kw_1459) (fun _ h9 => h9) rfl dX8_add_24 ?_
    refine lv_iconst (v := 1) hx hb dX8_add_27 (by decide) ?_
    refine lv_iadd hx hb dX8_add_28 ?_
    refine lv_topi (fun z_28 ez_28 => ?_)
    have hV9 : okv ws_15 7 2 (.int z_28) := okv_i
    refine va_put (D := gD g) (ci := 7) (v := .int z_28) (ty := .int) (C := RX8) (T := TX8) (N := 15) hx hb hts inX8 tyX8 tyX8_ok nmX8 hown hK hP hD hS k_1 hk_27 rfl 2 (by decide) (hts _ kw_1459) (fun _ h9 => h9) rfl (by decide +kernel) rfl rfl (Nat.le_of_ble_eq_true rfl) dX8_add_29 (fun H locs hP hD hS => ?_)
    have f_29 : 0 ≤ z_28.toInt := (by have e1 : (1 : Int32).toInt = 1 := (by decide); obtain ⟨u_z_28, q_z_28⟩ := i_add ez_28; have q_f19_1 := f19_1; have q_f20_1 := f20_1; have q_c_14 := i_nle c_14; have g_c2_1 := i_rg c2_1; have g_z_28 := i_rg z_28; have g_z_3 := i_rg z_3; omega)
    have f_30 : z_28.toInt ≤ n0_1 := (by have e1 : (1 : Int32).toInt = 1 := (by decide); have q_f1_1 := f1_1; have q_f17_1 := f17_1; have q_f18_1 := f18_1; have q_f20_1 := f20_1; have q_z_3 := i_len ez_3 f1_1; have q_f17_27 := f17_27; obtain ⟨u_z_28, q_z_28⟩ := i_add ez_28; have q_f_29 := f_29; have q_f3_1 := f3_1; have q_f19_1 := f19_1; have q_c_14 := i_nle c_14; have q_f3_27 := f3_27; have g_c2_1 := i_rg c2_1; have g_z_28 := i_rg z_28; have g_z_3 := i_rg z_3; omega)
    have hi_31 : invX8 g ws_15 h0 [.ref r0_1, .ref r1_27, .int z_28, .ref r3_27, .int c4_27, .ref r5_27, .ref r6_27, .ref r7_27, .ref r8_27, .int c9_27, .int c10_27, .int c11_27, va_rf v12_27, va_rf v13_27, va_rf v14_27] := ⟨r0_1, (n0_1), r1_27, (n1_27), (z_28), r3_27, (n3_27), (c4_27), r5_27, (n5_27), r6_27, (n6_27), r7_27, (n7_27), r8_27, (n8_27), (c9_27), (c10_27), (c11_27), v12_27, v13_27, v14_27, rfl, a_r0_1, f1_27, a_r1_27, f3_27, a_r3_27, f5_27, a_r5_27, f7_27, a_r6_27, f9_27, a_r7_27, f11_27, a_r8_27, f13_27, o_v12_27, o_v13_27, o_v14_27, f17_27, f18_27, f_29, f_30, f21_27, f22_27, f23_27, f24_27, f25_27, f26_27, f27_27, f28_27, f29_27, trivial⟩
    obtain ⟨ws_32, e_ws_32⟩ : ∃ z, z = ws_15.set k_1 (h0, .inr (7, [.ref r0_1, .ref r1_27, .int z_28, .ref r3_27, .int c4_27, .ref r5_27, .ref r6_27, .ref r7_27, .ref r8_27, .int c9_27, .int c10_27, .int c11_27, va_rf v12_27, va_rf v13_27, va_rf v14_27])) := ⟨_, rfl⟩
    have hP : va_P (gD g) cl0 ws_32 H := by rw [e_ws_32]; exact hP
    have hD : va_D A ws_32 := by rw [e_ws_32]; exact hD
    have E_33 : gE ws_15 ws_32 := gE_set e_ws_32 hk_27 (cw_o (fi := 2) (v := .int z_28) rfl (by decide))
    have hG : Good g ws_32 := Good_set (fi := 2) (v := .int z_28) e_ws_32 hk_27 E_33 rfl hV9 hG (ivX8 hi_31)
    have Fr_34 : gF [(7, 2)] [] (some h0) ws_15 ws_32 := gF_put (fi := 2) (v := .int z_28) e_ws_32 hk_27 rfl (by decide)
    have hkN := gset_self e_ws_32 hk_27
    have hk_27 := hkN
    have o_h0 := E_33.1 _ _ o_h0
    have a_r1_27 := E_33.1 _ _ a_r1_27
    have a_r3_27 := E_33.1 _ _ a_r3_27
    have a_r5_27 := E_33.1 _ _ a_r5_27
    have a_r6_27 := E_33.1 _ _ a_r6_27
    have a_r7_27 := E_33.1 _ _ a_r7_27
    have a_r8_27 := E_33.1 _ _ a_r8_27
    have o_v12_27 : ∀ b, v12_27 = some b → ∃ n, gI ws_32 b g.cB n ∧ n < 2147483648 := fun b h => (o_v12_27 b h).imp (fun n h => ⟨E_33.1 _ _ h.1, h.2⟩)
    have o_v13_27 : ∀ b, v13_27 = some b → ∃ n, gJ ws_32 b g.cL n ∧ n < 2147483648 := fun b h => (o_v13_27 b h).imp (fun n h => ⟨E_33.1 _ _ h.1, h.2⟩)
    have o_v14_27 : ∀ b, v14_27 = some b → ∃ n, gJ ws_32 b g.cL n ∧ n < 2147483648 := fun b h => (o_v14_27 b h).imp (fun n h => ⟨E_33.1 _ _ h.1, h.2⟩)
    have a_r0_1 := E_33.1 _ _ a_r0_1
    exact J_32 ws_32 H locs ls ((E_16.tr E_33)) ((gF.tr (gF.mo (F' := [(7, 2)]) (C' := [(7, 0), (7, 1)]) (S' := (some h0)) Fr_17 (fun _ h => absurd h List.not_mem_nil) (fun _ h => h) (Or.inr rfl)) (gF.mo (F' := [(7, 2)]) (C' := [(7, 0), (7, 1)]) (S' := (some h0)) Fr_34 (fun _ h => h) (fun _ h => absurd h List.not_mem_nil) (Or.inr rfl)))) hG hP hD hS (lv_sub hl [] rfl)
set_option maxHeartbeats 1000000 in
set_option maxRecDepth 100000 in
theorem m_X8_addToTable (l : Launch) (g : Gm) (sz : Nat) (ws : va_W) (h0 : Nat) (x1 : Int32) (hG : Good g ws) (o_h0 : gC ws h0 7) : Met l yX8_addToTable (wt yX8_addToTable cX8_addToTable 2 none) ({ frames := 0, cells := 0, slots := 0, locals := 0 }) (va_Pc [.ref h0, .int x1] (st_G g sz ws)) (va_Qv (fun (u9 : va_W) => True) (gQ1 g [(7, 4)] [(7, 3)] (some h0) (va_A ws sz) ws) (va_A ws sz)) (0) (0) (va_A ws sz) := by
  refine Met.ofW (cc := cX8_addToTable) (maxL := 2) (ret := none) (by decide) rfl ?_
  intro p e s m args below meth c s₁ B hml hv
  obtain ⟨rfl, hsz, hP, hK, hD0, hex, hE⟩ := hv
  have hx := B.exec
  have hb := B.bytes
  have hr := B.returns
  have hts0 := atoms_spec (ws := wt yX8_addToTable cX8_addToTable 2 none) B.pre
  have hts : ∀ w ∈ tb, w.before _ s = true := fun w h => hts0 w (List.mem_cons_of_mem _ h)
  have hown : s.vm.findClass RX8 = some m.cls := findClass_of_methodNamed B.named
  subst hsz
  have hD := hD0.self (sz := s.heap.size)
  generalize hAe : va_A ws s.heap.size = A at hD hE ⊢
  have hA : ∀ q : Nat, s.heap.size ≤ q → A q := fun q h => by rw [← hAe]; exact Or.inr h
  have hS : va_S A s.heap s.heap [] := va_S.rf
  have hl := lv_entry ([.ref h0, .int x1]) (n := 2) (Nat.le_of_ble_eq_true rfl)
  rw [lg_entry_eq]
  generalize (lg_sl ([.ref h0, .int x1]) ++ List.replicate (2 - (lg_sl ([.ref h0, .int x1])).length) Slot.unset).toArray = ls at hl ⊢
  have hl : lv_has ls 2 [(0, .ref h0), (1, .int x1)] := hl
  refine lv_aload_n hx hb dX8_addToTable_0 rfl (lv_at hl 0 rfl) ?_
  obtain ⟨k_1, fs9, hk_1⟩ := gC_of o_h0
  obtain ⟨r0_1, n0_1, r1_1, n1_1, c2_1, r3_1, n3_1, c4_1, r5_1, n5_1, r6_1, n6_1, r7_1, n7_1, r8_1, n8_1, c9_1, c10_1, c11_1, v12_1, v13_1, v14_1, rfl, a_r0_1, f1_1, a_r1_1, f3_1, a_r3_1, f5_1, a_r5_1, f7_1, a_r6_1, f9_1, a_r7_1, f11_1, a_r8_1, f13_1, o_v12_1, o_v13_1, o_v14_1, f17_1, f18_1, f19_1, f20_1, f21_1, f22_1, f23_1, f24_1, f25_1, f26_1, f27_1, f28_1, f29_1, -⟩ := (hG.1 _ _ _ _ hk_1).hX8 rfl
  refine va_get (D := gD g) (ci := 7) (v := .int c4_1) (C := RX8) (T := TX8) (N := 15) hx hb hts inX8 hown hK hP k_1 hk_1 rfl 4 (by decide) (hts _ kw_1473) (fun _ h9 => h9) rfl dX8_addToTable_1 ?_
  refine lv_aload_n hx hb dX8_addToTable_4 rfl (lv_at hl 0 rfl) ?_
  refine va_get (D := gD g) (ci := 7) (v := .ref r3_1) (C := RX8) (T := TX8) (N := 15) hx hb hts inX8 hown hK hP k_1 hk_1 rfl 3 (by decide) (hts _ kw_1474) (fun _ h9 => h9) rfl dX8_addToTable_5 ?_
  obtain ⟨k_2, f_2, hk_2⟩ := gI_of a_r3_1
  obtain ⟨z_3, ez_3⟩ : ∃ z : Int32, Int32.ofNat n3_1 = z := ⟨_, rfl⟩
  refine va_alen (v := z_3) hx hb hK hP k_2 1 hk_2 rfl ez_3 dX8_addToTable_8 ?_
  have J_32 : ∀ (ws_4 : va_W) (H : Heap) (locs : List Loc) (ls : Array Slot), gE ws ws_4 → gF [(7, 4)] [(7, 3)] (some h0) ws ws_4 → Good g ws_4 → va_P (gD g) cl0 ws_4 H → va_D A ws_4 → va_S A s.heap H locs → lv_has ls 2 [] → W p l e (headSpec (wt yX8_addToTable cX8_addToTable 2 none) ({ frames := 0, cells := 0, slots := 0, locals := 0 })).room s m ([.ref h0, .int x1] : List Value).toArray below meth c H locs (0) (0) (MQ below (va_Qv (fun (u9 : va_W) => True) (gQ1 g [(7, 4)] [(7, 3)] (some h0) A ws) A) ([.ref h0, .int x1] : List Value).toArray s (0) (0) A) (F0 m 32 ls []) := by
    intro ws_4 H locs ls  E_5 Fr_6 hG hP hD hS hl
    have aa_7 := a_r0_1
    have aa_8 := a_r1_1
    have aa_9 := a_r3_1
    have aa_10 := a_r5_1
    have aa_11 := a_r6_1
    have aa_12 := a_r7_1
    have aa_13 := a_r8_1
    have o_h0 := E_5.1 _ _ o_h0
    refine W.widen (k := 0) (n := 0) (Nat.le_of_ble_eq_true rfl) (Nat.le_of_ble_eq_true rfl) ?_
    exact W.vret hx hb hr (fun t9 ht9 hW9 => ⟨⟨ws_4, rfl, trivial, ⟨E_5, Fr_6, hG, by rw [ht9]; exact hP, hD⟩⟩, hS.F ht9⟩) hS.2.2 dX8_addToTable_32
  refine lv_icmp_ge (tgt := 32) hx hb dX8_addToTable_9 (by decide) (fun c_14 => ?_) (fun c_14 => ?_)
  · exact J_32 ws _ _ ls (gE.rf) (gF.rf) hG hP hD hS (lv_sub hl [] rfl)
  · refine lv_aload_n hx hb dX8_addToTable_12 rfl (lv_at hl 0 rfl) ?_
    refine va_get (D := gD g) (ci := 7) (v := .ref r3_1) (C := RX8) (T := TX8) (N := 15) hx hb hts inX8 hown hK hP k_1 hk_1 rfl 3 (by decide) (hts _ kw_1474) (fun _ h9 => h9) rfl dX8_addToTable_13 ?_
    refine lv_aload_n hx hb dX8_addToTable_16 rfl (lv_at hl 0 rfl) ?_
    refine va_get (D := gD g) (ci := 7) (v := .int c4_1) (C := RX8) (T := TX8) (N := 15) hx hb hts inX8 hown hK hP k_1 hk_1 rfl 4 (by decide) (hts _ kw_1473) (fun _ h9 => h9) rfl dX8_addToTable_17 ?_
    refine lv_iload_n hx hb dX8_addToTable_20 rfl (lv_at hl 1 rfl) ?_
    have hC9 : hol ws r3_1 [(7, 3)] := (hol_u hG.u hk_1 (j := 3) rfl a_r3_1 (by decide))
    have hS9 : holS ws r3_1 (some h0) := holS_u hG.u hk_1 (j := 3) rfl a_r3_1
    refine va_iast hx hb hK hP hD hS k_2 1 hk_2 rfl (i_in2 (by have q_f5_1 := f5_1; have q_f21_1 := f21_1; have q_f22_1 := f22_1; have q_f28_1 := f28_1; have q_z_3 := i_len ez_3 f5_1; have q_c_14 := i_nle c_14; have g_c4_1 := i_rg c4_1; have g_z_3 := i_rg z_3; omega)) dX8_addToTable_21 (fun H locs hP hD hS => ?_)
    obtain ⟨ws_15, e_ws_15⟩ : ∃ z, z = ws.set k_2 (r3_1, .inl (g.cI, n3_1, .inl (upd f_2 (c4_1 : Int32).toNatClampNeg x1))) := ⟨_, rfl⟩
    have hP : va_P (gD g) cl0 ws_15 H := by rw [e_ws_15]; exact hP
    have hD : va_D A ws_15 := by rw [e_ws_15]; exact hD
    have E_16 : gE ws ws_15 := gE_ari e_ws_15 hk_2
    have hG : Good g ws_15 := Good_arI e_ws_15 hk_2 hG
    have Fr_17 : gF [] [(7, 3)] (some h0) ws ws_15 := gF_ar e_ws_15 hk_2 rfl hC9 hS9
    have hk_1 := gset_arO e_ws_15 hk_2 hk_1
    have o_h0 := E_16.1 _ _ o_h0
    have a_r0_1 := E_16.1 _ _ a_r0_1
    have a_r1_1 := E_16.1 _ _ a_r1_1
    have a_r3_1 := E_16.1 _ _ a_r3_1
    have a_r5_1 := E_16.1 _ _ a_r5_1
    have a_r6_1 := E_16.1 _ _ a_r6_1
    have a_r7_1 := E_16.1 _ _ a_r7_1
    have a_r8_1 := E_16.1 _ _ a_r8_1
    have o_v12_1 : ∀ b, v12_1 = some b → ∃ n, gI ws_15 b g.cB n ∧ n < 2147483648 := fun b h => (o_v12_1 b h).imp (fun n h => ⟨E_16.1 _ _ h.1, h.2⟩)
    have o_v13_1 : ∀ b, v13_1 = some b → ∃ n, gJ ws_15 b g.cL n ∧ n < 2147483648 := fun b h => (o_v13_1 b h).imp (fun n h => ⟨E_16.1 _ _ h.1, h.2⟩)
    have o_v14_1 : ∀ b, v14_1 = some b → ∃ n, gJ ws_15 b g.cL n ∧ n < 2147483648 := fun b h => (o_v14_1 b h).imp (fun n h => ⟨E_16.1 _ _ h.1, h.2⟩)
    refine lv_aload_n hx hb dX8_addToTable_22 rfl (lv_at hl 0 rfl) ?_
    refine lv_dup hx hb dX8_addToTable_23 rfl ?_
    refine va_get (D := gD g) (ci := 7) (v := .int c4_1) (C := RX8) (T := TX8) (N := 15) hx hb hts inX8 hown hK hP k_1 hk_1 rfl 4 (by decide) (hts _ kw_1473) (fun _ h9 => h9) rfl dX8_addToTable_24 ?_
    refine lv_iconst (v := 1) hx hb dX8_addToTable_27 (by decide) ?_
    refine lv_iadd hx hb dX8_addToTable_28 ?_
    refine lv_topi (fun z_18 ez_18 => ?_)
    have hV9 : okv ws_15 7 4 (.int z_18) := okv_i
    refine va_put (D := gD g) (ci := 7) (v := .int z_18) (ty := .int) (C := RX8) (T := TX8) (N := 15) hx hb hts inX8 tyX8 tyX8_ok nmX8 hown hK hP hD hS k_1 hk_1 rfl 4 (by decide) (hts _ kw_1473) (fun _ h9 => h9) rfl (by decide +kernel) rfl rfl (Nat.le_of_ble_eq_true rfl) dX8_addToTable_29 (fun H locs hP hD hS => ?_)
    have f_19 : 0 ≤ z_18.toInt := (by have e1 : (1 : Int32).toInt = 1 := (by decide); obtain ⟨u_z_18, q_z_18⟩ := i_add ez_18; have q_f21_1 := f21_1; have q_f22_1 := f22_1; have q_c_14 := i_nle c_14; have g_c4_1 := i_rg c4_1; have g_z_18 := i_rg z_18; have g_z_3 := i_rg z_3; omega)
    have f_20 : z_18.toInt ≤ n3_1 := (by have e1 : (1 : Int32).toInt = 1 := (by decide); have q_f5_1 := f5_1; have q_f22_1 := f22_1; have q_f28_1 := f28_1; have q_z_3 := i_len ez_3 f5_1; obtain ⟨u_z_18, q_z_18⟩ := i_add ez_18; have q_f_19 := f_19; have q_f21_1 := f21_1; have q_c_14 := i_nle c_14; have g_c4_1 := i_rg c4_1; have g_z_18 := i_rg z_18; have g_z_3 := i_rg z_3; omega)
    have hi_21 : invX8 g ws_15 h0 [.ref r0_1, .ref r1_1, .int c2_1, .ref r3_1, .int z_18, .ref r5_1, .ref r6_1, .ref r7_1, .ref r8_1, .int c9_1, .int c10_1, .int c11_1, va_rf v12_1, va_rf v13_1, va_rf v14_1] := ⟨r0_1, (n0_1), r1_1, (n1_1), (c2_1), r3_1, (n3_1), (z_18), r5_1, (n5_1), r6_1, (n6_1), r7_1, (n7_1), r8_1, (n8_1), (c9_1), (c10_1), (c11_1), v12_1, v13_1, v14_1, rfl, a_r0_1, f1_1, a_r1_1, f3_1, a_r3_1, f5_1, a_r5_1, f7_1, a_r6_1, f9_1, a_r7_1, f11_1, a_r8_1, f13_1, o_v12_1, o_v13_1, o_v14_1, f17_1, f18_1, f19_1, f20_1, f_19, f_20, f23_1, f24_1, f25_1, f26_1, f27_1, f28_1, f29_1, trivial⟩
    obtain ⟨ws_22, e_ws_22⟩ : ∃ z, z = ws_15.set k_1 (h0, .inr (7, [.ref r0_1, .ref r1_1, .int c2_1, .ref r3_1, .int z_18, .ref r5_1, .ref r6_1, .ref r7_1, .ref r8_1, .int c9_1, .int c10_1, .int c11_1, va_rf v12_1, va_rf v13_1, va_rf v14_1])) := ⟨_, rfl⟩
    have hP : va_P (gD g) cl0 ws_22 H := by rw [e_ws_22]; exact hP
    have hD : va_D A ws_22 := by rw [e_ws_22]; exact hD
    have E_23 : gE ws_15 ws_22 := gE_set e_ws_22 hk_1 (cw_o (fi := 4) (v := .int z_18) rfl (by decide))
    have hG : Good g ws_22 := Good_set (fi := 4) (v := .int z_18) e_ws_22 hk_1 E_23 rfl hV9 hG (ivX8 hi_21)
    have Fr_24 : gF [(7, 4)] [] (some h0) ws_15 ws_22 := gF_put (fi := 4) (v := .int z_18) e_ws_22 hk_1 rfl (by decide)
    have hkN := gset_self e_ws_22 hk_1
    have hk_1 := hkN
    have o_h0 := E_23.1 _ _ o_h0
    have a_r0_1 := E_23.1 _ _ a_r0_1
    have a_r1_1 := E_23.1 _ _ a_r1_1
    have a_r3_1 := E_23.1 _ _ a_r3_1
    have a_r5_1 := E_23.1 _ _ a_r5_1
    have a_r6_1 := E_23.1 _ _ a_r6_1
    have a_r7_1 := E_23.1 _ _ a_r7_1
    have a_r8_1 := E_23.1 _ _ a_r8_1
    have o_v12_1 : ∀ b, v12_1 = some b → ∃ n, gI ws_22 b g.cB n ∧ n < 2147483648 := fun b h => (o_v12_1 b h).imp (fun n h => ⟨E_23.1 _ _ h.1, h.2⟩)
    have o_v13_1 : ∀ b, v13_1 = some b → ∃ n, gJ ws_22 b g.cL n ∧ n < 2147483648 := fun b h => (o_v13_1 b h).imp (fun n h => ⟨E_23.1 _ _ h.1, h.2⟩)
    have o_v14_1 : ∀ b, v14_1 = some b → ∃ n, gJ ws_22 b g.cL n ∧ n < 2147483648 := fun b h => (o_v14_1 b h).imp (fun n h => ⟨E_23.1 _ _ h.1, h.2⟩)
    exact J_32 ws_22 H locs ls ((E_16.tr E_23)) ((gF.tr (gF.mo (F' := [(7, 4)]) (C' := [(7, 3)]) (S' := (some h0)) Fr_17 (fun _ h => absurd h List.not_mem_nil) (fun _ h => h) (Or.inr rfl)) (gF.mo (F' := [(7, 4)]) (C' := [(7, 3)]) (S' := (some h0)) Fr_24 (fun _ h => h) (fun _ h => absurd h List.not_mem_nil) (Or.inr rfl)))) hG hP hD hS (lv_sub hl [] rfl)
set_option maxHeartbeats 1000000 in
set_option maxRecDepth 100000 in
theorem m_X8_addCatch (l : Launch) (g : Gm) (sz : Nat) (ws : va_W) (h0 : Nat) (x1 : Int32) (x2 : Int32) (x3 : Int32) (x4 : Int32) (hG : Good g ws) (o_h0 : gC ws h0 7) : Met l yX8_addCatch (wt yX8_addCatch cX8_addCatch 5 none) ({ frames := 0, cells := 0, slots := 0, locals := 0 }) (va_Pc [.ref h0, .int x1, .int x2, .int x3, .int x4] (st_G g sz ws)) (va_Qv (fun (u9 : va_W) => True) (gQ1 g [(7, 9)] [(7, 5), (7, 6), (7, 7), (7, 8)] (some h0) (va_A ws sz) ws) (va_A ws sz)) (0) (0) (va_A ws sz) := by
  refine Met.ofW (cc := cX8_addCatch) (maxL := 5) (ret := none) (by decide) rfl ?_
  intro p e s m args below meth c s₁ B hml hv
  obtain ⟨rfl, hsz, hP, hK, hD0, hex, hE⟩ := hv
  have hx := B.exec
  have hb := B.bytes
  have hr := B.returns
  have hts0 := atoms_spec (ws := wt yX8_addCatch cX8_addCatch 5 none) B.pre
  have hts : ∀ w ∈ tb, w.before _ s = true := fun w h => hts0 w (List.mem_cons_of_mem _ h)
  have hown : s.vm.findClass RX8 = some m.cls := findClass_of_methodNamed B.named
  subst hsz
  have hD := hD0.self (sz := s.heap.size)
  generalize hAe : va_A ws s.heap.size = A at hD hE ⊢
  have hA : ∀ q : Nat, s.heap.size ≤ q → A q := fun q h => by rw [← hAe]; exact Or.inr h
  have hS : va_S A s.heap s.heap [] := va_S.rf
  have hl := lv_entry ([.ref h0, .int x1, .int x2, .int x3, .int x4]) (n := 5) (Nat.le_of_ble_eq_true rfl)
  rw [lg_entry_eq]
  generalize (lg_sl ([.ref h0, .int x1, .int x2, .int x3, .int x4]) ++ List.replicate (5 - (lg_sl ([.ref h0, .int x1, .int x2, .int x3, .int x4])).length) Slot.unset).toArray = ls at hl ⊢
  have hl : lv_has ls 5 [(0, .ref h0), (1, .int x1), (2, .int x2), (3, .int x3), (4, .int x4)] := hl
  refine lv_aload_n hx hb dX8_addCatch_0 rfl (lv_at hl 0 rfl) ?_
  obtain ⟨k_1, fs9, hk_1⟩ := gC_of o_h0
  obtain ⟨r0_1, n0_1, r1_1, n1_1, c2_1, r3_1, n3_1, c4_1, r5_1, n5_1, r6_1, n6_1, r7_1, n7_1, r8_1, n8_1, c9_1, c10_1, c11_1, v12_1, v13_1, v14_1, rfl, a_r0_1, f1_1, a_r1_1, f3_1, a_r3_1, f5_1, a_r5_1, f7_1, a_r6_1, f9_1, a_r7_1, f11_1, a_r8_1, f13_1, o_v12_1, o_v13_1, o_v14_1, f17_1, f18_1, f19_1, f20_1, f21_1, f22_1, f23_1, f24_1, f25_1, f26_1, f27_1, f28_1, f29_1, -⟩ := (hG.1 _ _ _ _ hk_1).hX8 rfl
  refine va_get (D := gD g) (ci := 7) (v := .int c9_1) (C := RX8) (T := TX8) (N := 15) hx hb hts inX8 hown hK hP k_1 hk_1 rfl 9 (by decide) (hts _ kw_1465) (fun _ h9 => h9) rfl dX8_addCatch_1 ?_
  refine lv_aload_n hx hb dX8_addCatch_4 rfl (lv_at hl 0 rfl) ?_
  refine va_get (D := gD g) (ci := 7) (v := .ref r5_1) (C := RX8) (T := TX8) (N := 15) hx hb hts inX8 hown hK hP k_1 hk_1 rfl 5 (by decide) (hts _ kw_1466) (fun _ h9 => h9) rfl dX8_addCatch_5 ?_
  obtain ⟨k_2, f_2, hk_2⟩ := gI_of a_r5_1
  obtain ⟨z_3, ez_3⟩ : ∃ z : Int32, Int32.ofNat n5_1 = z := ⟨_, rfl⟩
  refine va_alen (v := z_3) hx hb hK hP k_2 1 hk_2 rfl ez_3 dX8_addCatch_8 ?_
  have J_63 : ∀ (ws_4 : va_W) (H : Heap) (locs : List Loc) (ls : Array Slot), gE ws ws_4 → gF [(7, 9)] [(7, 5), (7, 6), (7, 7), (7, 8)] (some h0) ws ws_4 → Good g ws_4 → va_P (gD g) cl0 ws_4 H → va_D A ws_4 → va_S A s.heap H locs → lv_has ls 5 [] → W p l e (headSpec (wt yX8_addCatch cX8_addCatch 5 none) ({ frames := 0, cells := 0, slots := 0, locals := 0 })).room s m ([.ref h0, .int x1, .int x2, .int x3, .int x4] : List Value).toArray below meth c H locs (0) (0) (MQ below (va_Qv (fun (u9 : va_W) => True) (gQ1 g [(7, 9)] [(7, 5), (7, 6), (7, 7), (7, 8)] (some h0) A ws) A) ([.ref h0, .int x1, .int x2, .int x3, .int x4] : List Value).toArray s (0) (0) A) (F0 m 63 ls []) := by
    intro ws_4 H locs ls  E_5 Fr_6 hG hP hD hS hl
    have aa_7 := a_r0_1
    have aa_8 := a_r1_1
    have aa_9 := a_r3_1
    have aa_10 := a_r5_1
    have aa_11 := a_r6_1
    have aa_12 := a_r7_1
    have aa_13 := a_r8_1
    have o_h0 := E_5.1 _ _ o_h0
    refine W.widen (k := 0) (n := 0) (Nat.le_of_ble_eq_true rfl) (Nat.le_of_ble_eq_true rfl) ?_
    exact W.vret hx hb hr (fun t9 ht9 hW9 => ⟨⟨ws_4, rfl, trivial, ⟨E_5, Fr_6, hG, by rw [ht9]; exact hP, hD⟩⟩, hS.F ht9⟩) hS.2.2 dX8_addCatch_63
  refine lv_icmp_ge (tgt := 63) hx hb dX8_addCatch_9 (by decide) (fun c_14 => ?_) (fun c_14 => ?_)
  · exact J_63 ws _ _ ls (gE.rf) (gF.rf) hG hP hD hS (lv_sub hl [] rfl)
  · refine lv_aload_n hx hb dX8_addCatch_12 rfl (lv_at hl 0 rfl) ?_
    refine va_get (D := gD g) (ci := 7) (v := .ref r5_1) (C := RX8) (T := TX8) (N := 15) hx hb hts inX8 hown hK hP k_1 hk_1 rfl 5 (by decide) (hts _ kw_1466) (fun _ h9 => h9) rfl dX8_addCatch_13 ?_
    refine lv_aload_n hx hb dX8_addCatch_16 rfl (lv_at hl 0 rfl) ?_
    refine va_get (D := gD g) (ci := 7) (v := .int c9_1) (C := RX8) (T := TX8) (N := 15) hx hb hts inX8 hown hK hP k_1 hk_1 rfl 9 (by decide) (hts _ kw_1465) (fun _ h9 => h9) rfl dX8_addCatch_17 ?_
    refine lv_iload_n hx hb dX8_addCatch_20 rfl (lv_at hl 1 rfl) ?_
    have hC9 : hol ws r5_1 [(7, 5)] := (hol_u hG.u hk_1 (j := 5) rfl a_r5_1 (by decide))
    have hS9 : holS ws r5_1 (some h0) := holS_u hG.u hk_1 (j := 5) rfl a_r5_1
    refine va_iast hx hb hK hP hD hS k_2 1 hk_2 rfl (i_in2 (by have q_f7_1 := f7_1; have q_f23_1 := f23_1; have q_f24_1 := f24_1; have q_f25_1 := f25_1; have q_f26_1 := f26_1; have q_f27_1 := f27_1; have q_f29_1 := f29_1; have q_z_3 := i_len ez_3 f7_1; have q_c_14 := i_nle c_14; have q_f9_1 := f9_1; have q_f11_1 := f11_1; have q_f13_1 := f13_1; have g_c9_1 := i_rg c9_1; have g_z_3 := i_rg z_3; omega)) dX8_addCatch_21 (fun H locs hP hD hS => ?_)
    obtain ⟨ws_15, e_ws_15⟩ : ∃ z, z = ws.set k_2 (r5_1, .inl (g.cI, n5_1, .inl (upd f_2 (c9_1 : Int32).toNatClampNeg x1))) := ⟨_, rfl⟩
    have hP : va_P (gD g) cl0 ws_15 H := by rw [e_ws_15]; exact hP
    have hD : va_D A ws_15 := by rw [e_ws_15]; exact hD
    have E_16 : gE ws ws_15 := gE_ari e_ws_15 hk_2
    have hG : Good g ws_15 := Good_arI e_ws_15 hk_2 hG
    have Fr_17 : gF [] [(7, 5)] (some h0) ws ws_15 := gF_ar e_ws_15 hk_2 rfl hC9 hS9
    have hk_1 := gset_arO e_ws_15 hk_2 hk_1
    have o_h0 := E_16.1 _ _ o_h0
    have a_r0_1 := E_16.1 _ _ a_r0_1
    have a_r1_1 := E_16.1 _ _ a_r1_1
    have a_r3_1 := E_16.1 _ _ a_r3_1
    have a_r5_1 := E_16.1 _ _ a_r5_1
    have a_r6_1 := E_16.1 _ _ a_r6_1
    have a_r7_1 := E_16.1 _ _ a_r7_1
    have a_r8_1 := E_16.1 _ _ a_r8_1
    have o_v12_1 : ∀ b, v12_1 = some b → ∃ n, gI ws_15 b g.cB n ∧ n < 2147483648 := fun b h => (o_v12_1 b h).imp (fun n h => ⟨E_16.1 _ _ h.1, h.2⟩)
    have o_v13_1 : ∀ b, v13_1 = some b → ∃ n, gJ ws_15 b g.cL n ∧ n < 2147483648 := fun b h => (o_v13_1 b h).imp (fun n h => ⟨E_16.1 _ _ h.1, h.2⟩)
    have o_v14_1 : ∀ b, v14_1 = some b → ∃ n, gJ ws_15 b g.cL n ∧ n < 2147483648 := fun b h => (o_v14_1 b h).imp (fun n h => ⟨E_16.1 _ _ h.1, h.2⟩)
    refine lv_aload_n hx hb dX8_addCatch_22 rfl (lv_at hl 0 rfl) ?_
    refine va_get (D := gD g) (ci := 7) (v := .ref r6_1) (C := RX8) (T := TX8) (N := 15) hx hb hts inX8 hown hK hP k_1 hk_1 rfl 6 (by decide) (hts _ kw_1467) (fun _ h9 => h9) rfl dX8_addCatch_23 ?_
    refine lv_aload_n hx hb dX8_addCatch_26 rfl (lv_at hl 0 rfl) ?_
    refine va_get (D := gD g) (ci := 7) (v := .int c9_1) (C := RX8) (T := TX8) (N := 15) hx hb hts inX8 hown hK hP k_1 hk_1 rfl 9 (by decide) (hts _ kw_1465) (fun _ h9 => h9) rfl dX8_addCatch_27 ?_
    refine lv_iload_n hx hb dX8_addCatch_30 rfl (lv_at hl 2 rfl) ?_
    obtain ⟨k_18, f_18, hk_18⟩ := gI_of a_r6_1
    have hC9 : hol ws_15 r6_1 [(7, 6)] := (hol_u hG.u hk_1 (j := 6) rfl a_r6_1 (by decide))
    have hS9 : holS ws_15 r6_1 (some h0) := holS_u hG.u hk_1 (j := 6) rfl a_r6_1
    refine va_iast hx hb hK hP hD hS k_18 1 hk_18 rfl (i_in2 (by have q_f9_1 := f9_1; have q_f23_1 := f23_1; have q_f26_1 := f26_1; have q_f27_1 := f27_1; have q_c_14 := i_nle c_14; have q_f7_1 := f7_1; have q_f24_1 := f24_1; have q_f25_1 := f25_1; have q_f29_1 := f29_1; have q_z_3 := i_len ez_3 f7_1; have g_c9_1 := i_rg c9_1; have g_z_3 := i_rg z_3; omega)) dX8_addCatch_31 (fun H locs hP hD hS => ?_)
    obtain ⟨ws_19, e_ws_19⟩ : ∃ z, z = ws_15.set k_18 (r6_1, .inl (g.cI, n6_1, .inl (upd f_18 (c9_1 : Int32).toNatClampNeg x2))) := ⟨_, rfl⟩
    have hP : va_P (gD g) cl0 ws_19 H := by rw [e_ws_19]; exact hP
    have hD : va_D A ws_19 := by rw [e_ws_19]; exact hD
    have E_20 : gE ws_15 ws_19 := gE_ari e_ws_19 hk_18
    have hG : Good g ws_19 := Good_arI e_ws_19 hk_18 hG
    have Fr_21 : gF [] [(7, 6)] (some h0) ws_15 ws_19 := gF_ar e_ws_19 hk_18 rfl hC9 hS9
    have hk_1 := gset_arO e_ws_19 hk_18 hk_1
    have o_h0 := E_20.1 _ _ o_h0
    have a_r0_1 := E_20.1 _ _ a_r0_1
    have a_r1_1 := E_20.1 _ _ a_r1_1
    have a_r3_1 := E_20.1 _ _ a_r3_1
    have a_r5_1 := E_20.1 _ _ a_r5_1
    have a_r6_1 := E_20.1 _ _ a_r6_1
    have a_r7_1 := E_20.1 _ _ a_r7_1
    have a_r8_1 := E_20.1 _ _ a_r8_1
    have o_v12_1 : ∀ b, v12_1 = some b → ∃ n, gI ws_19 b g.cB n ∧ n < 2147483648 := fun b h => (o_v12_1 b h).imp (fun n h => ⟨E_20.1 _ _ h.1, h.2⟩)
    have o_v13_1 : ∀ b, v13_1 = some b → ∃ n, gJ ws_19 b g.cL n ∧ n < 2147483648 := fun b h => (o_v13_1 b h).imp (fun n h => ⟨E_20.1 _ _ h.1, h.2⟩)
    have o_v14_1 : ∀ b, v14_1 = some b → ∃ n, gJ ws_19 b g.cL n ∧ n < 2147483648 := fun b h => (o_v14_1 b h).imp (fun n h => ⟨E_20.1 _ _ h.1, h.2⟩)
    refine lv_aload_n hx hb dX8_addCatch_32 rfl (lv_at hl 0 rfl) ?_
    refine va_get (D := gD g) (ci := 7) (v := .ref r7_1) (C := RX8) (T := TX8) (N := 15) hx hb hts inX8 hown hK hP k_1 hk_1 rfl 7 (by decide) (hts _ kw_1468) (fun _ h9 => h9) rfl dX8_addCatch_33 ?_
    refine lv_aload_n hx hb dX8_addCatch_36 rfl (lv_at hl 0 rfl) ?_
    refine va_get (D := gD g) (ci := 7) (v := .int c9_1) (C := RX8) (T := TX8) (N := 15) hx hb hts inX8 hown hK hP k_1 hk_1 rfl 9 (by decide) (hts _ kw_1465) (fun _ h9 => h9) rfl dX8_addCatch_37 ?_
    refine lv_iload_n hx hb dX8_addCatch_40 rfl (lv_at hl 3 rfl) ?_
    obtain ⟨k_22, f_22, hk_22⟩ := gI_of a_r7_1
    have hC9 : hol ws_19 r7_1 [(7, 7)] := (hol_u hG.u hk_1 (j := 7) rfl a_r7_1 (by decide))
    have hS9 : holS ws_19 r7_1 (some h0) := holS_u hG.u hk_1 (j := 7) rfl a_r7_1
    refine va_iast hx hb hK hP hD hS k_22 1 hk_22 rfl (i_in2 (by have q_f11_1 := f11_1; have q_f24_1 := f24_1; have q_f26_1 := f26_1; have q_f27_1 := f27_1; have q_c_14 := i_nle c_14; have q_f7_1 := f7_1; have q_f23_1 := f23_1; have q_f25_1 := f25_1; have q_f29_1 := f29_1; have q_z_3 := i_len ez_3 f7_1; have g_c9_1 := i_rg c9_1; have g_z_3 := i_rg z_3; omega)) dX8_addCatch_41 (fun H locs hP hD hS => ?_)
    obtain ⟨ws_23, e_ws_23⟩ : ∃ z, z = ws_19.set k_22 (r7_1, .inl (g.cI, n7_1, .inl (upd f_22 (c9_1 : Int32).toNatClampNeg x3))) := ⟨_, rfl⟩
    have hP : va_P (gD g) cl0 ws_23 H := by rw [e_ws_23]; exact hP
    have hD : va_D A ws_23 := by rw [e_ws_23]; exact hD
    have E_24 : gE ws_19 ws_23 := gE_ari e_ws_23 hk_22
    have hG : Good g ws_23 := Good_arI e_ws_23 hk_22 hG
    have Fr_25 : gF [] [(7, 7)] (some h0) ws_19 ws_23 := gF_ar e_ws_23 hk_22 rfl hC9 hS9
    have hk_1 := gset_arO e_ws_23 hk_22 hk_1
    have o_h0 := E_24.1 _ _ o_h0
    have a_r0_1 := E_24.1 _ _ a_r0_1
    have a_r1_1 := E_24.1 _ _ a_r1_1
    have a_r3_1 := E_24.1 _ _ a_r3_1
    have a_r5_1 := E_24.1 _ _ a_r5_1
    have a_r6_1 := E_24.1 _ _ a_r6_1
    have a_r7_1 := E_24.1 _ _ a_r7_1
    have a_r8_1 := E_24.1 _ _ a_r8_1
    have o_v12_1 : ∀ b, v12_1 = some b → ∃ n, gI ws_23 b g.cB n ∧ n < 2147483648 := fun b h => (o_v12_1 b h).imp (fun n h => ⟨E_24.1 _ _ h.1, h.2⟩)
    have o_v13_1 : ∀ b, v13_1 = some b → ∃ n, gJ ws_23 b g.cL n ∧ n < 2147483648 := fun b h => (o_v13_1 b h).imp (fun n h => ⟨E_24.1 _ _ h.1, h.2⟩)
    have o_v14_1 : ∀ b, v14_1 = some b → ∃ n, gJ ws_23 b g.cL n ∧ n < 2147483648 := fun b h => (o_v14_1 b h).imp (fun n h => ⟨E_24.1 _ _ h.1, h.2⟩)
    refine lv_aload_n hx hb dX8_addCatch_42 rfl (lv_at hl 0 rfl) ?_
    refine va_get (D := gD g) (ci := 7) (v := .ref r8_1) (C := RX8) (T := TX8) (N := 15) hx hb hts inX8 hown hK hP k_1 hk_1 rfl 8 (by decide) (hts _ kw_1469) (fun _ h9 => h9) rfl dX8_addCatch_43 ?_
    refine lv_aload_n hx hb dX8_addCatch_46 rfl (lv_at hl 0 rfl) ?_
    refine va_get (D := gD g) (ci := 7) (v := .int c9_1) (C := RX8) (T := TX8) (N := 15) hx hb hts inX8 hown hK hP k_1 hk_1 rfl 9 (by decide) (hts _ kw_1465) (fun _ h9 => h9) rfl dX8_addCatch_47 ?_
    refine lv_iload hx hb dX8_addCatch_50 (lv_at hl 4 rfl) ?_
    obtain ⟨k_26, f_26, hk_26⟩ := gI_of a_r8_1
    have hC9 : hol ws_23 r8_1 [(7, 8)] := (hol_u hG.u hk_1 (j := 8) rfl a_r8_1 (by decide))
    have hS9 : holS ws_23 r8_1 (some h0) := holS_u hG.u hk_1 (j := 8) rfl a_r8_1
    refine va_iast hx hb hK hP hD hS k_26 1 hk_26 rfl (i_in2 (by have q_f13_1 := f13_1; have q_f25_1 := f25_1; have q_f26_1 := f26_1; have q_f27_1 := f27_1; have q_c_14 := i_nle c_14; have q_f7_1 := f7_1; have q_f23_1 := f23_1; have q_f24_1 := f24_1; have q_f29_1 := f29_1; have q_z_3 := i_len ez_3 f7_1; have g_c9_1 := i_rg c9_1; have g_z_3 := i_rg z_3; omega)) dX8_addCatch_52 (fun H locs hP hD hS => ?_)
    obtain ⟨ws_27, e_ws_27⟩ : ∃ z, z = ws_23.set k_26 (r8_1, .inl (g.cI, n8_1, .inl (upd f_26 (c9_1 : Int32).toNatClampNeg x4))) := ⟨_, rfl⟩
    have hP : va_P (gD g) cl0 ws_27 H := by rw [e_ws_27]; exact hP
    have hD : va_D A ws_27 := by rw [e_ws_27]; exact hD
    have E_28 : gE ws_23 ws_27 := gE_ari e_ws_27 hk_26
    have hG : Good g ws_27 := Good_arI e_ws_27 hk_26 hG
    have Fr_29 : gF [] [(7, 8)] (some h0) ws_23 ws_27 := gF_ar e_ws_27 hk_26 rfl hC9 hS9
    have hk_1 := gset_arO e_ws_27 hk_26 hk_1
    have o_h0 := E_28.1 _ _ o_h0
    have a_r0_1 := E_28.1 _ _ a_r0_1
    have a_r1_1 := E_28.1 _ _ a_r1_1
    have a_r3_1 := E_28.1 _ _ a_r3_1
    have a_r5_1 := E_28.1 _ _ a_r5_1
    have a_r6_1 := E_28.1 _ _ a_r6_1
    have a_r7_1 := E_28.1 _ _ a_r7_1
    have a_r8_1 := E_28.1 _ _ a_r8_1
    have o_v12_1 : ∀ b, v12_1 = some b → ∃ n, gI ws_27 b g.cB n ∧ n < 2147483648 := fun b h => (o_v12_1 b h).imp (fun n h => ⟨E_28.1 _ _ h.1, h.2⟩)
    have o_v13_1 : ∀ b, v13_1 = some b → ∃ n, gJ ws_27 b g.cL n ∧ n < 2147483648 := fun b h => (o_v13_1 b h).imp (fun n h => ⟨E_28.1 _ _ h.1, h.2⟩)
    have o_v14_1 : ∀ b, v14_1 = some b → ∃ n, gJ ws_27 b g.cL n ∧ n < 2147483648 := fun b h => (o_v14_1 b h).imp (fun n h => ⟨E_28.1 _ _ h.1, h.2⟩)
    refine lv_aload_n hx hb dX8_addCatch_53 rfl (lv_at hl 0 rfl) ?_
    refine lv_dup hx hb dX8_addCatch_54 rfl ?_
    refine va_get (D := gD g) (ci := 7) (v := .int c9_1) (C := RX8) (T := TX8) (N := 15) hx hb hts inX8 hown hK hP k_1 hk_1 rfl 9 (by decide) (hts _ kw_1465) (fun _ h9 => h9) rfl dX8_addCatch_55 ?_
    refine lv_iconst (v := 1) hx hb dX8_addCatch_58 (by decide) ?_
    refine lv_iadd hx hb dX8_addCatch_59 ?_
    refine lv_topi (fun z_30 ez_30 => ?_)
    have hV9 : okv ws_27 7 9 (.int z_30) := okv_i
    refine va_put (D := gD g) (ci := 7) (v := .int z_30) (ty := .int) (C := RX8) (T := TX8) (N := 15) hx hb hts inX8 tyX8 tyX8_ok nmX8 hown hK hP hD hS k_1 hk_1 rfl 9 (by decide) (hts _ kw_1465) (fun _ h9 => h9) rfl (by decide +kernel) rfl rfl (Nat.le_of_ble_eq_true rfl) dX8_addCatch_60 (fun H locs hP hD hS => ?_)
    have f_31 : 0 ≤ z_30.toInt := (by have e1 : (1 : Int32).toInt = 1 := (by decide); obtain ⟨u_z_30, q_z_30⟩ := i_add ez_30; have q_f26_1 := f26_1; have q_f27_1 := f27_1; have q_c_14 := i_nle c_14; have g_c9_1 := i_rg c9_1; have g_z_3 := i_rg z_3; have g_z_30 := i_rg z_30; omega)
    have f_32 : z_30.toInt ≤ n5_1 := (by have e1 : (1 : Int32).toInt = 1 := (by decide); have q_f7_1 := f7_1; have q_f23_1 := f23_1; have q_f24_1 := f24_1; have q_f25_1 := f25_1; have q_f27_1 := f27_1; have q_f29_1 := f29_1; have q_z_3 := i_len ez_3 f7_1; obtain ⟨u_z_30, q_z_30⟩ := i_add ez_30; have q_f_31 := f_31; have q_f9_1 := f9_1; have q_f11_1 := f11_1; have q_f13_1 := f13_1; have q_f26_1 := f26_1; have q_c_14 := i_nle c_14; have g_c9_1 := i_rg c9_1; have g_z_3 := i_rg z_3; have g_z_30 := i_rg z_30; omega)
    have hi_33 : invX8 g ws_27 h0 [.ref r0_1, .ref r1_1, .int c2_1, .ref r3_1, .int c4_1, .ref r5_1, .ref r6_1, .ref r7_1, .ref r8_1, .int z_30, .int c10_1, .int c11_1, va_rf v12_1, va_rf v13_1, va_rf v14_1] := ⟨r0_1, (n0_1), r1_1, (n1_1), (c2_1), r3_1, (n3_1), (c4_1), r5_1, (n5_1), r6_1, (n6_1), r7_1, (n7_1), r8_1, (n8_1), (z_30), (c10_1), (c11_1), v12_1, v13_1, v14_1, rfl, a_r0_1, f1_1, a_r1_1, f3_1, a_r3_1, f5_1, a_r5_1, f7_1, a_r6_1, f9_1, a_r7_1, f11_1, a_r8_1, f13_1, o_v12_1, o_v13_1, o_v14_1, f17_1, f18_1, f19_1, f20_1, f21_1, f22_1, f23_1, f24_1, f25_1, f_31, f_32, f28_1, f29_1, trivial⟩
    obtain ⟨ws_34, e_ws_34⟩ : ∃ z, z = ws_27.set k_1 (h0, .inr (7, [.ref r0_1, .ref r1_1, .int c2_1, .ref r3_1, .int c4_1, .ref r5_1, .ref r6_1, .ref r7_1, .ref r8_1, .int z_30, .int c10_1, .int c11_1, va_rf v12_1, va_rf v13_1, va_rf v14_1])) := ⟨_, rfl⟩
    have hP : va_P (gD g) cl0 ws_34 H := by rw [e_ws_34]; exact hP
    have hD : va_D A ws_34 := by rw [e_ws_34]; exact hD
    have E_35 : gE ws_27 ws_34 := gE_set e_ws_34 hk_1 (cw_o (fi := 9) (v := .int z_30) rfl (by decide))
    have hG : Good g ws_34 := Good_set (fi := 9) (v := .int z_30) e_ws_34 hk_1 E_35 rfl hV9 hG (ivX8 hi_33)
    have Fr_36 : gF [(7, 9)] [] (some h0) ws_27 ws_34 := gF_put (fi := 9) (v := .int z_30) e_ws_34 hk_1 rfl (by decide)
    have hkN := gset_self e_ws_34 hk_1
    have hk_1 := hkN
    have o_h0 := E_35.1 _ _ o_h0
    have a_r0_1 := E_35.1 _ _ a_r0_1
    have a_r1_1 := E_35.1 _ _ a_r1_1
    have a_r3_1 := E_35.1 _ _ a_r3_1
    have a_r5_1 := E_35.1 _ _ a_r5_1
    have a_r6_1 := E_35.1 _ _ a_r6_1
    have a_r7_1 := E_35.1 _ _ a_r7_1
    have a_r8_1 := E_35.1 _ _ a_r8_1
    have o_v12_1 : ∀ b, v12_1 = some b → ∃ n, gI ws_34 b g.cB n ∧ n < 2147483648 := fun b h => (o_v12_1 b h).imp (fun n h => ⟨E_35.1 _ _ h.1, h.2⟩)
    have o_v13_1 : ∀ b, v13_1 = some b → ∃ n, gJ ws_34 b g.cL n ∧ n < 2147483648 := fun b h => (o_v13_1 b h).imp (fun n h => ⟨E_35.1 _ _ h.1, h.2⟩)
    have o_v14_1 : ∀ b, v14_1 = some b → ∃ n, gJ ws_34 b g.cL n ∧ n < 2147483648 := fun b h => (o_v14_1 b h).imp (fun n h => ⟨E_35.1 _ _ h.1, h.2⟩)
    exact J_63 ws_34 H locs ls ((E_16.tr (E_20.tr (E_24.tr (E_28.tr E_35))))) ((gF.tr (gF.mo (F' := [(7, 9)]) (C' := [(7, 5), (7, 6), (7, 7), (7, 8)]) (S' := (some h0)) Fr_17 (fun _ h => absurd h List.not_mem_nil) (by decide) (Or.inr rfl)) (gF.tr (gF.mo (F' := [(7, 9)]) (C' := [(7, 5), (7, 6), (7, 7), (7, 8)]) (S' := (some h0)) Fr_21 (fun _ h => absurd h List.not_mem_nil) (by decide) (Or.inr rfl)) (gF.tr (gF.mo (F' := [(7, 9)]) (C' := [(7, 5), (7, 6), (7, 7), (7, 8)]) (S' := (some h0)) Fr_25 (fun _ h => absurd h List.not_mem_nil) (by decide) (Or.inr rfl)) (gF.tr (gF.mo (F' := [(7, 9)]) (C' := [(7, 5), (7, 6), (7, 7), (7, 8)]) (S' := (some h0)) Fr_29 (fun _ h => absurd h List.not_mem_nil) (by decide) (Or.inr rfl)) (gF.mo (F' := [(7, 9)]) (C' := [(7, 5), (7, 6), (7, 7), (7, 8)]) (S' := (some h0)) Fr_36 (fun _ h => h) (fun _ h => absurd h List.not_mem_nil) (Or.inr rfl))))))) hG hP hD hS (lv_sub hl [] rfl)
set_option maxHeartbeats 1000000 in
set_option maxRecDepth 100000 in
theorem m_X8_targetCount (l : Launch) (g : Gm) (sz : Nat) (ws : va_W) (h0 : Nat) (x1 : Int32) (hG : Good g ws) (o_h0 : gC ws h0 7) : Met l yX8_targetCount (wt yX8_targetCount cX8_targetCount 3 (some .int)) ({ frames := 1, cells := 0, slots := 0, locals := 21 }) (va_Pc [.ref h0, .int x1] (st_G g sz ws)) (va_Qi (fun (r : Int32) (u9 : Unit) => True) (gQ0 g (va_A ws sz) ws) (va_A ws sz)) (0) (0) (va_A ws sz) := by
  refine Met.ofW (cc := cX8_targetCount) (maxL := 3) (ret := (some .int)) (by decide) rfl ?_
  intro p e s m args below meth c s₁ B hml hv
  obtain ⟨rfl, hsz, hP, hK, hD0, hex, hE⟩ := hv
  have hx := B.exec
  have hb := B.bytes
  have hr := B.returns
  have hts0 := atoms_spec (ws := wt yX8_targetCount cX8_targetCount 3 (some .int)) B.pre
  have hts : ∀ w ∈ tb, w.before _ s = true := fun w h => hts0 w (List.mem_cons_of_mem _ h)
  have hown : s.vm.findClass RX8 = some m.cls := findClass_of_methodNamed B.named
  subst hsz
  have hD := hD0.self (sz := s.heap.size)
  generalize hAe : va_A ws s.heap.size = A at hD hE ⊢
  have hA : ∀ q : Nat, s.heap.size ≤ q → A q := fun q h => by rw [← hAe]; exact Or.inr h
  have hS : va_S A s.heap s.heap [] := va_S.rf
  have hl := lv_entry ([.ref h0, .int x1]) (n := 3) (Nat.le_of_ble_eq_true rfl)
  rw [lg_entry_eq]
  generalize (lg_sl ([.ref h0, .int x1]) ++ List.replicate (3 - (lg_sl ([.ref h0, .int x1])).length) Slot.unset).toArray = ls at hl ⊢
  have hl : lv_has ls 3 [(0, .ref h0), (1, .int x1)] := hl
  refine lv_aload_n hx hb dX8_targetCount_0 rfl (lv_at hl 0 rfl) ?_
  refine lv_iload_n hx hb dX8_targetCount_1 rfl (lv_at hl 1 rfl) ?_
  have hFc := gfree hD hS hA
  obtain ⟨k_1, fs_1, hk_1⟩ := gC_of o_h0
  refine va_calli (va_runV (As := [.int x1]) (rest := []) ⟨hx, hb, hml, hown, hts⟩ (m_X8_opAt l g s.heap.size ws h0 (x1) hG o_h0) (cwV 1 hts (gd_V kw_1528 kw_1513 kw_1514 kw_782 kw_1512) rfl rfl rfl (by decide +kernel) ⟨Nat.le_of_ble_eq_true rfl, Nat.le_of_ble_eq_true rfl⟩) ⟨gblind, va_recv hK hP (ci := 7) (q0 := k_1) rfl hk_1, fun U hU hW9 => gmk hU hW9 hP hK hD hex hE hS hFc⟩ rfl rfl hl.1 rfl (lv_room (Nat.le_of_ble_eq_true rfl)) dX8_targetCount_2 ⟨Nat.le_of_ble_eq_true rfl, Nat.le_of_ble_eq_true rfl⟩) hS (fun q _ h => hFc q h) hFc (fun r_2 u9 t9 H1 locs ht9 hvm9 hw9 hB9 hz9 hk9 hS => ?_)
  have hP : va_P (gD g) cl0 ws H1 := by rw [← ht9]; exact hB9.1
  clear hB9 hz9 hk9 hvm9 ht9 hw9
  generalize H1 = H at hP hS ⊢
  refine lv_istore_n (lv' := [(2, .int r_2), (0, .ref h0), (1, .int x1)]) hx hb dX8_targetCount_5 rfl hl (by decide) rfl (fun ls hl => ?_)
  refine lv_iload_n hx hb dX8_targetCount_6 rfl (lv_at hl 0 rfl) ?_
  have hFc := gfree hD hS hA
  refine va_calli (va_runS (As := [.int r_2]) (rest := []) ⟨hx, hb, hml, hown, hts⟩ (m_X6_isJump l g H.size ws (r_2) hG ) (va_cwS 1 hts (gd_S kw_1529 kw_1225 kw_1207 kw_1224) rfl rfl rfl (by decide +kernel) ⟨Nat.le_of_ble_eq_true rfl, Nat.le_of_ble_eq_true rfl⟩) ⟨gblind, fun U hU hW9 => gmk hU hW9 hP hK hD hex hE hS hFc⟩ rfl rfl hl.1 rfl (lv_room (Nat.le_of_ble_eq_true rfl)) dX8_targetCount_7 ⟨Nat.le_of_ble_eq_true rfl, Nat.le_of_ble_eq_true rfl⟩) hS (fun q _ h => hFc q h) hFc (fun r_3 u9 t9 H1 locs ht9 hvm9 hw9 hB9 hz9 hk9 hS => ?_)
  have hP : va_P (gD g) cl0 ws H1 := by rw [← ht9]; exact hB9.1
  have hz_r_3 : r_3 = 0 ∨ r_3 = 1 := hw9
  clear hB9 hz9 hk9 hvm9 ht9 hw9
  generalize H1 = H at hP hS ⊢
  refine lv_if_eq (tgt := 15) hx hb dX8_targetCount_10 (by decide) (fun c_4 => ?_) (fun c_4 => ?_)
  · refine lv_iload_n hx hb dX8_targetCount_15 rfl (lv_at hl 0 rfl) ?_
    have hFc := gfree hD hS hA
    refine va_calli (va_runS (As := [.int r_2]) (rest := []) ⟨hx, hb, hml, hown, hts⟩ (m_X6_isSwitch l g H.size ws (r_2) hG ) (va_cwS 1 hts (gd_S kw_1543 kw_1233 kw_1207 kw_1232) rfl rfl rfl (by decide +kernel) ⟨Nat.le_of_ble_eq_true rfl, Nat.le_of_ble_eq_true rfl⟩) ⟨gblind, fun U hU hW9 => gmk hU hW9 hP hK hD hex hE hS hFc⟩ rfl rfl hl.1 rfl (lv_room (Nat.le_of_ble_eq_true rfl)) dX8_targetCount_16 ⟨Nat.le_of_ble_eq_true rfl, Nat.le_of_ble_eq_true rfl⟩) hS (fun q _ h => hFc q h) hFc (fun r_5 u9 t9 H1 locs ht9 hvm9 hw9 hB9 hz9 hk9 hS => ?_)
    have hP : va_P (gD g) cl0 ws H1 := by rw [← ht9]; exact hB9.1
    have hz_r_5 : r_5 = 0 ∨ r_5 = 1 := hw9
    clear hB9 hz9 hk9 hvm9 ht9 hw9
    generalize H1 = H at hP hS ⊢
    have J_36 : ∀ (t_6 : Int32) (H : Heap) (locs : List Loc) (ls : Array Slot), va_P (gD g) cl0 ws H → va_D A ws → va_S A s.heap H locs → lv_has ls 3 [] → W p l e (headSpec (wt yX8_targetCount cX8_targetCount 3 (some .int)) ({ frames := 1, cells := 0, slots := 0, locals := 21 })).room s m ([.ref h0, .int x1] : List Value).toArray below meth c H locs (0) (0) (MQ below (va_Qi (fun (r : Int32) (u9 : Unit) => True) (gQ0 g A ws) A) ([.ref h0, .int x1] : List Value).toArray s (0) (0) A) (F0 m 36 ls [.int t_6]) := by
      intro t_6 H locs ls  hP hD hS hl
      refine W.widen (k := 0) (n := 0) (Nat.le_of_ble_eq_true rfl) (Nat.le_of_ble_eq_true rfl) ?_
      exact W.iret (v := t_6) hx hb hr (fun t9 ht9 hW9 => ⟨⟨_, (), rfl, trivial, ⟨by rw [ht9]; exact hP, hD⟩⟩, hS.F ht9⟩) hS.2.2 dX8_targetCount_36
    refine lv_if_eq (tgt := 35) hx hb dX8_targetCount_19 (by decide) (fun c_9 => ?_) (fun c_9 => ?_)
    · refine lv_iconst (v := 0) hx hb dX8_targetCount_35 (by decide) ?_
      exact J_36 (0) H locs ls  hP hD hS (lv_sub hl [] rfl)
    · refine lv_aload_n hx hb dX8_targetCount_22 rfl (lv_at hl 1 rfl) ?_
      refine lv_aload_n hx hb dX8_targetCount_23 rfl (lv_at hl 1 rfl) ?_
      refine lv_iload_n hx hb dX8_targetCount_24 rfl (lv_at hl 2 rfl) ?_
      have hFc := gfree hD hS hA
      obtain ⟨k_10, fs_10, hk_10⟩ := gC_of o_h0
      refine va_calll (va_runV (As := [.int x1]) (rest := [.ref h0]) ⟨hx, hb, hml, hown, hts⟩ (m_X8_argAt l g H.size ws h0 (x1) hG o_h0) (cwV 1 hts (gd_V kw_1511 kw_1476 kw_1477 kw_782 kw_1475) rfl rfl rfl (by decide +kernel) ⟨Nat.le_of_ble_eq_true rfl, Nat.le_of_ble_eq_true rfl⟩) ⟨gblind, va_recv hK hP (ci := 7) (q0 := k_10) rfl hk_10, fun U hU hW9 => gmk hU hW9 hP hK hD hex hE hS hFc⟩ rfl rfl hl.1 rfl (lv_room (Nat.le_of_ble_eq_true rfl)) dX8_targetCount_25 ⟨Nat.le_of_ble_eq_true rfl, Nat.le_of_ble_eq_true rfl⟩) hS (fun q _ h => hFc q h) hFc (fun r_11 u9 t9 H1 locs ht9 hvm9 hw9 hB9 hz9 hk9 hS => ?_)
      have hP : va_P (gD g) cl0 ws H1 := by rw [← ht9]; exact hB9.1
      clear hB9 hz9 hk9 hvm9 ht9 hw9
      generalize H1 = H at hP hS ⊢
      obtain ⟨z_12, ez_12⟩ : ∃ y : Int32, (r_11 : Int64).toInt32 = y := ⟨_, rfl⟩
      refine lv_l2i (v := z_12) hx hb dX8_targetCount_28 ez_12 ?_
      have hFc := gfree hD hS hA
      obtain ⟨k_13, fs_13, hk_13⟩ := gC_of o_h0
      refine va_calli (va_runV (As := [.int z_12]) (rest := []) ⟨hx, hb, hml, hown, hts⟩ (m_X8_tableAt l g H.size ws h0 (z_12) hG o_h0) (cwV 1 hts (gd_V kw_1539 kw_1534 kw_1535 kw_782 kw_1533) rfl rfl rfl (by decide +kernel) ⟨Nat.le_of_ble_eq_true rfl, Nat.le_of_ble_eq_true rfl⟩) ⟨gblind, va_recv hK hP (ci := 7) (q0 := k_13) rfl hk_13, fun U hU hW9 => gmk hU hW9 hP hK hD hex hE hS hFc⟩ rfl rfl hl.1 rfl (lv_room (Nat.le_of_ble_eq_true rfl)) dX8_targetCount_29 ⟨Nat.le_of_ble_eq_true rfl, Nat.le_of_ble_eq_true rfl⟩) hS (fun q _ h => hFc q h) hFc (fun r_14 u9 t9 H1 locs ht9 hvm9 hw9 hB9 hz9 hk9 hS => ?_)
      have hP : va_P (gD g) cl0 ws H1 := by rw [← ht9]; exact hB9.1
      clear hB9 hz9 hk9 hvm9 ht9 hw9
      generalize H1 = H at hP hS ⊢
      refine lv_goto (tgt := 36) hx hb dX8_targetCount_32 (by decide) ?_
      exact J_36 (r_14) H locs ls  hP hD hS (lv_sub hl [] rfl)
  · refine lv_iconst (v := 1) hx hb dX8_targetCount_13 (by decide) ?_
    refine W.widen (k := 0) (n := 0) (Nat.le_of_ble_eq_true rfl) (Nat.le_of_ble_eq_true rfl) ?_
    exact W.iret (v := 1) hx hb hr (fun t9 ht9 hW9 => ⟨⟨_, (), rfl, trivial, ⟨by rw [ht9]; exact hP, hD⟩⟩, hS.F ht9⟩) hS.2.2 dX8_targetCount_14
set_option maxHeartbeats 1000000 in
set_option maxRecDepth 100000 in
theorem m_X8_targetAt (l : Launch) (g : Gm) (sz : Nat) (ws : va_W) (h0 : Nat) (x1 : Int32) (x2 : Int32) (hG : Good g ws) (o_h0 : gC ws h0 7) : Met l yX8_targetAt (wt yX8_targetAt cX8_targetAt 3 (some .int)) ({ frames := 1, cells := 0, slots := 0, locals := 21 }) (va_Pc [.ref h0, .int x1, .int x2] (st_G g sz ws)) (va_Qi (fun (r : Int32) (u9 : Unit) => True) (gQ0 g (va_A ws sz) ws) (va_A ws sz)) (0) (0) (va_A ws sz) := by
  refine Met.ofW (cc := cX8_targetAt) (maxL := 3) (ret := (some .int)) (by decide) rfl ?_
  intro p e s m args below meth c s₁ B hml hv
  obtain ⟨rfl, hsz, hP, hK, hD0, hex, hE⟩ := hv
  have hx := B.exec
  have hb := B.bytes
  have hr := B.returns
  have hts0 := atoms_spec (ws := wt yX8_targetAt cX8_targetAt 3 (some .int)) B.pre
  have hts : ∀ w ∈ tb, w.before _ s = true := fun w h => hts0 w (List.mem_cons_of_mem _ h)
  have hown : s.vm.findClass RX8 = some m.cls := findClass_of_methodNamed B.named
  subst hsz
  have hD := hD0.self (sz := s.heap.size)
  generalize hAe : va_A ws s.heap.size = A at hD hE ⊢
  have hA : ∀ q : Nat, s.heap.size ≤ q → A q := fun q h => by rw [← hAe]; exact Or.inr h
  have hS : va_S A s.heap s.heap [] := va_S.rf
  have hl := lv_entry ([.ref h0, .int x1, .int x2]) (n := 3) (Nat.le_of_ble_eq_true rfl)
  rw [lg_entry_eq]
  generalize (lg_sl ([.ref h0, .int x1, .int x2]) ++ List.replicate (3 - (lg_sl ([.ref h0, .int x1, .int x2])).length) Slot.unset).toArray = ls at hl ⊢
  have hl : lv_has ls 3 [(0, .ref h0), (1, .int x1), (2, .int x2)] := hl
  refine lv_aload_n hx hb dX8_targetAt_0 rfl (lv_at hl 0 rfl) ?_
  refine lv_iload_n hx hb dX8_targetAt_1 rfl (lv_at hl 1 rfl) ?_
  have hFc := gfree hD hS hA
  obtain ⟨k_1, fs_1, hk_1⟩ := gC_of o_h0
  refine va_calli (va_runV (As := [.int x1]) (rest := []) ⟨hx, hb, hml, hown, hts⟩ (m_X8_opAt l g s.heap.size ws h0 (x1) hG o_h0) (cwV 1 hts (gd_V kw_1528 kw_1513 kw_1514 kw_782 kw_1512) rfl rfl rfl (by decide +kernel) ⟨Nat.le_of_ble_eq_true rfl, Nat.le_of_ble_eq_true rfl⟩) ⟨gblind, va_recv hK hP (ci := 7) (q0 := k_1) rfl hk_1, fun U hU hW9 => gmk hU hW9 hP hK hD hex hE hS hFc⟩ rfl rfl hl.1 rfl (lv_room (Nat.le_of_ble_eq_true rfl)) dX8_targetAt_2 ⟨Nat.le_of_ble_eq_true rfl, Nat.le_of_ble_eq_true rfl⟩) hS (fun q _ h => hFc q h) hFc (fun r_2 u9 t9 H1 locs ht9 hvm9 hw9 hB9 hz9 hk9 hS => ?_)
  have hP : va_P (gD g) cl0 ws H1 := by rw [← ht9]; exact hB9.1
  clear hB9 hz9 hk9 hvm9 ht9 hw9
  generalize H1 = H at hP hS ⊢
  have hFc := gfree hD hS hA
  refine va_calli (va_runS (As := [.int r_2]) (rest := []) ⟨hx, hb, hml, hown, hts⟩ (m_X6_isJump l g H.size ws (r_2) hG ) (va_cwS 1 hts (gd_S kw_1529 kw_1225 kw_1207 kw_1224) rfl rfl rfl (by decide +kernel) ⟨Nat.le_of_ble_eq_true rfl, Nat.le_of_ble_eq_true rfl⟩) ⟨gblind, fun U hU hW9 => gmk hU hW9 hP hK hD hex hE hS hFc⟩ rfl rfl hl.1 rfl (lv_room (Nat.le_of_ble_eq_true rfl)) dX8_targetAt_5 ⟨Nat.le_of_ble_eq_true rfl, Nat.le_of_ble_eq_true rfl⟩) hS (fun q _ h => hFc q h) hFc (fun r_3 u9 t9 H1 locs ht9 hvm9 hw9 hB9 hz9 hk9 hS => ?_)
  have hP : va_P (gD g) cl0 ws H1 := by rw [← ht9]; exact hB9.1
  have hz_r_3 : r_3 = 0 ∨ r_3 = 1 := hw9
  clear hB9 hz9 hk9 hvm9 ht9 hw9
  generalize H1 = H at hP hS ⊢
  have J_34 : ∀ (t_4 : Int32) (H : Heap) (locs : List Loc) (ls : Array Slot), va_P (gD g) cl0 ws H → va_D A ws → va_S A s.heap H locs → lv_has ls 3 [] → W p l e (headSpec (wt yX8_targetAt cX8_targetAt 3 (some .int)) ({ frames := 1, cells := 0, slots := 0, locals := 21 })).room s m ([.ref h0, .int x1, .int x2] : List Value).toArray below meth c H locs (0) (0) (MQ below (va_Qi (fun (r : Int32) (u9 : Unit) => True) (gQ0 g A ws) A) ([.ref h0, .int x1, .int x2] : List Value).toArray s (0) (0) A) (F0 m 34 ls [.int t_4]) := by
    intro t_4 H locs ls  hP hD hS hl
    refine W.widen (k := 0) (n := 0) (Nat.le_of_ble_eq_true rfl) (Nat.le_of_ble_eq_true rfl) ?_
    exact W.iret (v := t_4) hx hb hr (fun t9 ht9 hW9 => ⟨⟨_, (), rfl, trivial, ⟨by rw [ht9]; exact hP, hD⟩⟩, hS.F ht9⟩) hS.2.2 dX8_targetAt_34
  refine lv_if_eq (tgt := 20) hx hb dX8_targetAt_8 (by decide) (fun c_7 => ?_) (fun c_7 => ?_)
  · refine lv_aload_n hx hb dX8_targetAt_20 rfl (lv_at hl 0 rfl) ?_
    refine lv_aload_n hx hb dX8_targetAt_21 rfl (lv_at hl 0 rfl) ?_
    refine lv_iload_n hx hb dX8_targetAt_22 rfl (lv_at hl 1 rfl) ?_
    have hFc := gfree hD hS hA
    obtain ⟨k_8, fs_8, hk_8⟩ := gC_of o_h0
    refine va_calll (va_runV (As := [.int x1]) (rest := [.ref h0]) ⟨hx, hb, hml, hown, hts⟩ (m_X8_argAt l g H.size ws h0 (x1) hG o_h0) (cwV 1 hts (gd_V kw_1511 kw_1476 kw_1477 kw_782 kw_1475) rfl rfl rfl (by decide +kernel) ⟨Nat.le_of_ble_eq_true rfl, Nat.le_of_ble_eq_true rfl⟩) ⟨gblind, va_recv hK hP (ci := 7) (q0 := k_8) rfl hk_8, fun U hU hW9 => gmk hU hW9 hP hK hD hex hE hS hFc⟩ rfl rfl hl.1 rfl (lv_room (Nat.le_of_ble_eq_true rfl)) dX8_targetAt_23 ⟨Nat.le_of_ble_eq_true rfl, Nat.le_of_ble_eq_true rfl⟩) hS (fun q _ h => hFc q h) hFc (fun r_9 u9 t9 H1 locs ht9 hvm9 hw9 hB9 hz9 hk9 hS => ?_)
    have hP : va_P (gD g) cl0 ws H1 := by rw [← ht9]; exact hB9.1
    clear hB9 hz9 hk9 hvm9 ht9 hw9
    generalize H1 = H at hP hS ⊢
    obtain ⟨z_10, ez_10⟩ : ∃ y : Int32, (r_9 : Int64).toInt32 = y := ⟨_, rfl⟩
    refine lv_l2i (v := z_10) hx hb dX8_targetAt_26 ez_10 ?_
    refine lv_iconst (v := 2) hx hb dX8_targetAt_27 (by decide) ?_
    refine lv_iadd hx hb dX8_targetAt_28 ?_
    refine lv_topi (fun z_11 ez_11 => ?_)
    refine lv_iload_n hx hb dX8_targetAt_29 rfl (lv_at hl 2 rfl) ?_
    refine lv_iadd hx hb dX8_targetAt_30 ?_
    refine lv_topi (fun z_12 ez_12 => ?_)
    have hFc := gfree hD hS hA
    obtain ⟨k_13, fs_13, hk_13⟩ := gC_of o_h0
    refine va_calli (va_runV (As := [.int z_12]) (rest := []) ⟨hx, hb, hml, hown, hts⟩ (m_X8_tableAt l g H.size ws h0 (z_12) hG o_h0) (cwV 1 hts (gd_V kw_1539 kw_1534 kw_1535 kw_782 kw_1533) rfl rfl rfl (by decide +kernel) ⟨Nat.le_of_ble_eq_true rfl, Nat.le_of_ble_eq_true rfl⟩) ⟨gblind, va_recv hK hP (ci := 7) (q0 := k_13) rfl hk_13, fun U hU hW9 => gmk hU hW9 hP hK hD hex hE hS hFc⟩ rfl rfl hl.1 rfl (lv_room (Nat.le_of_ble_eq_true rfl)) dX8_targetAt_31 ⟨Nat.le_of_ble_eq_true rfl, Nat.le_of_ble_eq_true rfl⟩) hS (fun q _ h => hFc q h) hFc (fun r_14 u9 t9 H1 locs ht9 hvm9 hw9 hB9 hz9 hk9 hS => ?_)
    have hP : va_P (gD g) cl0 ws H1 := by rw [← ht9]; exact hB9.1
    clear hB9 hz9 hk9 hvm9 ht9 hw9
    generalize H1 = H at hP hS ⊢
    exact J_34 (r_14) H locs ls  hP hD hS (lv_sub hl [] rfl)
  · refine lv_aload_n hx hb dX8_targetAt_11 rfl (lv_at hl 0 rfl) ?_
    refine lv_iload_n hx hb dX8_targetAt_12 rfl (lv_at hl 1 rfl) ?_
    have hFc := gfree hD hS hA
    obtain ⟨k_15, fs_15, hk_15⟩ := gC_of o_h0
    refine va_calll (va_runV (As := [.int x1]) (rest := []) ⟨hx, hb, hml, hown, hts⟩ (m_X8_argAt l g H.size ws h0 (x1) hG o_h0) (cwV 1 hts (gd_V kw_1511 kw_1476 kw_1477 kw_782 kw_1475) rfl rfl rfl (by decide +kernel) ⟨Nat.le_of_ble_eq_true rfl, Nat.le_of_ble_eq_true rfl⟩) ⟨gblind, va_recv hK hP (ci := 7) (q0 := k_15) rfl hk_15, fun U hU hW9 => gmk hU hW9 hP hK hD hex hE hS hFc⟩ rfl rfl hl.1 rfl (lv_room (Nat.le_of_ble_eq_true rfl)) dX8_targetAt_13 ⟨Nat.le_of_ble_eq_true rfl, Nat.le_of_ble_eq_true rfl⟩) hS (fun q _ h => hFc q h) hFc (fun r_16 u9 t9 H1 locs ht9 hvm9 hw9 hB9 hz9 hk9 hS => ?_)
    have hP : va_P (gD g) cl0 ws H1 := by rw [← ht9]; exact hB9.1
    clear hB9 hz9 hk9 hvm9 ht9 hw9
    generalize H1 = H at hP hS ⊢
    obtain ⟨z_17, ez_17⟩ : ∃ y : Int32, (r_16 : Int64).toInt32 = y := ⟨_, rfl⟩
    refine lv_l2i (v := z_17) hx hb dX8_targetAt_16 ez_17 ?_
    refine lv_goto (tgt := 34) hx hb dX8_targetAt_17 (by decide) ?_
    exact J_34 (z_17) H locs ls  hP hD hS (lv_sub hl [] rfl)
set_option maxHeartbeats 1000000 in
set_option maxRecDepth 100000 in
theorem m_X8_setTarget (l : Launch) (g : Gm) (sz : Nat) (ws : va_W) (h0 : Nat) (x1 : Int32) (x2 : Int32) (x3 : Int32) (hG : Good g ws) (o_h0 : gC ws h0 7) : Met l yX8_setTarget (wt yX8_setTarget cX8_setTarget 5 none) ({ frames := 1, cells := 0, slots := 0, locals := 24 }) (va_Pc [.ref h0, .int x1, .int x2, .int x3] (st_G g sz ws)) (va_Qv (fun (u9 : va_W) => True) (gQ1 g [] [(7, 0), (7, 1), (7, 3)] (some h0) (va_A ws sz) ws) (va_A ws sz)) (0) (0) (va_A ws sz) := by
  refine Met.ofW (cc := cX8_setTarget) (maxL := 5) (ret := none) (by decide) rfl ?_
  intro p e s m args below meth c s₁ B hml hv
  obtain ⟨rfl, hsz, hP, hK, hD0, hex, hE⟩ := hv
  have hx := B.exec
  have hb := B.bytes
  have hr := B.returns
  have hts0 := atoms_spec (ws := wt yX8_setTarget cX8_setTarget 5 none) B.pre
  have hts : ∀ w ∈ tb, w.before _ s = true := fun w h => hts0 w (List.mem_cons_of_mem _ h)
  have hown : s.vm.findClass RX8 = some m.cls := findClass_of_methodNamed B.named
  subst hsz
  have hD := hD0.self (sz := s.heap.size)
  generalize hAe : va_A ws s.heap.size = A at hD hE ⊢
  have hA : ∀ q : Nat, s.heap.size ≤ q → A q := fun q h => by rw [← hAe]; exact Or.inr h
  have hS : va_S A s.heap s.heap [] := va_S.rf
  have hl := lv_entry ([.ref h0, .int x1, .int x2, .int x3]) (n := 5) (Nat.le_of_ble_eq_true rfl)
  rw [lg_entry_eq]
  generalize (lg_sl ([.ref h0, .int x1, .int x2, .int x3]) ++ List.replicate (5 - (lg_sl ([.ref h0, .int x1, .int x2, .int x3])).length) Slot.unset).toArray = ls at hl ⊢
  have hl : lv_has ls 5 [(0, .ref h0), (1, .int x1), (2, .int x2), (3, .int x3)] := hl
  refine lv_aload_n hx hb dX8_setTarget_0 rfl (lv_at hl 0 rfl) ?_
  refine lv_iload_n hx hb dX8_setTarget_1 rfl (lv_at hl 1 rfl) ?_
  have hFc := gfree hD hS hA
  obtain ⟨k_1, fs_1, hk_1⟩ := gC_of o_h0
  refine va_calli (va_runV (As := [.int x1]) (rest := []) ⟨hx, hb, hml, hown, hts⟩ (m_X8_opAt l g s.heap.size ws h0 (x1) hG o_h0) (cwV 1 hts (gd_V kw_1528 kw_1513 kw_1514 kw_782 kw_1512) rfl rfl rfl (by decide +kernel) ⟨Nat.le_of_ble_eq_true rfl, Nat.le_of_ble_eq_true rfl⟩) ⟨gblind, va_recv hK hP (ci := 7) (q0 := k_1) rfl hk_1, fun U hU hW9 => gmk hU hW9 hP hK hD hex hE hS hFc⟩ rfl rfl hl.1 rfl (lv_room (Nat.le_of_ble_eq_true rfl)) dX8_setTarget_2 ⟨Nat.le_of_ble_eq_true rfl, Nat.le_of_ble_eq_true rfl⟩) hS (fun q _ h => hFc q h) hFc (fun r_2 u9 t9 H1 locs ht9 hvm9 hw9 hB9 hz9 hk9 hS => ?_)
  have hP : va_P (gD g) cl0 ws H1 := by rw [← ht9]; exact hB9.1
  clear hB9 hz9 hk9 hvm9 ht9 hw9
  generalize H1 = H at hP hS ⊢
  have hFc := gfree hD hS hA
  refine va_calli (va_runS (As := [.int r_2]) (rest := []) ⟨hx, hb, hml, hown, hts⟩ (m_X6_isJump l g H.size ws (r_2) hG ) (va_cwS 1 hts (gd_S kw_1529 kw_1225 kw_1207 kw_1224) rfl rfl rfl (by decide +kernel) ⟨Nat.le_of_ble_eq_true rfl, Nat.le_of_ble_eq_true rfl⟩) ⟨gblind, fun U hU hW9 => gmk hU hW9 hP hK hD hex hE hS hFc⟩ rfl rfl hl.1 rfl (lv_room (Nat.le_of_ble_eq_true rfl)) dX8_setTarget_5 ⟨Nat.le_of_ble_eq_true rfl, Nat.le_of_ble_eq_true rfl⟩) hS (fun q _ h => hFc q h) hFc (fun r_3 u9 t9 H1 locs ht9 hvm9 hw9 hB9 hz9 hk9 hS => ?_)
  have hP : va_P (gD g) cl0 ws H1 := by rw [← ht9]; exact hB9.1
  have hz_r_3 : r_3 = 0 ∨ r_3 = 1 := hw9
  clear hB9 hz9 hk9 hvm9 ht9 hw9
  generalize H1 = H at hP hS ⊢
  refine lv_if_eq (tgt := 24) hx hb dX8_setTarget_8 (by decide) (fun c_4 => ?_) (fun c_4 => ?_)
  · refine lv_aload_n hx hb dX8_setTarget_24 rfl (lv_at hl 0 rfl) ?_
    refine lv_iload_n hx hb dX8_setTarget_25 rfl (lv_at hl 1 rfl) ?_
    have hFc := gfree hD hS hA
    obtain ⟨k_5, fs_5, hk_5⟩ := gC_of o_h0
    refine va_calll (va_runV (As := [.int x1]) (rest := []) ⟨hx, hb, hml, hown, hts⟩ (m_X8_argAt l g H.size ws h0 (x1) hG o_h0) (cwV 1 hts (gd_V kw_1511 kw_1476 kw_1477 kw_782 kw_1475) rfl rfl rfl (by decide +kernel) ⟨Nat.le_of_ble_eq_true rfl, Nat.le_of_ble_eq_true rfl⟩) ⟨gblind, va_recv hK hP (ci := 7) (q0 := k_5) rfl hk_5, fun U hU hW9 => gmk hU hW9 hP hK hD hex hE hS hFc⟩ rfl rfl hl.1 rfl (lv_room (Nat.le_of_ble_eq_true rfl)) dX8_setTarget_26 ⟨Nat.le_of_ble_eq_true rfl, Nat.le_of_ble_eq_true rfl⟩) hS (fun q _ h => hFc q h) hFc (fun r_6 u9 t9 H1 locs ht9 hvm9 hw9 hB9 hz9 hk9 hS => ?_)
    have hP : va_P (gD g) cl0 ws H1 := by rw [← ht9]; exact hB9.1
    clear hB9 hz9 hk9 hvm9 ht9 hw9
    generalize H1 = H at hP hS ⊢
    obtain ⟨z_7, ez_7⟩ : ∃ y : Int32, (r_6 : Int64).toInt32 = y := ⟨_, rfl⟩
    refine lv_l2i (v := z_7) hx hb dX8_setTarget_29 ez_7 ?_
    refine lv_iconst (v := 2) hx hb dX8_setTarget_30 (by decide) ?_
    refine lv_iadd hx hb dX8_setTarget_31 ?_
    refine lv_topi (fun z_8 ez_8 => ?_)
    refine lv_iload_n hx hb dX8_setTarget_32 rfl (lv_at hl 2 rfl) ?_
    refine lv_iadd hx hb dX8_setTarget_33 ?_
    refine lv_topi (fun z_9 ez_9 => ?_)
    refine lv_istore (lv' := [(4, .int z_9), (0, .ref h0), (1, .int x1), (2, .int x2), (3, .int x3)]) hx hb dX8_setTarget_34 hl (by decide) rfl (fun ls hl => ?_)
    refine lv_iload hx hb dX8_setTarget_36 (lv_at hl 0 rfl) ?_
    have J_58 : ∀ (ws_10 : va_W) (H : Heap) (locs : List Loc) (ls : Array Slot), gE ws ws_10 → gF [] [(7, 3)] (some h0) ws ws_10 → Good g ws_10 → va_P (gD g) cl0 ws_10 H → va_D A ws_10 → va_S A s.heap H locs → lv_has ls 5 [] → W p l e (headSpec (wt yX8_setTarget cX8_setTarget 5 none) ({ frames := 1, cells := 0, slots := 0, locals := 24 })).room s m ([.ref h0, .int x1, .int x2, .int x3] : List Value).toArray below meth c H locs (0) (0) (MQ below (va_Qv (fun (u9 : va_W) => True) (gQ1 g [] [(7, 0), (7, 1), (7, 3)] (some h0) A ws) A) ([.ref h0, .int x1, .int x2, .int x3] : List Value).toArray s (0) (0) A) (F0 m 58 ls []) := by
      intro ws_10 H locs ls  E_11 Fr_12 hG hP hD hS hl
      have o_h0 := E_11.1 _ _ o_h0
      refine W.widen (k := 0) (n := 0) (Nat.le_of_ble_eq_true rfl) (Nat.le_of_ble_eq_true rfl) ?_
      exact W.vret hx hb hr (fun t9 ht9 hW9 => ⟨⟨ws_10, rfl, trivial, ⟨E_11, (gF.mo (F' := []) (C' := [(7, 0), (7, 1), (7, 3)]) (S' := (some h0)) Fr_12 (fun _ h => h) (by decide) (Or.inr rfl)), hG, by rw [ht9]; exact hP, hD⟩⟩, hS.F ht9⟩) hS.2.2 dX8_setTarget_58
    refine lv_if_lt (tgt := 58) hx hb dX8_setTarget_38 (by decide) (fun c_13 => ?_) (fun c_13 => ?_)
    · exact J_58 ws H locs ls (gE.rf) (gF.rf) hG hP hD hS (lv_sub hl [] rfl)
    · refine lv_iload hx hb dX8_setTarget_41 (lv_at hl 0 rfl) ?_
      refine lv_aload_n hx hb dX8_setTarget_43 rfl (lv_at hl 1 rfl) ?_
      obtain ⟨k_14, fs9, hk_14⟩ := gC_of o_h0
      obtain ⟨r0_14, n0_14, r1_14, n1_14, c2_14, r3_14, n3_14, c4_14, r5_14, n5_14, r6_14, n6_14, r7_14, n7_14, r8_14, n8_14, c9_14, c10_14, c11_14, v12_14, v13_14, v14_14, rfl, a_r0_14, f1_14, a_r1_14, f3_14, a_r3_14, f5_14, a_r5_14, f7_14, a_r6_14, f9_14, a_r7_14, f11_14, a_r8_14, f13_14, o_v12_14, o_v13_14, o_v14_14, f17_14, f18_14, f19_14, f20_14, f21_14, f22_14, f23_14, f24_14, f25_14, f26_14, f27_14, f28_14, f29_14, -⟩ := (hG.1 _ _ _ _ hk_14).hX8 rfl
      refine va_get (D := gD g) (ci := 7) (v := .int c4_14) (C := RX8) (T := TX8) (N := 15) hx hb hts inX8 hown hK hP k_14 hk_14 rfl 4 (by decide) (hts _ kw_1473) (fun _ h9 => h9) rfl dX8_setTarget_44 ?_
      refine lv_icmp_ge (tgt := 58) hx hb dX8_setTarget_47 (by decide) (fun c_15 => ?_) (fun c_15 => ?_)
      · exact J_58 ws H locs ls (gE.rf) (gF.rf) hG hP hD hS (lv_sub hl [] rfl)
      · refine lv_aload_n hx hb dX8_setTarget_50 rfl (lv_at hl 1 rfl) ?_
        refine va_get (D := gD g) (ci := 7) (v := .ref r3_14) (C := RX8) (T := TX8) (N := 15) hx hb hts inX8 hown hK hP k_14 hk_14 rfl 3 (by decide) (hts _ kw_1474) (fun _ h9 => h9) rfl dX8_setTarget_51 ?_
        refine lv_iload hx hb dX8_setTarget_54 (lv_at hl 0 rfl) ?_
        refine lv_iload_n hx hb dX8_setTarget_56 rfl (lv_at hl 4 rfl) ?_
        obtain ⟨k_16, f_16, hk_16⟩ := gI_of a_r3_14
        have hC9 : hol ws r3_14 [(7, 3)] := (hol_u hG.u hk_14 (j := 3) rfl a_r3_14 (by decide))
        have hS9 : holS ws r3_14 (some h0) := holS_u hG.u hk_14 (j := 3) rfl a_r3_14
        refine va_iast hx hb hK hP hD hS k_16 1 hk_16 rfl (i_in2 (by have e0 : (0 : Int32).toInt = 0 := (by decide); have e2 : (2 : Int32).toInt = 2 := (by decide); obtain ⟨u_z_9, q_z_9⟩ := i_add ez_9; have q_c_13 := i_nlt c_13; have q_f5_14 := f5_14; have q_f22_14 := f22_14; have q_f28_14 := f28_14; have q_c_15 := i_nle c_15; obtain ⟨u_z_8, q_z_8⟩ := i_add ez_8; have q_f21_14 := f21_14; have g_c4_14 := i_rg c4_14; have g_x2 := i_rg x2; have g_z_7 := i_rg z_7; have g_z_8 := i_rg z_8; have g_z_9 := i_rg z_9; omega)) dX8_setTarget_57 (fun H locs hP hD hS => ?_)
        obtain ⟨ws_17, e_ws_17⟩ : ∃ z, z = ws.set k_16 (r3_14, .inl (g.cI, n3_14, .inl (upd f_16 (z_9 : Int32).toNatClampNeg x3))) := ⟨_, rfl⟩
        have hP : va_P (gD g) cl0 ws_17 H := by rw [e_ws_17]; exact hP
        have hD : va_D A ws_17 := by rw [e_ws_17]; exact hD
        have E_18 : gE ws ws_17 := gE_ari e_ws_17 hk_16
        have hG : Good g ws_17 := Good_arI e_ws_17 hk_16 hG
        have Fr_19 : gF [] [(7, 3)] (some h0) ws ws_17 := gF_ar e_ws_17 hk_16 rfl hC9 hS9
        have hk_14 := gset_arO e_ws_17 hk_16 hk_14
        have o_h0 := E_18.1 _ _ o_h0
        have a_r0_14 := E_18.1 _ _ a_r0_14
        have a_r1_14 := E_18.1 _ _ a_r1_14
        have a_r3_14 := E_18.1 _ _ a_r3_14
        have a_r5_14 := E_18.1 _ _ a_r5_14
        have a_r6_14 := E_18.1 _ _ a_r6_14
        have a_r7_14 := E_18.1 _ _ a_r7_14
        have a_r8_14 := E_18.1 _ _ a_r8_14
        have o_v12_14 : ∀ b, v12_14 = some b → ∃ n, gI ws_17 b g.cB n ∧ n < 2147483648 := fun b h => (o_v12_14 b h).imp (fun n h => ⟨E_18.1 _ _ h.1, h.2⟩)
        have o_v13_14 : ∀ b, v13_14 = some b → ∃ n, gJ ws_17 b g.cL n ∧ n < 2147483648 := fun b h => (o_v13_14 b h).imp (fun n h => ⟨E_18.1 _ _ h.1, h.2⟩)
        have o_v14_14 : ∀ b, v14_14 = some b → ∃ n, gJ ws_17 b g.cL n ∧ n < 2147483648 := fun b h => (o_v14_14 b h).imp (fun n h => ⟨E_18.1 _ _ h.1, h.2⟩)
        exact J_58 ws_17 H locs ls (E_18) (Fr_19) hG hP hD hS (lv_sub hl [] rfl)
  · refine lv_aload_n hx hb dX8_setTarget_11 rfl (lv_at hl 0 rfl) ?_
    refine lv_iload_n hx hb dX8_setTarget_12 rfl (lv_at hl 1 rfl) ?_
    refine lv_aload_n hx hb dX8_setTarget_13 rfl (lv_at hl 0 rfl) ?_
    refine lv_iload_n hx hb dX8_setTarget_14 rfl (lv_at hl 1 rfl) ?_
    have hFc := gfree hD hS hA
    obtain ⟨k_20, fs_20, hk_20⟩ := gC_of o_h0
    refine va_calli (va_runV (As := [.int x1]) (rest := [.int x1, .ref h0]) ⟨hx, hb, hml, hown, hts⟩ (m_X8_opAt l g H.size ws h0 (x1) hG o_h0) (cwV 1 hts (gd_V kw_1528 kw_1513 kw_1514 kw_782 kw_1512) rfl rfl rfl (by decide +kernel) ⟨Nat.le_of_ble_eq_true rfl, Nat.le_of_ble_eq_true rfl⟩) ⟨gblind, va_recv hK hP (ci := 7) (q0 := k_20) rfl hk_20, fun U hU hW9 => gmk hU hW9 hP hK hD hex hE hS hFc⟩ rfl rfl hl.1 rfl (lv_room (Nat.le_of_ble_eq_true rfl)) dX8_setTarget_15 ⟨Nat.le_of_ble_eq_true rfl, Nat.le_of_ble_eq_true rfl⟩) hS (fun q _ h => hFc q h) hFc (fun r_21 u9 t9 H1 locs ht9 hvm9 hw9 hB9 hz9 hk9 hS => ?_)
    have hP : va_P (gD g) cl0 ws H1 := by rw [← ht9]; exact hB9.1
    clear hB9 hz9 hk9 hvm9 ht9 hw9
    generalize H1 = H at hP hS ⊢
    refine lv_iload_n hx hb dX8_setTarget_18 rfl (lv_at hl 3 rfl) ?_
    obtain ⟨z_22, ez_22⟩ : ∃ y : Int64, (x3 : Int32).toInt64 = y := ⟨_, rfl⟩
    refine lv_i2l (v := z_22) hx hb dX8_setTarget_19 ez_22 ?_
    have hFc := gfree hD hS hA
    obtain ⟨k_23, fs_23, hk_23⟩ := gC_of o_h0
    refine va_callv (va_runV (As := [.int x1, .int r_21, .long z_22]) (rest := []) ⟨hx, hb, hml, hown, hts⟩ (m_X8_set l g H.size ws h0 (x1) (r_21) (z_22) hG o_h0) (cwV 3 hts (gd_V kw_1461 kw_1523 kw_1524 kw_782 kw_1522) rfl rfl rfl (by decide +kernel) ⟨Nat.le_of_ble_eq_true rfl, Nat.le_of_ble_eq_true rfl⟩) ⟨gblind, va_recv hK hP (ci := 7) (q0 := k_23) rfl hk_23, fun U hU hW9 => gmk hU hW9 hP hK hD hex hE hS hFc⟩ rfl rfl hl.1 rfl (lv_room (Nat.le_of_ble_eq_true rfl)) dX8_setTarget_20 ⟨Nat.le_of_ble_eq_true rfl, Nat.le_of_ble_eq_true rfl⟩) hS (fun q _ h => hFc q h) hFc (fun  ws_24 t9 H1 locs ht9 hvm9 hw9 hB9 hz9 hk9 hS => ?_)
    obtain ⟨E_25, Fr_26, hG, hP1, hD1⟩ := hB9
    have hP : va_P (gD g) cl0 ws_24 H1 := by rw [← ht9]; exact hP1
    have hD : va_D A ws_24 := hD1.weaken (fun _ _ _ h => hFc _ h)
    clear hP1 hD1 hz9 hk9 hvm9 ht9 hw9
    generalize H1 = H at hP hS ⊢
    have o_h0 := E_25.1 _ _ o_h0
    refine W.widen (k := 0) (n := 0) (Nat.le_of_ble_eq_true rfl) (Nat.le_of_ble_eq_true rfl) ?_
    exact W.vret hx hb hr (fun t9 ht9 hW9 => ⟨⟨ws_24, rfl, trivial, ⟨E_25, (gF.mo (F' := []) (C' := [(7, 0), (7, 1), (7, 3)]) (S' := (some h0)) Fr_26 (fun _ h => h) (by decide) (Or.inr rfl)), hG, by rw [ht9]; exact hP, hD⟩⟩, hS.F ht9⟩) hS.2.2 dX8_setTarget_23
set_option maxHeartbeats 1000000 in
set_option maxRecDepth 100000 in
theorem m_X8_catchHas (l : Launch) (g : Gm) (sz : Nat) (ws : va_W) (h0 : Nat) (x1 : Int32) (x2 : Int32) (hG : Good g ws) (o_h0 : gC ws h0 7) : Met l yX8_catchHas (wt yX8_catchHas cX8_catchHas 3 (some .boolean)) ({ frames := 0, cells := 0, slots := 0, locals := 0 }) (va_Pc [.ref h0, .int x1, .int x2] (st_G g sz ws)) (va_Qi (fun (r : Int32) (u9 : Unit) => r = 0 ∨ r = 1) (gQ0 g (va_A ws sz) ws) (va_A ws sz)) (0) (0) (va_A ws sz) := by
  refine Met.ofW (cc := cX8_catchHas) (maxL := 3) (ret := (some .boolean)) (by decide) rfl ?_
  intro p e s m args below meth c s₁ B hml hv
  obtain ⟨rfl, hsz, hP, hK, hD0, hex, hE⟩ := hv
  have hx := B.exec
  have hb := B.bytes
  have hr := B.returns
  have hts0 := atoms_spec (ws := wt yX8_catchHas cX8_catchHas 3 (some .boolean)) B.pre
  have hts : ∀ w ∈ tb, w.before _ s = true := fun w h => hts0 w (List.mem_cons_of_mem _ h)
  have hown : s.vm.findClass RX8 = some m.cls := findClass_of_methodNamed B.named
  subst hsz
  have hD := hD0.self (sz := s.heap.size)
  generalize hAe : va_A ws s.heap.size = A at hD hE ⊢
  have hA : ∀ q : Nat, s.heap.size ≤ q → A q := fun q h => by rw [← hAe]; exact Or.inr h
  have hS : va_S A s.heap s.heap [] := va_S.rf
  have hl := lv_entry ([.ref h0, .int x1, .int x2]) (n := 3) (Nat.le_of_ble_eq_true rfl)
  rw [lg_entry_eq]
  generalize (lg_sl ([.ref h0, .int x1, .int x2]) ++ List.replicate (3 - (lg_sl ([.ref h0, .int x1, .int x2])).length) Slot.unset).toArray = ls at hl ⊢
  have hl : lv_has ls 3 [(0, .ref h0), (1, .int x1), (2, .int x2)] := hl
  refine lv_iload_n hx hb dX8_catchHas_0 rfl (lv_at hl 1 rfl) ?_
  have J_37 : ∀ (t_1 : Int32) (H : Heap) (locs : List Loc) (ls : Array Slot), t_1 = 0 ∨ t_1 = 1 → va_P (gD g) cl0 ws H → va_D A ws → va_S A s.heap H locs → lv_has ls 3 [] → W p l e (headSpec (wt yX8_catchHas cX8_catchHas 3 (some .boolean)) ({ frames := 0, cells := 0, slots := 0, locals := 0 })).room s m ([.ref h0, .int x1, .int x2] : List Value).toArray below meth c H locs (0) (0) (MQ below (va_Qi (fun (r : Int32) (u9 : Unit) => r = 0 ∨ r = 1) (gQ0 g A ws) A) ([.ref h0, .int x1, .int x2] : List Value).toArray s (0) (0) A) (F0 m 37 ls [.int t_1]) := by
    intro t_1 H locs ls iv_2 hP hD hS hl
    have hz_t_1 := iv_2
    refine W.widen (k := 0) (n := 0) (Nat.le_of_ble_eq_true rfl) (Nat.le_of_ble_eq_true rfl) ?_
    exact W.zret (v := t_1) hx hb hr (nz hz_t_1) (fun t9 ht9 hW9 => ⟨⟨_, (), rfl, hz_t_1, ⟨by rw [ht9]; exact hP, hD⟩⟩, hS.F ht9⟩) hS.2.2 dX8_catchHas_37
  have J_36 : ∀  (H : Heap) (locs : List Loc) (ls : Array Slot), va_P (gD g) cl0 ws H → va_D A ws → va_S A s.heap H locs → lv_has ls 3 [] → W p l e (headSpec (wt yX8_catchHas cX8_catchHas 3 (some .boolean)) ({ frames := 0, cells := 0, slots := 0, locals := 0 })).room s m ([.ref h0, .int x1, .int x2] : List Value).toArray below meth c H locs (0) (0) (MQ below (va_Qi (fun (r : Int32) (u9 : Unit) => r = 0 ∨ r = 1) (gQ0 g A ws) A) ([.ref h0, .int x1, .int x2] : List Value).toArray s (0) (0) A) (F0 m 36 ls []) := by
    intro  H locs ls  hP hD hS hl
    refine lv_iconst (v := 0) hx hb dX8_catchHas_36 (by decide) ?_
    exact J_37 (0) H locs ls (Or.inl rfl) hP hD hS (lv_sub hl [] rfl)
  refine lv_if_lt (tgt := 36) hx hb dX8_catchHas_1 (by decide) (fun c_7 => ?_) (fun c_7 => ?_)
  · exact J_36  _ _ ls  hP hD hS (lv_sub hl [] rfl)
  · refine lv_iload_n hx hb dX8_catchHas_4 rfl (lv_at hl 1 rfl) ?_
    refine lv_aload_n hx hb dX8_catchHas_5 rfl (lv_at hl 0 rfl) ?_
    obtain ⟨k_8, fs9, hk_8⟩ := gC_of o_h0
    obtain ⟨r0_8, n0_8, r1_8, n1_8, c2_8, r3_8, n3_8, c4_8, r5_8, n5_8, r6_8, n6_8, r7_8, n7_8, r8_8, n8_8, c9_8, c10_8, c11_8, v12_8, v13_8, v14_8, rfl, a_r0_8, f1_8, a_r1_8, f3_8, a_r3_8, f5_8, a_r5_8, f7_8, a_r6_8, f9_8, a_r7_8, f11_8, a_r8_8, f13_8, o_v12_8, o_v13_8, o_v14_8, f17_8, f18_8, f19_8, f20_8, f21_8, f22_8, f23_8, f24_8, f25_8, f26_8, f27_8, f28_8, f29_8, -⟩ := (hG.1 _ _ _ _ hk_8).hX8 rfl
    refine va_get (D := gD g) (ci := 7) (v := .int c9_8) (C := RX8) (T := TX8) (N := 15) hx hb hts inX8 hown hK hP k_8 hk_8 rfl 9 (by decide) (hts _ kw_1465) (fun _ h9 => h9) rfl dX8_catchHas_6 ?_
    refine lv_icmp_ge (tgt := 36) hx hb dX8_catchHas_9 (by decide) (fun c_9 => ?_) (fun c_9 => ?_)
    · exact J_36  _ _ ls  hP hD hS (lv_sub hl [] rfl)
    · refine lv_aload_n hx hb dX8_catchHas_12 rfl (lv_at hl 0 rfl) ?_
      refine va_get (D := gD g) (ci := 7) (v := .ref r5_8) (C := RX8) (T := TX8) (N := 15) hx hb hts inX8 hown hK hP k_8 hk_8 rfl 5 (by decide) (hts _ kw_1466) (fun _ h9 => h9) rfl dX8_catchHas_13 ?_
      refine lv_iload_n hx hb dX8_catchHas_16 rfl (lv_at hl 1 rfl) ?_
      obtain ⟨k_10, f_10, hk_10⟩ := gI_of a_r5_8
      refine va_iald hx hb hK hP k_10 1 hk_10 rfl (i_in2 (by have e0 : (0 : Int32).toInt = 0 := (by decide); have q_c_7 := i_nlt c_7; have q_f7_8 := f7_8; have q_f23_8 := f23_8; have q_f24_8 := f24_8; have q_f25_8 := f25_8; have q_f27_8 := f27_8; have q_f29_8 := f29_8; have q_c_9 := i_nle c_9; have q_f9_8 := f9_8; have q_f11_8 := f11_8; have q_f13_8 := f13_8; have q_f26_8 := f26_8; have g_c9_8 := i_rg c9_8; have g_x1 := i_rg x1; omega)) dX8_catchHas_17 ?_
      refine lv_topi (fun z_11 ez_11 => ?_)
      refine lv_iload_n hx hb dX8_catchHas_18 rfl (lv_at hl 2 rfl) ?_
      refine lv_icmp_gt (tgt := 36) hx hb dX8_catchHas_19 (by decide) (fun c_12 => ?_) (fun c_12 => ?_)
      · exact J_36  _ _ ls  hP hD hS (lv_sub hl [] rfl)
      · refine lv_iload_n hx hb dX8_catchHas_22 rfl (lv_at hl 2 rfl) ?_
        refine lv_aload_n hx hb dX8_catchHas_23 rfl (lv_at hl 0 rfl) ?_
        refine va_get (D := gD g) (ci := 7) (v := .ref r6_8) (C := RX8) (T := TX8) (N := 15) hx hb hts inX8 hown hK hP k_8 hk_8 rfl 6 (by decide) (hts _ kw_1467) (fun _ h9 => h9) rfl dX8_catchHas_24 ?_
        refine lv_iload_n hx hb dX8_catchHas_27 rfl (lv_at hl 1 rfl) ?_
        obtain ⟨k_13, f_13, hk_13⟩ := gI_of a_r6_8
        refine va_iald hx hb hK hP k_13 1 hk_13 rfl (i_in2 (by have e0 : (0 : Int32).toInt = 0 := (by decide); have q_c_7 := i_nlt c_7; have q_f9_8 := f9_8; have q_f23_8 := f23_8; have q_c_9 := i_nle c_9; have q_f7_8 := f7_8; have q_f24_8 := f24_8; have q_f25_8 := f25_8; have q_f26_8 := f26_8; have q_f27_8 := f27_8; have q_f29_8 := f29_8; have g_c9_8 := i_rg c9_8; have g_x1 := i_rg x1; omega)) dX8_catchHas_28 ?_
        refine lv_topi (fun z_14 ez_14 => ?_)
        refine lv_icmp_ge (tgt := 36) hx hb dX8_catchHas_29 (by decide) (fun c_15 => ?_) (fun c_15 => ?_)
        · exact J_36  _ _ ls  hP hD hS (lv_sub hl [] rfl)
        · refine lv_iconst (v := 1) hx hb dX8_catchHas_32 (by decide) ?_
          refine lv_goto (tgt := 37) hx hb dX8_catchHas_33 (by decide) ?_
          exact J_37 (1) _ _ ls (Or.inr rfl) hP hD hS (lv_sub hl [] rfl)
set_option maxHeartbeats 1000000 in
set_option maxRecDepth 100000 in
theorem m_X8_isCaught (l : Launch) (g : Gm) (sz : Nat) (ws : va_W) (h0 : Nat) (x1 : Int32) (hG : Good g ws) (o_h0 : gC ws h0 7) : Met l yX8_isCaught (wt yX8_isCaught cX8_isCaught 3 (some .boolean)) ({ frames := 1, cells := 0, slots := 0, locals := 22 }) (va_Pc [.ref h0, .int x1] (st_G g sz ws)) (va_Qi (fun (r : Int32) (u9 : Unit) => r = 0 ∨ r = 1) (gQ0 g (va_A ws sz) ws) (va_A ws sz)) (0) (0) (va_A ws sz) := by
  refine Met.ofW (cc := cX8_isCaught) (maxL := 3) (ret := (some .boolean)) (by decide) rfl ?_
  intro p e s m args below meth c s₁ B hml hv
  obtain ⟨rfl, hsz, hP, hK, hD0, hex, hE⟩ := hv
  have hx := B.exec
  have hb := B.bytes
  have hr := B.returns
  have hts0 := atoms_spec (ws := wt yX8_isCaught cX8_isCaught 3 (some .boolean)) B.pre
  have hts : ∀ w ∈ tb, w.before _ s = true := fun w h => hts0 w (List.mem_cons_of_mem _ h)
  have hown : s.vm.findClass RX8 = some m.cls := findClass_of_methodNamed B.named
  subst hsz
  have hD := hD0.self (sz := s.heap.size)
  generalize hAe : va_A ws s.heap.size = A at hD hE ⊢
  have hA : ∀ q : Nat, s.heap.size ≤ q → A q := fun q h => by rw [← hAe]; exact Or.inr h
  have hS : va_S A s.heap s.heap [] := va_S.rf
  have hl := lv_entry ([.ref h0, .int x1]) (n := 3) (Nat.le_of_ble_eq_true rfl)
  rw [lg_entry_eq]
  generalize (lg_sl ([.ref h0, .int x1]) ++ List.replicate (3 - (lg_sl ([.ref h0, .int x1])).length) Slot.unset).toArray = ls at hl ⊢
  have hl : lv_has ls 3 [(0, .ref h0), (1, .int x1)] := hl
  refine lv_iconst (v := 0) hx hb dX8_isCaught_0 (by decide) ?_
  refine lv_istore_n (lv' := [(2, .int 0), (0, .ref h0), (1, .int x1)]) hx hb dX8_isCaught_1 rfl hl (by decide) rfl (fun ls hl => ?_)
  have J_2 : ∀ (n9 : Nat) (v2_1 : Int32) (H : Heap) (locs : List Loc) (ls : Array Slot), (2147483647 - v2_1.toInt).toNat = n9 → 0 ≤ v2_1.toInt → va_P (gD g) cl0 ws H → va_D A ws → va_S A s.heap H locs → lv_has ls 3 [(0, .ref h0), (1, .int x1), (2, .int v2_1)] → W p l e (headSpec (wt yX8_isCaught cX8_isCaught 3 (some .boolean)) ({ frames := 1, cells := 0, slots := 0, locals := 22 })).room s m ([.ref h0, .int x1] : List Value).toArray below meth c H locs (0) (0) (MQ below (va_Qi (fun (r : Int32) (u9 : Unit) => r = 0 ∨ r = 1) (gQ0 g A ws) A) ([.ref h0, .int x1] : List Value).toArray s (0) (0) A) (F0 m 2 ls []) := by
    intro n9
    induction n9 using Nat.strongRecOn with
    | ind n9 ih_2 =>
      intro v2_1 H locs ls hm9 iv_2 hP hD hS hl
      subst hm9
      refine lv_iload_n hx hb dX8_isCaught_2 rfl (lv_at hl 2 rfl) ?_
      refine lv_aload_n hx hb dX8_isCaught_3 rfl (lv_at hl 0 rfl) ?_
      obtain ⟨k_5, fs9, hk_5⟩ := gC_of o_h0
      obtain ⟨r0_5, n0_5, r1_5, n1_5, c2_5, r3_5, n3_5, c4_5, r5_5, n5_5, r6_5, n6_5, r7_5, n7_5, r8_5, n8_5, c9_5, c10_5, c11_5, v12_5, v13_5, v14_5, rfl, a_r0_5, f1_5, a_r1_5, f3_5, a_r3_5, f5_5, a_r5_5, f7_5, a_r6_5, f9_5, a_r7_5, f11_5, a_r8_5, f13_5, o_v12_5, o_v13_5, o_v14_5, f17_5, f18_5, f19_5, f20_5, f21_5, f22_5, f23_5, f24_5, f25_5, f26_5, f27_5, f28_5, f29_5, -⟩ := (hG.1 _ _ _ _ hk_5).hX8 rfl
      refine va_get (D := gD g) (ci := 7) (v := .int c9_5) (C := RX8) (T := TX8) (N := 15) hx hb hts inX8 hown hK hP k_5 hk_5 rfl 9 (by decide) (hts _ kw_1465) (fun _ h9 => h9) rfl dX8_isCaught_4 ?_
      refine lv_icmp_ge (tgt := 27) hx hb dX8_isCaught_7 (by decide) (fun c_6 => ?_) (fun c_6 => ?_)
      · refine lv_iconst (v := 0) hx hb dX8_isCaught_27 (by decide) ?_
        refine W.widen (k := 0) (n := 0) (Nat.le_of_ble_eq_true rfl) (Nat.le_of_ble_eq_true rfl) ?_
        exact W.zret (v := 0) hx hb hr (nz (Or.inl rfl)) (fun t9 ht9 hW9 => ⟨⟨_, (), rfl, (Or.inl rfl), ⟨by rw [ht9]; exact hP, hD⟩⟩, hS.F ht9⟩) hS.2.2 dX8_isCaught_28
      · refine lv_aload_n hx hb dX8_isCaught_10 rfl (lv_at hl 0 rfl) ?_
        refine lv_iload_n hx hb dX8_isCaught_11 rfl (lv_at hl 2 rfl) ?_
        refine lv_iload_n hx hb dX8_isCaught_12 rfl (lv_at hl 1 rfl) ?_
        have hFc := gfree hD hS hA
        refine va_calli (va_runV (As := [.int v2_1, .int x1]) (rest := []) ⟨hx, hb, hml, hown, hts⟩ (m_X8_catchHas l g H.size ws h0 (v2_1) (x1) hG o_h0) (cwV 2 hts (gd_V kw_1502 kw_1483 kw_1484 kw_782 kw_1482) rfl rfl rfl (by decide +kernel) ⟨Nat.le_of_ble_eq_true rfl, Nat.le_of_ble_eq_true rfl⟩) ⟨gblind, va_recv hK hP (ci := 7) (q0 := k_5) rfl hk_5, fun U hU hW9 => gmk hU hW9 hP hK hD hex hE hS hFc⟩ rfl rfl hl.1 rfl (lv_room (Nat.le_of_ble_eq_true rfl)) dX8_isCaught_13 ⟨Nat.le_of_ble_eq_true rfl, Nat.le_of_ble_eq_true rfl⟩) hS (fun q _ h => hFc q h) hFc (fun r_7 u9 t9 H1 locs ht9 hvm9 hw9 hB9 hz9 hk9 hS => ?_)
        have hP : va_P (gD g) cl0 ws H1 := by rw [← ht9]; exact hB9.1
        have hz_r_7 : r_7 = 0 ∨ r_7 = 1 := hw9
        clear hB9 hz9 hk9 hvm9 ht9 hw9
        generalize H1 = H at hP hS ⊢
        refine lv_if_eq (tgt := 21) hx hb dX8_isCaught_16 (by decide) (fun c_8 => ?_) (fun c_8 => ?_)
        · obtain ⟨z_9, ez_9⟩ : ∃ z : Int32, v2_1 + Int32.ofInt 1 = z := ⟨_, rfl⟩
          refine lv_iinc (v := z_9) (lv' := [(2, .int z_9), (0, .ref h0), (1, .int x1)]) hx hb dX8_isCaught_21 hl (k := 2) rfl ez_9 (by decide) rfl (fun ls hl => ?_)
          refine lv_goto (tgt := 2) hx hb dX8_isCaught_24 (by decide) ?_
          exact ih_2 _ (by obtain ⟨u_z_9, q_z_9⟩ := i_iz ez_9 (by decide) (by decide); have q_iv_2 := iv_2; have q_c_6 := i_nle c_6; have g_c9_5 := i_rg c9_5; have g_v2_1 := i_rg v2_1; have g_z_9 := i_rg z_9; omega) (z_9) H locs ls rfl (by obtain ⟨u_z_9, q_z_9⟩ := i_iz ez_9 (by decide) (by decide); have q_iv_2 := iv_2; have q_c_6 := i_nle c_6; have g_c9_5 := i_rg c9_5; have g_v2_1 := i_rg v2_1; have g_z_9 := i_rg z_9; omega) hP hD hS (lv_sub hl [1, 2, 0] rfl)
        · refine lv_iconst (v := 1) hx hb dX8_isCaught_19 (by decide) ?_
          refine W.widen (k := 0) (n := 0) (Nat.le_of_ble_eq_true rfl) (Nat.le_of_ble_eq_true rfl) ?_
          exact W.zret (v := 1) hx hb hr (nz (Or.inr rfl)) (fun t9 ht9 hW9 => ⟨⟨_, (), rfl, (Or.inr rfl), ⟨by rw [ht9]; exact hP, hD⟩⟩, hS.F ht9⟩) hS.2.2 dX8_isCaught_20
  exact J_2 _ (0) _ _ ls rfl (by have e0 : (0 : Int32).toInt = 0 := (by decide); omega) hP hD hS (lv_sub hl [1, 2, 0] rfl)
set_option maxHeartbeats 1000000 in
set_option maxRecDepth 100000 in
theorem m_X8_heightAt (l : Launch) (g : Gm) (sz : Nat) (ws : va_W) (h0 : Nat) (x1 : Int32) (hG : Good g ws) (o_h0 : gC ws h0 7) : Met l yX8_heightAt (wt yX8_heightAt cX8_heightAt 2 (some .int)) ({ frames := 0, cells := 0, slots := 0, locals := 0 }) (va_Pc [.ref h0, .int x1] (st_G g sz ws)) (va_Qi (fun (r : Int32) (u9 : Unit) => True) (gQ0 g (va_A ws sz) ws) (va_A ws sz)) (0) (0) (va_A ws sz) := by
  refine Met.ofW (cc := cX8_heightAt) (maxL := 2) (ret := (some .int)) (by decide) rfl ?_
  intro p e s m args below meth c s₁ B hml hv
  obtain ⟨rfl, hsz, hP, hK, hD0, hex, hE⟩ := hv
  have hx := B.exec
  have hb := B.bytes
  have hr := B.returns
  have hts0 := atoms_spec (ws := wt yX8_heightAt cX8_heightAt 2 (some .int)) B.pre
  have hts : ∀ w ∈ tb, w.before _ s = true := fun w h => hts0 w (List.mem_cons_of_mem _ h)
  have hown : s.vm.findClass RX8 = some m.cls := findClass_of_methodNamed B.named
  subst hsz
  have hD := hD0.self (sz := s.heap.size)
  generalize hAe : va_A ws s.heap.size = A at hD hE ⊢
  have hA : ∀ q : Nat, s.heap.size ≤ q → A q := fun q h => by rw [← hAe]; exact Or.inr h
  have hS : va_S A s.heap s.heap [] := va_S.rf
  have hl := lv_entry ([.ref h0, .int x1]) (n := 2) (Nat.le_of_ble_eq_true rfl)
  rw [lg_entry_eq]
  generalize (lg_sl ([.ref h0, .int x1]) ++ List.replicate (2 - (lg_sl ([.ref h0, .int x1])).length) Slot.unset).toArray = ls at hl ⊢
  have hl : lv_has ls 2 [(0, .ref h0), (1, .int x1)] := hl
  refine lv_aload_n hx hb dX8_heightAt_0 rfl (lv_at hl 0 rfl) ?_
  obtain ⟨k_1, fs9, hk_1⟩ := gC_of o_h0
  obtain ⟨r0_1, n0_1, r1_1, n1_1, c2_1, r3_1, n3_1, c4_1, r5_1, n5_1, r6_1, n6_1, r7_1, n7_1, r8_1, n8_1, c9_1, c10_1, c11_1, v12_1, v13_1, v14_1, rfl, a_r0_1, f1_1, a_r1_1, f3_1, a_r3_1, f5_1, a_r5_1, f7_1, a_r6_1, f9_1, a_r7_1, f11_1, a_r8_1, f13_1, o_v12_1, o_v13_1, o_v14_1, f17_1, f18_1, f19_1, f20_1, f21_1, f22_1, f23_1, f24_1, f25_1, f26_1, f27_1, f28_1, f29_1, -⟩ := (hG.1 _ _ _ _ hk_1).hX8 rfl
  refine va_get (D := gD g) (ci := 7) (v := va_rf v12_1) (C := RX8) (T := TX8) (N := 15) hx hb hts inX8 hown hK hP k_1 hk_1 rfl 12 (by decide) (hts _ kw_1495) (fun _ h9 => h9) rfl dX8_heightAt_1 ?_
  have J_30 : ∀ (t_2 : Int32) (H : Heap) (locs : List Loc) (ls : Array Slot), va_P (gD g) cl0 ws H → va_D A ws → va_S A s.heap H locs → lv_has ls 2 [] → W p l e (headSpec (wt yX8_heightAt cX8_heightAt 2 (some .int)) ({ frames := 0, cells := 0, slots := 0, locals := 0 })).room s m ([.ref h0, .int x1] : List Value).toArray below meth c H locs (0) (0) (MQ below (va_Qi (fun (r : Int32) (u9 : Unit) => True) (gQ0 g A ws) A) ([.ref h0, .int x1] : List Value).toArray s (0) (0) A) (F0 m 30 ls [.int t_2]) := by
    intro t_2 H locs ls  hP hD hS hl
    refine W.widen (k := 0) (n := 0) (Nat.le_of_ble_eq_true rfl) (Nat.le_of_ble_eq_true rfl) ?_
    exact W.iret (v := t_2) hx hb hr (fun t9 ht9 hW9 => ⟨⟨_, (), rfl, trivial, ⟨by rw [ht9]; exact hP, hD⟩⟩, hS.F ht9⟩) hS.2.2 dX8_heightAt_30
  have J_20 : ∀  (H : Heap) (locs : List Loc) (ls : Array Slot), va_P (gD g) cl0 ws H → va_D A ws → va_S A s.heap H locs → lv_has ls 2 [] → W p l e (headSpec (wt yX8_heightAt cX8_heightAt 2 (some .int)) ({ frames := 0, cells := 0, slots := 0, locals := 0 })).room s m ([.ref h0, .int x1] : List Value).toArray below meth c H locs (0) (0) (MQ below (va_Qi (fun (r : Int32) (u9 : Unit) => True) (gQ0 g A ws) A) ([.ref h0, .int x1] : List Value).toArray s (0) (0) A) (F0 m 20 ls []) := by
    intro  H locs ls  hP hD hS hl
    refine lv_iconst (v := (-1)) hx hb dX8_heightAt_20 (by decide) ?_
    refine lv_goto (tgt := 30) hx hb dX8_heightAt_21 (by decide) ?_
    exact J_30 ((-1)) H locs ls  hP hD hS (lv_sub hl [] rfl)
  rcases v12_1 with _ | b_7
  · skip
    have J_30 : ∀ (t_8 : Int32) (H : Heap) (locs : List Loc) (ls : Array Slot), va_P (gD g) cl0 ws H → va_D A ws → va_S A s.heap H locs → lv_has ls 2 [] → W p l e (headSpec (wt yX8_heightAt cX8_heightAt 2 (some .int)) ({ frames := 0, cells := 0, slots := 0, locals := 0 })).room s m ([.ref h0, .int x1] : List Value).toArray below meth c H locs (0) (0) (MQ below (va_Qi (fun (r : Int32) (u9 : Unit) => True) (gQ0 g A ws) A) ([.ref h0, .int x1] : List Value).toArray s (0) (0) A) (F0 m 30 ls [.int t_8]) := by
      intro t_8 H locs ls  hP hD hS hl
      refine W.widen (k := 0) (n := 0) (Nat.le_of_ble_eq_true rfl) (Nat.le_of_ble_eq_true rfl) ?_
      exact W.iret (v := t_8) hx hb hr (fun t9 ht9 hW9 => ⟨⟨_, (), rfl, trivial, ⟨by rw [ht9]; exact hP, hD⟩⟩, hS.F ht9⟩) hS.2.2 dX8_heightAt_30
    have J_20 : ∀  (H : Heap) (locs : List Loc) (ls : Array Slot), va_P (gD g) cl0 ws H → va_D A ws → va_S A s.heap H locs → lv_has ls 2 [] → W p l e (headSpec (wt yX8_heightAt cX8_heightAt 2 (some .int)) ({ frames := 0, cells := 0, slots := 0, locals := 0 })).room s m ([.ref h0, .int x1] : List Value).toArray below meth c H locs (0) (0) (MQ below (va_Qi (fun (r : Int32) (u9 : Unit) => True) (gQ0 g A ws) A) ([.ref h0, .int x1] : List Value).toArray s (0) (0) A) (F0 m 20 ls []) := by
      intro  H locs ls  hP hD hS hl
      refine lv_iconst (v := (-1)) hx hb dX8_heightAt_20 (by decide) ?_
      refine lv_goto (tgt := 30) hx hb dX8_heightAt_21 (by decide) ?_
      exact J_30 ((-1)) H locs ls  hP hD hS (lv_sub hl [] rfl)
    refine lv_ifnullN (tgt := 20) hx hb dX8_heightAt_4 (by decide) ?_
    exact J_20  _ _ ls  hP hD hS (lv_sub hl [] rfl)
  · obtain ⟨n_b_7, a_b_7, s_b_7⟩ := o_v12_1 _ rfl
    have J_30 : ∀ (t_13 : Int32) (H : Heap) (locs : List Loc) (ls : Array Slot), va_P (gD g) cl0 ws H → va_D A ws → va_S A s.heap H locs → lv_has ls 2 [] → W p l e (headSpec (wt yX8_heightAt cX8_heightAt 2 (some .int)) ({ frames := 0, cells := 0, slots := 0, locals := 0 })).room s m ([.ref h0, .int x1] : List Value).toArray below meth c H locs (0) (0) (MQ below (va_Qi (fun (r : Int32) (u9 : Unit) => True) (gQ0 g A ws) A) ([.ref h0, .int x1] : List Value).toArray s (0) (0) A) (F0 m 30 ls [.int t_13]) := by
      intro t_13 H locs ls  hP hD hS hl
      refine W.widen (k := 0) (n := 0) (Nat.le_of_ble_eq_true rfl) (Nat.le_of_ble_eq_true rfl) ?_
      exact W.iret (v := t_13) hx hb hr (fun t9 ht9 hW9 => ⟨⟨_, (), rfl, trivial, ⟨by rw [ht9]; exact hP, hD⟩⟩, hS.F ht9⟩) hS.2.2 dX8_heightAt_30
    have J_20 : ∀  (H : Heap) (locs : List Loc) (ls : Array Slot), va_P (gD g) cl0 ws H → va_D A ws → va_S A s.heap H locs → lv_has ls 2 [] → W p l e (headSpec (wt yX8_heightAt cX8_heightAt 2 (some .int)) ({ frames := 0, cells := 0, slots := 0, locals := 0 })).room s m ([.ref h0, .int x1] : List Value).toArray below meth c H locs (0) (0) (MQ below (va_Qi (fun (r : Int32) (u9 : Unit) => True) (gQ0 g A ws) A) ([.ref h0, .int x1] : List Value).toArray s (0) (0) A) (F0 m 20 ls []) := by
      intro  H locs ls  hP hD hS hl
      refine lv_iconst (v := (-1)) hx hb dX8_heightAt_20 (by decide) ?_
      refine lv_goto (tgt := 30) hx hb dX8_heightAt_21 (by decide) ?_
      exact J_30 ((-1)) H locs ls  hP hD hS (lv_sub hl [] rfl)
    refine lv_ifnull hx hb dX8_heightAt_4 ?_
    refine lv_iload_n hx hb dX8_heightAt_7 rfl (lv_at hl 1 rfl) ?_
    refine lv_if_lt (tgt := 20) hx hb dX8_heightAt_8 (by decide) (fun c_18 => ?_) (fun c_18 => ?_)
    · exact J_20  _ _ ls  hP hD hS (lv_sub hl [] rfl)
    · refine lv_iload_n hx hb dX8_heightAt_11 rfl (lv_at hl 1 rfl) ?_
      refine lv_aload_n hx hb dX8_heightAt_12 rfl (lv_at hl 0 rfl) ?_
      refine va_get (D := gD g) (ci := 7) (v := .ref b_7) (C := RX8) (T := TX8) (N := 15) hx hb hts inX8 hown hK hP k_1 hk_1 rfl 12 (by decide) (hts _ kw_1495) (fun _ h9 => h9) rfl dX8_heightAt_13 ?_
      obtain ⟨k_19, f_19, hk_19⟩ := gI_of a_b_7
      obtain ⟨z_20, ez_20⟩ : ∃ z : Int32, Int32.ofNat n_b_7 = z := ⟨_, rfl⟩
      refine va_alen (v := z_20) hx hb hK hP k_19 0 hk_19 rfl ez_20 dX8_heightAt_16 ?_
      refine lv_icmp_lt (tgt := 24) hx hb dX8_heightAt_17 (by decide) (fun c_21 => ?_) (fun c_21 => ?_)
      · refine lv_aload_n hx hb dX8_heightAt_24 rfl (lv_at hl 0 rfl) ?_
        refine va_get (D := gD g) (ci := 7) (v := .ref b_7) (C := RX8) (T := TX8) (N := 15) hx hb hts inX8 hown hK hP k_1 hk_1 rfl 12 (by decide) (hts _ kw_1495) (fun _ h9 => h9) rfl dX8_heightAt_25 ?_
        refine lv_iload_n hx hb dX8_heightAt_28 rfl (lv_at hl 1 rfl) ?_
        refine va_bald hx hb hK hP k_19 0 hk_19 rfl (i_in2 (by have e0 : (0 : Int32).toInt = 0 := (by decide); have q_s_b_7 := s_b_7; have q_c_18 := i_nlt c_18; have q_z_20 := i_len ez_20 s_b_7; have q_c_21 := i_lt c_21; have g_x1 := i_rg x1; have g_z_20 := i_rg z_20; omega)) dX8_heightAt_29 ?_
        refine lv_topi (fun z_22 ez_22 => ?_)
        exact J_30 (z_22) _ _ ls  hP hD hS (lv_sub hl [] rfl)
      · exact J_20  _ _ ls  hP hD hS (lv_sub hl [] rfl)
set_option maxHeartbeats 1000000 in
set_option maxRecDepth 100000 in
theorem m_X8_localAt (l : Launch) (g : Gm) (sz : Nat) (ws : va_W) (h0 : Nat) (x1 : Int32) (x2 : Int32) (hG : Good g ws) (o_h0 : gC ws h0 7) : Met l yX8_localAt (wt yX8_localAt cX8_localAt 3 (some .int)) ({ frames := 0, cells := 0, slots := 0, locals := 0 }) (va_Pc [.ref h0, .int x1, .int x2] (st_G g sz ws)) (va_Qi (fun (r : Int32) (u9 : Unit) => True) (gQ0 g (va_A ws sz) ws) (va_A ws sz)) (0) (0) (va_A ws sz) := by
  refine Met.ofW (cc := cX8_localAt) (maxL := 3) (ret := (some .int)) (by decide) rfl ?_
  intro p e s m args below meth c s₁ B hml hv
  obtain ⟨rfl, hsz, hP, hK, hD0, hex, hE⟩ := hv
  have hx := B.exec
  have hb := B.bytes
  have hr := B.returns
  have hts0 := atoms_spec (ws := wt yX8_localAt cX8_localAt 3 (some .int)) B.pre
  have hts : ∀ w ∈ tb, w.before _ s = true := fun w h => hts0 w (List.mem_cons_of_mem _ h)
  have hown : s.vm.findClass RX8 = some m.cls := findClass_of_methodNamed B.named
  subst hsz
  have hD := hD0.self (sz := s.heap.size)
  generalize hAe : va_A ws s.heap.size = A at hD hE ⊢
  have hA : ∀ q : Nat, s.heap.size ≤ q → A q := fun q h => by rw [← hAe]; exact Or.inr h
  have hS : va_S A s.heap s.heap [] := va_S.rf
  have hl := lv_entry ([.ref h0, .int x1, .int x2]) (n := 3) (Nat.le_of_ble_eq_true rfl)
  rw [lg_entry_eq]
  generalize (lg_sl ([.ref h0, .int x1, .int x2]) ++ List.replicate (3 - (lg_sl ([.ref h0, .int x1, .int x2])).length) Slot.unset).toArray = ls at hl ⊢
  have hl : lv_has ls 3 [(0, .ref h0), (1, .int x1), (2, .int x2)] := hl
  refine lv_aload_n hx hb dX8_localAt_0 rfl (lv_at hl 0 rfl) ?_
  obtain ⟨k_1, fs9, hk_1⟩ := gC_of o_h0
  obtain ⟨r0_1, n0_1, r1_1, n1_1, c2_1, r3_1, n3_1, c4_1, r5_1, n5_1, r6_1, n6_1, r7_1, n7_1, r8_1, n8_1, c9_1, c10_1, c11_1, v12_1, v13_1, v14_1, rfl, a_r0_1, f1_1, a_r1_1, f3_1, a_r3_1, f5_1, a_r5_1, f7_1, a_r6_1, f9_1, a_r7_1, f11_1, a_r8_1, f13_1, o_v12_1, o_v13_1, o_v14_1, f17_1, f18_1, f19_1, f20_1, f21_1, f22_1, f23_1, f24_1, f25_1, f26_1, f27_1, f28_1, f29_1, -⟩ := (hG.1 _ _ _ _ hk_1).hX8 rfl
  refine va_get (D := gD g) (ci := 7) (v := va_rf v13_1) (C := RX8) (T := TX8) (N := 15) hx hb hts inX8 hown hK hP k_1 hk_1 rfl 13 (by decide) (hts _ kw_1506) (fun _ h9 => h9) rfl dX8_localAt_1 ?_
  have J_36 : ∀  (H : Heap) (locs : List Loc) (ls : Array Slot), va_P (gD g) cl0 ws H → va_D A ws → va_S A s.heap H locs → lv_has ls 3 [] → W p l e (headSpec (wt yX8_localAt cX8_localAt 3 (some .int)) ({ frames := 0, cells := 0, slots := 0, locals := 0 })).room s m ([.ref h0, .int x1, .int x2] : List Value).toArray below meth c H locs (0) (0) (MQ below (va_Qi (fun (r : Int32) (u9 : Unit) => True) (gQ0 g A ws) A) ([.ref h0, .int x1, .int x2] : List Value).toArray s (0) (0) A) (F0 m 36 ls []) := by
    intro  H locs ls  hP hD hS hl
    refine lv_iconst (v := 0) hx hb dX8_localAt_36 (by decide) ?_
    refine W.widen (k := 0) (n := 0) (Nat.le_of_ble_eq_true rfl) (Nat.le_of_ble_eq_true rfl) ?_
    exact W.iret (v := 0) hx hb hr (fun t9 ht9 hW9 => ⟨⟨_, (), rfl, trivial, ⟨by rw [ht9]; exact hP, hD⟩⟩, hS.F ht9⟩) hS.2.2 dX8_localAt_37
  rcases v13_1 with _ | b_4
  · skip
    have J_36 : ∀  (H : Heap) (locs : List Loc) (ls : Array Slot), va_P (gD g) cl0 ws H → va_D A ws → va_S A s.heap H locs → lv_has ls 3 [] → W p l e (headSpec (wt yX8_localAt cX8_localAt 3 (some .int)) ({ frames := 0, cells := 0, slots := 0, locals := 0 })).room s m ([.ref h0, .int x1, .int x2] : List Value).toArray below meth c H locs (0) (0) (MQ below (va_Qi (fun (r : Int32) (u9 : Unit) => True) (gQ0 g A ws) A) ([.ref h0, .int x1, .int x2] : List Value).toArray s (0) (0) A) (F0 m 36 ls []) := by
      intro  H locs ls  hP hD hS hl
      refine lv_iconst (v := 0) hx hb dX8_localAt_36 (by decide) ?_
      refine W.widen (k := 0) (n := 0) (Nat.le_of_ble_eq_true rfl) (Nat.le_of_ble_eq_true rfl) ?_
      exact W.iret (v := 0) hx hb hr (fun t9 ht9 hW9 => ⟨⟨_, (), rfl, trivial, ⟨by rw [ht9]; exact hP, hD⟩⟩, hS.F ht9⟩) hS.2.2 dX8_localAt_37
    refine lv_ifnullN (tgt := 36) hx hb dX8_localAt_4 (by decide) ?_
    exact J_36  _ _ ls  hP hD hS (lv_sub hl [] rfl)
  · obtain ⟨n_b_4, a_b_4, s_b_4⟩ := o_v13_1 _ rfl
    have J_36 : ∀  (H : Heap) (locs : List Loc) (ls : Array Slot), va_P (gD g) cl0 ws H → va_D A ws → va_S A s.heap H locs → lv_has ls 3 [] → W p l e (headSpec (wt yX8_localAt cX8_localAt 3 (some .int)) ({ frames := 0, cells := 0, slots := 0, locals := 0 })).room s m ([.ref h0, .int x1, .int x2] : List Value).toArray below meth c H locs (0) (0) (MQ below (va_Qi (fun (r : Int32) (u9 : Unit) => True) (gQ0 g A ws) A) ([.ref h0, .int x1, .int x2] : List Value).toArray s (0) (0) A) (F0 m 36 ls []) := by
      intro  H locs ls  hP hD hS hl
      refine lv_iconst (v := 0) hx hb dX8_localAt_36 (by decide) ?_
      refine W.widen (k := 0) (n := 0) (Nat.le_of_ble_eq_true rfl) (Nat.le_of_ble_eq_true rfl) ?_
      exact W.iret (v := 0) hx hb hr (fun t9 ht9 hW9 => ⟨⟨_, (), rfl, trivial, ⟨by rw [ht9]; exact hP, hD⟩⟩, hS.F ht9⟩) hS.2.2 dX8_localAt_37
    refine lv_ifnull hx hb dX8_localAt_4 ?_
    refine lv_aload_n hx hb dX8_localAt_7 rfl (lv_at hl 0 rfl) ?_
    refine va_get (D := gD g) (ci := 7) (v := va_rf v14_1) (C := RX8) (T := TX8) (N := 15) hx hb hts inX8 hown hK hP k_1 hk_1 rfl 14 (by decide) (hts _ kw_1507) (fun _ h9 => h9) rfl dX8_localAt_8 ?_
    rcases v14_1 with _ | b_9
    · skip
      refine lv_ifnullN (tgt := 36) hx hb dX8_localAt_11 (by decide) ?_
      exact J_36  _ _ ls  hP hD hS (lv_sub hl [] rfl)
    · obtain ⟨n_b_9, a_b_9, s_b_9⟩ := o_v14_1 _ rfl
      refine lv_ifnull hx hb dX8_localAt_11 ?_
      refine lv_iload_n hx hb dX8_localAt_14 rfl (lv_at hl 1 rfl) ?_
      refine lv_if_lt (tgt := 36) hx hb dX8_localAt_15 (by decide) (fun c_10 => ?_) (fun c_10 => ?_)
      · exact J_36  _ _ ls  hP hD hS (lv_sub hl [] rfl)
      · refine lv_iload_n hx hb dX8_localAt_18 rfl (lv_at hl 1 rfl) ?_
        refine lv_aload_n hx hb dX8_localAt_19 rfl (lv_at hl 0 rfl) ?_
        refine va_get (D := gD g) (ci := 7) (v := .ref b_4) (C := RX8) (T := TX8) (N := 15) hx hb hts inX8 hown hK hP k_1 hk_1 rfl 13 (by decide) (hts _ kw_1506) (fun _ h9 => h9) rfl dX8_localAt_20 ?_
        obtain ⟨k_11, f_11, hk_11⟩ := gJ_of a_b_4
        obtain ⟨z_12, ez_12⟩ : ∃ z : Int32, Int32.ofNat n_b_4 = z := ⟨_, rfl⟩
        refine va_alen (v := z_12) hx hb hK hP k_11 3 hk_11 rfl ez_12 dX8_localAt_23 ?_
        refine lv_icmp_ge (tgt := 36) hx hb dX8_localAt_24 (by decide) (fun c_13 => ?_) (fun c_13 => ?_)
        · exact J_36  _ _ ls  hP hD hS (lv_sub hl [] rfl)
        · refine lv_iload_n hx hb dX8_localAt_27 rfl (lv_at hl 1 rfl) ?_
          refine lv_aload_n hx hb dX8_localAt_28 rfl (lv_at hl 0 rfl) ?_
          refine va_get (D := gD g) (ci := 7) (v := .ref b_9) (C := RX8) (T := TX8) (N := 15) hx hb hts inX8 hown hK hP k_1 hk_1 rfl 14 (by decide) (hts _ kw_1507) (fun _ h9 => h9) rfl dX8_localAt_29 ?_
          obtain ⟨k_14, f_14, hk_14⟩ := gJ_of a_b_9
          obtain ⟨z_15, ez_15⟩ : ∃ z : Int32, Int32.ofNat n_b_9 = z := ⟨_, rfl⟩
          refine va_alen (v := z_15) hx hb hK hP k_14 3 hk_14 rfl ez_15 dX8_localAt_32 ?_
          refine lv_icmp_lt (tgt := 38) hx hb dX8_localAt_33 (by decide) (fun c_16 => ?_) (fun c_16 => ?_)
          · refine lv_iload_n hx hb dX8_localAt_38 rfl (lv_at hl 2 rfl) ?_
            refine lv_bipush (v := 16) hx hb dX8_localAt_39 (by decide) ?_
            have J_70 : ∀ (t_17 : Int64) (H : Heap) (locs : List Loc) (ls : Array Slot), va_P (gD g) cl0 ws H → va_D A ws → va_S A s.heap H locs → lv_has ls 3 [] → W p l e (headSpec (wt yX8_localAt cX8_localAt 3 (some .int)) ({ frames := 0, cells := 0, slots := 0, locals := 0 })).room s m ([.ref h0, .int x1, .int x2] : List Value).toArray below meth c H locs (0) (0) (MQ below (va_Qi (fun (r : Int32) (u9 : Unit) => True) (gQ0 g A ws) A) ([.ref h0, .int x1, .int x2] : List Value).toArray s (0) (0) A) (F0 m 70 ls [.long t_17]) := by
              intro t_17 H locs ls  hP hD hS hl
              obtain ⟨z_20, ez_20⟩ : ∃ y : Int32, (t_17 : Int64).toInt32 = y := ⟨_, rfl⟩
              refine lv_l2i (v := z_20) hx hb dX8_localAt_70 ez_20 ?_
              refine lv_bipush (v := 15) hx hb dX8_localAt_71 (by decide) ?_
              refine lv_iand hx hb dX8_localAt_73 ?_
              refine lv_topi (fun z_21 ez_21 => ?_)
              refine W.widen (k := 0) (n := 0) (Nat.le_of_ble_eq_true rfl) (Nat.le_of_ble_eq_true rfl) ?_
              exact W.iret (v := z_21) hx hb hr (fun t9 ht9 hW9 => ⟨⟨_, (), rfl, trivial, ⟨by rw [ht9]; exact hP, hD⟩⟩, hS.F ht9⟩) hS.2.2 dX8_localAt_74
            refine lv_icmp_ge (tgt := 57) hx hb dX8_localAt_41 (by decide) (fun c_22 => ?_) (fun c_22 => ?_)
            · refine lv_aload_n hx hb dX8_localAt_57 rfl (lv_at hl 0 rfl) ?_
              refine va_get (D := gD g) (ci := 7) (v := .ref b_9) (C := RX8) (T := TX8) (N := 15) hx hb hts inX8 hown hK hP k_1 hk_1 rfl 14 (by decide) (hts _ kw_1507) (fun _ h9 => h9) rfl dX8_localAt_58 ?_
              refine lv_iload_n hx hb dX8_localAt_61 rfl (lv_at hl 1 rfl) ?_
              refine va_lald hx hb hK hP k_14 3 hk_14 rfl (i_in2 (by have e0 : (0 : Int32).toInt = 0 := (by decide); have q_s_b_9 := s_b_9; have q_c_10 := i_nlt c_10; have q_c_13 := i_nle c_13; have q_z_15 := i_len ez_15 s_b_9; have q_c_16 := i_lt c_16; have q_z_12 := i_len ez_12 s_b_4; have g_x1 := i_rg x1; have g_z_12 := i_rg z_12; have g_z_15 := i_rg z_15; omega)) dX8_localAt_62 ?_
              refine lv_topl (fun z_23 ez_23 => ?_)
              refine lv_iconst (v := 4) hx hb dX8_localAt_63 (by decide) ?_
              refine lv_iload_n hx hb dX8_localAt_64 rfl (lv_at hl 2 rfl) ?_
              refine lv_bipush (v := 16) hx hb dX8_localAt_65 (by decide) ?_
              refine lv_isub hx hb dX8_localAt_67 ?_
              refine lv_topi (fun z_24 ez_24 => ?_)
              refine lv_imul hx hb dX8_localAt_68 ?_
              refine lv_topi (fun z_25 ez_25 => ?_)
              refine lv_lushr hx hb dX8_localAt_69 rfl ?_
              refine lv_topl (fun z_26 ez_26 => ?_)
              exact J_70 (z_26) _ _ ls  hP hD hS (lv_sub hl [] rfl)
            · refine lv_aload_n hx hb dX8_localAt_44 rfl (lv_at hl 0 rfl) ?_
              refine va_get (D := gD g) (ci := 7) (v := .ref b_4) (C := RX8) (T := TX8) (N := 15) hx hb hts inX8 hown hK hP k_1 hk_1 rfl 13 (by decide) (hts _ kw_1506) (fun _ h9 => h9) rfl dX8_localAt_45 ?_
              refine lv_iload_n hx hb dX8_localAt_48 rfl (lv_at hl 1 rfl) ?_
              refine va_lald hx hb hK hP k_11 3 hk_11 rfl (i_in2 (by have e0 : (0 : Int32).toInt = 0 := (by decide); have q_s_b_4 := s_b_4; have q_c_10 := i_nlt c_10; have q_z_12 := i_len ez_12 s_b_4; have q_c_13 := i_nle c_13; have q_c_16 := i_lt c_16; have q_z_15 := i_len ez_15 s_b_9; have g_x1 := i_rg x1; have g_z_12 := i_rg z_12; have g_z_15 := i_rg z_15; omega)) dX8_localAt_49 ?_
              refine lv_topl (fun z_27 ez_27 => ?_)
              refine lv_iconst (v := 4) hx hb dX8_localAt_50 (by decide) ?_
              refine lv_iload_n hx hb dX8_localAt_51 rfl (lv_at hl 2 rfl) ?_
              refine lv_imul hx hb dX8_localAt_52 ?_
              refine lv_topi (fun z_28 ez_28 => ?_)
              refine lv_lushr hx hb dX8_localAt_53 rfl ?_
              refine lv_topl (fun z_29 ez_29 => ?_)
              refine lv_goto (tgt := 70) hx hb dX8_localAt_54 (by decide) ?_
              exact J_70 (z_29) _ _ ls  hP hD hS (lv_sub hl [] rfl)
          · exact J_36  _ _ ls  hP hD hS (lv_sub hl [] rfl)
set_option maxHeartbeats 1000000 in
set_option maxRecDepth 100000 in
theorem m_X8_behindRemoved (l : Launch) (g : Gm) (sz : Nat) (ws : va_W) (x0 : Int32) (x1 : Int32) (x2 : Int32) (hG : Good g ws)  : Met l yX8_behindRemoved (wt yX8_behindRemoved cX8_behindRemoved 3 (some .int)) ({ frames := 1, cells := 0, slots := 0, locals := 13 }) (va_Pc [.int x0, .int x1, .int x2] (st_G g sz ws)) (va_Qi (fun (r : Int32) (u9 : Unit) => True) (gQ0 g (va_A ws sz) ws) (va_A ws sz)) (0) (0) (va_A ws sz) := by
  refine Met.ofW (cc := cX8_behindRemoved) (maxL := 3) (ret := (some .int)) (by decide) rfl ?_
  intro p e s m args below meth c s₁ B hml hv
  obtain ⟨rfl, hsz, hP, hK, hD0, hex, hE⟩ := hv
  have hx := B.exec
  have hb := B.bytes
  have hr := B.returns
  have hts0 := atoms_spec (ws := wt yX8_behindRemoved cX8_behindRemoved 3 (some .int)) B.pre
  have hts : ∀ w ∈ tb, w.before _ s = true := fun w h => hts0 w (List.mem_cons_of_mem _ h)
  have hown : s.vm.findClass RX8 = some m.cls := findClass_of_methodNamed B.named
  subst hsz
  have hD := hD0.self (sz := s.heap.size)
  generalize hAe : va_A ws s.heap.size = A at hD hE ⊢
  have hA : ∀ q : Nat, s.heap.size ≤ q → A q := fun q h => by rw [← hAe]; exact Or.inr h
  have hS : va_S A s.heap s.heap [] := va_S.rf
  have hl := lv_entry ([.int x0, .int x1, .int x2]) (n := 3) (Nat.le_of_ble_eq_true rfl)
  rw [lg_entry_eq]
  generalize (lg_sl ([.int x0, .int x1, .int x2]) ++ List.replicate (3 - (lg_sl ([.int x0, .int x1, .int x2])).length) Slot.unset).toArray = ls at hl ⊢
  have hl : lv_has ls 3 [(0, .int x0), (1, .int x1), (2, .int x2)] := hl
  refine lv_iload_n hx hb dX8_behindRemoved_0 rfl (lv_at hl 0 rfl) ?_
  refine lv_iload_n hx hb dX8_behindRemoved_1 rfl (lv_at hl 1 rfl) ?_
  have J_16 : ∀ (t_1 : Int32) (H : Heap) (locs : List Loc) (ls : Array Slot), va_P (gD g) cl0 ws H → va_D A ws → va_S A s.heap H locs → lv_has ls 3 [] → W p l e (headSpec (wt yX8_behindRemoved cX8_behindRemoved 3 (some .int)) ({ frames := 1, cells := 0, slots := 0, locals := 13 })).room s m ([.int x0, .int x1, .int x2] : List Value).toArray below meth c H locs (0) (0) (MQ below (va_Qi (fun (r : Int32) (u9 : Unit) => True) (gQ0 g A ws) A) ([.int x0, .int x1, .int x2] : List Value).toArray s (0) (0) A) (F0 m 16 ls [.int t_1]) := by
    intro t_1 H locs ls  hP hD hS hl
    refine W.widen (k := 0) (n := 0) (Nat.le_of_ble_eq_true rfl) (Nat.le_of_ble_eq_true rfl) ?_
    exact W.iret (v := t_1) hx hb hr (fun t9 ht9 hW9 => ⟨⟨_, (), rfl, trivial, ⟨by rw [ht9]; exact hP, hD⟩⟩, hS.F ht9⟩) hS.2.2 dX8_behindRemoved_16
  refine lv_icmp_gt (tgt := 9) hx hb dX8_behindRemoved_2 (by decide) (fun c_4 => ?_) (fun c_4 => ?_)
  · refine lv_iload_n hx hb dX8_behindRemoved_9 rfl (lv_at hl 1 rfl) ?_
    refine lv_iload_n hx hb dX8_behindRemoved_10 rfl (lv_at hl 0 rfl) ?_
    refine lv_iload_n hx hb dX8_behindRemoved_11 rfl (lv_at hl 2 rfl) ?_
    refine lv_isub hx hb dX8_behindRemoved_12 ?_
    refine lv_topi (fun z_5 ez_5 => ?_)
    refine va_mmax hx hb (by rw [hml]; exact hl.1.symm) hown (hts _ kw_1481) (hts _ kw_1747) (hts _ kw_1748) (hts _ kw_1746) (Nat.le_of_ble_eq_true rfl) (Nat.le_of_ble_eq_true rfl) (Nat.le_of_ble_eq_true rfl) (Nat.le_of_ble_eq_true rfl) dX8_behindRemoved_13 ?_
    refine lv_topi (fun z_6 ez_6 => ?_)
    exact J_16 (z_6) _ _ ls  hP hD hS (lv_sub hl [] rfl)
  · refine lv_iload_n hx hb dX8_behindRemoved_5 rfl (lv_at hl 0 rfl) ?_
    refine lv_goto (tgt := 16) hx hb dX8_behindRemoved_6 (by decide) ?_
    exact J_16 (x0) _ _ ls  hP hD hS (lv_sub hl [] rfl)
set_option maxHeartbeats 1000000 in
set_option maxRecDepth 100000 in
theorem m_X8_copyFrom (l : Launch) (g : Gm) (sz : Nat) (ws : va_W) (h0 : Nat) (b1 : Nat) (hG : Good g ws) (o_h0 : gC ws h0 7) (o_b1 : gC ws b1 7) : Met l yX8_copyFrom (wt yX8_copyFrom cX8_copyFrom 3 none) ({ frames := 2, cells := 0, slots := 0, locals := 47 }) (va_Pc [.ref h0, .ref b1] (st_G g sz ws)) (va_Qv (fun (u9 : va_W) => True) (gQ1 g [(7, 2), (7, 4), (7, 9), (7, 11)] [(7, 0), (7, 1), (7, 3), (7, 5), (7, 6), (7, 7), (7, 8)] (some h0) (va_A ws sz) ws) (va_A ws sz)) (0) (0) (va_A ws sz) := by
  refine Met.ofW (cc := cX8_copyFrom) (maxL := 3) (ret := none) (by decide) rfl ?_
  intro p e s m args below meth c s₁ B hml hv
  obtain ⟨rfl, hsz, hP, hK, hD0, hex, hE⟩ := hv
  have hx := B.exec
  have hb := B.bytes
  have hr := B.returns
  have hts0 := atoms_spec (ws := wt yX8_copyFrom cX8_copyFrom 3 none) B.pre
  have hts : ∀ w ∈ tb, w.before _ s = true := fun w h => hts0 w (List.mem_cons_of_mem _ h)
  have hown : s.vm.findClass RX8 = some m.cls := findClass_of_methodNamed B.named
  subst hsz
  have hD := hD0.self (sz := s.heap.size)
  generalize hAe : va_A ws s.heap.size = A at hD hE ⊢
  have hA : ∀ q : Nat, s.heap.size ≤ q → A q := fun q h => by rw [← hAe]; exact Or.inr h
  have hS : va_S A s.heap s.heap [] := va_S.rf
  have hl := lv_entry ([.ref h0, .ref b1]) (n := 3) (Nat.le_of_ble_eq_true rfl)
  rw [lg_entry_eq]
  generalize (lg_sl ([.ref h0, .ref b1]) ++ List.replicate (3 - (lg_sl ([.ref h0, .ref b1])).length) Slot.unset).toArray = ls at hl ⊢
  have hl : lv_has ls 3 [(0, .ref h0), (1, .ref b1)] := hl
  refine lv_aload_n hx hb dX8_copyFrom_0 rfl (lv_at hl 0 rfl) ?_
  refine lv_aload_n hx hb dX8_copyFrom_1 rfl (lv_at hl 1 rfl) ?_
  obtain ⟨k_1, fs9, hk_1⟩ := gC_of o_b1
  obtain ⟨r0_1, n0_1, r1_1, n1_1, c2_1, r3_1, n3_1, c4_1, r5_1, n5_1, r6_1, n6_1, r7_1, n7_1, r8_1, n8_1, c9_1, c10_1, c11_1, v12_1, v13_1, v14_1, rfl, a_r0_1, f1_1, a_r1_1, f3_1, a_r3_1, f5_1, a_r5_1, f7_1, a_r6_1, f9_1, a_r7_1, f11_1, a_r8_1, f13_1, o_v12_1, o_v13_1, o_v14_1, f17_1, f18_1, f19_1, f20_1, f21_1, f22_1, f23_1, f24_1, f25_1, f26_1, f27_1, f28_1, f29_1, -⟩ := (hG.1 _ _ _ _ hk_1).hX8 rfl
  refine va_get (D := gD g) (ci := 7) (v := .int c11_1) (C := RX8) (T := TX8) (N := 15) hx hb hts inX8 hown hK hP k_1 hk_1 rfl 11 (by decide) (hts _ kw_1488) (fun _ h9 => h9) rfl dX8_copyFrom_2 ?_
  obtain ⟨k_2, fs9, hk_2⟩ := gC_of o_h0
  obtain ⟨r0_2, n0_2, r1_2, n1_2, c2_2, r3_2, n3_2, c4_2, r5_2, n5_2, r6_2, n6_2, r7_2, n7_2, r8_2, n8_2, c9_2, c10_2, c11_2, v12_2, v13_2, v14_2, rfl, a_r0_2, f1_2, a_r1_2, f3_2, a_r3_2, f5_2, a_r5_2, f7_2, a_r6_2, f9_2, a_r7_2, f11_2, a_r8_2, f13_2, o_v12_2, o_v13_2, o_v14_2, f17_2, f18_2, f19_2, f20_2, f21_2, f22_2, f23_2, f24_2, f25_2, f26_2, f27_2, f28_2, f29_2, -⟩ := (hG.1 _ _ _ _ hk_2).hX8 rfl
  have hV9 : okv ws 7 11 (.int c11_1) := okv_i
  refine va_put (D := gD g) (ci := 7) (v := .int c11_1) (ty := .int) (C := RX8) (T := TX8) (N := 15) hx hb hts inX8 tyX8 tyX8_ok nmX8 hown hK hP hD hS k_2 hk_2 rfl 11 (by decide) (hts _ kw_1488) (fun _ h9 => h9) rfl (by decide +kernel) rfl rfl (Nat.le_of_ble_eq_true rfl) dX8_copyFrom_5 (fun H locs hP hD hS => ?_)
  have hi_3 : invX8 g ws h0 [.ref r0_2, .ref r1_2, .int c2_2, .ref r3_2, .int c4_2, .ref r5_2, .ref r6_2, .ref r7_2, .ref r8_2, .int c9_2, .int c10_2, .int c11_1, va_rf v12_2, va_rf v13_2, va_rf v14_2] := ⟨r0_2, (n0_2), r1_2, (n1_2), (c2_2), r3_2, (n3_2), (c4_2), r5_2, (n5_2), r6_2, (n6_2), r7_2, (n7_2), r8_2, (n8_2), (c9_2), (c10_2), (c11_1), v12_2, v13_2, v14_2, rfl, a_r0_2, f1_2, a_r1_2, f3_2, a_r3_2, f5_2, a_r5_2, f7_2, a_r6_2, f9_2, a_r7_2, f11_2, a_r8_2, f13_2, o_v12_2, o_v13_2, o_v14_2, f17_2, f18_2, f19_2, f20_2, f21_2, f22_2, f23_2, f24_2, f25_2, f26_2, f27_2, f28_2, f29_2, trivial⟩
  obtain ⟨ws_4, e_ws_4⟩ : ∃ z, z = ws.set k_2 (h0, .inr (7, [.ref r0_2, .ref r1_2, .int c2_2, .ref r3_2, .int c4_2, .ref r5_2, .ref r6_2, .ref r7_2, .ref r8_2, .int c9_2, .int c10_2, .int c11_1, va_rf v12_2, va_rf v13_2, va_rf v14_2])) := ⟨_, rfl⟩
  have hP : va_P (gD g) cl0 ws_4 H := by rw [e_ws_4]; exact hP
  have hD : va_D A ws_4 := by rw [e_ws_4]; exact hD
  have E_5 : gE ws ws_4 := gE_set e_ws_4 hk_2 (cw_o (fi := 11) (v := .int c11_1) rfl (by decide))
  have hG : Good g ws_4 := Good_set (fi := 11) (v := .int c11_1) e_ws_4 hk_2 E_5 rfl hV9 hG (ivX8 hi_3)
  have Fr_6 : gF [(7, 11)] [] (some h0) ws ws_4 := gF_put (fi := 11) (v := .int c11_1) e_ws_4 hk_2 rfl (by decide)
  have hkN := gset_self e_ws_4 hk_2
  have aa_7 := a_r0_1
  have aa_8 := a_r1_1
  have aa_9 := a_r3_1
  have aa_10 := a_r5_1
  have aa_11 := a_r6_1
  have aa_12 := a_r7_1
  have aa_13 := a_r8_1
  have hk_2 := hkN
  have o_h0 := E_5.1 _ _ o_h0
  have o_b1 := E_5.1 _ _ o_b1
  have a_r0_2 := E_5.1 _ _ a_r0_2
  have a_r1_2 := E_5.1 _ _ a_r1_2
  have a_r3_2 := E_5.1 _ _ a_r3_2
  have a_r5_2 := E_5.1 _ _ a_r5_2
  have a_r6_2 := E_5.1 _ _ a_r6_2
  have a_r7_2 := E_5.1 _ _ a_r7_2
  have a_r8_2 := E_5.1 _ _ a_r8_2
  have o_v12_2 : ∀ b, v12_2 = some b → ∃ n, gI ws_4 b g.cB n ∧ n < 2147483648 := fun b h => (o_v12_2 b h).imp (fun n h => ⟨E_5.1 _ _ h.1, h.2⟩)
  have o_v13_2 : ∀ b, v13_2 = some b → ∃ n, gJ ws_4 b g.cL n ∧ n < 2147483648 := fun b h => (o_v13_2 b h).imp (fun n h => ⟨E_5.1 _ _ h.1, h.2⟩)
  have o_v14_2 : ∀ b, v14_2 = some b → ∃ n, gJ ws_4 b g.cL n ∧ n < 2147483648 := fun b h => (o_v14_2 b h).imp (fun n h => ⟨E_5.1 _ _ h.1, h.2⟩)
  refine lv_aload_n hx hb dX8_copyFrom_8 rfl (lv_at hl 0 rfl) ?_
  refine lv_iconst (v := 0) hx hb dX8_copyFrom_9 (by decide) ?_
  have hV9 : okv ws_4 7 2 (.int 0) := okv_i
  refine va_put (D := gD g) (ci := 7) (v := .int 0) (ty := .int) (C := RX8) (T := TX8) (N := 15) hx hb hts inX8 tyX8 tyX8_ok nmX8 hown hK hP hD hS k_2 hk_2 rfl 2 (by decide) (hts _ kw_1459) (fun _ h9 => h9) rfl (by decide +kernel) rfl rfl (Nat.le_of_ble_eq_true rfl) dX8_copyFrom_10 (fun H locs hP hD hS => ?_)
  have f_14 : 0 ≤ (0 : Int32).toInt := (by have e0 : (0 : Int32).toInt = 0 := (by decide); omega)
  have f_15 : (0 : Int32).toInt ≤ n0_2 := (by have e0 : (0 : Int32).toInt = 0 := (by decide); have q_f1_2 := f1_2; have q_f17_2 := f17_2; have q_f18_2 := f18_2; have q_f20_2 := f20_2; have q_f_14 := f_14; have q_f3_2 := f3_2; have q_f19_2 := f19_2; have g_c2_2 := i_rg c2_2; omega)
  have hi_16 : invX8 g ws_4 h0 [.ref r0_2, .ref r1_2, .int 0, .ref r3_2, .int c4_2, .ref r5_2, .ref r6_2, .ref r7_2, .ref r8_2, .int c9_2, .int c10_2, .int c11_1, va_rf v12_2, va_rf v13_2, va_rf v14_2] := ⟨r0_2, (n0_2), r1_2, (n1_2), (0), r3_2, (n3_2), (c4_2), r5_2, (n5_2), r6_2, (n6_2), r7_2, (n7_2), r8_2, (n8_2), (c9_2), (c10_2), (c11_1), v12_2, v13_2, v14_2, rfl, a_r0_2, f1_2, a_r1_2, f3_2, a_r3_2, f5_2, a_r5_2, f7_2, a_r6_2, f9_2, a_r7_2, f11_2, a_r8_2, f13_2, o_v12_2, o_v13_2, o_v14_2, f17_2, f18_2, f_14, f_15, f21_2, f22_2, f23_2, f24_2, f25_2, f26_2, f27_2, f28_2, f29_2, trivial⟩
  obtain ⟨ws_17, e_ws_17⟩ : ∃ z, z = ws_4.set k_2 (h0, .inr (7, [.ref r0_2, .ref r1_2, .int 0, .ref r3_2, .int c4_2, .ref r5_2, .ref r6_2, .ref r7_2, .ref r8_2, .int c9_2, .int c10_2, .int c11_1, va_rf v12_2, va_rf v13_2, va_rf v14_2])) := ⟨_, rfl⟩
  have hP : va_P (gD g) cl0 ws_17 H := by rw [e_ws_17]; exact hP
  have hD : va_D A ws_17 := by rw [e_ws_17]; exact hD
  have E_18 : gE ws_4 ws_17 := gE_set e_ws_17 hk_2 (cw_o (fi := 2) (v := .int 0) rfl (by decide))
  have hG : Good g ws_17 := Good_set (fi := 2) (v := .int 0) e_ws_17 hk_2 E_18 rfl hV9 hG (ivX8 hi_16)
  have Fr_19 : gF [(7, 2)] [] (some h0) ws_4 ws_17 := gF_put (fi := 2) (v := .int 0) e_ws_17 hk_2 rfl (by decide)
  have hkN := gset_self e_ws_17 hk_2
  have hk_2 := hkN
  have o_h0 := E_18.1 _ _ o_h0
  have o_b1 := E_18.1 _ _ o_b1
  have a_r0_2 := E_18.1 _ _ a_r0_2
  have a_r1_2 := E_18.1 _ _ a_r1_2
  have a_r3_2 := E_18.1 _ _ a_r3_2
  have a_r5_2 := E_18.1 _ _ a_r5_2
  have a_r6_2 := E_18.1 _ _ a_r6_2
  have a_r7_2 := E_18.1 _ _ a_r7_2
  have a_r8_2 := E_18.1 _ _ a_r8_2
  have o_v12_2 : ∀ b, v12_2 = some b → ∃ n, gI ws_17 b g.cB n ∧ n < 2147483648 := fun b h => (o_v12_2 b h).imp (fun n h => ⟨E_18.1 _ _ h.1, h.2⟩)
  have o_v13_2 : ∀ b, v13_2 = some b → ∃ n, gJ ws_17 b g.cL n ∧ n < 2147483648 := fun b h => (o_v13_2 b h).imp (fun n h => ⟨E_18.1 _ _ h.1, h.2⟩)
  have o_v14_2 : ∀ b, v14_2 = some b → ∃ n, gJ ws_17 b g.cL n ∧ n < 2147483648 := fun b h => (o_v14_2 b h).imp (fun n h => ⟨E_18.1 _ _ h.1, h.2⟩)
  refine lv_iconst (v := 0) hx hb dX8_copyFrom_13 (by decide) ?_
  refine lv_istore_n (lv' := [(2, .int 0), (0, .ref h0), (1, .ref b1)]) hx hb dX8_copyFrom_14 rfl hl (by decide) rfl (fun ls hl => ?_)
  have J_15 : ∀ (n9 : Nat) (v2_20 : Int32) (ws_22 : va_W) (H : Heap) (locs : List Loc) (ls : Array Slot), (2147483647 - v2_20.toInt).toNat = n9 → 0 ≤ v2_20.toInt → gE ws_17 ws_22 → gF [(7, 2)] [(7, 0), (7, 1)] (some h0) ws_17 ws_22 → Good g ws_22 → va_P (gD g) cl0 ws_22 H → va_D A ws_22 → va_S A s.heap H locs → lv_has ls 3 [(0, .ref h0), (1, .ref b1), (2, .int v2_20)] → W p l e (headSpec (wt yX8_copyFrom cX8_copyFrom 3 none) ({ frames := 2, cells := 0, slots := 0, locals := 47 })).room s m ([.ref h0, .ref b1] : List Value).toArray below meth c H locs (0) (0) (MQ below (va_Qv (fun (u9 : va_W) => True) (gQ1 g [(7, 2), (7, 4), (7, 9), (7, 11)] [(7, 0), (7, 1), (7, 3), (7, 5), (7, 6), (7, 7), (7, 8)] (some h0) A ws) A) ([.ref h0, .ref b1] : List Value).toArray s (0) (0) A) (F0 m 15 ls []) := by
    intro n9
    induction n9 using Nat.strongRecOn with
    | ind n9 ih_15 =>
      intro v2_20 ws_22 H locs ls hm9 iv_21 E_23 Fr_24 hG hP hD hS hl
      subst hm9
      have aa_25 := a_r0_2
      have aa_26 := a_r1_2
      have aa_27 := a_r3_2
      have aa_28 := a_r5_2
      have aa_29 := a_r6_2
      have aa_30 := a_r7_2
      have aa_31 := a_r8_2
      have o_h0 := E_23.1 _ _ o_h0
      have o_b1 := E_23.1 _ _ o_b1
      refine lv_iload_n hx hb dX8_copyFrom_15 rfl (lv_at hl 2 rfl) ?_
      refine lv_aload_n hx hb dX8_copyFrom_16 rfl (lv_at hl 1 rfl) ?_
      obtain ⟨fs9, hk_32, hq_32⟩ := ((gA.tr (gF.a (F' := [(7, 2), (7, 11)]) Fr_6 (by decide)) (gA.tr (gF.a (F' := [(7, 2), (7, 11)]) Fr_19 (by decide)) (gF.a (F' := [(7, 2), (7, 11)]) Fr_24 (by decide))))) _ _ _ hk_1
      obtain ⟨r0_32, n0_32, r1_32, n1_32, c2_32, r3_32, n3_32, c4_32, r5_32, n5_32, r6_32, n6_32, r7_32, n7_32, r8_32, n8_32, c9_32, c10_32, c11_32, v12_32, v13_32, v14_32, rfl, a_r0_32, f1_32, a_r1_32, f3_32, a_r3_32, f5_32, a_r5_32, f7_32, a_r6_32, f9_32, a_r7_32, f11_32, a_r8_32, f13_32, o_v12_32, o_v13_32, o_v14_32, f17_32, f18_32, f19_32, f20_32, f21_32, f22_32, f23_32, f24_32, f25_32, f26_32, f27_32, f28_32, f29_32, -⟩ := (hG.1 _ _ _ _ hk_32).hX8 rfl
      obtain rfl := fe_r (hq_32 0 (by decide))
      have hn9 := gI_n hD (((E_5.tr (E_18.tr E_23))).1 _ _ aa_7) a_r0_32
      subst hn9
      have a_r0_1 := a_r0_32
      obtain rfl := fe_r (hq_32 1 (by decide))
      have hn9 := gI_n hD (((E_5.tr (E_18.tr E_23))).1 _ _ aa_8) a_r1_32
      subst hn9
      have a_r1_1 := a_r1_32
      obtain rfl := fe_r (hq_32 3 (by decide))
      have hn9 := gI_n hD (((E_5.tr (E_18.tr E_23))).1 _ _ aa_9) a_r3_32
      subst hn9
      have a_r3_1 := a_r3_32
      obtain rfl := fe_i (hq_32 4 (by decide))
      obtain rfl := fe_r (hq_32 5 (by decide))
      have hn9 := gI_n hD (((E_5.tr (E_18.tr E_23))).1 _ _ aa_10) a_r5_32
      subst hn9
      have a_r5_1 := a_r5_32
      obtain rfl := fe_r (hq_32 6 (by decide))
      have hn9 := gI_n hD (((E_5.tr (E_18.tr E_23))).1 _ _ aa_11) a_r6_32
      subst hn9
      have a_r6_1 := a_r6_32
      obtain rfl := fe_r (hq_32 7 (by decide))
      have hn9 := gI_n hD (((E_5.tr (E_18.tr E_23))).1 _ _ aa_12) a_r7_32
      subst hn9
      have a_r7_1 := a_r7_32
      obtain rfl := fe_r (hq_32 8 (by decide))
      have hn9 := gI_n hD (((E_5.tr (E_18.tr E_23))).1 _ _ aa_13) a_r8_32
      subst hn9
      have a_r8_1 := a_r8_32
      obtain rfl := fe_i (hq_32 9 (by decide))
      refine va_get (D := gD g) (ci := 7) (v := .int c2_32) (C := RX8) (T := TX8) (N := 15) hx hb hts inX8 hown hK hP k_1 hk_32 rfl 2 (by decide) (hts _ kw_1459) (fun _ h9 => h9) rfl dX8_copyFrom_17 ?_
      refine lv_icmp_ge (tgt := 45) hx hb dX8_copyFrom_20 (by decide) (fun c_33 => ?_) (fun c_33 => ?_)
      · refine lv_aload_n hx hb dX8_copyFrom_45 rfl (lv_at hl 0 rfl) ?_
        refine lv_iconst (v := 0) hx hb dX8_copyFrom_46 (by decide) ?_
        obtain ⟨fs9, hk_34, hq_34⟩ := ((gF.a (F' := [(7, 2)]) Fr_24 (fun _ h => h))) _ _ _ hk_2
        obtain ⟨r0_34, n0_34, r1_34, n1_34, c2_34, r3_34, n3_34, c4_34, r5_34, n5_34, r6_34, n6_34, r7_34, n7_34, r8_34, n8_34, c9_34, c10_34, c11_34, v12_34, v13_34, v14_34, rfl, a_r0_34, f1_34, a_r1_34, f3_34, a_r3_34, f5_34, a_r5_34, f7_34, a_r6_34, f9_34, a_r7_34, f11_34, a_r8_34, f13_34, o_v12_34, o_v13_34, o_v14_34, f17_34, f18_34, f19_34, f20_34, f21_34, f22_34, f23_34, f24_34, f25_34, f26_34, f27_34, f28_34, f29_34, -⟩ := (hG.1 _ _ _ _ hk_34).hX8 rfl
        obtain rfl := fe_r (hq_34 0 (by decide))
        have hn9 := gI_n hD ((E_23).1 _ _ aa_25) a_r0_34
        subst hn9
        have a_r0_2 := a_r0_34
        obtain rfl := fe_r (hq_34 1 (by decide))
        have hn9 := gI_n hD ((E_23).1 _ _ aa_26) a_r1_34
        subst hn9
        have a_r1_2 := a_r1_34
        obtain rfl := fe_r (hq_34 3 (by decide))
        have hn9 := gI_n hD ((E_23).1 _ _ aa_27) a_r3_34
        subst hn9
        have a_r3_2 := a_r3_34
        obtain rfl := fe_i (hq_34 4 (by decide))
        obtain rfl := fe_r (hq_34 5 (by decide))
        have hn9 := gI_n hD ((E_23).1 _ _ aa_28) a_r5_34
        subst hn9
        have a_r5_2 := a_r5_34
        obtain rfl := fe_r (hq_34 6 (by decide))
        have hn9 := gI_n hD ((E_23).1 _ _ aa_29) a_r6_34
        subst hn9
        have a_r6_2 := a_r6_34
        obtain rfl := fe_r (hq_34 7 (by decide))
        have hn9 := gI_n hD ((E_23).1 _ _ aa_30) a_r7_34
        subst hn9
        have a_r7_2 := a_r7_34
        obtain rfl := fe_r (hq_34 8 (by decide))
        have hn9 := gI_n hD ((E_23).1 _ _ aa_31) a_r8_34
        subst hn9
        have a_r8_2 := a_r8_34
        obtain rfl := fe_i (hq_34 9 (by decide))
        obtain rfl := fe_i (hq_34 11 (by decide))
        have hV9 : okv ws_22 7 4 (.int 0) := okv_i
        refine va_put (D := gD g) (ci := 7) (v := .int 0) (ty := .int) (C := RX8) (T := TX8) (N := 15) hx hb hts inX8 tyX8 tyX8_ok nmX8 hown hK hP hD hS k_2 hk_34 rfl 4 (by decide) (hts _ kw_1473) (fun _ h9 => h9) rfl (by decide +kernel) rfl rfl (Nat.le_of_ble_eq_true rfl) dX8_copyFrom_47 (fun H locs hP hD hS => ?_)
        have f_35 : 0 ≤ (0 : Int32).toInt := (by have e0 : (0 : Int32).toInt = 0 := (by decide); have q_f_14 := f_14; omega)
        have f_36 : (0 : Int32).toInt ≤ n3_2 := (by have e0 : (0 : Int32).toInt = 0 := (by decide); have q_f5_2 := f5_2; have q_f22_2 := f22_2; have q_f28_2 := f28_2; have q_f_14 := f_14; have q_f_35 := f_35; have q_f21_2 := f21_2; have g_c4_2 := i_rg c4_2; omega)
        have hi_37 : invX8 g ws_22 h0 [.ref r0_2, .ref r1_2, .int c2_34, .ref r3_2, .int 0, .ref r5_2, .ref r6_2, .ref r7_2, .ref r8_2, .int c9_2, .int c10_34, .int c11_1, va_rf v12_34, va_rf v13_34, va_rf v14_34] := ⟨r0_2, (n0_2), r1_2, (n1_2), (c2_34), r3_2, (n3_2), (0), r5_2, (n5_2), r6_2, (n6_2), r7_2, (n7_2), r8_2, (n8_2), (c9_2), (c10_34), (c11_1), v12_34, v13_34, v14_34, rfl, a_r0_2, f1_34, a_r1_2, f3_34, a_r3_2, f5_34, a_r5_2, f7_34, a_r6_2, f9_34, a_r7_2, f11_34, a_r8_2, f13_34, o_v12_34, o_v13_34, o_v14_34, f17_34, f18_34, f19_34, f20_34, f_35, f_36, f23_34, f24_34, f25_34, f26_34, f27_34, f28_34, f29_34, trivial⟩
        obtain ⟨ws_38, e_ws_38⟩ : ∃ z, z = ws_22.set k_2 (h0, .inr (7, [.ref r0_2, .ref r1_2, .int c2_34, .ref r3_2, .int 0, .ref r5_2, .ref r6_2, .ref r7_2, .ref r8_2, .int c9_2, .int c10_34, .int c11_1, va_rf v12_34, va_rf v13_34, va_rf v14_34])) := ⟨_, rfl⟩
        have hP : va_P (gD g) cl0 ws_38 H := by rw [e_ws_38]; exact hP
        have hD : va_D A ws_38 := by rw [e_ws_38]; exact hD
        have E_39 : gE ws_22 ws_38 := gE_set e_ws_38 hk_34 (cw_o (fi := 4) (v := .int 0) rfl (by decide))
        have hG : Good g ws_38 := Good_set (fi := 4) (v := .int 0) e_ws_38 hk_34 E_39 rfl hV9 hG (ivX8 hi_37)
        have Fr_40 : gF [(7, 4)] [] (some h0) ws_22 ws_38 := gF_put (fi := 4) (v := .int 0) e_ws_38 hk_34 rfl (by decide)
        have hkN := gset_self e_ws_38 hk_34
        have aa_41 := a_r0_1
        have aa_42 := a_r1_1
        have aa_43 := a_r3_1
        have aa_44 := a_r5_1
        have aa_45 := a_r6_1
        have aa_46 := a_r7_1
        have aa_47 := a_r8_1
        have hk_34 := hkN
        have o_h0 := E_39.1 _ _ o_h0
        have o_b1 := E_39.1 _ _ o_b1
        have o_v12_34 : ∀ b, v12_34 = some b → ∃ n, gI ws_38 b g.cB n ∧ n < 2147483648 := fun b h => (o_v12_34 b h).imp (fun n h => ⟨E_39.1 _ _ h.1, h.2⟩)
        have o_v13_34 : ∀ b, v13_34 = some b → ∃ n, gJ ws_38 b g.cL n ∧ n < 2147483648 := fun b h => (o_v13_34 b h).imp (fun n h => ⟨E_39.1 _ _ h.1, h.2⟩)
        have o_v14_34 : ∀ b, v14_34 = some b → ∃ n, gJ ws_38 b g.cL n ∧ n < 2147483648 := fun b h => (o_v14_34 b h).imp (fun n h => ⟨E_39.1 _ _ h.1, h.2⟩)
        have a_r0_2 := E_39.1 _ _ a_r0_2
        have a_r1_2 := E_39.1 _ _ a_r1_2
        have a_r3_2 := E_39.1 _ _ a_r3_2
        have a_r5_2 := E_39.1 _ _ a_r5_2
        have a_r6_2 := E_39.1 _ _ a_r6_2
        have a_r7_2 := E_39.1 _ _ a_r7_2
        have a_r8_2 := E_39.1 _ _ a_r8_2
        refine lv_iconst (v := 0) hx hb dX8_copyFrom_50 (by decide) ?_
        refine lv_istore_n (lv' := [(2, .int 0), (0, .ref h0), (1, .ref b1)]) hx hb dX8_copyFrom_51 rfl hl (by decide) rfl (fun ls hl => ?_)
        have J_52 : ∀ (n9 : Nat) (v2_48 : Int32) (ws_50 : va_W) (H : Heap) (locs : List Loc) (ls : Array Slot), (2147483647 - v2_48.toInt).toNat = n9 → 0 ≤ v2_48.toInt → gE ws_38 ws_50 → gF [(7, 4)] [(7, 3)] (some h0) ws_38 ws_50 → Good g ws_50 → va_P (gD g) cl0 ws_50 H → va_D A ws_50 → va_S A s.heap H locs → lv_has ls 3 [(0, .ref h0), (1, .ref b1), (2, .int v2_48)] → W p l e (headSpec (wt yX8_copyFrom cX8_copyFrom 3 none) ({ frames := 2, cells := 0, slots := 0, locals := 47 })).room s m ([.ref h0, .ref b1] : List Value).toArray below meth c H locs (0) (0) (MQ below (va_Qv (fun (u9 : va_W) => True) (gQ1 g [(7, 2), (7, 4), (7, 9), (7, 11)] [(7, 0), (7, 1), (7, 3), (7, 5), (7, 6), (7, 7), (7, 8)] (some h0) A ws) A) ([.ref h0, .ref b1] : List Value).toArray s (0) (0) A) (F0 m 52 ls []) := by
          intro n9
          induction n9 using Nat.strongRecOn with
          | ind n9 ih_52 =>
            intro v2_48 ws_50 H locs ls hm9 iv_49 E_51 Fr_52 hG hP hD hS hl
            subst hm9
            have aa_53 := a_r0_2
            have aa_54 := a_r1_2
            have aa_55 := a_r3_2
            have aa_56 := a_r5_2
            have aa_57 := a_r6_2
            have aa_58 := a_r7_2
            have aa_59 := a_r8_2
            have o_h0 := E_51.1 _ _ o_h0
            have o_b1 := E_51.1 _ _ o_b1
            refine lv_iload_n hx hb dX8_copyFrom_52 rfl (lv_at hl 2 rfl) ?_
            refine lv_aload_n hx hb dX8_copyFrom_53 rfl (lv_at hl 1 rfl) ?_
            obtain ⟨fs9, hk_60, hq_60⟩ := ((gA.tr (gF.a (F' := [(7, 4)]) Fr_40 (fun _ h => h)) (gF.a (F' := [(7, 4)]) Fr_52 (fun _ h => h)))) _ _ _ hk_32
            obtain ⟨r0_60, n0_60, r1_60, n1_60, c2_60, r3_60, n3_60, c4_60, r5_60, n5_60, r6_60, n6_60, r7_60, n7_60, r8_60, n8_60, c9_60, c10_60, c11_60, v12_60, v13_60, v14_60, rfl, a_r0_60, f1_60, a_r1_60, f3_60, a_r3_60, f5_60, a_r5_60, f7_60, a_r6_60, f9_60, a_r7_60, f11_60, a_r8_60, f13_60, o_v12_60, o_v13_60, o_v14_60, f17_60, f18_60, f19_60, f20_60, f21_60, f22_60, f23_60, f24_60, f25_60, f26_60, f27_60, f28_60, f29_60, -⟩ := (hG.1 _ _ _ _ hk_60).hX8 rfl
            obtain rfl := fe_r (hq_60 0 (by decide))
            have hn9 := gI_n hD (((E_39.tr E_51)).1 _ _ aa_41) a_r0_60
            subst hn9
            have a_r0_1 := a_r0_60
            obtain rfl := fe_r (hq_60 1 (by decide))
            have hn9 := gI_n hD (((E_39.tr E_51)).1 _ _ aa_42) a_r1_60
            subst hn9
            have a_r1_1 := a_r1_60
            obtain rfl := fe_i (hq_60 2 (by decide))
            obtain rfl := fe_r (hq_60 3 (by decide))
            have hn9 := gI_n hD (((E_39.tr E_51)).1 _ _ aa_43) a_r3_60
            subst hn9
            have a_r3_1 := a_r3_60
            obtain rfl := fe_r (hq_60 5 (by decide))
            have hn9 := gI_n hD (((E_39.tr E_51)).1 _ _ aa_44) a_r5_60
            subst hn9
            have a_r5_1 := a_r5_60
            obtain rfl := fe_r (hq_60 6 (by decide))
            have hn9 := gI_n hD (((E_39.tr E_51)).1 _ _ aa_45) a_r6_60
            subst hn9
            have a_r6_1 := a_r6_60
            obtain rfl := fe_r (hq_60 7 (by decide))
            have hn9 := gI_n hD (((E_39.tr E_51)).1 _ _ aa_46) a_r7_60
            subst hn9
            have a_r7_1 := a_r7_60
            obtain rfl := fe_r (hq_60 8 (by decide))
            have hn9 := gI_n hD (((E_39.tr E_51)).1 _ _ aa_47) a_r8_60
            subst hn9
            have a_r8_1 := a_r8_60
            obtain rfl := fe_i (hq_60 9 (by decide))
            obtain rfl := fe_i (hq_60 11 (by decide))
            refine va_get (D := gD g) (ci := 7) (v := .int c4_60) (C := RX8) (T := TX8) (N := 15) hx hb hts inX8 hown hK hP k_1 hk_60 rfl 4 (by decide) (hts _ kw_1473) (fun _ h9 => h9) rfl dX8_copyFrom_54 ?_
            refine lv_icmp_ge (tgt := 76) hx hb dX8_copyFrom_57 (by decide) (fun c_61 => ?_) (fun c_61 => ?_)
            · refine lv_aload_n hx hb dX8_copyFrom_76 rfl (lv_at hl 0 rfl) ?_
              refine lv_iconst (v := 0) hx hb dX8_copyFrom_77 (by decide) ?_
              obtain ⟨fs9, hk_62, hq_62⟩ := ((gF.a (F' := [(7, 4)]) Fr_52 (fun _ h => h))) _ _ _ hk_34
              obtain ⟨r0_62, n0_62, r1_62, n1_62, c2_62, r3_62, n3_62, c4_62, r5_62, n5_62, r6_62, n6_62, r7_62, n7_62, r8_62, n8_62, c9_62, c10_62, c11_62, v12_62, v13_62, v14_62, rfl, a_r0_62, f1_62, a_r1_62, f3_62, a_r3_62, f5_62, a_r5_62, f7_62, a_r6_62, f9_62, a_r7_62, f11_62, a_r8_62, f13_62, o_v12_62, o_v13_62, o_v14_62, f17_62, f18_62, f19_62, f20_62, f21_62, f22_62, f23_62, f24_62, f25_62, f26_62, f27_62, f28_62, f29_62, -⟩ := (hG.1 _ _ _ _ hk_62).hX8 rfl
              obtain rfl := fe_r (hq_62 0 (by decide))
              have hn9 := gI_n hD ((E_51).1 _ _ aa_53) a_r0_62
              subst hn9
              have a_r0_2 := a_r0_62
              obtain rfl := fe_r (hq_62 1 (by decide))
              have hn9 := gI_n hD ((E_51).1 _ _ aa_54) a_r1_62
              subst hn9
              have a_r1_2 := a_r1_62
              obtain rfl := fe_i (hq_62 2 (by decide))
              obtain rfl := fe_r (hq_62 3 (by decide))
              have hn9 := gI_n hD ((E_51).1 _ _ aa_55) a_r3_62
              subst hn9
              have a_r3_2 := a_r3_62
              obtain rfl := fe_r (hq_62 5 (by decide))
              have hn9 := gI_n hD ((E_51).1 _ _ aa_56) a_r5_62
              subst hn9
              have a_r5_2 := a_r5_62
              obtain rfl := fe_r (hq_62 6 (by decide))
              have hn9 := gI_n hD ((E_51).1 _ _ aa_57) a_r6_62
              subst hn9
              have a_r6_2 := a_r6_62
              obtain rfl := fe_r (hq_62 7 (by decide))
              have hn9 := gI_n hD ((E_51).1 _ _ aa_58) a_r7_62
              subst hn9
              have a_r7_2 := a_r7_62
              obtain rfl := fe_r (hq_62 8 (by decide))
              have hn9 := gI_n hD ((E_51).1 _ _ aa_59) a_r8_62
              subst hn9
              have a_r8_2 := a_r8_62
              obtain rfl := fe_i (hq_62 9 (by decide))
              obtain rfl := fe_i (hq_62 11 (by decide))
              have hV9 : okv ws_50 7 9 (.int 0) := okv_i
              refine va_put (D := gD g) (ci := 7) (v := .int 0) (ty := .int) (C := RX8) (T := TX8) (N := 15) hx hb hts inX8 tyX8 tyX8_ok nmX8 hown hK hP hD hS k_2 hk_62 rfl 9 (by decide) (hts _ kw_1465) (fun _ h9 => h9) rfl (by decide +kernel) rfl rfl (Nat.le_of_ble_eq_true rfl) dX8_copyFrom_78 (fun H locs hP hD hS => ?_)
              have f_63 : 0 ≤ (0 : Int32).toInt := (by have e0 : (0 : Int32).toInt = 0 := (by decide); have q_f_14 := f_14; have q_f_35 := f_35; omega)
              have f_64 : (0 : Int32).toInt ≤ n5_2 := (by have e0 : (0 : Int32).toInt = 0 := (by decide); have q_f7_2 := f7_2; have q_f23_2 := f23_2; have q_f24_2 := f24_2; have q_f25_2 := f25_2; have q_f27_2 := f27_2; have q_f29_2 := f29_2; have q_f_14 := f_14; have q_f_35 := f_35; have q_f_63 := f_63; have q_f9_2 := f9_2; have q_f11_2 := f11_2; have q_f13_2 := f13_2; have q_f26_2 := f26_2; have g_c9_2 := i_rg c9_2; omega)
              have hi_65 : invX8 g ws_50 h0 [.ref r0_2, .ref r1_2, .int c2_34, .ref r3_2, .int c4_62, .ref r5_2, .ref r6_2, .ref r7_2, .ref r8_2, .int 0, .int c10_62, .int c11_1, va_rf v12_62, va_rf v13_62, va_rf v14_62] := ⟨r0_2, (n0_2), r1_2, (n1_2), (c2_34), r3_2, (n3_2), (c4_62), r5_2, (n5_2), r6_2, (n6_2), r7_2, (n7_2), r8_2, (n8_2), (0), (c10_62), (c11_1), v12_62, v13_62, v14_62, rfl, a_r0_2, f1_62, a_r1_2, f3_62, a_r3_2, f5_62, a_r5_2, f7_62, a_r6_2, f9_62, a_r7_2, f11_62, a_r8_2, f13_62, o_v12_62, o_v13_62, o_v14_62, f17_62, f18_62, f19_62, f20_62, f21_62, f22_62, f23_62, f24_62, f25_62, f_63, f_64, f28_62, f29_62, trivial⟩
              obtain ⟨ws_66, e_ws_66⟩ : ∃ z, z = ws_50.set k_2 (h0, .inr (7, [.ref r0_2, .ref r1_2, .int c2_34, .ref r3_2, .int c4_62, .ref r5_2, .ref r6_2, .ref r7_2, .ref r8_2, .int 0, .int c10_62, .int c11_1, va_rf v12_62, va_rf v13_62, va_rf v14_62])) := ⟨_, rfl⟩
              have hP : va_P (gD g) cl0 ws_66 H := by rw [e_ws_66]; exact hP
              have hD : va_D A ws_66 := by rw [e_ws_66]; exact hD
              have E_67 : gE ws_50 ws_66 := gE_set e_ws_66 hk_62 (cw_o (fi := 9) (v := .int 0) rfl (by decide))
              have hG : Good g ws_66 := Good_set (fi := 9) (v := .int 0) e_ws_66 hk_62 E_67 rfl hV9 hG (ivX8 hi_65)
              have Fr_68 : gF [(7, 9)] [] (some h0) ws_50 ws_66 := gF_put (fi := 9) (v := .int 0) e_ws_66 hk_62 rfl (by decide)
              have hkN := gset_self e_ws_66 hk_62
              have aa_69 := a_r0_1
              have aa_70 := a_r1_1
              have aa_71 := a_r3_1
              have aa_72 := a_r5_1
              have aa_73 := a_r6_1
              have aa_74 := a_r7_1
              have aa_75 := a_r8_1
              have hk_62 := hkN
              have o_h0 := E_67.1 _ _ o_h0
              have o_b1 := E_67.1 _ _ o_b1
              have o_v12_62 : ∀ b, v12_62 = some b → ∃ n, gI ws_66 b g.cB n ∧ n < 2147483648 := fun b h => (o_v12_62 b h).imp (fun n h => ⟨E_67.1 _ _ h.1, h.2⟩)
              have o_v13_62 : ∀ b, v13_62 = some b → ∃ n, gJ ws_66 b g.cL n ∧ n < 2147483648 := fun b h => (o_v13_62 b h).imp (fun n h => ⟨E_67.1 _ _ h.1, h.2⟩)
              have o_v14_62 : ∀ b, v14_62 = some b → ∃ n, gJ ws_66 b g.cL n ∧ n < 2147483648 := fun b h => (o_v14_62 b h).imp (fun n h => ⟨E_67.1 _ _ h.1, h.2⟩)
              have a_r0_2 := E_67.1 _ _ a_r0_2
              have a_r1_2 := E_67.1 _ _ a_r1_2
              have a_r3_2 := E_67.1 _ _ a_r3_2
              have a_r5_2 := E_67.1 _ _ a_r5_2
              have a_r6_2 := E_67.1 _ _ a_r6_2
              have a_r7_2 := E_67.1 _ _ a_r7_2
              have a_r8_2 := E_67.1 _ _ a_r8_2
              refine lv_iconst (v := 0) hx hb dX8_copyFrom_81 (by decide) ?_
              refine lv_istore_n (lv' := [(2, .int 0), (0, .ref h0), (1, .ref b1)]) hx hb dX8_copyFrom_82 rfl hl (by decide) rfl (fun ls hl => ?_)
              have J_83 : ∀ (n9 : Nat) (v2_76 : Int32) (ws_78 : va_W) (H : Heap) (locs : List Loc) (ls : Array Slot), (2147483647 - v2_76.toInt).toNat = n9 → 0 ≤ v2_76.toInt → gE ws_66 ws_78 → gF [(7, 9)] [(7, 5), (7, 6), (7, 7), (7, 8)] (some h0) ws_66 ws_78 → Good g ws_78 → va_P (gD g) cl0 ws_78 H → va_D A ws_78 → va_S A s.heap H locs → lv_has ls 3 [(0, .ref h0), (1, .ref b1), (2, .int v2_76)] → W p l e (headSpec (wt yX8_copyFrom cX8_copyFrom 3 none) ({ frames := 2, cells := 0, slots := 0, locals := 47 })).room s m ([.ref h0, .ref b1] : List Value).toArray below meth c H locs (0) (0) (MQ below (va_Qv (fun (u9 : va_W) => True) (gQ1 g [(7, 2), (7, 4), (7, 9), (7, 11)] [(7, 0), (7, 1), (7, 3), (7, 5), (7, 6), (7, 7), (7, 8)] (some h0) A ws) A) ([.ref h0, .ref b1] : List Value).toArray s (0) (0) A) (F0 m 83 ls []) := by
                intro n9
                induction n9 using Nat.strongRecOn with
                | ind n9 ih_83 =>
                  intro v2_76 ws_78 H locs ls hm9 iv_77 E_79 Fr_80 hG hP hD hS hl
                  subst hm9
                  have aa_81 := a_r0_2
                  have aa_82 := a_r1_2
                  have aa_83 := a_r3_2
                  have aa_84 := a_r5_2
                  have aa_85 := a_r6_2
                  have aa_86 := a_r7_2
                  have aa_87 := a_r8_2
                  have o_h0 := E_79.1 _ _ o_h0
                  have o_b1 := E_79.1 _ _ o_b1
                  refine lv_iload_n hx hb dX8_copyFrom_83 rfl (lv_at hl 2 rfl) ?_
                  refine lv_aload_n hx hb dX8_copyFrom_84 rfl (lv_at hl 1 rfl) ?_
                  obtain ⟨fs9, hk_88, hq_88⟩ := ((gA.tr (gF.a (F' := [(7, 9)]) Fr_68 (fun _ h => h)) (gF.a (F' := [(7, 9)]) Fr_80 (fun _ h => h)))) _ _ _ hk_60
                  obtain ⟨r0_88, n0_88, r1_88, n1_88, c2_88, r3_88, n3_88, c4_88, r5_88, n5_88, r6_88, n6_88, r7_88, n7_88, r8_88, n8_88, c9_88, c10_88, c11_88, v12_88, v13_88, v14_88, rfl, a_r0_88, f1_88, a_r1_88, f3_88, a_r3_88, f5_88, a_r5_88, f7_88, a_r6_88, f9_88, a_r7_88, f11_88, a_r8_88, f13_88, o_v12_88, o_v13_88, o_v14_88, f17_88, f18_88, f19_88, f20_88, f21_88, f22_88, f23_88, f24_88, f25_88, f26_88, f27_88, f28_88, f29_88, -⟩ := (hG.1 _ _ _ _ hk_88).hX8 rfl
                  obtain rfl := fe_r (hq_88 0 (by decide))
                  have hn9 := gI_n hD (((E_67.tr E_79)).1 _ _ aa_69) a_r0_88
                  subst hn9
                  have a_r0_1 := a_r0_88
                  obtain rfl := fe_r (hq_88 1 (by decide))
                  have hn9 := gI_n hD (((E_67.tr E_79)).1 _ _ aa_70) a_r1_88
                  subst hn9
                  have a_r1_1 := a_r1_88
                  obtain rfl := fe_i (hq_88 2 (by decide))
                  obtain rfl := fe_r (hq_88 3 (by decide))
                  have hn9 := gI_n hD (((E_67.tr E_79)).1 _ _ aa_71) a_r3_88
                  subst hn9
                  have a_r3_1 := a_r3_88
                  obtain rfl := fe_i (hq_88 4 (by decide))
                  obtain rfl := fe_r (hq_88 5 (by decide))
                  have hn9 := gI_n hD (((E_67.tr E_79)).1 _ _ aa_72) a_r5_88
                  subst hn9
                  have a_r5_1 := a_r5_88
                  obtain rfl := fe_r (hq_88 6 (by decide))
                  have hn9 := gI_n hD (((E_67.tr E_79)).1 _ _ aa_73) a_r6_88
                  subst hn9
                  have a_r6_1 := a_r6_88
                  obtain rfl := fe_r (hq_88 7 (by decide))
                  have hn9 := gI_n hD (((E_67.tr E_79)).1 _ _ aa_74) a_r7_88
                  subst hn9
                  have a_r7_1 := a_r7_88
                  obtain rfl := fe_r (hq_88 8 (by decide))
                  have hn9 := gI_n hD (((E_67.tr E_79)).1 _ _ aa_75) a_r8_88
                  subst hn9
                  have a_r8_1 := a_r8_88
                  obtain rfl := fe_i (hq_88 11 (by decide))
                  refine va_get (D := gD g) (ci := 7) (v := .int c9_88) (C := RX8) (T := TX8) (N := 15) hx hb hts inX8 hown hK hP k_1 hk_88 rfl 9 (by decide) (hts _ kw_1465) (fun _ h9 => h9) rfl dX8_copyFrom_85 ?_
                  refine lv_icmp_ge (tgt := 125) hx hb dX8_copyFrom_88 (by decide) (fun c_89 => ?_) (fun c_89 => ?_)
                  · refine W.widen (k := 0) (n := 0) (Nat.le_of_ble_eq_true rfl) (Nat.le_of_ble_eq_true rfl) ?_
                    exact W.vret hx hb hr (fun t9 ht9 hW9 => ⟨⟨ws_78, rfl, trivial, ⟨(E_5.tr (E_18.tr (E_23.tr (E_39.tr (E_51.tr (E_67.tr E_79)))))), (gF.tr (gF.mo (F' := [(7, 2), (7, 4), (7, 9), (7, 11)]) (C' := [(7, 0), (7, 1), (7, 3), (7, 5), (7, 6), (7, 7), (7, 8)]) (S' := (some h0)) Fr_6 (by decide) (fun _ h => absurd h List.not_mem_nil) (Or.inr rfl)) (gF.tr (gF.mo (F' := [(7, 2), (7, 4), (7, 9), (7, 11)]) (C' := [(7, 0), (7, 1), (7, 3), (7, 5), (7, 6), (7, 7), (7, 8)]) (S' := (some h0)) Fr_19 (by decide) (fun _ h => absurd h List.not_mem_nil) (Or.inr rfl)) (gF.tr (gF.mo (F' := [(7, 2), (7, 4), (7, 9), (7, 11)]) (C' := [(7, 0), (7, 1), (7, 3), (7, 5), (7, 6), (7, 7), (7, 8)]) (S' := (some h0)) Fr_24 (by decide) (by decide) (Or.inr rfl)) (gF.tr (gF.mo (F' := [(7, 2), (7, 4), (7, 9), (7, 11)]) (C' := [(7, 0), (7, 1), (7, 3), (7, 5), (7, 6), (7, 7), (7, 8)]) (S' := (some h0)) Fr_40 (by decide) (fun _ h => absurd h List.not_mem_nil) (Or.inr rfl)) (gF.tr (gF.mo (F' := [(7, 2), (7, 4), (7, 9), (7, 11)]) (C' := [(7, 0), (7, 1), (7, 3), (7, 5), (7, 6), (7, 7), (7, 8)]) (S' := (some h0)) Fr_52 (by decide) (by decide) (Or.inr rfl)) (gF.tr (gF.mo (F' := [(7, 2), (7, 4), (7, 9), (7, 11)]) (C' := [(7, 0), (7, 1), (7, 3), (7, 5), (7, 6), (7, 7), (7, 8)]) (S' := (some h0)) Fr_68 (by decide) (fun _ h => absurd h List.not_mem_nil) (Or.inr rfl)) (gF.mo (F' := [(7, 2), (7, 4), (7, 9), (7, 11)]) (C' := [(7, 0), (7, 1), (7, 3), (7, 5), (7, 6), (7, 7), (7, 8)]) (S' := (some h0)) Fr_80 (by decide) (by decide) (Or.inr rfl)))))))), hG, by rw [ht9]; exact hP, hD⟩⟩, hS.F ht9⟩) hS.2.2 dX8_copyFrom_125
                  · refine lv_aload_n hx hb dX8_copyFrom_91 rfl (lv_at hl 0 rfl) ?_
                    refine lv_aload_n hx hb dX8_copyFrom_92 rfl (lv_at hl 1 rfl) ?_
                    refine va_get (D := gD g) (ci := 7) (v := .ref r5_1) (C := RX8) (T := TX8) (N := 15) hx hb hts inX8 hown hK hP k_1 hk_88 rfl 5 (by decide) (hts _ kw_1466) (fun _ h9 => h9) rfl dX8_copyFrom_93 ?_
                    refine lv_iload_n hx hb dX8_copyFrom_96 rfl (lv_at hl 2 rfl) ?_
                    obtain ⟨k_90, f_90, hk_90⟩ := gI_of a_r5_1
                    refine va_iald hx hb hK hP k_90 1 hk_90 rfl (i_in2 (by have e0 : (0 : Int32).toInt = 0 := (by decide); have q_f7_1 := f7_1; have q_f23_1 := f23_1; have q_f24_1 := f24_1; have q_f25_1 := f25_1; have q_f27_1 := f27_1; have q_f29_1 := f29_1; have q_f_14 := f_14; have q_f_35 := f_35; have q_f_63 := f_63; have q_iv_77 := iv_77; have q_f27_88 := f27_88; have q_c_89 := i_nle c_89; have q_f9_1 := f9_1; have q_f11_1 := f11_1; have q_f13_1 := f13_1; have q_f26_1 := f26_1; have q_f26_88 := f26_88; have g_c9_1 := i_rg c9_1; have g_c9_88 := i_rg c9_88; have g_v2_76 := i_rg v2_76; omega)) dX8_copyFrom_97 ?_
                    refine lv_topi (fun z_91 ez_91 => ?_)
                    refine lv_aload_n hx hb dX8_copyFrom_98 rfl (lv_at hl 1 rfl) ?_
                    refine va_get (D := gD g) (ci := 7) (v := .ref r6_1) (C := RX8) (T := TX8) (N := 15) hx hb hts inX8 hown hK hP k_1 hk_88 rfl 6 (by decide) (hts _ kw_1467) (fun _ h9 => h9) rfl dX8_copyFrom_99 ?_
                    refine lv_iload_n hx hb dX8_copyFrom_102 rfl (lv_at hl 2 rfl) ?_
                    obtain ⟨k_92, f_92, hk_92⟩ := gI_of a_r6_1
                    refine va_iald hx hb hK hP k_92 1 hk_92 rfl (i_in2 (by have e0 : (0 : Int32).toInt = 0 := (by decide); have q_f9_1 := f9_1; have q_f23_1 := f23_1; have q_f_14 := f_14; have q_f_35 := f_35; have q_f_63 := f_63; have q_iv_77 := iv_77; have q_c_89 := i_nle c_89; have q_f7_1 := f7_1; have q_f24_1 := f24_1; have q_f25_1 := f25_1; have q_f27_1 := f27_1; have q_f29_1 := f29_1; have q_f26_88 := f26_88; have q_f27_88 := f27_88; have g_c9_1 := i_rg c9_1; have g_c9_88 := i_rg c9_88; have g_v2_76 := i_rg v2_76; omega)) dX8_copyFrom_103 ?_
                    refine lv_topi (fun z_93 ez_93 => ?_)
                    refine lv_aload_n hx hb dX8_copyFrom_104 rfl (lv_at hl 1 rfl) ?_
                    refine va_get (D := gD g) (ci := 7) (v := .ref r7_1) (C := RX8) (T := TX8) (N := 15) hx hb hts inX8 hown hK hP k_1 hk_88 rfl 7 (by decide) (hts _ kw_1468) (fun _ h9 => h9) rfl dX8_copyFrom_105 ?_
                    refine lv_iload_n hx hb dX8_copyFrom_108 rfl (lv_at hl 2 rfl) ?_
                    obtain ⟨k_94, f_94, hk_94⟩ := gI_of a_r7_1
                    refine va_iald hx hb hK hP k_94 1 hk_94 rfl (i_in2 (by have e0 : (0 : Int32).toInt = 0 := (by decide); have q_f11_1 := f11_1; have q_f24_1 := f24_1; have q_f_14 := f_14; have q_f_35 := f_35; have q_f_63 := f_63; have q_iv_77 := iv_77; have q_c_89 := i_nle c_89; have q_f7_1 := f7_1; have q_f23_1 := f23_1; have q_f25_1 := f25_1; have q_f27_1 := f27_1; have q_f29_1 := f29_1; have q_f26_88 := f26_88; have q_f27_88 := f27_88; have g_c9_1 := i_rg c9_1; have g_c9_88 := i_rg c9_88; have g_v2_76 := i_rg v2_76; omega)) dX8_copyFrom_109 ?_
                    refine lv_topi (fun z_95 ez_95 => ?_)
                    refine lv_aload_n hx hb dX8_copyFrom_110 rfl (lv_at hl 1 rfl) ?_
                    refine va_get (D := gD g) (ci := 7) (v := .ref r8_1) (C := RX8) (T := TX8) (N := 15) hx hb hts inX8 hown hK hP k_1 hk_88 rfl 8 (by decide) (hts _ kw_1469) (fun _ h9 => h9) rfl dX8_copyFrom_111 ?_
                    refine lv_iload_n hx hb dX8_copyFrom_114 rfl (lv_at hl 2 rfl) ?_
                    obtain ⟨k_96, f_96, hk_96⟩ := gI_of a_r8_1
                    refine va_iald hx hb hK hP k_96 1 hk_96 rfl (i_in2 (by have e0 : (0 : Int32).toInt = 0 := (by decide); have q_f13_1 := f13_1; have q_f25_1 := f25_1; have q_f_14 := f_14; have q_f_35 := f_35; have q_f_63 := f_63; have q_iv_77 := iv_77; have q_c_89 := i_nle c_89; have q_f7_1 := f7_1; have q_f23_1 := f23_1; have q_f24_1 := f24_1; have q_f27_1 := f27_1; have q_f29_1 := f29_1; have q_f26_88 := f26_88; have q_f27_88 := f27_88; have g_c9_1 := i_rg c9_1; have g_c9_88 := i_rg c9_88; have g_v2_76 := i_rg v2_76; omega)) dX8_copyFrom_115 ?_
                    refine lv_topi (fun z_97 ez_97 => ?_)
                    have hFc := gfree hD hS hA
                    obtain ⟨k_98, fs_98, hk_98⟩ := gC_of o_h0
                    refine va_callv (va_runV (As := [.int z_91, .int z_93, .int z_95, .int z_97]) (rest := []) ⟨hx, hb, hml, hown, hts⟩ (m_X8_addCatch l g H.size ws_78 h0 (z_91) (z_93) (z_95) (z_97) hG o_h0) (cwV 4 hts (gd_V kw_1491 kw_1463 kw_1464 kw_782 kw_1462) rfl rfl rfl (by decide +kernel) ⟨Nat.le_of_ble_eq_true rfl, Nat.le_of_ble_eq_true rfl⟩) ⟨gblind, va_recv hK hP (ci := 7) (q0 := k_98) rfl hk_98, fun U hU hW9 => gmk hU hW9 hP hK hD hex hE hS hFc⟩ rfl rfl hl.1 rfl (lv_room (Nat.le_of_ble_eq_true rfl)) dX8_copyFrom_116 ⟨Nat.le_of_ble_eq_true rfl, Nat.le_of_ble_eq_true rfl⟩) hS (fun q _ h => hFc q h) hFc (fun  ws_99 t9 H1 locs ht9 hvm9 hw9 hB9 hz9 hk9 hS => ?_)
                    obtain ⟨E_100, Fr_101, hG, hP1, hD1⟩ := hB9
                    have hP : va_P (gD g) cl0 ws_99 H1 := by rw [← ht9]; exact hP1
                    have hD : va_D A ws_99 := hD1.weaken (fun _ _ _ h => hFc _ h)
                    clear hP1 hD1 hz9 hk9 hvm9 ht9 hw9
                    generalize H1 = H at hP hS ⊢
                    have aa_104 := a_r0_1
                    have aa_105 := a_r1_1
                    have aa_106 := a_r3_1
                    have aa_107 := a_r5_1
                    have aa_108 := a_r6_1
                    have aa_109 := a_r7_1
                    have aa_110 := a_r8_1
                    have o_h0 := E_100.1 _ _ o_h0
                    have o_b1 := E_100.1 _ _ o_b1
                    obtain ⟨z_111, ez_111⟩ : ∃ z : Int32, v2_76 + Int32.ofInt 1 = z := ⟨_, rfl⟩
                    refine lv_iinc (v := z_111) (lv' := [(2, .int z_111), (0, .ref h0), (1, .ref b1)]) hx hb dX8_copyFrom_119 hl (k := 2) rfl ez_111 (by decide) rfl (fun ls hl => ?_)
                    refine lv_goto (tgt := 83) hx hb dX8_copyFrom_122 (by decide) ?_
                    exact ih_83 _ (by have e0 : (0 : Int32).toInt = 0 := (by decide); have q_f_14 := f_14; have q_f_35 := f_35; have q_f_63 := f_63; obtain ⟨u_z_111, q_z_111⟩ := i_iz ez_111 (by decide) (by decide); have q_iv_77 := iv_77; have q_c_89 := i_nle c_89; have g_c9_88 := i_rg c9_88; have g_v2_76 := i_rg v2_76; have g_z_111 := i_rg z_111; omega) (z_111) ws_99 H locs ls rfl (by have e0 : (0 : Int32).toInt = 0 := (by decide); have q_f_14 := f_14; have q_f_35 := f_35; have q_f_63 := f_63; obtain ⟨u_z_111, q_z_111⟩ := i_iz ez_111 (by decide) (by decide); have q_iv_77 := iv_77; have q_c_89 := i_nle c_89; have g_c9_88 := i_rg c9_88; have g_v2_76 := i_rg v2_76; have g_z_111 := i_rg z_111; omega) ((E_79.tr E_100)) ((gF.tr Fr_80 Fr_101)) hG hP hD hS (lv_sub hl [1, 2, 0] rfl)
              exact J_83 _ (0) ws_66 H locs ls rfl (by have e0 : (0 : Int32).toInt = 0 := (by decide); have q_f_14 := f_14; have q_f_35 := f_35; have q_f_63 := f_63; omega) (gE.rf) (gF.rf) hG hP hD hS (lv_sub hl [1, 2, 0] rfl)
            · refine lv_aload_n hx hb dX8_copyFrom_60 rfl (lv_at hl 0 rfl) ?_
              refine lv_aload_n hx hb dX8_copyFrom_61 rfl (lv_at hl 1 rfl) ?_
              refine va_get (D := gD g) (ci := 7) (v := .ref r3_1) (C := RX8) (T := TX8) (N := 15) hx hb hts inX8 hown hK hP k_1 hk_60 rfl 3 (by decide) (hts _ kw_1474) (fun _ h9 => h9) rfl dX8_copyFrom_62 ?_
              refine lv_iload_n hx hb dX8_copyFrom_65 rfl (lv_at hl 2 rfl) ?_
              obtain ⟨k_112, f_112, hk_112⟩ := gI_of a_r3_1
              refine va_iald hx hb hK hP k_112 1 hk_112 rfl (i_in2 (by have e0 : (0 : Int32).toInt = 0 := (by decide); have q_f5_1 := f5_1; have q_f22_1 := f22_1; have q_f28_1 := f28_1; have q_f_14 := f_14; have q_f_35 := f_35; have q_iv_49 := iv_49; have q_f22_60 := f22_60; have q_c_61 := i_nle c_61; have q_f21_1 := f21_1; have q_f21_60 := f21_60; have g_c4_1 := i_rg c4_1; have g_c4_60 := i_rg c4_60; have g_v2_48 := i_rg v2_48; omega)) dX8_copyFrom_66 ?_
              refine lv_topi (fun z_113 ez_113 => ?_)
              have hFc := gfree hD hS hA
              obtain ⟨k_114, fs_114, hk_114⟩ := gC_of o_h0
              refine va_callv (va_runV (As := [.int z_113]) (rest := []) ⟨hx, hb, hml, hown, hts⟩ (m_X8_addToTable l g H.size ws_50 h0 (z_113) hG o_h0) (cwV 1 hts (gd_V kw_1490 kw_1471 kw_1472 kw_782 kw_1470) rfl rfl rfl (by decide +kernel) ⟨Nat.le_of_ble_eq_true rfl, Nat.le_of_ble_eq_true rfl⟩) ⟨gblind, va_recv hK hP (ci := 7) (q0 := k_114) rfl hk_114, fun U hU hW9 => gmk hU hW9 hP hK hD hex hE hS hFc⟩ rfl rfl hl.1 rfl (lv_room (Nat.le_of_ble_eq_true rfl)) dX8_copyFrom_67 ⟨Nat.le_of_ble_eq_true rfl, Nat.le_of_ble_eq_true rfl⟩) hS (fun q _ h => hFc q h) hFc (fun  ws_115 t9 H1 locs ht9 hvm9 hw9 hB9 hz9 hk9 hS => ?_)
              obtain ⟨E_116, Fr_117, hG, hP1, hD1⟩ := hB9
              have hP : va_P (gD g) cl0 ws_115 H1 := by rw [← ht9]; exact hP1
              have hD : va_D A ws_115 := hD1.weaken (fun _ _ _ h => hFc _ h)
              clear hP1 hD1 hz9 hk9 hvm9 ht9 hw9
              generalize H1 = H at hP hS ⊢
              have aa_120 := a_r0_1
              have aa_121 := a_r1_1
              have aa_122 := a_r3_1
              have aa_123 := a_r5_1
              have aa_124 := a_r6_1
              have aa_125 := a_r7_1
              have aa_126 := a_r8_1
              have o_h0 := E_116.1 _ _ o_h0
              have o_b1 := E_116.1 _ _ o_b1
              obtain ⟨z_127, ez_127⟩ : ∃ z : Int32, v2_48 + Int32.ofInt 1 = z := ⟨_, rfl⟩
              refine lv_iinc (v := z_127) (lv' := [(2, .int z_127), (0, .ref h0), (1, .ref b1)]) hx hb dX8_copyFrom_70 hl (k := 2) rfl ez_127 (by decide) rfl (fun ls hl => ?_)
              refine lv_goto (tgt := 52) hx hb dX8_copyFrom_73 (by decide) ?_
              exact ih_52 _ (by have e0 : (0 : Int32).toInt = 0 := (by decide); have q_f_14 := f_14; have q_f_35 := f_35; obtain ⟨u_z_127, q_z_127⟩ := i_iz ez_127 (by decide) (by decide); have q_iv_49 := iv_49; have q_c_61 := i_nle c_61; have g_c4_60 := i_rg c4_60; have g_v2_48 := i_rg v2_48; have g_z_127 := i_rg z_127; omega) (z_127) ws_115 H locs ls rfl (by have e0 : (0 : Int32).toInt = 0 := (by decide); have q_f_14 := f_14; have q_f_35 := f_35; obtain ⟨u_z_127, q_z_127⟩ := i_iz ez_127 (by decide) (by decide); have q_iv_49 := iv_49; have q_c_61 := i_nle c_61; have g_c4_60 := i_rg c4_60; have g_v2_48 := i_rg v2_48; have g_z_127 := i_rg z_127; omega) ((E_51.tr E_116)) ((gF.tr Fr_52 Fr_117)) hG hP hD hS (lv_sub hl [1, 2, 0] rfl)
        exact J_52 _ (0) ws_38 H locs ls rfl (by have e0 : (0 : Int32).toInt = 0 := (by decide); have q_f_14 := f_14; have q_f_35 := f_35; omega) (gE.rf) (gF.rf) hG hP hD hS (lv_sub hl [1, 2, 0] rfl)
      · refine lv_aload_n hx hb dX8_copyFrom_23 rfl (lv_at hl 0 rfl) ?_
        refine lv_aload_n hx hb dX8_copyFrom_24 rfl (lv_at hl 1 rfl) ?_
        refine va_get (D := gD g) (ci := 7) (v := .ref r0_1) (C := RX8) (T := TX8) (N := 15) hx hb hts inX8 hown hK hP k_1 hk_32 rfl 0 (by decide) (hts _ kw_1460) (fun _ h9 => h9) rfl dX8_copyFrom_25 ?_
        refine lv_iload_n hx hb dX8_copyFrom_28 rfl (lv_at hl 2 rfl) ?_
        obtain ⟨k_128, f_128, hk_128⟩ := gI_of a_r0_1
        refine va_iald hx hb hK hP k_128 1 hk_128 rfl (i_in2 (by have e0 : (0 : Int32).toInt = 0 := (by decide); have q_f1_1 := f1_1; have q_f17_1 := f17_1; have q_f18_1 := f18_1; have q_f20_1 := f20_1; have q_f_14 := f_14; have q_iv_21 := iv_21; have q_f20_32 := f20_32; have q_c_33 := i_nle c_33; have q_f3_1 := f3_1; have q_f19_1 := f19_1; have q_f19_32 := f19_32; have g_c2_1 := i_rg c2_1; have g_c2_32 := i_rg c2_32; have g_v2_20 := i_rg v2_20; omega)) dX8_copyFrom_29 ?_
        refine lv_topi (fun z_129 ez_129 => ?_)
        refine lv_aload_n hx hb dX8_copyFrom_30 rfl (lv_at hl 1 rfl) ?_
        refine va_get (D := gD g) (ci := 7) (v := .ref r1_1) (C := RX8) (T := TX8) (N := 15) hx hb hts inX8 hown hK hP k_1 hk_32 rfl 1 (by decide) (hts _ kw_1478) (fun _ h9 => h9) rfl dX8_copyFrom_31 ?_
        refine lv_iload_n hx hb dX8_copyFrom_34 rfl (lv_at hl 2 rfl) ?_
        obtain ⟨k_130, f_130, hk_130⟩ := gJ_of a_r1_1
        refine va_lald hx hb hK hP k_130 3 hk_130 rfl (i_in2 (by have e0 : (0 : Int32).toInt = 0 := (by decide); have q_f3_1 := f3_1; have q_f17_1 := f17_1; have q_f_14 := f_14; have q_iv_21 := iv_21; have q_c_33 := i_nle c_33; have q_f1_1 := f1_1; have q_f18_1 := f18_1; have q_f20_1 := f20_1; have q_f19_32 := f19_32; have q_f20_32 := f20_32; have g_c2_1 := i_rg c2_1; have g_c2_32 := i_rg c2_32; have g_v2_20 := i_rg v2_20; omega)) dX8_copyFrom_35 ?_
        refine lv_topl (fun z_131 ez_131 => ?_)
        have hFc := gfree hD hS hA
        obtain ⟨k_132, fs_132, hk_132⟩ := gC_of o_h0
        refine va_callv (va_runV (As := [.int z_129, .long z_131]) (rest := []) ⟨hx, hb, hml, hown, hts⟩ (m_X8_add l g H.size ws_22 h0 (z_129) (z_131) hG o_h0) (cwV 2 hts (gd_V kw_1489 kw_1457 kw_1458 kw_782 kw_1456) rfl rfl rfl (by decide +kernel) ⟨Nat.le_of_ble_eq_true rfl, Nat.le_of_ble_eq_true rfl⟩) ⟨gblind, va_recv hK hP (ci := 7) (q0 := k_132) rfl hk_132, fun U hU hW9 => gmk hU hW9 hP hK hD hex hE hS hFc⟩ rfl rfl hl.1 rfl (lv_room (Nat.le_of_ble_eq_true rfl)) dX8_copyFrom_36 ⟨Nat.le_of_ble_eq_true rfl, Nat.le_of_ble_eq_true rfl⟩) hS (fun q _ h => hFc q h) hFc (fun  ws_133 t9 H1 locs ht9 hvm9 hw9 hB9 hz9 hk9 hS => ?_)
        obtain ⟨E_134, Fr_135, hG, hP1, hD1⟩ := hB9
        have hP : va_P (gD g) cl0 ws_133 H1 := by rw [← ht9]; exact hP1
        have hD : va_D A ws_133 := hD1.weaken (fun _ _ _ h => hFc _ h)
        clear hP1 hD1 hz9 hk9 hvm9 ht9 hw9
        generalize H1 = H at hP hS ⊢
        have aa_138 := a_r0_1
        have aa_139 := a_r1_1
        have aa_140 := a_r3_1
        have aa_141 := a_r5_1
        have aa_142 := a_r6_1
        have aa_143 := a_r7_1
        have aa_144 := a_r8_1
        have o_h0 := E_134.1 _ _ o_h0
        have o_b1 := E_134.1 _ _ o_b1
        obtain ⟨z_145, ez_145⟩ : ∃ z : Int32, v2_20 + Int32.ofInt 1 = z := ⟨_, rfl⟩
        refine lv_iinc (v := z_145) (lv' := [(2, .int z_145), (0, .ref h0), (1, .ref b1)]) hx hb dX8_copyFrom_39 hl (k := 2) rfl ez_145 (by decide) rfl (fun ls hl => ?_)
        refine lv_goto (tgt := 15) hx hb dX8_copyFrom_42 (by decide) ?_
        exact ih_15 _ (by have e0 : (0 : Int32).toInt = 0 := (by decide); have q_f_14 := f_14; obtain ⟨u_z_145, q_z_145⟩ := i_iz ez_145 (by decide) (by decide); have q_iv_21 := iv_21; have q_c_33 := i_nle c_33; have g_c2_32 := i_rg c2_32; have g_v2_20 := i_rg v2_20; have g_z_145 := i_rg z_145; omega) (z_145) ws_133 H locs ls rfl (by have e0 : (0 : Int32).toInt = 0 := (by decide); have q_f_14 := f_14; obtain ⟨u_z_145, q_z_145⟩ := i_iz ez_145 (by decide) (by decide); have q_iv_21 := iv_21; have q_c_33 := i_nle c_33; have g_c2_32 := i_rg c2_32; have g_v2_20 := i_rg v2_20; have g_z_145 := i_rg z_145; omega) ((E_23.tr E_134)) ((gF.tr Fr_24 Fr_135)) hG hP hD hS (lv_sub hl [1, 2, 0] rfl)
  exact J_15 _ (0) ws_17 H locs ls rfl (by have e0 : (0 : Int32).toInt = 0 := (by decide); have q_f_14 := f_14; omega) (gE.rf) (gF.rf) hG hP hD hS (lv_sub hl [1, 2, 0] rfl)
set_option maxHeartbeats 1000000 in
set_option maxRecDepth 100000 in
theorem m_X8_remove (l : Launch) (g : Gm) (sz : Nat) (ws : va_W) (h0 : Nat) (x1 : Int32) (x2 : Int32) (hG : Good g ws) (o_h0 : gC ws h0 7) (px : x1.toInt ≤ 100000) (pn : x2.toInt ≤ 3) : Met l yX8_remove (wt yX8_remove cX8_remove 7 none) ({ frames := 2, cells := 0, slots := 0, locals := 48 }) (va_Pc [.ref h0, .int x1, .int x2] (st_G g sz ws)) (va_Qv (fun (u9 : va_W) => True) (gQ1 g [(7, 2), (7, 9)] [(7, 0), (7, 1), (7, 3), (7, 5), (7, 6), (7, 7), (7, 8)] (some h0) (va_A ws sz) ws) (va_A ws sz)) (0) (0) (va_A ws sz) := by
  refine Met.ofW (cc := cX8_remove) (maxL := 7) (ret := none) (by decide) rfl ?_
  intro p e s m args below meth c s₁ B hml hv
  obtain ⟨rfl, hsz, hP, hK, hD0, hex, hE⟩ := hv
  have hx := B.exec
  have hb := B.bytes
  have hr := B.returns
  have hts0 := atoms_spec (ws := wt yX8_remove cX8_remove 7 none) B.pre
  have hts : ∀ w ∈ tb, w.before _ s = true := fun w h => hts0 w (List.mem_cons_of_mem _ h)
  have hown : s.vm.findClass RX8 = some m.cls := findClass_of_methodNamed B.named
  subst hsz
  have hD := hD0.self (sz := s.heap.size)
  generalize hAe : va_A ws s.heap.size = A at hD hE ⊢
  have hA : ∀ q : Nat, s.heap.size ≤ q → A q := fun q h => by rw [← hAe]; exact Or.inr h
  have hS : va_S A s.heap s.heap [] := va_S.rf
  have hl := lv_entry ([.ref h0, .int x1, .int x2]) (n := 7) (Nat.le_of_ble_eq_true rfl)
  rw [lg_entry_eq]
  generalize (lg_sl ([.ref h0, .int x1, .int x2]) ++ List.replicate (7 - (lg_sl ([.ref h0, .int x1, .int x2])).length) Slot.unset).toArray = ls at hl ⊢
  have hl : lv_has ls 7 [(0, .ref h0), (1, .int x1), (2, .int x2)] := hl
  refine lv_iload_n hx hb dX8_remove_0 rfl (lv_at hl 1 rfl) ?_
  have J_18 : ∀  (H : Heap) (locs : List Loc) (ls : Array Slot), va_P (gD g) cl0 ws H → va_D A ws → va_S A s.heap H locs → lv_has ls 7 [] → W p l e (headSpec (wt yX8_remove cX8_remove 7 none) ({ frames := 2, cells := 0, slots := 0, locals := 48 })).room s m ([.ref h0, .int x1, .int x2] : List Value).toArray below meth c H locs (0) (0) (MQ below (va_Qv (fun (u9 : va_W) => True) (gQ1 g [(7, 2), (7, 9)] [(7, 0), (7, 1), (7, 3), (7, 5), (7, 6), (7, 7), (7, 8)] (some h0) A ws) A) ([.ref h0, .int x1, .int x2] : List Value).toArray s (0) (0) A) (F0 m 18 ls []) := by
    intro  H locs ls  hP hD hS hl
    refine W.widen (k := 0) (n := 0) (Nat.le_of_ble_eq_true rfl) (Nat.le_of_ble_eq_true rfl) ?_
    exact W.vret hx hb hr (fun t9 ht9 hW9 => ⟨⟨ws, rfl, trivial, ⟨gE.rf, gF.rf, hG, by rw [ht9]; exact hP, hD⟩⟩, hS.F ht9⟩) hS.2.2 dX8_remove_18
  refine lv_if_lt (tgt := 18) hx hb dX8_remove_1 (by decide) (fun c_3 => ?_) (fun c_3 => ?_)
  · exact J_18  _ _ ls  hP hD hS (lv_sub hl [] rfl)
  · refine lv_iload_n hx hb dX8_remove_4 rfl (lv_at hl 2 rfl) ?_
    refine lv_if_le (tgt := 18) hx hb dX8_remove_5 (by decide) (fun c_4 => ?_) (fun c_4 => ?_)
    · exact J_18  _ _ ls  hP hD hS (lv_sub hl [] rfl)
    · refine lv_iload_n hx hb dX8_remove_8 rfl (lv_at hl 1 rfl) ?_
      refine lv_iload_n hx hb dX8_remove_9 rfl (lv_at hl 2 rfl) ?_
      refine lv_iadd hx hb dX8_remove_10 ?_
      refine lv_topi (fun z_5 ez_5 => ?_)
      refine lv_aload_n hx hb dX8_remove_11 rfl (lv_at hl 0 rfl) ?_
      obtain ⟨k_6, fs9, hk_6⟩ := gC_of o_h0
      obtain ⟨r0_6, n0_6, r1_6, n1_6, c2_6, r3_6, n3_6, c4_6, r5_6, n5_6, r6_6, n6_6, r7_6, n7_6, r8_6, n8_6, c9_6, c10_6, c11_6, v12_6, v13_6, v14_6, rfl, a_r0_6, f1_6, a_r1_6, f3_6, a_r3_6, f5_6, a_r5_6, f7_6, a_r6_6, f9_6, a_r7_6, f11_6, a_r8_6, f13_6, o_v12_6, o_v13_6, o_v14_6, f17_6, f18_6, f19_6, f20_6, f21_6, f22_6, f23_6, f24_6, f25_6, f26_6, f27_6, f28_6, f29_6, -⟩ := (hG.1 _ _ _ _ hk_6).hX8 rfl
      refine va_get (D := gD g) (ci := 7) (v := .int c2_6) (C := RX8) (T := TX8) (N := 15) hx hb hts inX8 hown hK hP k_6 hk_6 rfl 2 (by decide) (hts _ kw_1459) (fun _ h9 => h9) rfl dX8_remove_12 ?_
      refine lv_icmp_le (tgt := 19) hx hb dX8_remove_15 (by decide) (fun c_7 => ?_) (fun c_7 => ?_)
      · refine lv_iload_n hx hb dX8_remove_19 rfl (lv_at hl 1 rfl) ?_
        refine lv_istore_n (lv' := [(3, .int x1), (0, .ref h0), (1, .int x1), (2, .int x2)]) hx hb dX8_remove_20 rfl hl (by decide) rfl (fun ls hl => ?_)
        have J_21 : ∀ (n9 : Nat) (v3_8 : Int32) (ws_11 : va_W) (H : Heap) (locs : List Loc) (ls : Array Slot), (2147483647 - v3_8.toInt).toNat = n9 → 0 ≤ v3_8.toInt → v3_8.toInt ≤ 100000 → gE ws ws_11 → gF [] [(7, 0), (7, 1)] (some h0) ws ws_11 → Good g ws_11 → va_P (gD g) cl0 ws_11 H → va_D A ws_11 → va_S A s.heap H locs → lv_has ls 7 [(0, .ref h0), (1, .int x1), (2, .int x2), (3, .int v3_8)] → W p l e (headSpec (wt yX8_remove cX8_remove 7 none) ({ frames := 2, cells := 0, slots := 0, locals := 48 })).room s m ([.ref h0, .int x1, .int x2] : List Value).toArray below meth c H locs (0) (0) (MQ below (va_Qv (fun (u9 : va_W) => True) (gQ1 g [(7, 2), (7, 9)] [(7, 0), (7, 1), (7, 3), (7, 5), (7, 6), (7, 7), (7, 8)] (some h0) A ws) A) ([.ref h0, .int x1, .int x2] : List Value).toArray s (0) (0) A) (F0 m 21 ls []) := by
          intro n9
          induction n9 using Nat.strongRecOn with
          | ind n9 ih_21 =>
            intro v3_8 ws_11 H locs ls hm9 iv_9 iv_10 E_12 Fr_13 hG hP hD hS hl
            subst hm9
            have aa_14 := a_r0_6
            have aa_15 := a_r1_6
            have aa_16 := a_r3_6
            have aa_17 := a_r5_6
            have aa_18 := a_r6_6
            have aa_19 := a_r7_6
            have aa_20 := a_r8_6
            have o_h0 := E_12.1 _ _ o_h0
            refine lv_iload_n hx hb dX8_remove_21 rfl (lv_at hl 3 rfl) ?_
            refine lv_iload_n hx hb dX8_remove_22 rfl (lv_at hl 2 rfl) ?_
            refine lv_iadd hx hb dX8_remove_23 ?_
            refine lv_topi (fun z_21 ez_21 => ?_)
            refine lv_aload_n hx hb dX8_remove_24 rfl (lv_at hl 0 rfl) ?_
            obtain ⟨fs9, hk_22, hq_22⟩ := ((gF.a (F' := []) Fr_13 (fun _ h => h))) _ _ _ hk_6
            obtain ⟨r0_22, n0_22, r1_22, n1_22, c2_22, r3_22, n3_22, c4_22, r5_22, n5_22, r6_22, n6_22, r7_22, n7_22, r8_22, n8_22, c9_22, c10_22, c11_22, v12_22, v13_22, v14_22, rfl, a_r0_22, f1_22, a_r1_22, f3_22, a_r3_22, f5_22, a_r5_22, f7_22, a_r6_22, f9_22, a_r7_22, f11_22, a_r8_22, f13_22, o_v12_22, o_v13_22, o_v14_22, f17_22, f18_22, f19_22, f20_22, f21_22, f22_22, f23_22, f24_22, f25_22, f26_22, f27_22, f28_22, f29_22, -⟩ := (hG.1 _ _ _ _ hk_22).hX8 rfl
            obtain rfl := fe_r (hq_22 0 (by decide))
            have hn9 := gI_n hD ((E_12).1 _ _ aa_14) a_r0_22
            subst hn9
            have a_r0_6 := a_r0_22
            obtain rfl := fe_r (hq_22 1 (by decide))
            have hn9 := gI_n hD ((E_12).1 _ _ aa_15) a_r1_22
            subst hn9
            have a_r1_6 := a_r1_22
            obtain rfl := fe_i (hq_22 2 (by decide))
            obtain rfl := fe_r (hq_22 5 (by decide))
            have hn9 := gI_n hD ((E_12).1 _ _ aa_17) a_r5_22
            subst hn9
            have a_r5_6 := a_r5_22
            obtain rfl := fe_r (hq_22 6 (by decide))
            have hn9 := gI_n hD ((E_12).1 _ _ aa_18) a_r6_22
            subst hn9
            have a_r6_6 := a_r6_22
            obtain rfl := fe_r (hq_22 7 (by decide))
            have hn9 := gI_n hD ((E_12).1 _ _ aa_19) a_r7_22
            subst hn9
            have a_r7_6 := a_r7_22
            obtain rfl := fe_r (hq_22 8 (by decide))
            have hn9 := gI_n hD ((E_12).1 _ _ aa_20) a_r8_22
            subst hn9
            have a_r8_6 := a_r8_22
            obtain rfl := fe_i (hq_22 9 (by decide))
            refine va_get (D := gD g) (ci := 7) (v := .int c2_6) (C := RX8) (T := TX8) (N := 15) hx hb hts inX8 hown hK hP k_6 hk_22 rfl 2 (by decide) (hts _ kw_1459) (fun _ h9 => h9) rfl dX8_remove_25 ?_
            refine lv_icmp_ge (tgt := 65) hx hb dX8_remove_28 (by decide) (fun c_23 => ?_) (fun c_23 => ?_)
            · refine lv_aload_n hx hb dX8_remove_65 rfl (lv_at hl 0 rfl) ?_
              refine lv_dup hx hb dX8_remove_66 rfl ?_
              refine va_get (D := gD g) (ci := 7) (v := .int c2_6) (C := RX8) (T := TX8) (N := 15) hx hb hts inX8 hown hK hP k_6 hk_22 rfl 2 (by decide) (hts _ kw_1459) (fun _ h9 => h9) rfl dX8_remove_67 ?_
              refine lv_iload_n hx hb dX8_remove_70 rfl (lv_at hl 2 rfl) ?_
              refine lv_isub hx hb dX8_remove_71 ?_
              refine lv_topi (fun z_24 ez_24 => ?_)
              have hV9 : okv ws_11 7 2 (.int z_24) := okv_i
              refine va_put (D := gD g) (ci := 7) (v := .int z_24) (ty := .int) (C := RX8) (T := TX8) (N := 15) hx hb hts inX8 tyX8 tyX8_ok nmX8 hown hK hP hD hS k_6 hk_22 rfl 2 (by decide) (hts _ kw_1459) (fun _ h9 => h9) rfl (by decide +kernel) rfl rfl (Nat.le_of_ble_eq_true rfl) dX8_remove_72 (fun H locs hP hD hS => ?_)
              have f_25 : 0 ≤ z_24.toInt := (by have e0 : (0 : Int32).toInt = 0 := (by decide); obtain ⟨u_z_24, q_z_24⟩ := i_sub ez_24; have q_pn := pn; have q_c_4 := i_nle c_4; obtain ⟨u_z_5, q_z_5⟩ := i_add ez_5; have q_f19_6 := f19_6; have q_f20_6 := f20_6; have q_c_7 := i_le c_7; obtain ⟨u_z_21, q_z_21⟩ := i_add ez_21; have q_c_23 := i_le c_23; have q_px := px; have q_c_3 := i_nlt c_3; have q_f1_6 := f1_6; have q_f17_6 := f17_6; have q_f18_6 := f18_6; have q_iv_9 := iv_9; have q_iv_10 := iv_10; have g_c2_6 := i_rg c2_6; have g_v3_8 := i_rg v3_8; have g_x1 := i_rg x1; have g_x2 := i_rg x2; have g_z_21 := i_rg z_21; have g_z_24 := i_rg z_24; have g_z_5 := i_rg z_5; omega)
              have f_26 : z_24.toInt ≤ n0_6 := (by have e0 : (0 : Int32).toInt = 0 := (by decide); have q_f1_6 := f1_6; have q_f17_6 := f17_6; have q_f18_6 := f18_6; have q_f20_6 := f20_6; obtain ⟨u_z_24, q_z_24⟩ := i_sub ez_24; have q_f_25 := f_25; have q_pn := pn; have q_c_4 := i_nle c_4; obtain ⟨u_z_5, q_z_5⟩ := i_add ez_5; have q_f3_6 := f3_6; have q_f19_6 := f19_6; have q_c_7 := i_le c_7; obtain ⟨u_z_21, q_z_21⟩ := i_add ez_21; have q_c_23 := i_le c_23; have q_px := px; have q_c_3 := i_nlt c_3; have q_iv_9 := iv_9; have q_iv_10 := iv_10; have g_c2_6 := i_rg c2_6; have g_v3_8 := i_rg v3_8; have g_x1 := i_rg x1; have g_x2 := i_rg x2; have g_z_21 := i_rg z_21; have g_z_24 := i_rg z_24; have g_z_5 := i_rg z_5; omega)
              have hi_27 : invX8 g ws_11 h0 [.ref r0_6, .ref r1_6, .int z_24, .ref r3_22, .int c4_22, .ref r5_6, .ref r6_6, .ref r7_6, .ref r8_6, .int c9_6, .int c10_22, .int c11_22, va_rf v12_22, va_rf v13_22, va_rf v14_22] := ⟨r0_6, (n0_6), r1_6, (n1_6), (z_24), r3_22, (n3_22), (c4_22), r5_6, (n5_6), r6_6, (n6_6), r7_6, (n7_6), r8_6, (n8_6), (c9_6), (c10_22), (c11_22), v12_22, v13_22, v14_22, rfl, a_r0_6, f1_22, a_r1_6, f3_22, a_r3_22, f5_22, a_r5_6, f7_22, a_r6_6, f9_22, a_r7_6, f11_22, a_r8_6, f13_22, o_v12_22, o_v13_22, o_v14_22, f17_22, f18_22, f_25, f_26, f21_22, f22_22, f23_22, f24_22, f25_22, f26_22, f27_22, f28_22, f29_22, trivial⟩
              obtain ⟨ws_28, e_ws_28⟩ : ∃ z, z = ws_11.set k_6 (h0, .inr (7, [.ref r0_6, .ref r1_6, .int z_24, .ref r3_22, .int c4_22, .ref r5_6, .ref r6_6, .ref r7_6, .ref r8_6, .int c9_6, .int c10_22, .int c11_22, va_rf v12_22, va_rf v13_22, va_rf v14_22])) := ⟨_, rfl⟩
              have hP : va_P (gD g) cl0 ws_28 H := by rw [e_ws_28]; exact hP
              have hD : va_D A ws_28 := by rw [e_ws_28]; exact hD
              have E_29 : gE ws_11 ws_28 := gE_set e_ws_28 hk_22 (cw_o (fi := 2) (v := .int z_24) rfl (by decide))
              have hG : Good g ws_28 := Good_set (fi := 2) (v := .int z_24) e_ws_28 hk_22 E_29 rfl hV9 hG (ivX8 hi_27)
              have Fr_30 : gF [(7, 2)] [] (some h0) ws_11 ws_28 := gF_put (fi := 2) (v := .int z_24) e_ws_28 hk_22 rfl (by decide)
              have hkN := gset_self e_ws_28 hk_22
              have hk_22 := hkN
              have o_h0 := E_29.1 _ _ o_h0
              have a_r3_22 := E_29.1 _ _ a_r3_22
              have o_v12_22 : ∀ b, v12_22 = some b → ∃ n, gI ws_28 b g.cB n ∧ n < 2147483648 := fun b h => (o_v12_22 b h).imp (fun n h => ⟨E_29.1 _ _ h.1, h.2⟩)
              have o_v13_22 : ∀ b, v13_22 = some b → ∃ n, gJ ws_28 b g.cL n ∧ n < 2147483648 := fun b h => (o_v13_22 b h).imp (fun n h => ⟨E_29.1 _ _ h.1, h.2⟩)
              have o_v14_22 : ∀ b, v14_22 = some b → ∃ n, gJ ws_28 b g.cL n ∧ n < 2147483648 := fun b h => (o_v14_22 b h).imp (fun n h => ⟨E_29.1 _ _ h.1, h.2⟩)
              have a_r0_6 := E_29.1 _ _ a_r0_6
              have a_r1_6 := E_29.1 _ _ a_r1_6
              have a_r5_6 := E_29.1 _ _ a_r5_6
              have a_r6_6 := E_29.1 _ _ a_r6_6
              have a_r7_6 := E_29.1 _ _ a_r7_6
              have a_r8_6 := E_29.1 _ _ a_r8_6
              refine lv_iconst (v := 0) hx hb dX8_remove_75 (by decide) ?_
              refine lv_istore_n (lv' := [(3, .int 0), (0, .ref h0), (1, .int x1), (2, .int x2)]) hx hb dX8_remove_76 rfl hl (by decide) rfl (fun ls hl => ?_)
              have J_77 : ∀ (n9 : Nat) (v3_31 : Int32) (ws_33 : va_W) (H : Heap) (locs : List Loc) (ls : Array Slot), (2147483647 - v3_31.toInt).toNat = n9 → 0 ≤ v3_31.toInt → gE ws_28 ws_33 → gF [] [(7, 0), (7, 1), (7, 3)] (some h0) ws_28 ws_33 → Good g ws_33 → va_P (gD g) cl0 ws_33 H → va_D A ws_33 → va_S A s.heap H locs → lv_has ls 7 [(0, .ref h0), (1, .int x1), (2, .int x2), (3, .int v3_31)] → W p l e (headSpec (wt yX8_remove cX8_remove 7 none) ({ frames := 2, cells := 0, slots := 0, locals := 48 })).room s m ([.ref h0, .int x1, .int x2] : List Value).toArray below meth c H locs (0) (0) (MQ below (va_Qv (fun (u9 : va_W) => True) (gQ1 g [(7, 2), (7, 9)] [(7, 0), (7, 1), (7, 3), (7, 5), (7, 6), (7, 7), (7, 8)] (some h0) A ws) A) ([.ref h0, .int x1, .int x2] : List Value).toArray s (0) (0) A) (F0 m 77 ls []) := by
                intro n9
                induction n9 using Nat.strongRecOn with
                | ind n9 ih_77 =>
                  intro v3_31 ws_33 H locs ls hm9 iv_32 E_34 Fr_35 hG hP hD hS hl
                  subst hm9
                  have aa_36 := a_r0_6
                  have aa_37 := a_r1_6
                  have aa_38 := a_r3_22
                  have aa_39 := a_r5_6
                  have aa_40 := a_r6_6
                  have aa_41 := a_r7_6
                  have aa_42 := a_r8_6
                  have o_h0 := E_34.1 _ _ o_h0
                  refine lv_iload_n hx hb dX8_remove_77 rfl (lv_at hl 3 rfl) ?_
                  refine lv_aload_n hx hb dX8_remove_78 rfl (lv_at hl 0 rfl) ?_
                  obtain ⟨fs9, hk_43, hq_43⟩ := ((gF.a (F' := []) Fr_35 (fun _ h => h))) _ _ _ hk_22
                  obtain ⟨r0_43, n0_43, r1_43, n1_43, c2_43, r3_43, n3_43, c4_43, r5_43, n5_43, r6_43, n6_43, r7_43, n7_43, r8_43, n8_43, c9_43, c10_43, c11_43, v12_43, v13_43, v14_43, rfl, a_r0_43, f1_43, a_r1_43, f3_43, a_r3_43, f5_43, a_r5_43, f7_43, a_r6_43, f9_43, a_r7_43, f11_43, a_r8_43, f13_43, o_v12_43, o_v13_43, o_v14_43, f17_43, f18_43, f19_43, f20_43, f21_43, f22_43, f23_43, f24_43, f25_43, f26_43, f27_43, f28_43, f29_43, -⟩ := (hG.1 _ _ _ _ hk_43).hX8 rfl
                  obtain rfl := fe_r (hq_43 0 (by decide))
                  have hn9 := gI_n hD ((E_34).1 _ _ aa_36) a_r0_43
                  subst hn9
                  have a_r0_6 := a_r0_43
                  obtain rfl := fe_r (hq_43 1 (by decide))
                  have hn9 := gI_n hD ((E_34).1 _ _ aa_37) a_r1_43
                  subst hn9
                  have a_r1_6 := a_r1_43
                  obtain rfl := fe_i (hq_43 2 (by decide))
                  obtain rfl := fe_r (hq_43 5 (by decide))
                  have hn9 := gI_n hD ((E_34).1 _ _ aa_39) a_r5_43
                  subst hn9
                  have a_r5_6 := a_r5_43
                  obtain rfl := fe_r (hq_43 6 (by decide))
                  have hn9 := gI_n hD ((E_34).1 _ _ aa_40) a_r6_43
                  subst hn9
                  have a_r6_6 := a_r6_43
                  obtain rfl := fe_r (hq_43 7 (by decide))
                  have hn9 := gI_n hD ((E_34).1 _ _ aa_41) a_r7_43
                  subst hn9
                  have a_r7_6 := a_r7_43
                  obtain rfl := fe_r (hq_43 8 (by decide))
                  have hn9 := gI_n hD ((E_34).1 _ _ aa_42) a_r8_43
                  subst hn9
                  have a_r8_6 := a_r8_43
                  obtain rfl := fe_i (hq_43 9 (by decide))
                  refine va_get (D := gD g) (ci := 7) (v := .int z_24) (C := RX8) (T := TX8) (N := 15) hx hb hts inX8 hown hK hP k_6 hk_43 rfl 2 (by decide) (hts _ kw_1459) (fun _ h9 => h9) rfl dX8_remove_79 ?_
                  refine lv_icmp_ge (tgt := 133) hx hb dX8_remove_82 (by decide) (fun c_44 => ?_) (fun c_44 => ?_)
                  · refine lv_iconst (v := 0) hx hb dX8_remove_133 (by decide) ?_
                    refine lv_istore_n (lv' := [(3, .int 0), (0, .ref h0), (1, .int x1), (2, .int x2)]) hx hb dX8_remove_134 rfl hl (by decide) rfl (fun ls hl => ?_)
                    refine lv_iconst (v := 0) hx hb dX8_remove_135 (by decide) ?_
                    refine lv_istore (lv' := [(4, .int 0), (3, .int 0), (0, .ref h0), (1, .int x1), (2, .int x2)]) hx hb dX8_remove_136 hl (by decide) rfl (fun ls hl => ?_)
                    have J_138 : ∀ (n9 : Nat) (v3_45 : Int32) (v4_46 : Int32) (ws_49 : va_W) (H : Heap) (locs : List Loc) (ls : Array Slot), (2147483647 - v4_46.toInt).toNat = n9 → 0 ≤ v4_46.toInt → 0 ≤ v3_45.toInt ∧ v3_45.toInt ≤ v4_46.toInt ∧ v4_46.toInt ≤ c9_6.toInt → gE ws_33 ws_49 → gF [] [(7, 5), (7, 6), (7, 7), (7, 8)] (some h0) ws_33 ws_49 → Good g ws_49 → va_P (gD g) cl0 ws_49 H → va_D A ws_49 → va_S A s.heap H locs → lv_has ls 7 [(0, .ref h0), (1, .int x1), (2, .int x2), (3, .int v3_45), (4, .int v4_46)] → W p l e (headSpec (wt yX8_remove cX8_remove 7 none) ({ frames := 2, cells := 0, slots := 0, locals := 48 })).room s m ([.ref h0, .int x1, .int x2] : List Value).toArray below meth c H locs (0) (0) (MQ below (va_Qv (fun (u9 : va_W) => True) (gQ1 g [(7, 2), (7, 9)] [(7, 0), (7, 1), (7, 3), (7, 5), (7, 6), (7, 7), (7, 8)] (some h0) A ws) A) ([.ref h0, .int x1, .int x2] : List Value).toArray s (0) (0) A) (F0 m 138 ls []) := by
                      intro n9
                      induction n9 using Nat.strongRecOn with
                      | ind n9 ih_138 =>
                        intro v3_45 v4_46 ws_49 H locs ls hm9 iv_47 iv_48 E_50 Fr_51 hG hP hD hS hl
                        subst hm9
                        have aa_52 := a_r0_6
                        have aa_53 := a_r1_6
                        have aa_54 := a_r3_43
                        have aa_55 := a_r5_6
                        have aa_56 := a_r6_6
                        have aa_57 := a_r7_6
                        have aa_58 := a_r8_6
                        have o_h0 := E_50.1 _ _ o_h0
                        refine lv_iload hx hb dX8_remove_138 (lv_at hl 4 rfl) ?_
                        refine lv_aload_n hx hb dX8_remove_140 rfl (lv_at hl 0 rfl) ?_
                        obtain ⟨fs9, hk_59, hq_59⟩ := ((gF.a (F' := []) Fr_51 (fun _ h => h))) _ _ _ hk_43
                        obtain ⟨r0_59, n0_59, r1_59, n1_59, c2_59, r3_59, n3_59, c4_59, r5_59, n5_59, r6_59, n6_59, r7_59, n7_59, r8_59, n8_59, c9_59, c10_59, c11_59, v12_59, v13_59, v14_59, rfl, a_r0_59, f1_59, a_r1_59, f3_59, a_r3_59, f5_59, a_r5_59, f7_59, a_r6_59, f9_59, a_r7_59, f11_59, a_r8_59, f13_59, o_v12_59, o_v13_59, o_v14_59, f17_59, f18_59, f19_59, f20_59, f21_59, f22_59, f23_59, f24_59, f25_59, f26_59, f27_59, f28_59, f29_59, -⟩ := (hG.1 _ _ _ _ hk_59).hX8 rfl
                        obtain rfl := fe_r (hq_59 0 (by decide))
                        have hn9 := gI_n hD ((E_50).1 _ _ aa_52) a_r0_59
                        subst hn9
                        have a_r0_6 := a_r0_59
                        obtain rfl := fe_r (hq_59 1 (by decide))
                        have hn9 := gI_n hD ((E_50).1 _ _ aa_53) a_r1_59
                        subst hn9
                        have a_r1_6 := a_r1_59
                        obtain rfl := fe_i (hq_59 2 (by decide))
                        obtain rfl := fe_r (hq_59 5 (by decide))
                        have hn9 := gI_n hD ((E_50).1 _ _ aa_55) a_r5_59
                        subst hn9
                        have a_r5_6 := a_r5_59
                        obtain rfl := fe_r (hq_59 6 (by decide))
                        have hn9 := gI_n hD ((E_50).1 _ _ aa_56) a_r6_59
                        subst hn9
                        have a_r6_6 := a_r6_59
                        obtain rfl := fe_r (hq_59 7 (by decide))
                        have hn9 := gI_n hD ((E_50).1 _ _ aa_57) a_r7_59
                        subst hn9
                        have a_r7_6 := a_r7_59
                        obtain rfl := fe_r (hq_59 8 (by decide))
                        have hn9 := gI_n hD ((E_50).1 _ _ aa_58) a_r8_59
                        subst hn9
                        have a_r8_6 := a_r8_59
                        obtain rfl := fe_i (hq_59 9 (by decide))
                        refine va_get (D := gD g) (ci := 7) (v := .int c9_6) (C := RX8) (T := TX8) (N := 15) hx hb hts inX8 hown hK hP k_6 hk_59 rfl 9 (by decide) (hts _ kw_1465) (fun _ h9 => h9) rfl dX8_remove_141 ?_
                        refine lv_icmp_ge (tgt := 238) hx hb dX8_remove_144 (by decide) (fun c_60 => ?_) (fun c_60 => ?_)
                        · refine lv_aload_n hx hb dX8_remove_238 rfl (lv_at hl 0 rfl) ?_
                          refine lv_iload_n hx hb dX8_remove_239 rfl (lv_at hl 3 rfl) ?_
                          have hV9 : okv ws_49 7 9 (.int v3_45) := okv_i
                          refine va_put (D := gD g) (ci := 7) (v := .int v3_45) (ty := .int) (C := RX8) (T := TX8) (N := 15) hx hb hts inX8 tyX8 tyX8_ok nmX8 hown hK hP hD hS k_6 hk_59 rfl 9 (by decide) (hts _ kw_1465) (fun _ h9 => h9) rfl (by decide +kernel) rfl rfl (Nat.le_of_ble_eq_true rfl) dX8_remove_240 (fun H locs hP hD hS => ?_)
                          have f_61 : 0 ≤ v3_45.toInt := (by have q_iv_48 := iv_48; have q_f26_6 := f26_6; have q_f27_6 := f27_6; have q_iv_47 := iv_47; have q_c_60 := i_le c_60; have q_f7_6 := f7_6; have q_f23_6 := f23_6; have q_f24_6 := f24_6; have q_f25_6 := f25_6; have q_f29_6 := f29_6; have g_c9_6 := i_rg c9_6; have g_v3_45 := i_rg v3_45; have g_v4_46 := i_rg v4_46; omega)
                          have f_62 : v3_45.toInt ≤ n5_6 := (by have q_f7_6 := f7_6; have q_f23_6 := f23_6; have q_f24_6 := f24_6; have q_f25_6 := f25_6; have q_f27_6 := f27_6; have q_f29_6 := f29_6; have q_iv_48 := iv_48; have q_f_61 := f_61; have q_f9_6 := f9_6; have q_f11_6 := f11_6; have q_f13_6 := f13_6; have q_f26_6 := f26_6; have q_iv_47 := iv_47; have q_c_60 := i_le c_60; have g_c9_6 := i_rg c9_6; have g_v3_45 := i_rg v3_45; have g_v4_46 := i_rg v4_46; omega)
                          have hi_63 : invX8 g ws_49 h0 [.ref r0_6, .ref r1_6, .int z_24, .ref r3_59, .int c4_59, .ref r5_6, .ref r6_6, .ref r7_6, .ref r8_6, .int v3_45, .int c10_59, .int c11_59, va_rf v12_59, va_rf v13_59, va_rf v14_59] := ⟨r0_6, (n0_6), r1_6, (n1_6), (z_24), r3_59, (n3_59), (c4_59), r5_6, (n5_6), r6_6, (n6_6), r7_6, (n7_6), r8_6, (n8_6), (v3_45), (c10_59), (c11_59), v12_59, v13_59, v14_59, rfl, a_r0_6, f1_59, a_r1_6, f3_59, a_r3_59, f5_59, a_r5_6, f7_59, a_r6_6, f9_59, a_r7_6, f11_59, a_r8_6, f13_59, o_v12_59, o_v13_59, o_v14_59, f17_59, f18_59, f19_59, f20_59, f21_59, f22_59, f23_59, f24_59, f25_59, f_61, f_62, f28_59, f29_59, trivial⟩
                          obtain ⟨ws_64, e_ws_64⟩ : ∃ z, z = ws_49.set k_6 (h0, .inr (7, [.ref r0_6, .ref r1_6, .int z_24, .ref r3_59, .int c4_59, .ref r5_6, .ref r6_6, .ref r7_6, .ref r8_6, .int v3_45, .int c10_59, .int c11_59, va_rf v12_59, va_rf v13_59, va_rf v14_59])) := ⟨_, rfl⟩
                          have hP : va_P (gD g) cl0 ws_64 H := by rw [e_ws_64]; exact hP
                          have hD : va_D A ws_64 := by rw [e_ws_64]; exact hD
                          have E_65 : gE ws_49 ws_64 := gE_set e_ws_64 hk_59 (cw_o (fi := 9) (v := .int v3_45) rfl (by decide))
                          have hG : Good g ws_64 := Good_set (fi := 9) (v := .int v3_45) e_ws_64 hk_59 E_65 rfl hV9 hG (ivX8 hi_63)
                          have Fr_66 : gF [(7, 9)] [] (some h0) ws_49 ws_64 := gF_put (fi := 9) (v := .int v3_45) e_ws_64 hk_59 rfl (by decide)
                          have hkN := gset_self e_ws_64 hk_59
                          have hk_59 := hkN
                          have o_h0 := E_65.1 _ _ o_h0
                          have a_r3_59 := E_65.1 _ _ a_r3_59
                          have o_v12_59 : ∀ b, v12_59 = some b → ∃ n, gI ws_64 b g.cB n ∧ n < 2147483648 := fun b h => (o_v12_59 b h).imp (fun n h => ⟨E_65.1 _ _ h.1, h.2⟩)
                          have o_v13_59 : ∀ b, v13_59 = some b → ∃ n, gJ ws_64 b g.cL n ∧ n < 2147483648 := fun b h => (o_v13_59 b h).imp (fun n h => ⟨E_65.1 _ _ h.1, h.2⟩)
                          have o_v14_59 : ∀ b, v14_59 = some b → ∃ n, gJ ws_64 b g.cL n ∧ n < 2147483648 := fun b h => (o_v14_59 b h).imp (fun n h => ⟨E_65.1 _ _ h.1, h.2⟩)
                          have a_r0_6 := E_65.1 _ _ a_r0_6
                          have a_r1_6 := E_65.1 _ _ a_r1_6
                          have a_r5_6 := E_65.1 _ _ a_r5_6
                          have a_r6_6 := E_65.1 _ _ a_r6_6
                          have a_r7_6 := E_65.1 _ _ a_r7_6
                          have a_r8_6 := E_65.1 _ _ a_r8_6
                          refine W.widen (k := 0) (n := 0) (Nat.le_of_ble_eq_true rfl) (Nat.le_of_ble_eq_true rfl) ?_
                          exact W.vret hx hb hr (fun t9 ht9 hW9 => ⟨⟨ws_64, rfl, trivial, ⟨(E_12.tr (E_29.tr (E_34.tr (E_50.tr E_65)))), (gF.tr (gF.mo (F' := [(7, 2), (7, 9)]) (C' := [(7, 0), (7, 1), (7, 3), (7, 5), (7, 6), (7, 7), (7, 8)]) (S' := (some h0)) Fr_13 (fun _ h => absurd h List.not_mem_nil) (by decide) (Or.inr rfl)) (gF.tr (gF.mo (F' := [(7, 2), (7, 9)]) (C' := [(7, 0), (7, 1), (7, 3), (7, 5), (7, 6), (7, 7), (7, 8)]) (S' := (some h0)) Fr_30 (by decide) (fun _ h => absurd h List.not_mem_nil) (Or.inr rfl)) (gF.tr (gF.mo (F' := [(7, 2), (7, 9)]) (C' := [(7, 0), (7, 1), (7, 3), (7, 5), (7, 6), (7, 7), (7, 8)]) (S' := (some h0)) Fr_35 (fun _ h => absurd h List.not_mem_nil) (by decide) (Or.inr rfl)) (gF.tr (gF.mo (F' := [(7, 2), (7, 9)]) (C' := [(7, 0), (7, 1), (7, 3), (7, 5), (7, 6), (7, 7), (7, 8)]) (S' := (some h0)) Fr_51 (fun _ h => absurd h List.not_mem_nil) (by decide) (Or.inr rfl)) (gF.mo (F' := [(7, 2), (7, 9)]) (C' := [(7, 0), (7, 1), (7, 3), (7, 5), (7, 6), (7, 7), (7, 8)]) (S' := (some h0)) Fr_66 (by decide) (fun _ h => absurd h List.not_mem_nil) (Or.inr rfl)))))), hG, by rw [ht9]; exact hP, hD⟩⟩, hS.F ht9⟩) hS.2.2 dX8_remove_243
                        · refine lv_aload_n hx hb dX8_remove_147 rfl (lv_at hl 0 rfl) ?_
                          refine va_get (D := gD g) (ci := 7) (v := .ref r5_6) (C := RX8) (T := TX8) (N := 15) hx hb hts inX8 hown hK hP k_6 hk_59 rfl 5 (by decide) (hts _ kw_1466) (fun _ h9 => h9) rfl dX8_remove_148 ?_
                          refine lv_iload hx hb dX8_remove_151 (lv_at hl 4 rfl) ?_
                          obtain ⟨k_67, f_67, hk_67⟩ := gI_of a_r5_6
                          refine va_iald hx hb hK hP k_67 1 hk_67 rfl (i_in2 (by have q_f7_6 := f7_6; have q_f23_6 := f23_6; have q_f24_6 := f24_6; have q_f25_6 := f25_6; have q_f27_6 := f27_6; have q_f29_6 := f29_6; have q_iv_47 := iv_47; have q_iv_48 := iv_48; have q_c_60 := i_nle c_60; have q_f9_6 := f9_6; have q_f11_6 := f11_6; have q_f13_6 := f13_6; have q_f26_6 := f26_6; have g_c9_6 := i_rg c9_6; have g_v3_45 := i_rg v3_45; have g_v4_46 := i_rg v4_46; omega)) dX8_remove_153 ?_
                          refine lv_topi (fun z_68 ez_68 => ?_)
                          refine lv_iload_n hx hb dX8_remove_154 rfl (lv_at hl 1 rfl) ?_
                          refine lv_iload_n hx hb dX8_remove_155 rfl (lv_at hl 2 rfl) ?_
                          have hFc := gfree hD hS hA
                          refine va_calli (va_runS (As := [.int z_68, .int x1, .int x2]) (rest := []) ⟨hx, hb, hml, hown, hts⟩ (m_X8_behindRemoved l g H.size ws_49 (z_68) (x1) (x2) hG ) (va_cwS 3 hts (gd_S kw_1520 kw_1480 kw_782 kw_1479) rfl rfl rfl (by decide +kernel) ⟨Nat.le_of_ble_eq_true rfl, Nat.le_of_ble_eq_true rfl⟩) ⟨gblind, fun U hU hW9 => gmk hU hW9 hP hK hD hex hE hS hFc⟩ rfl rfl hl.1 rfl (lv_room (Nat.le_of_ble_eq_true rfl)) dX8_remove_156 ⟨Nat.le_of_ble_eq_true rfl, Nat.le_of_ble_eq_true rfl⟩) hS (fun q _ h => hFc q h) hFc (fun r_69 u9 t9 H1 locs ht9 hvm9 hw9 hB9 hz9 hk9 hS => ?_)
                          have hP : va_P (gD g) cl0 ws_49 H1 := by rw [← ht9]; exact hB9.1
                          clear hB9 hz9 hk9 hvm9 ht9 hw9
                          generalize H1 = H at hP hS ⊢
                          refine lv_istore (lv' := [(5, .int r_69), (0, .ref h0), (1, .int x1), (2, .int x2), (3, .int v3_45), (4, .int v4_46)]) hx hb dX8_remove_159 hl (by decide) rfl (fun ls hl => ?_)
                          refine lv_aload_n hx hb dX8_remove_161 rfl (lv_at hl 1 rfl) ?_
                          refine va_get (D := gD g) (ci := 7) (v := .ref r6_6) (C := RX8) (T := TX8) (N := 15) hx hb hts inX8 hown hK hP k_6 hk_59 rfl 6 (by decide) (hts _ kw_1467) (fun _ h9 => h9) rfl dX8_remove_162 ?_
                          refine lv_iload hx hb dX8_remove_165 (lv_at hl 5 rfl) ?_
                          obtain ⟨k_70, f_70, hk_70⟩ := gI_of a_r6_6
                          refine va_iald hx hb hK hP k_70 1 hk_70 rfl (i_in2 (by have q_f9_6 := f9_6; have q_f23_6 := f23_6; have q_iv_47 := iv_47; have q_iv_48 := iv_48; have q_c_60 := i_nle c_60; have q_f7_6 := f7_6; have q_f24_6 := f24_6; have q_f25_6 := f25_6; have q_f26_6 := f26_6; have q_f27_6 := f27_6; have q_f29_6 := f29_6; have q_f11_6 := f11_6; have q_f13_6 := f13_6; have g_c9_6 := i_rg c9_6; have g_v3_45 := i_rg v3_45; have g_v4_46 := i_rg v4_46; omega)) dX8_remove_167 ?_
                          refine lv_topi (fun z_71 ez_71 => ?_)
                          refine lv_iload_n hx hb dX8_remove_168 rfl (lv_at hl 2 rfl) ?_
                          refine lv_iload_n hx hb dX8_remove_169 rfl (lv_at hl 3 rfl) ?_
                          have hFc := gfree hD hS hA
                          refine va_calli (va_runS (As := [.int z_71, .int x1, .int x2]) (rest := []) ⟨hx, hb, hml, hown, hts⟩ (m_X8_behindRemoved l g H.size ws_49 (z_71) (x1) (x2) hG ) (va_cwS 3 hts (gd_S kw_1520 kw_1480 kw_782 kw_1479) rfl rfl rfl (by decide +kernel) ⟨Nat.le_of_ble_eq_true rfl, Nat.le_of_ble_eq_true rfl⟩) ⟨gblind, fun U hU hW9 => gmk hU hW9 hP hK hD hex hE hS hFc⟩ rfl rfl hl.1 rfl (lv_room (Nat.le_of_ble_eq_true rfl)) dX8_remove_170 ⟨Nat.le_of_ble_eq_true rfl, Nat.le_of_ble_eq_true rfl⟩) hS (fun q _ h => hFc q h) hFc (fun r_72 u9 t9 H1 locs ht9 hvm9 hw9 hB9 hz9 hk9 hS => ?_)
                          have hP : va_P (gD g) cl0 ws_49 H1 := by rw [← ht9]; exact hB9.1
                          clear hB9 hz9 hk9 hvm9 ht9 hw9
                          generalize H1 = H at hP hS ⊢
                          refine lv_istore (lv' := [(6, .int r_72), (5, .int r_69), (0, .ref h0), (1, .int x1), (2, .int x2), (3, .int v3_45), (4, .int v4_46)]) hx hb dX8_remove_173 hl (by decide) rfl (fun ls hl => ?_)
                          refine lv_iload hx hb dX8_remove_175 (lv_at hl 1 rfl) ?_
                          refine lv_iload hx hb dX8_remove_177 (lv_at hl 0 rfl) ?_
                          have J_232 : ∀ (v3_73 : Int32) (ws_75 : va_W) (H : Heap) (locs : List Loc) (ls : Array Slot), 0 ≤ v3_73.toInt ∧ v3_73.toInt ≤ v4_46.toInt + 1 ∧ v4_46.toInt < c9_6.toInt → gE ws_49 ws_75 → gF [] [(7, 5), (7, 6), (7, 7), (7, 8)] (some h0) ws_49 ws_75 → Good g ws_75 → va_P (gD g) cl0 ws_75 H → va_D A ws_75 → va_S A s.heap H locs → lv_has ls 7 [(0, .ref h0), (1, .int x1), (2, .int x2), (3, .int v3_73), (4, .int v4_46)] → W p l e (headSpec (wt yX8_remove cX8_remove 7 none) ({ frames := 2, cells := 0, slots := 0, locals := 48 })).room s m ([.ref h0, .int x1, .int x2] : List Value).toArray below meth c H locs (0) (0) (MQ below (va_Qv (fun (u9 : va_W) => True) (gQ1 g [(7, 2), (7, 9)] [(7, 0), (7, 1), (7, 3), (7, 5), (7, 6), (7, 7), (7, 8)] (some h0) A ws) A) ([.ref h0, .int x1, .int x2] : List Value).toArray s (0) (0) A) (F0 m 232 ls []) := by
                            intro v3_73 ws_75 H locs ls iv_74 E_76 Fr_77 hG hP hD hS hl
                            have aa_78 := a_r0_6
                            have aa_79 := a_r1_6
                            have aa_80 := a_r3_59
                            have aa_81 := a_r5_6
                            have aa_82 := a_r6_6
                            have aa_83 := a_r7_6
                            have aa_84 := a_r8_6
                            have o_h0 := E_76.1 _ _ o_h0
                            obtain ⟨z_85, ez_85⟩ : ∃ z : Int32, v4_46 + Int32.ofInt 1 = z := ⟨_, rfl⟩
                            refine lv_iinc (v := z_85) (lv' := [(4, .int z_85), (0, .ref h0), (1, .int x1), (2, .int x2), (3, .int v3_73)]) hx hb dX8_remove_232 hl (k := 4) rfl ez_85 (by decide) rfl (fun ls hl => ?_)
                            refine lv_goto (tgt := 138) hx hb dX8_remove_235 (by decide) ?_
                            exact ih_138 _ (by have q_iv_74 := iv_74; obtain ⟨u_z_85, q_z_85⟩ := i_iz ez_85 (by decide) (by decide); have q_f26_6 := f26_6; have q_f27_6 := f27_6; have q_iv_47 := iv_47; have q_iv_48 := iv_48; have q_c_60 := i_nle c_60; have q_f7_6 := f7_6; have q_f23_6 := f23_6; have q_f24_6 := f24_6; have q_f25_6 := f25_6; have q_f29_6 := f29_6; have g_c9_6 := i_rg c9_6; have g_v3_45 := i_rg v3_45; have g_v3_73 := i_rg v3_73; have g_v4_46 := i_rg v4_46; have g_z_85 := i_rg z_85; omega) (v3_73) (z_85) ws_75 H locs ls rfl (by obtain ⟨u_z_85, q_z_85⟩ := i_iz ez_85 (by decide) (by decide); have q_iv_47 := iv_47; have q_iv_48 := iv_48; have q_c_60 := i_nle c_60; have q_iv_74 := iv_74; have q_f26_6 := f26_6; have q_f27_6 := f27_6; have g_c9_6 := i_rg c9_6; have g_v3_45 := i_rg v3_45; have g_v3_73 := i_rg v3_73; have g_v4_46 := i_rg v4_46; have g_z_85 := i_rg z_85; omega) (by have e0 : (0 : Int32).toInt = 0 := (by decide); have q_px := px; have q_pn := pn; have q_c_3 := i_nlt c_3; have q_c_4 := i_nle c_4; obtain ⟨u_z_5, q_z_5⟩ := i_add ez_5; have q_f26_6 := f26_6; have q_f27_6 := f27_6; obtain ⟨u_z_21, q_z_21⟩ := i_add ez_21; obtain ⟨u_z_24, q_z_24⟩ := i_sub ez_24; have q_iv_48 := iv_48; have q_c_60 := i_nle c_60; have q_iv_74 := iv_74; obtain ⟨u_z_85, q_z_85⟩ := i_iz ez_85 (by decide) (by decide); have q_f7_6 := f7_6; have q_f19_6 := f19_6; have q_f20_6 := f20_6; have q_f23_6 := f23_6; have q_f24_6 := f24_6; have q_f25_6 := f25_6; have q_f29_6 := f29_6; have q_c_7 := i_le c_7; have q_iv_9 := iv_9; have q_iv_10 := iv_10; have q_c_23 := i_le c_23; have q_f_25 := f_25; have q_f_26 := f_26; have q_c_44 := i_le c_44; have q_iv_47 := iv_47; have q_f1_6 := f1_6; have q_f9_6 := f9_6; have q_f11_6 := f11_6; have q_f13_6 := f13_6; have q_f17_6 := f17_6; have q_f18_6 := f18_6; have q_iv_32 := iv_32; have g_c2_6 := i_rg c2_6; have g_c9_6 := i_rg c9_6; have g_v3_31 := i_rg v3_31; have g_v3_45 := i_rg v3_45; have g_v3_73 := i_rg v3_73; have g_v3_8 := i_rg v3_8; have g_v4_46 := i_rg v4_46; have g_x1 := i_rg x1; have g_x2 := i_rg x2; have g_z_21 := i_rg z_21; have g_z_24 := i_rg z_24; have g_z_5 := i_rg z_5; have g_z_85 := i_rg z_85; omega) ((E_50.tr E_76)) ((gF.tr Fr_51 Fr_77)) hG hP hD hS (lv_sub hl [1, 2, 3, 4, 0] rfl)
                          refine lv_icmp_ge (tgt := 232) hx hb dX8_remove_179 (by decide) (fun c_86 => ?_) (fun c_86 => ?_)
                          · exact J_232 (v3_45) ws_49 H locs ls (by have e0 : (0 : Int32).toInt = 0 := (by decide); have q_px := px; have q_pn := pn; have q_c_3 := i_nlt c_3; have q_c_4 := i_nle c_4; obtain ⟨u_z_5, q_z_5⟩ := i_add ez_5; have q_f26_6 := f26_6; have q_f27_6 := f27_6; obtain ⟨u_z_21, q_z_21⟩ := i_add ez_21; obtain ⟨u_z_24, q_z_24⟩ := i_sub ez_24; have q_iv_47 := iv_47; have q_iv_48 := iv_48; have q_c_60 := i_nle c_60; have q_f7_6 := f7_6; have q_f19_6 := f19_6; have q_f20_6 := f20_6; have q_f23_6 := f23_6; have q_f24_6 := f24_6; have q_f25_6 := f25_6; have q_f29_6 := f29_6; have q_c_7 := i_le c_7; have q_iv_9 := iv_9; have q_iv_10 := iv_10; have q_c_23 := i_le c_23; have q_f_25 := f_25; have q_f_26 := f_26; have q_c_44 := i_le c_44; have q_f1_6 := f1_6; have q_f9_6 := f9_6; have q_f11_6 := f11_6; have q_f13_6 := f13_6; have q_f17_6 := f17_6; have q_f18_6 := f18_6; have q_iv_32 := iv_32; have g_c2_6 := i_rg c2_6; have g_c9_6 := i_rg c9_6; have g_v3_31 := i_rg v3_31; have g_v3_45 := i_rg v3_45; have g_v3_8 := i_rg v3_8; have g_v4_46 := i_rg v4_46; have g_x1 := i_rg x1; have g_x2 := i_rg x2; have g_z_21 := i_rg z_21; have g_z_24 := i_rg z_24; have g_z_5 := i_rg z_5; omega) (gE.rf) (gF.rf) hG hP hD hS (lv_sub hl [2, 3, 4, 5, 6] rfl)
                          · refine lv_aload_n hx hb dX8_remove_182 rfl (lv_at hl 2 rfl) ?_
                            refine va_get (D := gD g) (ci := 7) (v := .ref r5_6) (C := RX8) (T := TX8) (N := 15) hx hb hts inX8 hown hK hP k_6 hk_59 rfl 5 (by decide) (hts _ kw_1466) (fun _ h9 => h9) rfl dX8_remove_183 ?_
                            refine lv_iload_n hx hb dX8_remove_186 rfl (lv_at hl 5 rfl) ?_
                            refine lv_iload hx hb dX8_remove_187 (lv_at hl 1 rfl) ?_
                            have hC9 : hol ws_49 r5_6 [(7, 5)] := (hol_u hG.u hk_59 (j := 5) rfl a_r5_6 (by decide))
                            have hS9 : holS ws_49 r5_6 (some h0) := holS_u hG.u hk_59 (j := 5) rfl a_r5_6
                            refine va_iast hx hb hK hP hD hS k_67 1 hk_67 rfl (i_in2 (by have q_f7_6 := f7_6; have q_f23_6 := f23_6; have q_f24_6 := f24_6; have q_f25_6 := f25_6; have q_f27_6 := f27_6; have q_f29_6 := f29_6; have q_iv_48 := iv_48; have q_f9_6 := f9_6; have q_f11_6 := f11_6; have q_f13_6 := f13_6; have q_f26_6 := f26_6; have q_iv_47 := iv_47; have q_c_60 := i_nle c_60; have g_c9_6 := i_rg c9_6; have g_v3_45 := i_rg v3_45; have g_v4_46 := i_rg v4_46; omega)) dX8_remove_189 (fun H locs hP hD hS => ?_)
                            obtain ⟨ws_87, e_ws_87⟩ : ∃ z, z = ws_49.set k_67 (r5_6, .inl (g.cI, n5_6, .inl (upd f_67 (v3_45 : Int32).toNatClampNeg r_69))) := ⟨_, rfl⟩
                            have hP : va_P (gD g) cl0 ws_87 H := by rw [e_ws_87]; exact hP
                            have hD : va_D A ws_87 := by rw [e_ws_87]; exact hD
                            have E_88 : gE ws_49 ws_87 := gE_ari e_ws_87 hk_67
                            have hG : Good g ws_87 := Good_arI e_ws_87 hk_67 hG
                            have Fr_89 : gF [] [(7, 5)] (some h0) ws_49 ws_87 := gF_ar e_ws_87 hk_67 rfl hC9 hS9
                            have hk_59 := gset_arO e_ws_87 hk_67 hk_59
                            have o_h0 := E_88.1 _ _ o_h0
                            have a_r3_59 := E_88.1 _ _ a_r3_59
                            have o_v12_59 : ∀ b, v12_59 = some b → ∃ n, gI ws_87 b g.cB n ∧ n < 2147483648 := fun b h => (o_v12_59 b h).imp (fun n h => ⟨E_88.1 _ _ h.1, h.2⟩)
                            have o_v13_59 : ∀ b, v13_59 = some b → ∃ n, gJ ws_87 b g.cL n ∧ n < 2147483648 := fun b h => (o_v13_59 b h).imp (fun n h => ⟨E_88.1 _ _ h.1, h.2⟩)
                            have o_v14_59 : ∀ b, v14_59 = some b → ∃ n, gJ ws_87 b g.cL n ∧ n < 2147483648 := fun b h => (o_v14_59 b h).imp (fun n h => ⟨E_88.1 _ _ h.1, h.2⟩)
                            have a_r0_6 := E_88.1 _ _ a_r0_6
                            have a_r1_6 := E_88.1 _ _ a_r1_6
                            have a_r5_6 := E_88.1 _ _ a_r5_6
                            have a_r6_6 := E_88.1 _ _ a_r6_6
                            have a_r7_6 := E_88.1 _ _ a_r7_6
                            have a_r8_6 := E_88.1 _ _ a_r8_6
                            refine lv_aload_n hx hb dX8_remove_190 rfl (lv_at hl 2 rfl) ?_
                            refine va_get (D := gD g) (ci := 7) (v := .ref r6_6) (C := RX8) (T := TX8) (N := 15) hx hb hts inX8 hown hK hP k_6 hk_59 rfl 6 (by decide) (hts _ kw_1467) (fun _ h9 => h9) rfl dX8_remove_191 ?_
                            refine lv_iload_n hx hb dX8_remove_194 rfl (lv_at hl 5 rfl) ?_
                            refine lv_iload hx hb dX8_remove_195 (lv_at hl 0 rfl) ?_
                            obtain ⟨k_90, f_90, hk_90⟩ := gI_of a_r6_6
                            have hC9 : hol ws_87 r6_6 [(7, 6)] := (hol_u hG.u hk_59 (j := 6) rfl a_r6_6 (by decide))
                            have hS9 : holS ws_87 r6_6 (some h0) := holS_u hG.u hk_59 (j := 6) rfl a_r6_6
                            refine va_iast hx hb hK hP hD hS k_90 1 hk_90 rfl (i_in2 (by have q_f9_6 := f9_6; have q_f23_6 := f23_6; have q_iv_48 := iv_48; have q_f7_6 := f7_6; have q_f24_6 := f24_6; have q_f25_6 := f25_6; have q_f26_6 := f26_6; have q_f27_6 := f27_6; have q_f29_6 := f29_6; have q_iv_47 := iv_47; have q_c_60 := i_nle c_60; have q_f11_6 := f11_6; have q_f13_6 := f13_6; have g_c9_6 := i_rg c9_6; have g_v3_45 := i_rg v3_45; have g_v4_46 := i_rg v4_46; omega)) dX8_remove_197 (fun H locs hP hD hS => ?_)
                            obtain ⟨ws_91, e_ws_91⟩ : ∃ z, z = ws_87.set k_90 (r6_6, .inl (g.cI, n6_6, .inl (upd f_90 (v3_45 : Int32).toNatClampNeg r_72))) := ⟨_, rfl⟩
                            have hP : va_P (gD g) cl0 ws_91 H := by rw [e_ws_91]; exact hP
                            have hD : va_D A ws_91 := by rw [e_ws_91]; exact hD
                            have E_92 : gE ws_87 ws_91 := gE_ari e_ws_91 hk_90
                            have hG : Good g ws_91 := Good_arI e_ws_91 hk_90 hG
                            have Fr_93 : gF [] [(7, 6)] (some h0) ws_87 ws_91 := gF_ar e_ws_91 hk_90 rfl hC9 hS9
                            have hk_59 := gset_arO e_ws_91 hk_90 hk_59
                            have o_h0 := E_92.1 _ _ o_h0
                            have a_r3_59 := E_92.1 _ _ a_r3_59
                            have o_v12_59 : ∀ b, v12_59 = some b → ∃ n, gI ws_91 b g.cB n ∧ n < 2147483648 := fun b h => (o_v12_59 b h).imp (fun n h => ⟨E_92.1 _ _ h.1, h.2⟩)
                            have o_v13_59 : ∀ b, v13_59 = some b → ∃ n, gJ ws_91 b g.cL n ∧ n < 2147483648 := fun b h => (o_v13_59 b h).imp (fun n h => ⟨E_92.1 _ _ h.1, h.2⟩)
                            have o_v14_59 : ∀ b, v14_59 = some b → ∃ n, gJ ws_91 b g.cL n ∧ n < 2147483648 := fun b h => (o_v14_59 b h).imp (fun n h => ⟨E_92.1 _ _ h.1, h.2⟩)
                            have a_r0_6 := E_92.1 _ _ a_r0_6
                            have a_r1_6 := E_92.1 _ _ a_r1_6
                            have a_r5_6 := E_92.1 _ _ a_r5_6
                            have a_r6_6 := E_92.1 _ _ a_r6_6
                            have a_r7_6 := E_92.1 _ _ a_r7_6
                            have a_r8_6 := E_92.1 _ _ a_r8_6
                            refine lv_aload_n hx hb dX8_remove_198 rfl (lv_at hl 2 rfl) ?_
                            refine va_get (D := gD g) (ci := 7) (v := .ref r7_6) (C := RX8) (T := TX8) (N := 15) hx hb hts inX8 hown hK hP k_6 hk_59 rfl 7 (by decide) (hts _ kw_1468) (fun _ h9 => h9) rfl dX8_remove_199 ?_
                            refine lv_iload_n hx hb dX8_remove_202 rfl (lv_at hl 5 rfl) ?_
                            refine lv_aload_n hx hb dX8_remove_203 rfl (lv_at hl 2 rfl) ?_
                            refine va_get (D := gD g) (ci := 7) (v := .ref r7_6) (C := RX8) (T := TX8) (N := 15) hx hb hts inX8 hown hK hP k_6 hk_59 rfl 7 (by decide) (hts _ kw_1468) (fun _ h9 => h9) rfl dX8_remove_204 ?_
                            refine lv_iload hx hb dX8_remove_207 (lv_at hl 6 rfl) ?_
                            obtain ⟨k_94, f_94, hk_94⟩ := gI_of a_r7_6
                            refine va_iald hx hb hK hP k_94 1 hk_94 rfl (i_in2 (by have q_f11_6 := f11_6; have q_f24_6 := f24_6; have q_iv_47 := iv_47; have q_iv_48 := iv_48; have q_c_60 := i_nle c_60; have q_f7_6 := f7_6; have q_f23_6 := f23_6; have q_f25_6 := f25_6; have q_f26_6 := f26_6; have q_f27_6 := f27_6; have q_f29_6 := f29_6; have q_f9_6 := f9_6; have q_f13_6 := f13_6; have g_c9_6 := i_rg c9_6; have g_v3_45 := i_rg v3_45; have g_v4_46 := i_rg v4_46; omega)) dX8_remove_209 ?_
                            refine lv_topi (fun z_95 ez_95 => ?_)
                            refine lv_iload_n hx hb dX8_remove_210 rfl (lv_at hl 3 rfl) ?_
                            refine lv_iload_n hx hb dX8_remove_211 rfl (lv_at hl 4 rfl) ?_
                            have hFc := gfree hD hS hA
                            refine va_calli (va_runS (As := [.int z_95, .int x1, .int x2]) (rest := [.int v3_45, .ref r7_6]) ⟨hx, hb, hml, hown, hts⟩ (m_X8_behindRemoved l g H.size ws_91 (z_95) (x1) (x2) hG ) (va_cwS 3 hts (gd_S kw_1520 kw_1480 kw_782 kw_1479) rfl rfl rfl (by decide +kernel) ⟨Nat.le_of_ble_eq_true rfl, Nat.le_of_ble_eq_true rfl⟩) ⟨gblind, fun U hU hW9 => gmk hU hW9 hP hK hD hex hE hS hFc⟩ rfl rfl hl.1 rfl (lv_room (Nat.le_of_ble_eq_true rfl)) dX8_remove_212 ⟨Nat.le_of_ble_eq_true rfl, Nat.le_of_ble_eq_true rfl⟩) hS (fun q _ h => hFc q h) hFc (fun r_96 u9 t9 H1 locs ht9 hvm9 hw9 hB9 hz9 hk9 hS => ?_)
                            have hP : va_P (gD g) cl0 ws_91 H1 := by rw [← ht9]; exact hB9.1
                            clear hB9 hz9 hk9 hvm9 ht9 hw9
                            generalize H1 = H at hP hS ⊢
                            have hC9 : hol ws_91 r7_6 [(7, 7)] := (hol_u hG.u hk_59 (j := 7) rfl a_r7_6 (by decide))
                            have hS9 : holS ws_91 r7_6 (some h0) := holS_u hG.u hk_59 (j := 7) rfl a_r7_6
                            refine va_iast hx hb hK hP hD hS k_94 1 hk_94 rfl (i_in2 (by have q_f11_6 := f11_6; have q_f24_6 := f24_6; have q_iv_48 := iv_48; have q_f7_6 := f7_6; have q_f23_6 := f23_6; have q_f25_6 := f25_6; have q_f26_6 := f26_6; have q_f27_6 := f27_6; have q_f29_6 := f29_6; have q_iv_47 := iv_47; have q_c_60 := i_nle c_60; have q_f9_6 := f9_6; have q_f13_6 := f13_6; have g_c9_6 := i_rg c9_6; have g_v3_45 := i_rg v3_45; have g_v4_46 := i_rg v4_46; omega)) dX8_remove_215 (fun H locs hP hD hS => ?_)
                            obtain ⟨ws_97, e_ws_97⟩ : ∃ z, z = ws_91.set k_94 (r7_6, .inl (g.cI, n7_6, .inl (upd f_94 (v3_45 : Int32).toNatClampNeg r_96))) := ⟨_, rfl⟩
                            have hP : va_P (gD g) cl0 ws_97 H := by rw [e_ws_97]; exact hP
                            have hD : va_D A ws_97 := by rw [e_ws_97]; exact hD
                            have E_98 : gE ws_91 ws_97 := gE_ari e_ws_97 hk_94
                            have hG : Good g ws_97 := Good_arI e_ws_97 hk_94 hG
                            have Fr_99 : gF [] [(7, 7)] (some h0) ws_91 ws_97 := gF_ar e_ws_97 hk_94 rfl hC9 hS9
                            have hk_59 := gset_arO e_ws_97 hk_94 hk_59
                            have o_h0 := E_98.1 _ _ o_h0
                            have a_r3_59 := E_98.1 _ _ a_r3_59
                            have o_v12_59 : ∀ b, v12_59 = some b → ∃ n, gI ws_97 b g.cB n ∧ n < 2147483648 := fun b h => (o_v12_59 b h).imp (fun n h => ⟨E_98.1 _ _ h.1, h.2⟩)
                            have o_v13_59 : ∀ b, v13_59 = some b → ∃ n, gJ ws_97 b g.cL n ∧ n < 2147483648 := fun b h => (o_v13_59 b h).imp (fun n h => ⟨E_98.1 _ _ h.1, h.2⟩)
                            have o_v14_59 : ∀ b, v14_59 = some b → ∃ n, gJ ws_97 b g.cL n ∧ n < 2147483648 := fun b h => (o_v14_59 b h).imp (fun n h => ⟨E_98.1 _ _ h.1, h.2⟩)
                            have a_r0_6 := E_98.1 _ _ a_r0_6
                            have a_r1_6 := E_98.1 _ _ a_r1_6
                            have a_r5_6 := E_98.1 _ _ a_r5_6
                            have a_r6_6 := E_98.1 _ _ a_r6_6
                            have a_r7_6 := E_98.1 _ _ a_r7_6
                            have a_r8_6 := E_98.1 _ _ a_r8_6
                            refine lv_aload_n hx hb dX8_remove_216 rfl (lv_at hl 2 rfl) ?_
                            refine va_get (D := gD g) (ci := 7) (v := .ref r8_6) (C := RX8) (T := TX8) (N := 15) hx hb hts inX8 hown hK hP k_6 hk_59 rfl 8 (by decide) (hts _ kw_1469) (fun _ h9 => h9) rfl dX8_remove_217 ?_
                            refine lv_iload_n hx hb dX8_remove_220 rfl (lv_at hl 5 rfl) ?_
                            refine lv_aload_n hx hb dX8_remove_221 rfl (lv_at hl 2 rfl) ?_
                            refine va_get (D := gD g) (ci := 7) (v := .ref r8_6) (C := RX8) (T := TX8) (N := 15) hx hb hts inX8 hown hK hP k_6 hk_59 rfl 8 (by decide) (hts _ kw_1469) (fun _ h9 => h9) rfl dX8_remove_222 ?_
                            refine lv_iload hx hb dX8_remove_225 (lv_at hl 6 rfl) ?_
                            obtain ⟨k_100, f_100, hk_100⟩ := gI_of a_r8_6
                            refine va_iald hx hb hK hP k_100 1 hk_100 rfl (i_in2 (by have q_f13_6 := f13_6; have q_f25_6 := f25_6; have q_iv_47 := iv_47; have q_iv_48 := iv_48; have q_c_60 := i_nle c_60; have q_f7_6 := f7_6; have q_f23_6 := f23_6; have q_f24_6 := f24_6; have q_f26_6 := f26_6; have q_f27_6 := f27_6; have q_f29_6 := f29_6; have q_f9_6 := f9_6; have q_f11_6 := f11_6; have g_c9_6 := i_rg c9_6; have g_v3_45 := i_rg v3_45; have g_v4_46 := i_rg v4_46; omega)) dX8_remove_227 ?_
                            refine lv_topi (fun z_101 ez_101 => ?_)
                            have hC9 : hol ws_97 r8_6 [(7, 8)] := (hol_u hG.u hk_59 (j := 8) rfl a_r8_6 (by decide))
                            have hS9 : holS ws_97 r8_6 (some h0) := holS_u hG.u hk_59 (j := 8) rfl a_r8_6
                            refine va_iast hx hb hK hP hD hS k_100 1 hk_100 rfl (i_in2 (by have q_f13_6 := f13_6; have q_f25_6 := f25_6; have q_iv_48 := iv_48; have q_f7_6 := f7_6; have q_f23_6 := f23_6; have q_f24_6 := f24_6; have q_f26_6 := f26_6; have q_f27_6 := f27_6; have q_f29_6 := f29_6; have q_iv_47 := iv_47; have q_c_60 := i_nle c_60; have q_f9_6 := f9_6; have q_f11_6 := f11_6; have g_c9_6 := i_rg c9_6; have g_v3_45 := i_rg v3_45; have g_v4_46 := i_rg v4_46; omega)) dX8_remove_228 (fun H locs hP hD hS => ?_)
                            obtain ⟨ws_102, e_ws_102⟩ : ∃ z, z = ws_97.set k_100 (r8_6, .inl (g.cI, n8_6, .inl (upd f_100 (v3_45 : Int32).toNatClampNeg z_101))) := ⟨_, rfl⟩
                            have hP : va_P (gD g) cl0 ws_102 H := by rw [e_ws_102]; exact hP
                            have hD : va_D A ws_102 := by rw [e_ws_102]; exact hD
                            have E_103 : gE ws_97 ws_102 := gE_ari e_ws_102 hk_100
                            have hG : Good g ws_102 := Good_arI e_ws_102 hk_100 hG
                            have Fr_104 : gF [] [(7, 8)] (some h0) ws_97 ws_102 := gF_ar e_ws_102 hk_100 rfl hC9 hS9
                            have hk_59 := gset_arO e_ws_102 hk_100 hk_59
                            have o_h0 := E_103.1 _ _ o_h0
                            have a_r3_59 := E_103.1 _ _ a_r3_59
                            have o_v12_59 : ∀ b, v12_59 = some b → ∃ n, gI ws_102 b g.cB n ∧ n < 2147483648 := fun b h => (o_v12_59 b h).imp (fun n h => ⟨E_103.1 _ _ h.1, h.2⟩)
                            have o_v13_59 : ∀ b, v13_59 = some b → ∃ n, gJ ws_102 b g.cL n ∧ n < 2147483648 := fun b h => (o_v13_59 b h).imp (fun n h => ⟨E_103.1 _ _ h.1, h.2⟩)
                            have o_v14_59 : ∀ b, v14_59 = some b → ∃ n, gJ ws_102 b g.cL n ∧ n < 2147483648 := fun b h => (o_v14_59 b h).imp (fun n h => ⟨E_103.1 _ _ h.1, h.2⟩)
                            have a_r0_6 := E_103.1 _ _ a_r0_6
                            have a_r1_6 := E_103.1 _ _ a_r1_6
                            have a_r5_6 := E_103.1 _ _ a_r5_6
                            have a_r6_6 := E_103.1 _ _ a_r6_6
                            have a_r7_6 := E_103.1 _ _ a_r7_6
                            have a_r8_6 := E_103.1 _ _ a_r8_6
                            obtain ⟨z_105, ez_105⟩ : ∃ z : Int32, v3_45 + Int32.ofInt 1 = z := ⟨_, rfl⟩
                            refine lv_iinc (v := z_105) (lv' := [(3, .int z_105), (6, .int r_72), (5, .int r_69), (0, .ref h0), (1, .int x1), (2, .int x2), (4, .int v4_46)]) hx hb dX8_remove_229 hl (k := 5) rfl ez_105 (by decide) rfl (fun ls hl => ?_)
                            exact J_232 (z_105) ws_102 H locs ls (by have e0 : (0 : Int32).toInt = 0 := (by decide); have q_px := px; have q_pn := pn; have q_c_3 := i_nlt c_3; have q_c_4 := i_nle c_4; obtain ⟨u_z_5, q_z_5⟩ := i_add ez_5; have q_f26_6 := f26_6; have q_f27_6 := f27_6; obtain ⟨u_z_21, q_z_21⟩ := i_add ez_21; obtain ⟨u_z_24, q_z_24⟩ := i_sub ez_24; have q_iv_47 := iv_47; have q_iv_48 := iv_48; have q_c_60 := i_nle c_60; obtain ⟨u_z_105, q_z_105⟩ := i_iz ez_105 (by decide) (by decide); have q_f7_6 := f7_6; have q_f19_6 := f19_6; have q_f20_6 := f20_6; have q_f23_6 := f23_6; have q_f24_6 := f24_6; have q_f25_6 := f25_6; have q_f29_6 := f29_6; have q_c_7 := i_le c_7; have q_iv_9 := iv_9; have q_iv_10 := iv_10; have q_c_23 := i_le c_23; have q_f_25 := f_25; have q_f_26 := f_26; have q_c_44 := i_le c_44; have q_f1_6 := f1_6; have q_f9_6 := f9_6; have q_f11_6 := f11_6; have q_f13_6 := f13_6; have q_f17_6 := f17_6; have q_f18_6 := f18_6; have q_iv_32 := iv_32; have g_c2_6 := i_rg c2_6; have g_c9_6 := i_rg c9_6; have g_v3_31 := i_rg v3_31; have g_v3_45 := i_rg v3_45; have g_v3_8 := i_rg v3_8; have g_v4_46 := i_rg v4_46; have g_x1 := i_rg x1; have g_x2 := i_rg x2; have g_z_105 := i_rg z_105; have g_z_21 := i_rg z_21; have g_z_24 := i_rg z_24; have g_z_5 := i_rg z_5; omega) ((E_88.tr (E_92.tr (E_98.tr E_103)))) ((gF.tr (gF.mo (F' := []) (C' := [(7, 5), (7, 6), (7, 7), (7, 8)]) (S' := (some h0)) Fr_89 (fun _ h => h) (by decide) (Or.inr rfl)) (gF.tr (gF.mo (F' := []) (C' := [(7, 5), (7, 6), (7, 7), (7, 8)]) (S' := (some h0)) Fr_93 (fun _ h => h) (by decide) (Or.inr rfl)) (gF.tr (gF.mo (F' := []) (C' := [(7, 5), (7, 6), (7, 7), (7, 8)]) (S' := (some h0)) Fr_99 (fun _ h => h) (by decide) (Or.inr rfl)) (gF.mo (F' := []) (C' := [(7, 5), (7, 6), (7, 7), (7, 8)]) (S' := (some h0)) Fr_104 (fun _ h => h) (by decide) (Or.inr rfl)))))) hG hP hD hS (lv_sub hl [3, 4, 5, 0, 6] rfl)
                    exact J_138 _ (0) (0) ws_33 H locs ls rfl (by have e0 : (0 : Int32).toInt = 0 := (by decide); omega) (by have e0 : (0 : Int32).toInt = 0 := (by decide); have q_px := px; have q_pn := pn; have q_c_3 := i_nlt c_3; have q_c_4 := i_nle c_4; obtain ⟨u_z_5, q_z_5⟩ := i_add ez_5; have q_f26_6 := f26_6; have q_f27_6 := f27_6; obtain ⟨u_z_21, q_z_21⟩ := i_add ez_21; obtain ⟨u_z_24, q_z_24⟩ := i_sub ez_24; have q_f7_6 := f7_6; have q_f19_6 := f19_6; have q_f20_6 := f20_6; have q_f23_6 := f23_6; have q_f24_6 := f24_6; have q_f25_6 := f25_6; have q_f29_6 := f29_6; have q_c_7 := i_le c_7; have q_iv_9 := iv_9; have q_iv_10 := iv_10; have q_c_23 := i_le c_23; have q_f_25 := f_25; have q_f_26 := f_26; have q_c_44 := i_le c_44; have q_f1_6 := f1_6; have q_f9_6 := f9_6; have q_f11_6 := f11_6; have q_f13_6 := f13_6; have q_f17_6 := f17_6; have q_f18_6 := f18_6; have q_iv_32 := iv_32; have g_c2_6 := i_rg c2_6; have g_c9_6 := i_rg c9_6; have g_v3_31 := i_rg v3_31; have g_v3_8 := i_rg v3_8; have g_x1 := i_rg x1; have g_x2 := i_rg x2; have g_z_21 := i_rg z_21; have g_z_24 := i_rg z_24; have g_z_5 := i_rg z_5; omega) (gE.rf) (gF.rf) hG hP hD hS (lv_sub hl [2, 3, 4, 1, 0] rfl)
                  · refine lv_aload_n hx hb dX8_remove_85 rfl (lv_at hl 0 rfl) ?_
                    refine lv_iload_n hx hb dX8_remove_86 rfl (lv_at hl 3 rfl) ?_
                    have hFc := gfree hD hS hA
                    refine va_calli (va_runV (As := [.int v3_31]) (rest := []) ⟨hx, hb, hml, hown, hts⟩ (m_X8_targetCount l g H.size ws_33 h0 (v3_31) hG o_h0) (cwV 1 hts (gd_V kw_1518 kw_1541 kw_1542 kw_782 kw_1540) rfl rfl rfl (by decide +kernel) ⟨Nat.le_of_ble_eq_true rfl, Nat.le_of_ble_eq_true rfl⟩) ⟨gblind, va_recv hK hP (ci := 7) (q0 := k_6) rfl hk_43, fun U hU hW9 => gmk hU hW9 hP hK hD hex hE hS hFc⟩ rfl rfl hl.1 rfl (lv_room (Nat.le_of_ble_eq_true rfl)) dX8_remove_87 ⟨Nat.le_of_ble_eq_true rfl, Nat.le_of_ble_eq_true rfl⟩) hS (fun q _ h => hFc q h) hFc (fun r_106 u9 t9 H1 locs ht9 hvm9 hw9 hB9 hz9 hk9 hS => ?_)
                    have hP : va_P (gD g) cl0 ws_33 H1 := by rw [← ht9]; exact hB9.1
                    clear hB9 hz9 hk9 hvm9 ht9 hw9
                    generalize H1 = H at hP hS ⊢
                    refine lv_istore (lv' := [(4, .int r_106), (0, .ref h0), (1, .int x1), (2, .int x2), (3, .int v3_31)]) hx hb dX8_remove_90 hl (by decide) rfl (fun ls hl => ?_)
                    refine lv_iconst (v := 0) hx hb dX8_remove_92 (by decide) ?_
                    refine lv_istore (lv' := [(5, .int 0), (4, .int r_106), (0, .ref h0), (1, .int x1), (2, .int x2), (3, .int v3_31)]) hx hb dX8_remove_93 hl (by decide) rfl (fun ls hl => ?_)
                    have J_95 : ∀ (n9 : Nat) (v5_107 : Int32) (ws_109 : va_W) (H : Heap) (locs : List Loc) (ls : Array Slot), (2147483647 - v5_107.toInt).toNat = n9 → 0 ≤ v5_107.toInt → gE ws_33 ws_109 → gF [] [(7, 0), (7, 1), (7, 3)] (some h0) ws_33 ws_109 → Good g ws_109 → va_P (gD g) cl0 ws_109 H → va_D A ws_109 → va_S A s.heap H locs → lv_has ls 7 [(0, .ref h0), (1, .int x1), (2, .int x2), (3, .int v3_31), (4, .int r_106), (5, .int v5_107)] → W p l e (headSpec (wt yX8_remove cX8_remove 7 none) ({ frames := 2, cells := 0, slots := 0, locals := 48 })).room s m ([.ref h0, .int x1, .int x2] : List Value).toArray below meth c H locs (0) (0) (MQ below (va_Qv (fun (u9 : va_W) => True) (gQ1 g [(7, 2), (7, 9)] [(7, 0), (7, 1), (7, 3), (7, 5), (7, 6), (7, 7), (7, 8)] (some h0) A ws) A) ([.ref h0, .int x1, .int x2] : List Value).toArray s (0) (0) A) (F0 m 95 ls []) := by
                      intro n9
                      induction n9 using Nat.strongRecOn with
                      | ind n9 ih_95 =>
                        intro v5_107 ws_109 H locs ls hm9 iv_108 E_110 Fr_111 hG hP hD hS hl
                        subst hm9
                        have aa_112 := a_r0_6
                        have aa_113 := a_r1_6
                        have aa_114 := a_r3_43
                        have aa_115 := a_r5_6
                        have aa_116 := a_r6_6
                        have aa_117 := a_r7_6
                        have aa_118 := a_r8_6
                        have o_h0 := E_110.1 _ _ o_h0
                        refine lv_iload hx hb dX8_remove_95 (lv_at hl 5 rfl) ?_
                        refine lv_iload hx hb dX8_remove_97 (lv_at hl 4 rfl) ?_
                        refine lv_icmp_ge (tgt := 127) hx hb dX8_remove_99 (by decide) (fun c_119 => ?_) (fun c_119 => ?_)
                        · obtain ⟨z_120, ez_120⟩ : ∃ z : Int32, v3_31 + Int32.ofInt 1 = z := ⟨_, rfl⟩
                          refine lv_iinc (v := z_120) (lv' := [(3, .int z_120), (0, .ref h0), (1, .int x1), (2, .int x2), (4, .int r_106), (5, .int v5_107)]) hx hb dX8_remove_127 hl (k := 3) rfl ez_120 (by decide) rfl (fun ls hl => ?_)
                          refine lv_goto (tgt := 77) hx hb dX8_remove_130 (by decide) ?_
                          exact ih_77 _ (by obtain ⟨u_z_120, q_z_120⟩ := i_iz ez_120 (by decide) (by decide); have q_iv_32 := iv_32; have q_c_44 := i_nle c_44; obtain ⟨u_z_24, q_z_24⟩ := i_sub ez_24; have q_f_25 := f_25; have q_f_26 := f_26; have g_c2_6 := i_rg c2_6; have g_v3_31 := i_rg v3_31; have g_x2 := i_rg x2; have g_z_120 := i_rg z_120; have g_z_24 := i_rg z_24; omega) (z_120) ws_109 H locs ls rfl (by obtain ⟨u_z_120, q_z_120⟩ := i_iz ez_120 (by decide) (by decide); have q_iv_32 := iv_32; have q_c_44 := i_nle c_44; obtain ⟨u_z_24, q_z_24⟩ := i_sub ez_24; have q_f_25 := f_25; have q_f_26 := f_26; have g_c2_6 := i_rg c2_6; have g_v3_31 := i_rg v3_31; have g_x2 := i_rg x2; have g_z_120 := i_rg z_120; have g_z_24 := i_rg z_24; omega) ((E_34.tr E_110)) ((gF.tr Fr_35 Fr_111)) hG hP hD hS (lv_sub hl [1, 2, 3, 0] rfl)
                        · refine lv_aload_n hx hb dX8_remove_102 rfl (lv_at hl 0 rfl) ?_
                          refine lv_iload_n hx hb dX8_remove_103 rfl (lv_at hl 3 rfl) ?_
                          refine lv_iload hx hb dX8_remove_104 (lv_at hl 5 rfl) ?_
                          refine lv_aload_n hx hb dX8_remove_106 rfl (lv_at hl 0 rfl) ?_
                          refine lv_iload_n hx hb dX8_remove_107 rfl (lv_at hl 3 rfl) ?_
                          refine lv_iload hx hb dX8_remove_108 (lv_at hl 5 rfl) ?_
                          have hFc := gfree hD hS hA
                          obtain ⟨k_121, fs_121, hk_121⟩ := gC_of o_h0
                          refine va_calli (va_runV (As := [.int v3_31, .int v5_107]) (rest := [.int v5_107, .int v3_31, .ref h0]) ⟨hx, hb, hml, hown, hts⟩ (m_X8_targetAt l g H.size ws_109 h0 (v3_31) (v5_107) hG o_h0) (cwV 2 hts (gd_V kw_1519 kw_1537 kw_1538 kw_782 kw_1536) rfl rfl rfl (by decide +kernel) ⟨Nat.le_of_ble_eq_true rfl, Nat.le_of_ble_eq_true rfl⟩) ⟨gblind, va_recv hK hP (ci := 7) (q0 := k_121) rfl hk_121, fun U hU hW9 => gmk hU hW9 hP hK hD hex hE hS hFc⟩ rfl rfl hl.1 rfl (lv_room (Nat.le_of_ble_eq_true rfl)) dX8_remove_110 ⟨Nat.le_of_ble_eq_true rfl, Nat.le_of_ble_eq_true rfl⟩) hS (fun q _ h => hFc q h) hFc (fun r_122 u9 t9 H1 locs ht9 hvm9 hw9 hB9 hz9 hk9 hS => ?_)
                          have hP : va_P (gD g) cl0 ws_109 H1 := by rw [← ht9]; exact hB9.1
                          clear hB9 hz9 hk9 hvm9 ht9 hw9
                          generalize H1 = H at hP hS ⊢
                          refine lv_iload_n hx hb dX8_remove_113 rfl (lv_at hl 1 rfl) ?_
                          refine lv_iload_n hx hb dX8_remove_114 rfl (lv_at hl 2 rfl) ?_
                          have hFc := gfree hD hS hA
                          refine va_calli (va_runS (As := [.int r_122, .int x1, .int x2]) (rest := [.int v5_107, .int v3_31, .ref h0]) ⟨hx, hb, hml, hown, hts⟩ (m_X8_behindRemoved l g H.size ws_109 (r_122) (x1) (x2) hG ) (va_cwS 3 hts (gd_S kw_1520 kw_1480 kw_782 kw_1479) rfl rfl rfl (by decide +kernel) ⟨Nat.le_of_ble_eq_true rfl, Nat.le_of_ble_eq_true rfl⟩) ⟨gblind, fun U hU hW9 => gmk hU hW9 hP hK hD hex hE hS hFc⟩ rfl rfl hl.1 rfl (lv_room (Nat.le_of_ble_eq_true rfl)) dX8_remove_115 ⟨Nat.le_of_ble_eq_true rfl, Nat.le_of_ble_eq_true rfl⟩) hS (fun q _ h => hFc q h) hFc (fun r_123 u9 t9 H1 locs ht9 hvm9 hw9 hB9 hz9 hk9 hS => ?_)
                          have hP : va_P (gD g) cl0 ws_109 H1 := by rw [← ht9]; exact hB9.1
                          clear hB9 hz9 hk9 hvm9 ht9 hw9
                          generalize H1 = H at hP hS ⊢
                          have hFc := gfree hD hS hA
                          obtain ⟨k_124, fs_124, hk_124⟩ := gC_of o_h0
                          refine va_callv (va_runV (As := [.int v3_31, .int v5_107, .int r_123]) (rest := []) ⟨hx, hb, hml, hown, hts⟩ (m_X8_setTarget l g H.size ws_109 h0 (v3_31) (v5_107) (r_123) hG o_h0) (cwV 3 hts (gd_V kw_1521 kw_1526 kw_1527 kw_782 kw_1525) rfl rfl rfl (by decide +kernel) ⟨Nat.le_of_ble_eq_true rfl, Nat.le_of_ble_eq_true rfl⟩) ⟨gblind, va_recv hK hP (ci := 7) (q0 := k_124) rfl hk_124, fun U hU hW9 => gmk hU hW9 hP hK hD hex hE hS hFc⟩ rfl rfl hl.1 rfl (lv_room (Nat.le_of_ble_eq_true rfl)) dX8_remove_118 ⟨Nat.le_of_ble_eq_true rfl, Nat.le_of_ble_eq_true rfl⟩) hS (fun q _ h => hFc q h) hFc (fun  ws_125 t9 H1 locs ht9 hvm9 hw9 hB9 hz9 hk9 hS => ?_)
                          obtain ⟨E_126, Fr_127, hG, hP1, hD1⟩ := hB9
                          have hP : va_P (gD g) cl0 ws_125 H1 := by rw [← ht9]; exact hP1
                          have hD : va_D A ws_125 := hD1.weaken (fun _ _ _ h => hFc _ h)
                          clear hP1 hD1 hz9 hk9 hvm9 ht9 hw9
                          generalize H1 = H at hP hS ⊢
                          have o_h0 := E_126.1 _ _ o_h0
                          obtain ⟨z_130, ez_130⟩ : ∃ z : Int32, v5_107 + Int32.ofInt 1 = z := ⟨_, rfl⟩
                          refine lv_iinc (v := z_130) (lv' := [(5, .int z_130), (0, .ref h0), (1, .int x1), (2, .int x2), (3, .int v3_31), (4, .int r_106)]) hx hb dX8_remove_121 hl (k := 5) rfl ez_130 (by decide) rfl (fun ls hl => ?_)
                          refine lv_goto (tgt := 95) hx hb dX8_remove_124 (by decide) ?_
                          exact ih_95 _ (by obtain ⟨u_z_130, q_z_130⟩ := i_iz ez_130 (by decide) (by decide); have q_iv_108 := iv_108; have q_c_119 := i_nle c_119; have g_r_106 := i_rg r_106; have g_v5_107 := i_rg v5_107; have g_z_130 := i_rg z_130; omega) (z_130) ws_125 H locs ls rfl (by obtain ⟨u_z_130, q_z_130⟩ := i_iz ez_130 (by decide) (by decide); have q_iv_108 := iv_108; have q_c_119 := i_nle c_119; have g_r_106 := i_rg r_106; have g_v5_107 := i_rg v5_107; have g_z_130 := i_rg z_130; omega) ((E_110.tr E_126)) ((gF.tr Fr_111 Fr_127)) hG hP hD hS (lv_sub hl [1, 2, 3, 4, 5, 0] rfl)
                    exact J_95 _ (0) ws_33 H locs ls rfl (by have e0 : (0 : Int32).toInt = 0 := (by decide); omega) (gE.rf) (gF.rf) hG hP hD hS (lv_sub hl [2, 3, 4, 5, 1, 0] rfl)
              exact J_77 _ (0) ws_28 H locs ls rfl (by have e0 : (0 : Int32).toInt = 0 := (by decide); omega) (gE.rf) (gF.rf) hG hP hD hS (lv_sub hl [1, 2, 3, 0] rfl)
            · refine lv_aload_n hx hb dX8_remove_31 rfl (lv_at hl 0 rfl) ?_
              refine va_get (D := gD g) (ci := 7) (v := .ref r0_6) (C := RX8) (T := TX8) (N := 15) hx hb hts inX8 hown hK hP k_6 hk_22 rfl 0 (by decide) (hts _ kw_1460) (fun _ h9 => h9) rfl dX8_remove_32 ?_
              refine lv_iload_n hx hb dX8_remove_35 rfl (lv_at hl 3 rfl) ?_
              refine lv_aload_n hx hb dX8_remove_36 rfl (lv_at hl 0 rfl) ?_
              refine va_get (D := gD g) (ci := 7) (v := .ref r0_6) (C := RX8) (T := TX8) (N := 15) hx hb hts inX8 hown hK hP k_6 hk_22 rfl 0 (by decide) (hts _ kw_1460) (fun _ h9 => h9) rfl dX8_remove_37 ?_
              refine lv_iload_n hx hb dX8_remove_40 rfl (lv_at hl 3 rfl) ?_
              refine lv_iload_n hx hb dX8_remove_41 rfl (lv_at hl 2 rfl) ?_
              refine lv_iadd hx hb dX8_remove_42 ?_
              refine lv_topi (fun z_131 ez_131 => ?_)
              obtain ⟨k_132, f_132, hk_132⟩ := gI_of a_r0_6
              refine va_iald hx hb hK hP k_132 1 hk_132 rfl (i_in2 (by have e0 : (0 : Int32).toInt = 0 := (by decide); have q_f1_6 := f1_6; have q_f17_6 := f17_6; have q_f18_6 := f18_6; have q_f20_6 := f20_6; obtain ⟨u_z_131, q_z_131⟩ := i_add ez_131; have q_pn := pn; have q_c_4 := i_nle c_4; obtain ⟨u_z_5, q_z_5⟩ := i_add ez_5; have q_f3_6 := f3_6; have q_f19_6 := f19_6; have q_c_7 := i_le c_7; have q_iv_9 := iv_9; have q_iv_10 := iv_10; obtain ⟨u_z_21, q_z_21⟩ := i_add ez_21; have q_c_23 := i_nle c_23; have q_px := px; have q_c_3 := i_nlt c_3; have g_c2_6 := i_rg c2_6; have g_v3_8 := i_rg v3_8; have g_x1 := i_rg x1; have g_x2 := i_rg x2; have g_z_131 := i_rg z_131; have g_z_21 := i_rg z_21; have g_z_5 := i_rg z_5; omega)) dX8_remove_43 ?_
              refine lv_topi (fun z_133 ez_133 => ?_)
              have hC9 : hol ws_11 r0_6 [(7, 0)] := (hol_u hG.u hk_22 (j := 0) rfl a_r0_6 (by decide))
              have hS9 : holS ws_11 r0_6 (some h0) := holS_u hG.u hk_22 (j := 0) rfl a_r0_6
              refine va_iast hx hb hK hP hD hS k_132 1 hk_132 rfl (i_in2 (by have e0 : (0 : Int32).toInt = 0 := (by decide); have q_f1_6 := f1_6; have q_f17_6 := f17_6; have q_f18_6 := f18_6; have q_f20_6 := f20_6; have q_iv_9 := iv_9; have q_iv_10 := iv_10; obtain ⟨u_z_21, q_z_21⟩ := i_add ez_21; obtain ⟨u_z_131, q_z_131⟩ := i_add ez_131; have q_pn := pn; have q_c_4 := i_nle c_4; obtain ⟨u_z_5, q_z_5⟩ := i_add ez_5; have q_f3_6 := f3_6; have q_f19_6 := f19_6; have q_c_7 := i_le c_7; have q_c_23 := i_nle c_23; have q_px := px; have q_c_3 := i_nlt c_3; have g_c2_6 := i_rg c2_6; have g_v3_8 := i_rg v3_8; have g_x1 := i_rg x1; have g_x2 := i_rg x2; have g_z_131 := i_rg z_131; have g_z_21 := i_rg z_21; have g_z_5 := i_rg z_5; omega)) dX8_remove_44 (fun H locs hP hD hS => ?_)
              obtain ⟨ws_134, e_ws_134⟩ : ∃ z, z = ws_11.set k_132 (r0_6, .inl (g.cI, n0_6, .inl (upd f_132 (v3_8 : Int32).toNatClampNeg z_133))) := ⟨_, rfl⟩
              have hP : va_P (gD g) cl0 ws_134 H := by rw [e_ws_134]; exact hP
              have hD : va_D A ws_134 := by rw [e_ws_134]; exact hD
              have E_135 : gE ws_11 ws_134 := gE_ari e_ws_134 hk_132
              have hG : Good g ws_134 := Good_arI e_ws_134 hk_132 hG
              have Fr_136 : gF [] [(7, 0)] (some h0) ws_11 ws_134 := gF_ar e_ws_134 hk_132 rfl hC9 hS9
              have hk_22 := gset_arO e_ws_134 hk_132 hk_22
              have o_h0 := E_135.1 _ _ o_h0
              have a_r3_22 := E_135.1 _ _ a_r3_22
              have o_v12_22 : ∀ b, v12_22 = some b → ∃ n, gI ws_134 b g.cB n ∧ n < 2147483648 := fun b h => (o_v12_22 b h).imp (fun n h => ⟨E_135.1 _ _ h.1, h.2⟩)
              have o_v13_22 : ∀ b, v13_22 = some b → ∃ n, gJ ws_134 b g.cL n ∧ n < 2147483648 := fun b h => (o_v13_22 b h).imp (fun n h => ⟨E_135.1 _ _ h.1, h.2⟩)
              have o_v14_22 : ∀ b, v14_22 = some b → ∃ n, gJ ws_134 b g.cL n ∧ n < 2147483648 := fun b h => (o_v14_22 b h).imp (fun n h => ⟨E_135.1 _ _ h.1, h.2⟩)
              have a_r0_6 := E_135.1 _ _ a_r0_6
              have a_r1_6 := E_135.1 _ _ a_r1_6
              have a_r5_6 := E_135.1 _ _ a_r5_6
              have a_r6_6 := E_135.1 _ _ a_r6_6
              have a_r7_6 := E_135.1 _ _ a_r7_6
              have a_r8_6 := E_135.1 _ _ a_r8_6
              refine lv_aload_n hx hb dX8_remove_45 rfl (lv_at hl 0 rfl) ?_
              refine va_get (D := gD g) (ci := 7) (v := .ref r1_6) (C := RX8) (T := TX8) (N := 15) hx hb hts inX8 hown hK hP k_6 hk_22 rfl 1 (by decide) (hts _ kw_1478) (fun _ h9 => h9) rfl dX8_remove_46 ?_
              refine lv_iload_n hx hb dX8_remove_49 rfl (lv_at hl 3 rfl) ?_
              refine lv_aload_n hx hb dX8_remove_50 rfl (lv_at hl 0 rfl) ?_
              refine va_get (D := gD g) (ci := 7) (v := .ref r1_6) (C := RX8) (T := TX8) (N := 15) hx hb hts inX8 hown hK hP k_6 hk_22 rfl 1 (by decide) (hts _ kw_1478) (fun _ h9 => h9) rfl dX8_remove_51 ?_
              refine lv_iload_n hx hb dX8_remove_54 rfl (lv_at hl 3 rfl) ?_
              refine lv_iload_n hx hb dX8_remove_55 rfl (lv_at hl 2 rfl) ?_
              refine lv_iadd hx hb dX8_remove_56 ?_
              refine lv_topi (fun z_137 ez_137 => ?_)
              obtain ⟨k_138, f_138, hk_138⟩ := gJ_of a_r1_6
              refine va_lald hx hb hK hP k_138 3 hk_138 rfl (i_in2 (by have e0 : (0 : Int32).toInt = 0 := (by decide); have q_f3_6 := f3_6; have q_f17_6 := f17_6; obtain ⟨u_z_137, q_z_137⟩ := i_add ez_137; have q_pn := pn; have q_c_4 := i_nle c_4; obtain ⟨u_z_5, q_z_5⟩ := i_add ez_5; have q_f1_6 := f1_6; have q_f18_6 := f18_6; have q_f20_6 := f20_6; have q_iv_9 := iv_9; have q_iv_10 := iv_10; obtain ⟨u_z_21, q_z_21⟩ := i_add ez_21; obtain ⟨u_z_131, q_z_131⟩ := i_add ez_131; have q_px := px; have q_c_3 := i_nlt c_3; have q_f19_6 := f19_6; have q_c_7 := i_le c_7; have q_c_23 := i_nle c_23; have g_c2_6 := i_rg c2_6; have g_v3_8 := i_rg v3_8; have g_x1 := i_rg x1; have g_x2 := i_rg x2; have g_z_131 := i_rg z_131; have g_z_137 := i_rg z_137; have g_z_21 := i_rg z_21; have g_z_5 := i_rg z_5; omega)) dX8_remove_57 ?_
              refine lv_topl (fun z_139 ez_139 => ?_)
              have hC9 : hol ws_134 r1_6 [(7, 1)] := (hol_u hG.u hk_22 (j := 1) rfl a_r1_6 (by decide))
              have hS9 : holS ws_134 r1_6 (some h0) := holS_u hG.u hk_22 (j := 1) rfl a_r1_6
              refine va_last hx hb hK hP hD hS k_138 3 hk_138 rfl (i_in2 (by have e0 : (0 : Int32).toInt = 0 := (by decide); have q_f3_6 := f3_6; have q_f17_6 := f17_6; have q_iv_9 := iv_9; have q_iv_10 := iv_10; obtain ⟨u_z_21, q_z_21⟩ := i_add ez_21; obtain ⟨u_z_131, q_z_131⟩ := i_add ez_131; obtain ⟨u_z_137, q_z_137⟩ := i_add ez_137; have q_pn := pn; have q_c_4 := i_nle c_4; obtain ⟨u_z_5, q_z_5⟩ := i_add ez_5; have q_f1_6 := f1_6; have q_f18_6 := f18_6; have q_f20_6 := f20_6; have q_c_23 := i_nle c_23; have q_px := px; have q_c_3 := i_nlt c_3; have q_f19_6 := f19_6; have q_c_7 := i_le c_7; have g_c2_6 := i_rg c2_6; have g_v3_8 := i_rg v3_8; have g_x1 := i_rg x1; have g_x2 := i_rg x2; have g_z_131 := i_rg z_131; have g_z_137 := i_rg z_137; have g_z_21 := i_rg z_21; have g_z_5 := i_rg z_5; omega)) dX8_remove_58 (fun H locs hP hD hS => ?_)
              obtain ⟨ws_140, e_ws_140⟩ : ∃ z, z = ws_134.set k_138 (r1_6, .inl (g.cL, n1_6, .inr (.inl (vp_updL f_138 (v3_8 : Int32).toNatClampNeg z_139)))) := ⟨_, rfl⟩
              have hP : va_P (gD g) cl0 ws_140 H := by rw [e_ws_140]; exact hP
              have hD : va_D A ws_140 := by rw [e_ws_140]; exact hD
              have E_141 : gE ws_134 ws_140 := gE_arj e_ws_140 hk_138
              have hG : Good g ws_140 := Good_arj e_ws_140 hk_138 hG
              have Fr_142 : gF [] [(7, 1)] (some h0) ws_134 ws_140 := gF_ar e_ws_140 hk_138 rfl hC9 hS9
              have hk_22 := gset_arO e_ws_140 hk_138 hk_22
              have o_h0 := E_141.1 _ _ o_h0
              have a_r3_22 := E_141.1 _ _ a_r3_22
              have o_v12_22 : ∀ b, v12_22 = some b → ∃ n, gI ws_140 b g.cB n ∧ n < 2147483648 := fun b h => (o_v12_22 b h).imp (fun n h => ⟨E_141.1 _ _ h.1, h.2⟩)
              have o_v13_22 : ∀ b, v13_22 = some b → ∃ n, gJ ws_140 b g.cL n ∧ n < 2147483648 := fun b h => (o_v13_22 b h).imp (fun n h => ⟨E_141.1 _ _ h.1, h.2⟩)
              have o_v14_22 : ∀ b, v14_22 = some b → ∃ n, gJ ws_140 b g.cL n ∧ n < 2147483648 := fun b h => (o_v14_22 b h).imp (fun n h => ⟨E_141.1 _ _ h.1, h.2⟩)
              have a_r0_6 := E_141.1 _ _ a_r0_6
              have a_r1_6 := E_141.1 _ _ a_r1_6
              have a_r5_6 := E_141.1 _ _ a_r5_6
              have a_r6_6 := E_141.1 _ _ a_r6_6
              have a_r7_6 := E_141.1 _ _ a_r7_6
              have a_r8_6 := E_141.1 _ _ a_r8_6
              obtain ⟨z_143, ez_143⟩ : ∃ z : Int32, v3_8 + Int32.ofInt 1 = z := ⟨_, rfl⟩
              refine lv_iinc (v := z_143) (lv' := [(3, .int z_143), (0, .ref h0), (1, .int x1), (2, .int x2)]) hx hb dX8_remove_59 hl (k := 3) rfl ez_143 (by decide) rfl (fun ls hl => ?_)
              refine lv_goto (tgt := 21) hx hb dX8_remove_62 (by decide) ?_
              exact ih_21 _ (by have e0 : (0 : Int32).toInt = 0 := (by decide); obtain ⟨u_z_143, q_z_143⟩ := i_iz ez_143 (by decide) (by decide); have q_iv_9 := iv_9; have q_iv_10 := iv_10; obtain ⟨u_z_21, q_z_21⟩ := i_add ez_21; obtain ⟨u_z_131, q_z_131⟩ := i_add ez_131; obtain ⟨u_z_137, q_z_137⟩ := i_add ez_137; have q_pn := pn; have q_c_4 := i_nle c_4; obtain ⟨u_z_5, q_z_5⟩ := i_add ez_5; have q_c_23 := i_nle c_23; have g_c2_6 := i_rg c2_6; have g_v3_8 := i_rg v3_8; have g_x1 := i_rg x1; have g_x2 := i_rg x2; have g_z_131 := i_rg z_131; have g_z_137 := i_rg z_137; have g_z_143 := i_rg z_143; have g_z_21 := i_rg z_21; have g_z_5 := i_rg z_5; omega) (z_143) ws_140 H locs ls rfl (by have e0 : (0 : Int32).toInt = 0 := (by decide); obtain ⟨u_z_143, q_z_143⟩ := i_iz ez_143 (by decide) (by decide); have q_iv_9 := iv_9; have q_iv_10 := iv_10; obtain ⟨u_z_21, q_z_21⟩ := i_add ez_21; obtain ⟨u_z_131, q_z_131⟩ := i_add ez_131; obtain ⟨u_z_137, q_z_137⟩ := i_add ez_137; have q_pn := pn; have q_c_4 := i_nle c_4; obtain ⟨u_z_5, q_z_5⟩ := i_add ez_5; have q_c_23 := i_nle c_23; have g_c2_6 := i_rg c2_6; have g_v3_8 := i_rg v3_8; have g_x1 := i_rg x1; have g_x2 := i_rg x2; have g_z_131 := i_rg z_131; have g_z_137 := i_rg z_137; have g_z_143 := i_rg z_143; have g_z_21 := i_rg z_21; have g_z_5 := i_rg z_5; omega) (by have e0 : (0 : Int32).toInt = 0 := (by decide); have q_px := px; have q_pn := pn; have q_c_3 := i_nlt c_3; have q_c_4 := i_nle c_4; obtain ⟨u_z_5, q_z_5⟩ := i_add ez_5; obtain ⟨u_z_21, q_z_21⟩ := i_add ez_21; obtain ⟨u_z_131, q_z_131⟩ := i_add ez_131; obtain ⟨u_z_137, q_z_137⟩ := i_add ez_137; obtain ⟨u_z_143, q_z_143⟩ := i_iz ez_143 (by decide) (by decide); have q_c_7 := i_le c_7; have q_iv_9 := iv_9; have q_iv_10 := iv_10; have q_c_23 := i_nle c_23; have q_f19_6 := f19_6; have q_f20_6 := f20_6; have g_c2_6 := i_rg c2_6; have g_v3_8 := i_rg v3_8; have g_x1 := i_rg x1; have g_x2 := i_rg x2; have g_z_131 := i_rg z_131; have g_z_137 := i_rg z_137; have g_z_143 := i_rg z_143; have g_z_21 := i_rg z_21; have g_z_5 := i_rg z_5; omega) ((E_12.tr (E_135.tr E_141))) ((gF.tr Fr_13 (gF.tr (gF.mo (F' := []) (C' := [(7, 0), (7, 1)]) (S' := (some h0)) Fr_136 (fun _ h => h) (by decide) (Or.inr rfl)) (gF.mo (F' := []) (C' := [(7, 0), (7, 1)]) (S' := (some h0)) Fr_142 (fun _ h => h) (by decide) (Or.inr rfl))))) hG hP hD hS (lv_sub hl [1, 2, 3, 0] rfl)
        exact J_21 _ (x1) ws _ _ ls rfl (by have e0 : (0 : Int32).toInt = 0 := (by decide); have q_px := px; have q_c_3 := i_nlt c_3; obtain ⟨u_z_5, q_z_5⟩ := i_add ez_5; have q_pn := pn; have q_c_4 := i_nle c_4; have q_c_7 := i_le c_7; have q_f19_6 := f19_6; have q_f20_6 := f20_6; have g_c2_6 := i_rg c2_6; have g_x1 := i_rg x1; have g_x2 := i_rg x2; have g_z_5 := i_rg z_5; omega) (by have e0 : (0 : Int32).toInt = 0 := (by decide); have q_px := px; have q_pn := pn; have q_c_3 := i_nlt c_3; have q_c_4 := i_nle c_4; obtain ⟨u_z_5, q_z_5⟩ := i_add ez_5; have q_c_7 := i_le c_7; have q_f19_6 := f19_6; have q_f20_6 := f20_6; have g_c2_6 := i_rg c2_6; have g_x1 := i_rg x1; have g_x2 := i_rg x2; have g_z_5 := i_rg z_5; omega) (gE.rf) (gF.rf) hG hP hD hS (lv_sub hl [1, 2, 3, 0] rfl)
      · exact J_18  _ _ ls  hP hD hS (lv_sub hl [] rfl)
