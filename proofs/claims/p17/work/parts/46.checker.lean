set_option maxHeartbeats 1000000 in
set_option maxRecDepth 100000 in
theorem m_X1_setPlace (l : Launch) (g : Gm) (sz : Nat) (ws : va_W) (h0 : Nat) (x1 : Int32) (x2 : Int32) (hG : Good g ws) (o_h0 : gC ws h0 1) : Met l yX1_setPlace (wt yX1_setPlace cX1_setPlace 3 none) ({ frames := 0, cells := 0, slots := 0, locals := 0 }) (va_Pc [.ref h0, .int x1, .int x2] (st_G g sz ws)) (va_Qv (fun (u9 : va_W) => True) (gQ1 g [] [(1, 4)] none (va_A ws sz) ws) (va_A ws sz)) (0) (0) (va_A ws sz) := by
  refine Met.ofW (cc := cX1_setPlace) (maxL := 3) (ret := none) (by decide) rfl ?_
  intro p e s m args below meth c s₁ B hml hv
  obtain ⟨rfl, hsz, hP, hK, hD0, hex, hE⟩ := hv
  have hx := B.exec
  have hb := B.bytes
  have hr := B.returns
  have hts0 := atoms_spec (ws := wt yX1_setPlace cX1_setPlace 3 none) B.pre
  have hts : ∀ w ∈ tb, w.before _ s = true := fun w h => hts0 w (List.mem_cons_of_mem _ h)
  have hown : s.vm.findClass RX1 = some m.cls := findClass_of_methodNamed B.named
  subst hsz
  have hD := hD0.self (sz := s.heap.size)
  generalize hAe : va_A ws s.heap.size = A at hD hE ⊢
  have hA : ∀ q : Nat, s.heap.size ≤ q → A q := fun q h => by rw [← hAe]; exact Or.inr h
  have hS : va_S A s.heap s.heap [] := va_S.rf
  have hl := lv_entry ([.ref h0, .int x1, .int x2]) (n := 3) (Nat.le_of_ble_eq_true rfl)
  rw [lg_entry_eq]
  generalize (lg_sl ([.ref h0, .int x1, .int x2]) ++ List.replicate (3 - (lg_sl ([.ref h0, .int x1, .int x2])).length) Slot.unset).toArray = ls at hl ⊢
  have hl : lv_has ls 3 [(0, .ref h0), (1, .int x1), (2, .int x2)] := hl
  refine lv_iload_n hx hb dX1_setPlace_0 rfl (lv_at hl 1 rfl) ?_
  have J_18 : ∀ (ws_1 : va_W) (H : Heap) (locs : List Loc) (ls : Array Slot), gE ws ws_1 → gF [] [(1, 4)] none ws ws_1 → Good g ws_1 → va_P (gD g) cl0 ws_1 H → va_D A ws_1 → va_S A s.heap H locs → lv_has ls 3 [] → W p l e (headSpec (wt yX1_setPlace cX1_setPlace 3 none) ({ frames := 0, cells := 0, slots := 0, locals := 0 })).room s m ([.ref h0, .int x1, .int x2] : List Value).toArray below meth c H locs (0) (0) (MQ below (va_Qv (fun (u9 : va_W) => True) (gQ1 g [] [(1, 4)] none A ws) A) ([.ref h0, .int x1, .int x2] : List Value).toArray s (0) (0) A) (F0 m 18 ls []) := by
    intro ws_1 H locs ls  E_2 Fr_3 hG hP hD hS hl
    have o_h0 := E_2.1 _ _ o_h0
    refine W.widen (k := 0) (n := 0) (Nat.le_of_ble_eq_true rfl) (Nat.le_of_ble_eq_true rfl) ?_
    exact W.vret hx hb hr (fun t9 ht9 hW9 => ⟨⟨ws_1, rfl, trivial, ⟨E_2, Fr_3, hG, by rw [ht9]; exact hP, hD⟩⟩, hS.F ht9⟩) hS.2.2 dX1_setPlace_18
  refine lv_if_lt (tgt := 18) hx hb dX1_setPlace_1 (by decide) (fun c_4 => ?_) (fun c_4 => ?_)
  · exact J_18 ws _ _ ls (gE.rf) (gF.rf) hG hP hD hS (lv_sub hl [] rfl)
  · refine lv_iload_n hx hb dX1_setPlace_4 rfl (lv_at hl 1 rfl) ?_
    refine lv_bipush (v := 48) hx hb dX1_setPlace_5 (by decide) ?_
    refine lv_icmp_ge (tgt := 18) hx hb dX1_setPlace_7 (by decide) (fun c_5 => ?_) (fun c_5 => ?_)
    · exact J_18 ws _ _ ls (gE.rf) (gF.rf) hG hP hD hS (lv_sub hl [] rfl)
    · refine lv_aload_n hx hb dX1_setPlace_10 rfl (lv_at hl 0 rfl) ?_
      obtain ⟨k_6, fs9, hk_6⟩ := gC_of o_h0
      obtain ⟨r0_6, r1_6, n1_6, r2_6, n2_6, r3_6, n3_6, r4_6, n4_6, c5_6, c6_6, c7_6, v8_6, v9_6, rfl, o_r0_6, a_r1_6, f2_6, a_r2_6, f4_6, a_r3_6, f6_6, a_r4_6, f8_6, hz_c6_6, hz_c7_6, o_v8_6, o_v9_6, f13_6, f14_6, f15_6, f16_6, -⟩ := (hG.1 _ _ _ _ hk_6).hX1 rfl
      refine va_get (D := gD g) (ci := 1) (v := .ref r4_6) (C := RX1) (T := TX1) (N := 10) hx hb hts inX1 hown hK hP k_6 hk_6 rfl 4 (by decide) (hts _ kw_477) (fun _ h9 => h9) rfl dX1_setPlace_11 ?_
      refine lv_iload_n hx hb dX1_setPlace_14 rfl (lv_at hl 1 rfl) ?_
      refine lv_iload_n hx hb dX1_setPlace_15 rfl (lv_at hl 2 rfl) ?_
      obtain ⟨z_7, ez_7⟩ : ∃ y : Int32, (x2 : Int32).toInt8.toInt32 = y := ⟨_, rfl⟩
      refine lv_i2b (v := z_7) hx hb dX1_setPlace_16 ez_7 ?_
      obtain ⟨k_8, f_8, hk_8⟩ := gI_of a_r4_6
      have hC9 : hol ws r4_6 [(1, 4)] := (hol_u hG.u hk_6 (j := 4) rfl a_r4_6 (by decide))
      have hS9 : holS ws r4_6 none := holS_n
      refine va_bast hx hb hK hP hD hS k_8 0 hk_8 rfl (i_in2 (by have e0 : (0 : Int32).toInt = 0 := (by decide); have e48 : (48 : Int32).toInt = 48 := (by decide); have q_c_4 := i_nlt c_4; have q_c_5 := i_nle c_5; have q_f8_6 := f8_6; have q_f13_6 := f13_6; have g_x1 := i_rg x1; omega)) dX1_setPlace_17 (fun H locs hP hD hS => ?_)
      obtain ⟨ws_9, e_ws_9⟩ : ∃ z, z = ws.set k_8 (r4_6, .inl (g.cB, n4_6, .inl (upd f_8 (x1 : Int32).toNatClampNeg (vp_nar .byte z_7)))) := ⟨_, rfl⟩
      have hP : va_P (gD g) cl0 ws_9 H := by rw [e_ws_9]; exact hP
      have hD : va_D A ws_9 := by rw [e_ws_9]; exact hD
      have E_10 : gE ws ws_9 := gE_ari e_ws_9 hk_8
      have hG : Good g ws_9 := Good_arB e_ws_9 hk_8 hG
      have Fr_11 : gF [] [(1, 4)] none ws ws_9 := gF_ar e_ws_9 hk_8 rfl hC9 hS9
      have hk_6 := gset_arO e_ws_9 hk_8 hk_6
      have o_h0 := E_10.1 _ _ o_h0
      have o_r0_6 := E_10.1 _ _ o_r0_6
      have a_r1_6 := E_10.1 _ _ a_r1_6
      have a_r2_6 := E_10.1 _ _ a_r2_6
      have a_r3_6 := E_10.1 _ _ a_r3_6
      have a_r4_6 := E_10.1 _ _ a_r4_6
      have o_v8_6 : ∀ b, v8_6 = some b → gC ws_9 b 9 := fun b h => E_10.1 _ _ (o_v8_6 b h)
      have o_v9_6 : ∀ b, v9_6 = some b → gC ws_9 b 7 := fun b h => E_10.1 _ _ (o_v9_6 b h)
      exact J_18 ws_9 H locs ls (E_10) (Fr_11) hG hP hD hS (lv_sub hl [] rfl)
set_option maxHeartbeats 1000000 in
set_option maxRecDepth 100000 in
theorem m_X1_placeAt (l : Launch) (g : Gm) (sz : Nat) (ws : va_W) (h0 : Nat) (x1 : Int32) (hG : Good g ws) (o_h0 : gC ws h0 1) : Met l yX1_placeAt (wt yX1_placeAt cX1_placeAt 2 (some .int)) ({ frames := 0, cells := 0, slots := 0, locals := 0 }) (va_Pc [.ref h0, .int x1] (st_G g sz ws)) (va_Qi (fun (r : Int32) (u9 : Unit) => True) (gQ0 g (va_A ws sz) ws) (va_A ws sz)) (0) (0) (va_A ws sz) := by
  refine Met.ofW (cc := cX1_placeAt) (maxL := 2) (ret := (some .int)) (by decide) rfl ?_
  intro p e s m args below meth c s₁ B hml hv
  obtain ⟨rfl, hsz, hP, hK, hD0, hex, hE⟩ := hv
  have hx := B.exec
  have hb := B.bytes
  have hr := B.returns
  have hts0 := atoms_spec (ws := wt yX1_placeAt cX1_placeAt 2 (some .int)) B.pre
  have hts : ∀ w ∈ tb, w.before _ s = true := fun w h => hts0 w (List.mem_cons_of_mem _ h)
  have hown : s.vm.findClass RX1 = some m.cls := findClass_of_methodNamed B.named
  subst hsz
  have hD := hD0.self (sz := s.heap.size)
  generalize hAe : va_A ws s.heap.size = A at hD hE ⊢
  have hA : ∀ q : Nat, s.heap.size ≤ q → A q := fun q h => by rw [← hAe]; exact Or.inr h
  have hS : va_S A s.heap s.heap [] := va_S.rf
  have hl := lv_entry ([.ref h0, .int x1]) (n := 2) (Nat.le_of_ble_eq_true rfl)
  rw [lg_entry_eq]
  generalize (lg_sl ([.ref h0, .int x1]) ++ List.replicate (2 - (lg_sl ([.ref h0, .int x1])).length) Slot.unset).toArray = ls at hl ⊢
  have hl : lv_has ls 2 [(0, .ref h0), (1, .int x1)] := hl
  refine lv_iload_n hx hb dX1_placeAt_0 rfl (lv_at hl 1 rfl) ?_
  have J_20 : ∀ (t_1 : Int32) (H : Heap) (locs : List Loc) (ls : Array Slot), va_P (gD g) cl0 ws H → va_D A ws → va_S A s.heap H locs → lv_has ls 2 [] → W p l e (headSpec (wt yX1_placeAt cX1_placeAt 2 (some .int)) ({ frames := 0, cells := 0, slots := 0, locals := 0 })).room s m ([.ref h0, .int x1] : List Value).toArray below meth c H locs (0) (0) (MQ below (va_Qi (fun (r : Int32) (u9 : Unit) => True) (gQ0 g A ws) A) ([.ref h0, .int x1] : List Value).toArray s (0) (0) A) (F0 m 20 ls [.int t_1]) := by
    intro t_1 H locs ls  hP hD hS hl
    refine W.widen (k := 0) (n := 0) (Nat.le_of_ble_eq_true rfl) (Nat.le_of_ble_eq_true rfl) ?_
    exact W.iret (v := t_1) hx hb hr (fun t9 ht9 hW9 => ⟨⟨_, (), rfl, trivial, ⟨by rw [ht9]; exact hP, hD⟩⟩, hS.F ht9⟩) hS.2.2 dX1_placeAt_20
  have J_10 : ∀  (H : Heap) (locs : List Loc) (ls : Array Slot), va_P (gD g) cl0 ws H → va_D A ws → va_S A s.heap H locs → lv_has ls 2 [] → W p l e (headSpec (wt yX1_placeAt cX1_placeAt 2 (some .int)) ({ frames := 0, cells := 0, slots := 0, locals := 0 })).room s m ([.ref h0, .int x1] : List Value).toArray below meth c H locs (0) (0) (MQ below (va_Qi (fun (r : Int32) (u9 : Unit) => True) (gQ0 g A ws) A) ([.ref h0, .int x1] : List Value).toArray s (0) (0) A) (F0 m 10 ls []) := by
    intro  H locs ls  hP hD hS hl
    refine lv_iconst (v := 0) hx hb dX1_placeAt_10 (by decide) ?_
    refine lv_goto (tgt := 20) hx hb dX1_placeAt_11 (by decide) ?_
    exact J_20 (0) H locs ls  hP hD hS (lv_sub hl [] rfl)
  refine lv_if_lt (tgt := 10) hx hb dX1_placeAt_1 (by decide) (fun c_6 => ?_) (fun c_6 => ?_)
  · exact J_10  _ _ ls  hP hD hS (lv_sub hl [] rfl)
  · refine lv_iload_n hx hb dX1_placeAt_4 rfl (lv_at hl 1 rfl) ?_
    refine lv_bipush (v := 48) hx hb dX1_placeAt_5 (by decide) ?_
    refine lv_icmp_lt (tgt := 14) hx hb dX1_placeAt_7 (by decide) (fun c_7 => ?_) (fun c_7 => ?_)
    · refine lv_aload_n hx hb dX1_placeAt_14 rfl (lv_at hl 0 rfl) ?_
      obtain ⟨k_8, fs9, hk_8⟩ := gC_of o_h0
      obtain ⟨r0_8, r1_8, n1_8, r2_8, n2_8, r3_8, n3_8, r4_8, n4_8, c5_8, c6_8, c7_8, v8_8, v9_8, rfl, o_r0_8, a_r1_8, f2_8, a_r2_8, f4_8, a_r3_8, f6_8, a_r4_8, f8_8, hz_c6_8, hz_c7_8, o_v8_8, o_v9_8, f13_8, f14_8, f15_8, f16_8, -⟩ := (hG.1 _ _ _ _ hk_8).hX1 rfl
      refine va_get (D := gD g) (ci := 1) (v := .ref r4_8) (C := RX1) (T := TX1) (N := 10) hx hb hts inX1 hown hK hP k_8 hk_8 rfl 4 (by decide) (hts _ kw_477) (fun _ h9 => h9) rfl dX1_placeAt_15 ?_
      refine lv_iload_n hx hb dX1_placeAt_18 rfl (lv_at hl 1 rfl) ?_
      obtain ⟨k_9, f_9, hk_9⟩ := gI_of a_r4_8
      refine va_bald hx hb hK hP k_9 0 hk_9 rfl (i_in2 (by have e0 : (0 : Int32).toInt = 0 := (by decide); have e48 : (48 : Int32).toInt = 48 := (by decide); have q_c_6 := i_nlt c_6; have q_c_7 := i_lt c_7; have q_f8_8 := f8_8; have q_f13_8 := f13_8; have g_x1 := i_rg x1; omega)) dX1_placeAt_19 ?_
      refine lv_topi (fun z_10 ez_10 => ?_)
      exact J_20 (z_10) _ _ ls  hP hD hS (lv_sub hl [] rfl)
    · exact J_10  _ _ ls  hP hD hS (lv_sub hl [] rfl)
set_option maxHeartbeats 1000000 in
set_option maxRecDepth 100000 in
theorem m_X1_lowerType (l : Launch) (g : Gm) (sz : Nat) (ws : va_W) (x0 : Int32) (hG : Good g ws)  : Met l yX1_lowerType (wt yX1_lowerType cX1_lowerType 1 (some .int)) ({ frames := 0, cells := 0, slots := 0, locals := 0 }) (va_Pc [.int x0] (st_G g sz ws)) (va_Qi (fun (r : Int32) (u9 : Unit) => True) (gQ0 g (va_A ws sz) ws) (va_A ws sz)) (0) (0) (va_A ws sz) := by
  refine Met.ofW (cc := cX1_lowerType) (maxL := 1) (ret := (some .int)) (by decide) rfl ?_
  intro p e s m args below meth c s₁ B hml hv
  obtain ⟨rfl, hsz, hP, hK, hD0, hex, hE⟩ := hv
  have hx := B.exec
  have hb := B.bytes
  have hr := B.returns
  have hts0 := atoms_spec (ws := wt yX1_lowerType cX1_lowerType 1 (some .int)) B.pre
  have hts : ∀ w ∈ tb, w.before _ s = true := fun w h => hts0 w (List.mem_cons_of_mem _ h)
  have hown : s.vm.findClass RX1 = some m.cls := findClass_of_methodNamed B.named
  subst hsz
  have hD := hD0.self (sz := s.heap.size)
  generalize hAe : va_A ws s.heap.size = A at hD hE ⊢
  have hA : ∀ q : Nat, s.heap.size ≤ q → A q := fun q h => by rw [← hAe]; exact Or.inr h
  have hS : va_S A s.heap s.heap [] := va_S.rf
  have hl := lv_entry ([.int x0]) (n := 1) (Nat.le_of_ble_eq_true rfl)
  rw [lg_entry_eq]
  generalize (lg_sl ([.int x0]) ++ List.replicate (1 - (lg_sl ([.int x0])).length) Slot.unset).toArray = ls at hl ⊢
  have hl : lv_has ls 1 [(0, .int x0)] := hl
  refine lv_iload_n hx hb dX1_lowerType_0 rfl (lv_at hl 0 rfl) ?_
  have K_1_53 : W p l e (headSpec (wt yX1_lowerType cX1_lowerType 1 (some .int)) ({ frames := 0, cells := 0, slots := 0, locals := 0 })).room s m ([.int x0] : List Value).toArray below meth c s.heap [] (0) (0) (MQ below (va_Qi (fun (r : Int32) (u9 : Unit) => True) (gQ0 g A ws) A) ([.int x0] : List Value).toArray s (0) (0) A) (F0 m 53 ls []) := by
    refine lv_iconst (v := 0) hx hb dX1_lowerType_53 (by decide) ?_
    refine W.widen (k := 0) (n := 0) (Nat.le_of_ble_eq_true rfl) (Nat.le_of_ble_eq_true rfl) ?_
    exact W.iret (v := 0) hx hb hr (fun t9 ht9 hW9 => ⟨⟨_, (), rfl, trivial, ⟨by rw [ht9]; exact hP, hD⟩⟩, hS.F ht9⟩) hS.2.2 dX1_lowerType_54
  have K_1_44 : W p l e (headSpec (wt yX1_lowerType cX1_lowerType 1 (some .int)) ({ frames := 0, cells := 0, slots := 0, locals := 0 })).room s m ([.int x0] : List Value).toArray below meth c s.heap [] (0) (0) (MQ below (va_Qi (fun (r : Int32) (u9 : Unit) => True) (gQ0 g A ws) A) ([.int x0] : List Value).toArray s (0) (0) A) (F0 m 44 ls []) := by
    refine lv_iconst (v := 1) hx hb dX1_lowerType_44 (by decide) ?_
    refine W.widen (k := 0) (n := 0) (Nat.le_of_ble_eq_true rfl) (Nat.le_of_ble_eq_true rfl) ?_
    exact W.iret (v := 1) hx hb hr (fun t9 ht9 hW9 => ⟨⟨_, (), rfl, trivial, ⟨by rw [ht9]; exact hP, hD⟩⟩, hS.F ht9⟩) hS.2.2 dX1_lowerType_45
  have K_1_46 : W p l e (headSpec (wt yX1_lowerType cX1_lowerType 1 (some .int)) ({ frames := 0, cells := 0, slots := 0, locals := 0 })).room s m ([.int x0] : List Value).toArray below meth c s.heap [] (0) (0) (MQ below (va_Qi (fun (r : Int32) (u9 : Unit) => True) (gQ0 g A ws) A) ([.int x0] : List Value).toArray s (0) (0) A) (F0 m 46 ls []) := by
    refine lv_iconst (v := 2) hx hb dX1_lowerType_46 (by decide) ?_
    refine W.widen (k := 0) (n := 0) (Nat.le_of_ble_eq_true rfl) (Nat.le_of_ble_eq_true rfl) ?_
    exact W.iret (v := 2) hx hb hr (fun t9 ht9 hW9 => ⟨⟨_, (), rfl, trivial, ⟨by rw [ht9]; exact hP, hD⟩⟩, hS.F ht9⟩) hS.2.2 dX1_lowerType_47
  have K_1_48 : W p l e (headSpec (wt yX1_lowerType cX1_lowerType 1 (some .int)) ({ frames := 0, cells := 0, slots := 0, locals := 0 })).room s m ([.int x0] : List Value).toArray below meth c s.heap [] (0) (0) (MQ below (va_Qi (fun (r : Int32) (u9 : Unit) => True) (gQ0 g A ws) A) ([.int x0] : List Value).toArray s (0) (0) A) (F0 m 48 ls []) := by
    refine lv_iconst (v := 4) hx hb dX1_lowerType_48 (by decide) ?_
    refine W.widen (k := 0) (n := 0) (Nat.le_of_ble_eq_true rfl) (Nat.le_of_ble_eq_true rfl) ?_
    exact W.iret (v := 4) hx hb hr (fun t9 ht9 hW9 => ⟨⟨_, (), rfl, trivial, ⟨by rw [ht9]; exact hP, hD⟩⟩, hS.F ht9⟩) hS.2.2 dX1_lowerType_49
  have K_1_50 : W p l e (headSpec (wt yX1_lowerType cX1_lowerType 1 (some .int)) ({ frames := 0, cells := 0, slots := 0, locals := 0 })).room s m ([.int x0] : List Value).toArray below meth c s.heap [] (0) (0) (MQ below (va_Qi (fun (r : Int32) (u9 : Unit) => True) (gQ0 g A ws) A) ([.int x0] : List Value).toArray s (0) (0) A) (F0 m 50 ls []) := by
    refine lv_bipush (v := 6) hx hb dX1_lowerType_50 (by decide) ?_
    refine W.widen (k := 0) (n := 0) (Nat.le_of_ble_eq_true rfl) (Nat.le_of_ble_eq_true rfl) ?_
    exact W.iret (v := 6) hx hb hr (fun t9 ht9 hW9 => ⟨⟨_, (), rfl, trivial, ⟨by rw [ht9]; exact hP, hD⟩⟩, hS.F ht9⟩) hS.2.2 dX1_lowerType_52
  rcases Classical.em ((x0 : Int32).toInt < 1 ∨ 7 < (x0 : Int32).toInt) with c9 | c9
  · exact lv_tableOut (tgt := 53) hx hb dX1_lowerType_1 c9 (by decide) K_1_53
  · rcases (show (x0 : Int32).toInt = 1 ∨ (x0 : Int32).toInt = 2 ∨ (x0 : Int32).toInt = 3 ∨ (x0 : Int32).toInt = 4 ∨ (x0 : Int32).toInt = 5 ∨ (x0 : Int32).toInt = 6 ∨ (x0 : Int32).toInt = 7 by omega) with c9 | c9 | c9 | c9 | c9 | c9 | c9
    · exact lv_tableIn (off := 43) (tgt := 44) hx hb dX1_lowerType_1 (by rw [c9]; decide) (by rw [c9]; decide) (by rw [c9]; rfl) (by decide) K_1_44
    · exact lv_tableIn (off := 45) (tgt := 46) hx hb dX1_lowerType_1 (by rw [c9]; decide) (by rw [c9]; decide) (by rw [c9]; rfl) (by decide) K_1_46
    · exact lv_tableIn (off := 47) (tgt := 48) hx hb dX1_lowerType_1 (by rw [c9]; decide) (by rw [c9]; decide) (by rw [c9]; rfl) (by decide) K_1_48
    · exact lv_tableIn (off := 52) (tgt := 53) hx hb dX1_lowerType_1 (by rw [c9]; decide) (by rw [c9]; decide) (by rw [c9]; rfl) (by decide) K_1_53
    · exact lv_tableIn (off := 52) (tgt := 53) hx hb dX1_lowerType_1 (by rw [c9]; decide) (by rw [c9]; decide) (by rw [c9]; rfl) (by decide) K_1_53
    · exact lv_tableIn (off := 52) (tgt := 53) hx hb dX1_lowerType_1 (by rw [c9]; decide) (by rw [c9]; decide) (by rw [c9]; rfl) (by decide) K_1_53
    · exact lv_tableIn (off := 49) (tgt := 50) hx hb dX1_lowerType_1 (by rw [c9]; decide) (by rw [c9]; decide) (by rw [c9]; rfl) (by decide) K_1_50
set_option maxHeartbeats 1000000 in
set_option maxRecDepth 100000 in
theorem m_X1_join (l : Launch) (g : Gm) (sz : Nat) (ws : va_W) (x0 : Int32) (x1 : Int32) (hG : Good g ws)  : Met l yX1_join (wt yX1_join cX1_join 2 (some .int)) ({ frames := 0, cells := 0, slots := 0, locals := 0 }) (va_Pc [.int x0, .int x1] (st_G g sz ws)) (va_Qi (fun (r : Int32) (u9 : Unit) => True) (gQ0 g (va_A ws sz) ws) (va_A ws sz)) (0) (0) (va_A ws sz) := by
  refine Met.ofW (cc := cX1_join) (maxL := 2) (ret := (some .int)) (by decide) rfl ?_
  intro p e s m args below meth c s₁ B hml hv
  obtain ⟨rfl, hsz, hP, hK, hD0, hex, hE⟩ := hv
  have hx := B.exec
  have hb := B.bytes
  have hr := B.returns
  have hts0 := atoms_spec (ws := wt yX1_join cX1_join 2 (some .int)) B.pre
  have hts : ∀ w ∈ tb, w.before _ s = true := fun w h => hts0 w (List.mem_cons_of_mem _ h)
  have hown : s.vm.findClass RX1 = some m.cls := findClass_of_methodNamed B.named
  subst hsz
  have hD := hD0.self (sz := s.heap.size)
  generalize hAe : va_A ws s.heap.size = A at hD hE ⊢
  have hA : ∀ q : Nat, s.heap.size ≤ q → A q := fun q h => by rw [← hAe]; exact Or.inr h
  have hS : va_S A s.heap s.heap [] := va_S.rf
  have hl := lv_entry ([.int x0, .int x1]) (n := 2) (Nat.le_of_ble_eq_true rfl)
  rw [lg_entry_eq]
  generalize (lg_sl ([.int x0, .int x1]) ++ List.replicate (2 - (lg_sl ([.int x0, .int x1])).length) Slot.unset).toArray = ls at hl ⊢
  have hl : lv_has ls 2 [(0, .int x0), (1, .int x1)] := hl
  refine lv_iload_n hx hb dX1_join_0 rfl (lv_at hl 0 rfl) ?_
  refine lv_iload_n hx hb dX1_join_1 rfl (lv_at hl 1 rfl) ?_
  have J_21 : ∀  (H : Heap) (locs : List Loc) (ls : Array Slot), va_P (gD g) cl0 ws H → va_D A ws → va_S A s.heap H locs → lv_has ls 2 [(0, .int x0)] → W p l e (headSpec (wt yX1_join cX1_join 2 (some .int)) ({ frames := 0, cells := 0, slots := 0, locals := 0 })).room s m ([.int x0, .int x1] : List Value).toArray below meth c H locs (0) (0) (MQ below (va_Qi (fun (r : Int32) (u9 : Unit) => True) (gQ0 g A ws) A) ([.int x0, .int x1] : List Value).toArray s (0) (0) A) (F0 m 21 ls []) := by
    intro  H locs ls  hP hD hS hl
    refine lv_iload_n hx hb dX1_join_21 rfl (lv_at hl 0 rfl) ?_
    refine W.widen (k := 0) (n := 0) (Nat.le_of_ble_eq_true rfl) (Nat.le_of_ble_eq_true rfl) ?_
    exact W.iret (v := x0) hx hb hr (fun t9 ht9 hW9 => ⟨⟨_, (), rfl, trivial, ⟨by rw [ht9]; exact hP, hD⟩⟩, hS.F ht9⟩) hS.2.2 dX1_join_22
  refine lv_icmp_eq (tgt := 21) hx hb dX1_join_2 (by decide) (fun c_3 => ?_) (fun c_3 => ?_)
  · exact J_21  _ _ ls  hP hD hS (lv_sub hl [0] rfl)
  · refine lv_iload_n hx hb dX1_join_5 rfl (lv_at hl 1 rfl) ?_
    refine lv_bipush (v := 6) hx hb dX1_join_6 (by decide) ?_
    have J_23 : ∀  (H : Heap) (locs : List Loc) (ls : Array Slot), va_P (gD g) cl0 ws H → va_D A ws → va_S A s.heap H locs → lv_has ls 2 [(0, .int x0), (1, .int x1)] → W p l e (headSpec (wt yX1_join cX1_join 2 (some .int)) ({ frames := 0, cells := 0, slots := 0, locals := 0 })).room s m ([.int x0, .int x1] : List Value).toArray below meth c H locs (0) (0) (MQ below (va_Qi (fun (r : Int32) (u9 : Unit) => True) (gQ0 g A ws) A) ([.int x0, .int x1] : List Value).toArray s (0) (0) A) (F0 m 23 ls []) := by
      intro  H locs ls  hP hD hS hl
      refine lv_iload_n hx hb dX1_join_23 rfl (lv_at hl 0 rfl) ?_
      refine lv_bipush (v := 6) hx hb dX1_join_24 (by decide) ?_
      have J_44 : ∀ (t_6 : Int32) (H : Heap) (locs : List Loc) (ls : Array Slot), va_P (gD g) cl0 ws H → va_D A ws → va_S A s.heap H locs → lv_has ls 2 [] → W p l e (headSpec (wt yX1_join cX1_join 2 (some .int)) ({ frames := 0, cells := 0, slots := 0, locals := 0 })).room s m ([.int x0, .int x1] : List Value).toArray below meth c H locs (0) (0) (MQ below (va_Qi (fun (r : Int32) (u9 : Unit) => True) (gQ0 g A ws) A) ([.int x0, .int x1] : List Value).toArray s (0) (0) A) (F0 m 44 ls [.int t_6]) := by
        intro t_6 H locs ls  hP hD hS hl
        refine W.widen (k := 0) (n := 0) (Nat.le_of_ble_eq_true rfl) (Nat.le_of_ble_eq_true rfl) ?_
        exact W.iret (v := t_6) hx hb hr (fun t9 ht9 hW9 => ⟨⟨_, (), rfl, trivial, ⟨by rw [ht9]; exact hP, hD⟩⟩, hS.F ht9⟩) hS.2.2 dX1_join_44
      have J_43 : ∀  (H : Heap) (locs : List Loc) (ls : Array Slot), va_P (gD g) cl0 ws H → va_D A ws → va_S A s.heap H locs → lv_has ls 2 [] → W p l e (headSpec (wt yX1_join cX1_join 2 (some .int)) ({ frames := 0, cells := 0, slots := 0, locals := 0 })).room s m ([.int x0, .int x1] : List Value).toArray below meth c H locs (0) (0) (MQ below (va_Qi (fun (r : Int32) (u9 : Unit) => True) (gQ0 g A ws) A) ([.int x0, .int x1] : List Value).toArray s (0) (0) A) (F0 m 43 ls []) := by
        intro  H locs ls  hP hD hS hl
        refine lv_iconst (v := 0) hx hb dX1_join_43 (by decide) ?_
        exact J_44 (0) H locs ls  hP hD hS (lv_sub hl [] rfl)
      refine lv_icmp_ne (tgt := 43) hx hb dX1_join_26 (by decide) (fun c_11 => ?_) (fun c_11 => ?_)
      · exact J_43  H locs ls  hP hD hS (lv_sub hl [] rfl)
      · refine lv_iload_n hx hb dX1_join_29 rfl (lv_at hl 1 rfl) ?_
        refine lv_iconst (v := 4) hx hb dX1_join_30 (by decide) ?_
        have J_39 : ∀  (H : Heap) (locs : List Loc) (ls : Array Slot), va_P (gD g) cl0 ws H → va_D A ws → va_S A s.heap H locs → lv_has ls 2 [(1, .int x1)] → W p l e (headSpec (wt yX1_join cX1_join 2 (some .int)) ({ frames := 0, cells := 0, slots := 0, locals := 0 })).room s m ([.int x0, .int x1] : List Value).toArray below meth c H locs (0) (0) (MQ below (va_Qi (fun (r : Int32) (u9 : Unit) => True) (gQ0 g A ws) A) ([.int x0, .int x1] : List Value).toArray s (0) (0) A) (F0 m 39 ls []) := by
          intro  H locs ls  hP hD hS hl
          refine lv_iload_n hx hb dX1_join_39 rfl (lv_at hl 0 rfl) ?_
          refine lv_goto (tgt := 44) hx hb dX1_join_40 (by decide) ?_
          exact J_44 (x1) H locs ls  hP hD hS (lv_sub hl [] rfl)
        refine lv_icmp_eq (tgt := 39) hx hb dX1_join_31 (by decide) (fun c_14 => ?_) (fun c_14 => ?_)
        · exact J_39  H locs ls  hP hD hS (lv_sub hl [1] rfl)
        · refine lv_iload_n hx hb dX1_join_34 rfl (lv_at hl 1 rfl) ?_
          refine lv_iconst (v := 5) hx hb dX1_join_35 (by decide) ?_
          refine lv_icmp_ne (tgt := 43) hx hb dX1_join_36 (by decide) (fun c_15 => ?_) (fun c_15 => ?_)
          · exact J_43  H locs ls  hP hD hS (lv_sub hl [] rfl)
          · exact J_39  H locs ls  hP hD hS (lv_sub hl [1] rfl)
    refine lv_icmp_ne (tgt := 23) hx hb dX1_join_8 (by decide) (fun c_16 => ?_) (fun c_16 => ?_)
    · exact J_23  _ _ ls  hP hD hS (lv_sub hl [0, 1] rfl)
    · refine lv_iload_n hx hb dX1_join_11 rfl (lv_at hl 0 rfl) ?_
      refine lv_iconst (v := 4) hx hb dX1_join_12 (by decide) ?_
      refine lv_icmp_eq (tgt := 21) hx hb dX1_join_13 (by decide) (fun c_17 => ?_) (fun c_17 => ?_)
      · exact J_21  _ _ ls  hP hD hS (lv_sub hl [0] rfl)
      · refine lv_iload_n hx hb dX1_join_16 rfl (lv_at hl 0 rfl) ?_
        refine lv_iconst (v := 5) hx hb dX1_join_17 (by decide) ?_
        refine lv_icmp_ne (tgt := 23) hx hb dX1_join_18 (by decide) (fun c_18 => ?_) (fun c_18 => ?_)
        · exact J_23  _ _ ls  hP hD hS (lv_sub hl [0, 1] rfl)
        · exact J_21  _ _ ls  hP hD hS (lv_sub hl [0] rfl)
set_option maxHeartbeats 1000000 in
set_option maxRecDepth 100000 in
theorem m_X1_takeUp (l : Launch) (g : Gm) (sz : Nat) (ws : va_W) (h0 : Nat) (x1 : Int32) (hG : Good g ws) (o_h0 : gC ws h0 1) (fp_k : gP ws h0 (fun fs => ∀ (rn n : Nat), fs[2]? = some (.ref rn) → gI ws rn g.cZ n → 0 ≤ x1.toInt ∧ x1.toInt < n)) : Met l yX1_takeUp (wt yX1_takeUp cX1_takeUp 2 none) ({ frames := 2, cells := 0, slots := 0, locals := 42 }) (va_Pc [.ref h0, .int x1] (st_G g sz ws)) (va_Qv (fun (u9 : va_W) => True) (gQ1 g [(1, 5)] [(1, 4)] none (va_A ws sz) ws) (va_A ws sz)) (0) (0) (va_A ws sz) := by
  refine Met.ofW (cc := cX1_takeUp) (maxL := 2) (ret := none) (by decide) rfl ?_
  intro p e s m args below meth c s₁ B hml hv
  obtain ⟨rfl, hsz, hP, hK, hD0, hex, hE⟩ := hv
  have hx := B.exec
  have hb := B.bytes
  have hr := B.returns
  have hts0 := atoms_spec (ws := wt yX1_takeUp cX1_takeUp 2 none) B.pre
  have hts : ∀ w ∈ tb, w.before _ s = true := fun w h => hts0 w (List.mem_cons_of_mem _ h)
  have hown : s.vm.findClass RX1 = some m.cls := findClass_of_methodNamed B.named
  subst hsz
  have hD := hD0.self (sz := s.heap.size)
  generalize hAe : va_A ws s.heap.size = A at hD hE ⊢
  have hA : ∀ q : Nat, s.heap.size ≤ q → A q := fun q h => by rw [← hAe]; exact Or.inr h
  have hS : va_S A s.heap s.heap [] := va_S.rf
  have hl := lv_entry ([.ref h0, .int x1]) (n := 2) (Nat.le_of_ble_eq_true rfl)
  rw [lg_entry_eq]
  generalize (lg_sl ([.ref h0, .int x1]) ++ List.replicate (2 - (lg_sl ([.ref h0, .int x1])).length) Slot.unset).toArray = ls at hl ⊢
  have hl : lv_has ls 2 [(0, .ref h0), (1, .int x1)] := hl
  obtain ⟨k_1, fs9, hk_1⟩ := gC_of o_h0
  obtain ⟨r0_1, r1_1, n1_1, r2_1, n2_1, r3_1, n3_1, r4_1, n4_1, c5_1, c6_1, c7_1, v8_1, v9_1, rfl, o_r0_1, a_r1_1, f2_1, a_r2_1, f4_1, a_r3_1, f6_1, a_r4_1, f8_1, hz_c6_1, hz_c7_1, o_v8_1, o_v9_1, f13_1, f14_1, f15_1, f16_1, -⟩ := (hG.1 _ _ _ _ hk_1).hX1 rfl
  have fq_k := fp_k _ _ _ hk_1 _ _ rfl a_r2_1
  refine lv_aload_n hx hb dX1_takeUp_0 rfl (lv_at hl 0 rfl) ?_
  refine lv_iconst (v := 0) hx hb dX1_takeUp_1 (by decide) ?_
  refine lv_aload_n hx hb dX1_takeUp_2 rfl (lv_at hl 0 rfl) ?_
  refine va_get (D := gD g) (ci := 1) (v := .ref r0_1) (C := RX1) (T := TX1) (N := 10) hx hb hts inX1 hown hK hP k_1 hk_1 rfl 0 (by decide) (hts _ kw_492) (fun _ h9 => h9) rfl dX1_takeUp_3 ?_
  refine lv_iload_n hx hb dX1_takeUp_6 rfl (lv_at hl 1 rfl) ?_
  have hFc := gfree hD hS hA
  obtain ⟨k_2, fs_2, hk_2⟩ := gC_of o_r0_1
  refine va_calli (va_runV (As := [.int x1]) (rest := [.int 0, .ref h0]) ⟨hx, hb, hml, hown, hts⟩ (m_X4_heightAt l g s.heap.size ws r0_1 (x1) hG o_r0_1) (cwV 1 hts (gd_V kw_567 kw_960 kw_961 kw_167 kw_959) rfl rfl rfl (by decide +kernel) ⟨Nat.le_of_ble_eq_true rfl, Nat.le_of_ble_eq_true rfl⟩) ⟨gblind, va_recv hK hP (ci := 4) (q0 := k_2) rfl hk_2, fun U hU hW9 => gmk hU hW9 hP hK hD hex hE hS hFc⟩ rfl rfl hl.1 rfl (lv_room (Nat.le_of_ble_eq_true rfl)) dX1_takeUp_7 ⟨Nat.le_of_ble_eq_true rfl, Nat.le_of_ble_eq_true rfl⟩) hS (fun q _ h => hFc q h) hFc (fun r_3 u9 t9 H1 locs ht9 hvm9 hw9 hB9 hz9 hk9 hS => ?_)
  have hP : va_P (gD g) cl0 ws H1 := by rw [← ht9]; exact hB9.1
  clear hB9 hz9 hk9 hvm9 ht9 hw9
  generalize H1 = H at hP hS ⊢
  refine lv_bipush (v := 24) hx hb dX1_takeUp_10 (by decide) ?_
  refine va_mmin hx hb (by rw [hml]; exact hl.1.symm) hown (hts _ kw_611) (hts _ kw_1750) (hts _ kw_1748) (hts _ kw_1749) (Nat.le_of_ble_eq_true rfl) (Nat.le_of_ble_eq_true rfl) (Nat.le_of_ble_eq_true rfl) (Nat.le_of_ble_eq_true rfl) dX1_takeUp_12 ?_
  refine lv_topi (fun z_4 ez_4 => ?_)
  refine va_mmax hx hb (by rw [hml]; exact hl.1.symm) hown (hts _ kw_612) (hts _ kw_1747) (hts _ kw_1748) (hts _ kw_1746) (Nat.le_of_ble_eq_true rfl) (Nat.le_of_ble_eq_true rfl) (Nat.le_of_ble_eq_true rfl) (Nat.le_of_ble_eq_true rfl) dX1_takeUp_15 ?_
  refine lv_topi (fun z_5 ez_5 => ?_)
  have hV9 : okv ws 1 5 (.int z_5) := okv_i
  refine va_put (D := gD g) (ci := 1) (v := .int z_5) (ty := .int) (C := RX1) (T := TX1) (N := 10) hx hb hts inX1 tyX1 tyX1_ok nmX1 hown hK hP hD hS k_1 hk_1 rfl 5 (by decide) (hts _ kw_486) (fun _ h9 => h9) rfl (by decide +kernel) rfl rfl (Nat.le_of_ble_eq_true rfl) dX1_takeUp_18 (fun H locs hP hD hS => ?_)
  have hi_6 : invX1 g ws h0 [.ref r0_1, .ref r1_1, .ref r2_1, .ref r3_1, .ref r4_1, .int z_5, .int c6_1, .int c7_1, va_rf v8_1, va_rf v9_1] := ⟨r0_1, r1_1, (n1_1), r2_1, (n2_1), r3_1, (n3_1), r4_1, (n4_1), (z_5), (c6_1), (c7_1), v8_1, v9_1, rfl, o_r0_1, a_r1_1, f2_1, a_r2_1, f4_1, a_r3_1, f6_1, a_r4_1, f8_1, hz_c6_1, hz_c7_1, o_v8_1, o_v9_1, f13_1, f14_1, f15_1, f16_1, trivial⟩
  obtain ⟨ws_7, e_ws_7⟩ : ∃ z, z = ws.set k_1 (h0, .inr (1, [.ref r0_1, .ref r1_1, .ref r2_1, .ref r3_1, .ref r4_1, .int z_5, .int c6_1, .int c7_1, va_rf v8_1, va_rf v9_1])) := ⟨_, rfl⟩
  have hP : va_P (gD g) cl0 ws_7 H := by rw [e_ws_7]; exact hP
  have hD : va_D A ws_7 := by rw [e_ws_7]; exact hD
  have E_8 : gE ws ws_7 := gE_set e_ws_7 hk_1 (cw_o (fi := 5) (v := .int z_5) rfl (by decide))
  have hG : Good g ws_7 := Good_set (fi := 5) (v := .int z_5) e_ws_7 hk_1 E_8 rfl hV9 hG (ivX1 hi_6)
  have Fr_9 : gF [(1, 5)] [] (some h0) ws ws_7 := gF_put (fi := 5) (v := .int z_5) e_ws_7 hk_1 rfl (by decide)
  have hkN := gset_self e_ws_7 hk_1
  have hk_1 := hkN
  have o_h0 := E_8.1 _ _ o_h0
  have o_r0_1 := E_8.1 _ _ o_r0_1
  have a_r1_1 := E_8.1 _ _ a_r1_1
  have a_r2_1 := E_8.1 _ _ a_r2_1
  have a_r3_1 := E_8.1 _ _ a_r3_1
  have a_r4_1 := E_8.1 _ _ a_r4_1
  have o_v8_1 : ∀ b, v8_1 = some b → gC ws_7 b 9 := fun b h => E_8.1 _ _ (o_v8_1 b h)
  have o_v9_1 : ∀ b, v9_1 = some b → gC ws_7 b 7 := fun b h => E_8.1 _ _ (o_v9_1 b h)
  refine lv_aload_n hx hb dX1_takeUp_21 rfl (lv_at hl 0 rfl) ?_
  refine va_get (D := gD g) (ci := 1) (v := .ref r1_1) (C := RX1) (T := TX1) (N := 10) hx hb hts inX1 hown hK hP k_1 hk_1 rfl 1 (by decide) (hts _ kw_495) (fun _ h9 => h9) rfl dX1_takeUp_22 ?_
  refine lv_iload_n hx hb dX1_takeUp_25 rfl (lv_at hl 1 rfl) ?_
  refine lv_bipush (v := 48) hx hb dX1_takeUp_26 (by decide) ?_
  refine lv_imul hx hb dX1_takeUp_28 ?_
  refine lv_topi (fun z_10 ez_10 => ?_)
  refine lv_aload_n hx hb dX1_takeUp_29 rfl (lv_at hl 0 rfl) ?_
  refine va_get (D := gD g) (ci := 1) (v := .ref r4_1) (C := RX1) (T := TX1) (N := 10) hx hb hts inX1 hown hK hP k_1 hk_1 rfl 4 (by decide) (hts _ kw_477) (fun _ h9 => h9) rfl dX1_takeUp_30 ?_
  refine lv_iconst (v := 0) hx hb dX1_takeUp_33 (by decide) ?_
  refine lv_bipush (v := 48) hx hb dX1_takeUp_34 (by decide) ?_
  obtain ⟨k_11, f_11, hk_11⟩ := gI_of a_r1_1
  obtain ⟨k_12, f_12, hk_12⟩ := gI_of a_r4_1
  have hC9 : hol ws_7 r4_1 [(1, 4)] := (hol_u hG.u hk_1 (j := 4) rfl a_r4_1 (by decide))
  have hS9 : holS ws_7 r4_1 none := holS_n
  refine va_copyi hx hb (by rw [hml]; exact hl.1.symm) hown (hts _ kw_613) (hts _ kw_28) (hts _ kw_29) (hts _ kw_30) hK hP hD hS k_11 k_12 0 0 hk_11 hk_12 rfl rfl rfl (i_nl0 (by have q_z_10 := i_mulR (c := 48) (K := 44739242) ez_10 (by decide) (by decide) (by decide) (by decide); have q_fq_k := fq_k; have q_f4_1 := f4_1; have q_f14_1 := f14_1; have q_f15_1 := f15_1; have q_f16_1 := f16_1; have g_x1 := i_rg x1; have g_z_10 := i_rg z_10; omega)) (by decide) (by decide) (i_cp (by have e48 : (48 : Int32).toInt = 48 := (by decide); have q_f2_1 := f2_1; have q_f15_1 := f15_1; have q_z_10 := i_mulR (c := 48) (K := 44739242) ez_10 (by decide) (by decide) (by decide) (by decide); have q_f4_1 := f4_1; have q_f14_1 := f14_1; have q_f16_1 := f16_1; have q_fq_k := fq_k; have q_f6_1 := f6_1; have g_x1 := i_rg x1; have g_z_10 := i_rg z_10; omega)) (i_cp (by have e0 : (0 : Int32).toInt = 0 := (by decide); have e48 : (48 : Int32).toInt = 48 := (by decide); have q_f8_1 := f8_1; have q_f13_1 := f13_1; omega)) (fun i _ => hG.2.2.1 _ _ _ _ hk_11 _) (Nat.le_of_ble_eq_true rfl) (Nat.le_of_ble_eq_true rfl) dX1_takeUp_36 (fun H locs hP hD hS => ?_)
  obtain ⟨ws_13, e_ws_13⟩ : ∃ z, z = ws_7.set k_12 (r4_1, .inl (g.cB, n4_1, .inl (va_cpy f_11 f_12 (z_10 : Int32).toNatClampNeg (0 : Int32).toNatClampNeg (48 : Int32).toNatClampNeg))) := ⟨_, rfl⟩
  have hP : va_P (gD g) cl0 ws_13 H := by rw [e_ws_13]; exact hP
  have hD : va_D A ws_13 := by rw [e_ws_13]; exact hD
  have E_14 : gE ws_7 ws_13 := gE_ari e_ws_13 hk_12
  have hG : Good g ws_13 := Good_arC e_ws_13 hk_12 hG hk_11
  have Fr_15 : gF [] [(1, 4)] none ws_7 ws_13 := gF_ar e_ws_13 hk_12 rfl hC9 hS9
  have hk_1 := gset_arO e_ws_13 hk_12 hk_1
  have o_h0 := E_14.1 _ _ o_h0
  have o_r0_1 := E_14.1 _ _ o_r0_1
  have a_r1_1 := E_14.1 _ _ a_r1_1
  have a_r2_1 := E_14.1 _ _ a_r2_1
  have a_r3_1 := E_14.1 _ _ a_r3_1
  have a_r4_1 := E_14.1 _ _ a_r4_1
  have o_v8_1 : ∀ b, v8_1 = some b → gC ws_13 b 9 := fun b h => E_14.1 _ _ (o_v8_1 b h)
  have o_v9_1 : ∀ b, v9_1 = some b → gC ws_13 b 7 := fun b h => E_14.1 _ _ (o_v9_1 b h)
  refine W.widen (k := 0) (n := 0) (Nat.le_of_ble_eq_true rfl) (Nat.le_of_ble_eq_true rfl) ?_
  exact W.vret hx hb hr (fun t9 ht9 hW9 => ⟨⟨ws_13, rfl, trivial, ⟨(E_8.tr E_14), (gF.tr (gF.mo (F' := [(1, 5)]) (C' := [(1, 4)]) (S' := none) Fr_9 (fun _ h => h) (fun _ h => absurd h List.not_mem_nil) (Or.inl rfl)) (gF.mo (F' := [(1, 5)]) (C' := [(1, 4)]) (S' := none) Fr_15 (fun _ h => absurd h List.not_mem_nil) (fun _ h => h) (Or.inr rfl))), hG, by rw [ht9]; exact hP, hD⟩⟩, hS.F ht9⟩) hS.2.2 dX1_takeUp_39
set_option maxHeartbeats 1000000 in
set_option maxRecDepth 100000 in
theorem m_X1_pop (l : Launch) (g : Gm) (sz : Nat) (ws : va_W) (h0 : Nat) (hG : Good g ws) (o_h0 : gC ws h0 1) : Met l yX1_pop (wt yX1_pop cX1_pop 1 (some .int)) ({ frames := 0, cells := 0, slots := 0, locals := 0 }) (va_Pc [.ref h0] (st_G g sz ws)) (va_Qi (fun (r : Int32) (u9 : va_W) => True) (gQ1 g [(1, 5)] [] none (va_A ws sz) ws) (va_A ws sz)) (0) (0) (va_A ws sz) := by
  refine Met.ofW (cc := cX1_pop) (maxL := 1) (ret := (some .int)) (by decide) rfl ?_
  intro p e s m args below meth c s₁ B hml hv
  obtain ⟨rfl, hsz, hP, hK, hD0, hex, hE⟩ := hv
  have hx := B.exec
  have hb := B.bytes
  have hr := B.returns
  have hts0 := atoms_spec (ws := wt yX1_pop cX1_pop 1 (some .int)) B.pre
  have hts : ∀ w ∈ tb, w.before _ s = true := fun w h => hts0 w (List.mem_cons_of_mem _ h)
  have hown : s.vm.findClass RX1 = some m.cls := findClass_of_methodNamed B.named
  subst hsz
  have hD := hD0.self (sz := s.heap.size)
  generalize hAe : va_A ws s.heap.size = A at hD hE ⊢
  have hA : ∀ q : Nat, s.heap.size ≤ q → A q := fun q h => by rw [← hAe]; exact Or.inr h
  have hS : va_S A s.heap s.heap [] := va_S.rf
  have hl := lv_entry ([.ref h0]) (n := 1) (Nat.le_of_ble_eq_true rfl)
  rw [lg_entry_eq]
  generalize (lg_sl ([.ref h0]) ++ List.replicate (1 - (lg_sl ([.ref h0])).length) Slot.unset).toArray = ls at hl ⊢
  have hl : lv_has ls 1 [(0, .ref h0)] := hl
  refine lv_aload_n hx hb dX1_pop_0 rfl (lv_at hl 0 rfl) ?_
  obtain ⟨k_1, fs9, hk_1⟩ := gC_of o_h0
  obtain ⟨r0_1, r1_1, n1_1, r2_1, n2_1, r3_1, n3_1, r4_1, n4_1, c5_1, c6_1, c7_1, v8_1, v9_1, rfl, o_r0_1, a_r1_1, f2_1, a_r2_1, f4_1, a_r3_1, f6_1, a_r4_1, f8_1, hz_c6_1, hz_c7_1, o_v8_1, o_v9_1, f13_1, f14_1, f15_1, f16_1, -⟩ := (hG.1 _ _ _ _ hk_1).hX1 rfl
  refine va_get (D := gD g) (ci := 1) (v := .int c5_1) (C := RX1) (T := TX1) (N := 10) hx hb hts inX1 hown hK hP k_1 hk_1 rfl 5 (by decide) (hts _ kw_486) (fun _ h9 => h9) rfl dX1_pop_1 ?_
  refine lv_iconst (v := 1) hx hb dX1_pop_4 (by decide) ?_
  have J_17 : ∀  (H : Heap) (locs : List Loc) (ls : Array Slot), va_P (gD g) cl0 ws H → va_D A ws → va_S A s.heap H locs → lv_has ls 1 [] → W p l e (headSpec (wt yX1_pop cX1_pop 1 (some .int)) ({ frames := 0, cells := 0, slots := 0, locals := 0 })).room s m ([.ref h0] : List Value).toArray below meth c H locs (0) (0) (MQ below (va_Qi (fun (r : Int32) (u9 : va_W) => True) (gQ1 g [(1, 5)] [] none A ws) A) ([.ref h0] : List Value).toArray s (0) (0) A) (F0 m 17 ls []) := by
    intro  H locs ls  hP hD hS hl
    refine lv_iconst (v := 0) hx hb dX1_pop_17 (by decide) ?_
    refine W.widen (k := 0) (n := 0) (Nat.le_of_ble_eq_true rfl) (Nat.le_of_ble_eq_true rfl) ?_
    exact W.iret (v := 0) hx hb hr (fun t9 ht9 hW9 => ⟨⟨_, ws, rfl, trivial, ⟨gE.rf, gF.rf, hG, by rw [ht9]; exact hP, hD⟩⟩, hS.F ht9⟩) hS.2.2 dX1_pop_18
  refine lv_icmp_lt (tgt := 17) hx hb dX1_pop_5 (by decide) (fun c_4 => ?_) (fun c_4 => ?_)
  · exact J_17  _ _ ls  hP hD hS (lv_sub hl [] rfl)
  · refine lv_aload_n hx hb dX1_pop_8 rfl (lv_at hl 0 rfl) ?_
    refine va_get (D := gD g) (ci := 1) (v := .int c5_1) (C := RX1) (T := TX1) (N := 10) hx hb hts inX1 hown hK hP k_1 hk_1 rfl 5 (by decide) (hts _ kw_486) (fun _ h9 => h9) rfl dX1_pop_9 ?_
    refine lv_bipush (v := 24) hx hb dX1_pop_12 (by decide) ?_
    refine lv_icmp_le (tgt := 19) hx hb dX1_pop_14 (by decide) (fun c_5 => ?_) (fun c_5 => ?_)
    · refine lv_aload_n hx hb dX1_pop_19 rfl (lv_at hl 0 rfl) ?_
      refine lv_dup hx hb dX1_pop_20 rfl ?_
      refine va_get (D := gD g) (ci := 1) (v := .int c5_1) (C := RX1) (T := TX1) (N := 10) hx hb hts inX1 hown hK hP k_1 hk_1 rfl 5 (by decide) (hts _ kw_486) (fun _ h9 => h9) rfl dX1_pop_21 ?_
      refine lv_iconst (v := 1) hx hb dX1_pop_24 (by decide) ?_
      refine lv_isub hx hb dX1_pop_25 ?_
      refine lv_topi (fun z_6 ez_6 => ?_)
      have hV9 : okv ws 1 5 (.int z_6) := okv_i
      refine va_put (D := gD g) (ci := 1) (v := .int z_6) (ty := .int) (C := RX1) (T := TX1) (N := 10) hx hb hts inX1 tyX1 tyX1_ok nmX1 hown hK hP hD hS k_1 hk_1 rfl 5 (by decide) (hts _ kw_486) (fun _ h9 => h9) rfl (by decide +kernel) rfl rfl (Nat.le_of_ble_eq_true rfl) dX1_pop_26 (fun H locs hP hD hS => ?_)
      have hi_7 : invX1 g ws h0 [.ref r0_1, .ref r1_1, .ref r2_1, .ref r3_1, .ref r4_1, .int z_6, .int c6_1, .int c7_1, va_rf v8_1, va_rf v9_1] := ⟨r0_1, r1_1, (n1_1), r2_1, (n2_1), r3_1, (n3_1), r4_1, (n4_1), (z_6), (c6_1), (c7_1), v8_1, v9_1, rfl, o_r0_1, a_r1_1, f2_1, a_r2_1, f4_1, a_r3_1, f6_1, a_r4_1, f8_1, hz_c6_1, hz_c7_1, o_v8_1, o_v9_1, f13_1, f14_1, f15_1, f16_1, trivial⟩
      obtain ⟨ws_8, e_ws_8⟩ : ∃ z, z = ws.set k_1 (h0, .inr (1, [.ref r0_1, .ref r1_1, .ref r2_1, .ref r3_1, .ref r4_1, .int z_6, .int c6_1, .int c7_1, va_rf v8_1, va_rf v9_1])) := ⟨_, rfl⟩
      have hP : va_P (gD g) cl0 ws_8 H := by rw [e_ws_8]; exact hP
      have hD : va_D A ws_8 := by rw [e_ws_8]; exact hD
      have E_9 : gE ws ws_8 := gE_set e_ws_8 hk_1 (cw_o (fi := 5) (v := .int z_6) rfl (by decide))
      have hG : Good g ws_8 := Good_set (fi := 5) (v := .int z_6) e_ws_8 hk_1 E_9 rfl hV9 hG (ivX1 hi_7)
      have Fr_10 : gF [(1, 5)] [] (some h0) ws ws_8 := gF_put (fi := 5) (v := .int z_6) e_ws_8 hk_1 rfl (by decide)
      have hkN := gset_self e_ws_8 hk_1
      have hk_1 := hkN
      have o_h0 := E_9.1 _ _ o_h0
      have o_r0_1 := E_9.1 _ _ o_r0_1
      have a_r1_1 := E_9.1 _ _ a_r1_1
      have a_r2_1 := E_9.1 _ _ a_r2_1
      have a_r3_1 := E_9.1 _ _ a_r3_1
      have a_r4_1 := E_9.1 _ _ a_r4_1
      have o_v8_1 : ∀ b, v8_1 = some b → gC ws_8 b 9 := fun b h => E_9.1 _ _ (o_v8_1 b h)
      have o_v9_1 : ∀ b, v9_1 = some b → gC ws_8 b 7 := fun b h => E_9.1 _ _ (o_v9_1 b h)
      refine lv_aload_n hx hb dX1_pop_29 rfl (lv_at hl 0 rfl) ?_
      refine va_get (D := gD g) (ci := 1) (v := .ref r4_1) (C := RX1) (T := TX1) (N := 10) hx hb hts inX1 hown hK hP k_1 hk_1 rfl 4 (by decide) (hts _ kw_477) (fun _ h9 => h9) rfl dX1_pop_30 ?_
      refine lv_bipush (v := 24) hx hb dX1_pop_33 (by decide) ?_
      refine lv_aload_n hx hb dX1_pop_35 rfl (lv_at hl 0 rfl) ?_
      refine va_get (D := gD g) (ci := 1) (v := .int z_6) (C := RX1) (T := TX1) (N := 10) hx hb hts inX1 hown hK hP k_1 hk_1 rfl 5 (by decide) (hts _ kw_486) (fun _ h9 => h9) rfl dX1_pop_36 ?_
      refine lv_iadd hx hb dX1_pop_39 ?_
      refine lv_topi (fun z_11 ez_11 => ?_)
      obtain ⟨k_12, f_12, hk_12⟩ := gI_of a_r4_1
      refine va_bald hx hb hK hP k_12 0 hk_12 rfl (i_in2 (by have e1 : (1 : Int32).toInt = 1 := (by decide); have e24 : (24 : Int32).toInt = 24 := (by decide); have q_f8_1 := f8_1; have q_f13_1 := f13_1; obtain ⟨u_z_11, q_z_11⟩ := i_add ez_11; obtain ⟨u_z_6, q_z_6⟩ := i_sub ez_6; have q_c_4 := i_nlt c_4; have q_c_5 := i_le c_5; have g_c5_1 := i_rg c5_1; have g_z_11 := i_rg z_11; have g_z_6 := i_rg z_6; omega)) dX1_pop_40 ?_
      refine lv_topi (fun z_13 ez_13 => ?_)
      refine W.widen (k := 0) (n := 0) (Nat.le_of_ble_eq_true rfl) (Nat.le_of_ble_eq_true rfl) ?_
      exact W.iret (v := z_13) hx hb hr (fun t9 ht9 hW9 => ⟨⟨_, ws_8, rfl, trivial, ⟨E_9, (gF.mo (F' := [(1, 5)]) (C' := []) (S' := none) Fr_10 (fun _ h => h) (fun _ h => h) (Or.inl rfl)), hG, by rw [ht9]; exact hP, hD⟩⟩, hS.F ht9⟩) hS.2.2 dX1_pop_41
    · exact J_17  _ _ ls  hP hD hS (lv_sub hl [] rfl)
set_option maxHeartbeats 1000000 in
set_option maxRecDepth 100000 in
theorem m_X1_push (l : Launch) (g : Gm) (sz : Nat) (ws : va_W) (h0 : Nat) (x1 : Int32) (hG : Good g ws) (o_h0 : gC ws h0 1) : Met l yX1_push (wt yX1_push cX1_push 2 none) ({ frames := 0, cells := 0, slots := 0, locals := 0 }) (va_Pc [.ref h0, .int x1] (st_G g sz ws)) (va_Qv (fun (u9 : va_W) => True) (gQ1 g [(1, 5)] [(1, 4)] none (va_A ws sz) ws) (va_A ws sz)) (0) (0) (va_A ws sz) := by
  refine Met.ofW (cc := cX1_push) (maxL := 2) (ret := none) (by decide) rfl ?_
  intro p e s m args below meth c s₁ B hml hv
  obtain ⟨rfl, hsz, hP, hK, hD0, hex, hE⟩ := hv
  have hx := B.exec
  have hb := B.bytes
  have hr := B.returns
  have hts0 := atoms_spec (ws := wt yX1_push cX1_push 2 none) B.pre
  have hts : ∀ w ∈ tb, w.before _ s = true := fun w h => hts0 w (List.mem_cons_of_mem _ h)
  have hown : s.vm.findClass RX1 = some m.cls := findClass_of_methodNamed B.named
  subst hsz
  have hD := hD0.self (sz := s.heap.size)
  generalize hAe : va_A ws s.heap.size = A at hD hE ⊢
  have hA : ∀ q : Nat, s.heap.size ≤ q → A q := fun q h => by rw [← hAe]; exact Or.inr h
  have hS : va_S A s.heap s.heap [] := va_S.rf
  have hl := lv_entry ([.ref h0, .int x1]) (n := 2) (Nat.le_of_ble_eq_true rfl)
  rw [lg_entry_eq]
  generalize (lg_sl ([.ref h0, .int x1]) ++ List.replicate (2 - (lg_sl ([.ref h0, .int x1])).length) Slot.unset).toArray = ls at hl ⊢
  have hl : lv_has ls 2 [(0, .ref h0), (1, .int x1)] := hl
  refine lv_aload_n hx hb dX1_push_0 rfl (lv_at hl 0 rfl) ?_
  obtain ⟨k_1, fs9, hk_1⟩ := gC_of o_h0
  obtain ⟨r0_1, r1_1, n1_1, r2_1, n2_1, r3_1, n3_1, r4_1, n4_1, c5_1, c6_1, c7_1, v8_1, v9_1, rfl, o_r0_1, a_r1_1, f2_1, a_r2_1, f4_1, a_r3_1, f6_1, a_r4_1, f8_1, hz_c6_1, hz_c7_1, o_v8_1, o_v9_1, f13_1, f14_1, f15_1, f16_1, -⟩ := (hG.1 _ _ _ _ hk_1).hX1 rfl
  refine va_get (D := gD g) (ci := 1) (v := .int c5_1) (C := RX1) (T := TX1) (N := 10) hx hb hts inX1 hown hK hP k_1 hk_1 rfl 5 (by decide) (hts _ kw_486) (fun _ h9 => h9) rfl dX1_push_1 ?_
  have J_40 : ∀ (ws_2 : va_W) (H : Heap) (locs : List Loc) (ls : Array Slot), gE ws ws_2 → gF [(1, 5)] [(1, 4)] none ws ws_2 → Good g ws_2 → va_P (gD g) cl0 ws_2 H → va_D A ws_2 → va_S A s.heap H locs → lv_has ls 2 [] → W p l e (headSpec (wt yX1_push cX1_push 2 none) ({ frames := 0, cells := 0, slots := 0, locals := 0 })).room s m ([.ref h0, .int x1] : List Value).toArray below meth c H locs (0) (0) (MQ below (va_Qv (fun (u9 : va_W) => True) (gQ1 g [(1, 5)] [(1, 4)] none A ws) A) ([.ref h0, .int x1] : List Value).toArray s (0) (0) A) (F0 m 40 ls []) := by
    intro ws_2 H locs ls  E_3 Fr_4 hG hP hD hS hl
    have aa_5 := a_r1_1
    have aa_6 := a_r2_1
    have aa_7 := a_r3_1
    have aa_8 := a_r4_1
    have o_h0 := E_3.1 _ _ o_h0
    refine W.widen (k := 0) (n := 0) (Nat.le_of_ble_eq_true rfl) (Nat.le_of_ble_eq_true rfl) ?_
    exact W.vret hx hb hr (fun t9 ht9 hW9 => ⟨⟨ws_2, rfl, trivial, ⟨E_3, Fr_4, hG, by rw [ht9]; exact hP, hD⟩⟩, hS.F ht9⟩) hS.2.2 dX1_push_40
  refine lv_if_lt (tgt := 40) hx hb dX1_push_4 (by decide) (fun c_9 => ?_) (fun c_9 => ?_)
  · exact J_40 ws _ _ ls (gE.rf) (gF.rf) hG hP hD hS (lv_sub hl [] rfl)
  · refine lv_aload_n hx hb dX1_push_7 rfl (lv_at hl 0 rfl) ?_
    refine va_get (D := gD g) (ci := 1) (v := .int c5_1) (C := RX1) (T := TX1) (N := 10) hx hb hts inX1 hown hK hP k_1 hk_1 rfl 5 (by decide) (hts _ kw_486) (fun _ h9 => h9) rfl dX1_push_8 ?_
    refine lv_bipush (v := 24) hx hb dX1_push_11 (by decide) ?_
    refine lv_icmp_ge (tgt := 40) hx hb dX1_push_13 (by decide) (fun c_10 => ?_) (fun c_10 => ?_)
    · exact J_40 ws _ _ ls (gE.rf) (gF.rf) hG hP hD hS (lv_sub hl [] rfl)
    · refine lv_aload_n hx hb dX1_push_16 rfl (lv_at hl 0 rfl) ?_
      refine va_get (D := gD g) (ci := 1) (v := .ref r4_1) (C := RX1) (T := TX1) (N := 10) hx hb hts inX1 hown hK hP k_1 hk_1 rfl 4 (by decide) (hts _ kw_477) (fun _ h9 => h9) rfl dX1_push_17 ?_
      refine lv_bipush (v := 24) hx hb dX1_push_20 (by decide) ?_
      refine lv_aload_n hx hb dX1_push_22 rfl (lv_at hl 0 rfl) ?_
      refine va_get (D := gD g) (ci := 1) (v := .int c5_1) (C := RX1) (T := TX1) (N := 10) hx hb hts inX1 hown hK hP k_1 hk_1 rfl 5 (by decide) (hts _ kw_486) (fun _ h9 => h9) rfl dX1_push_23 ?_
      refine lv_iadd hx hb dX1_push_26 ?_
      refine lv_topi (fun z_11 ez_11 => ?_)
      refine lv_iload_n hx hb dX1_push_27 rfl (lv_at hl 1 rfl) ?_
      obtain ⟨z_12, ez_12⟩ : ∃ y : Int32, (x1 : Int32).toInt8.toInt32 = y := ⟨_, rfl⟩
      refine lv_i2b (v := z_12) hx hb dX1_push_28 ez_12 ?_
      obtain ⟨k_13, f_13, hk_13⟩ := gI_of a_r4_1
      have hC9 : hol ws r4_1 [(1, 4)] := (hol_u hG.u hk_1 (j := 4) rfl a_r4_1 (by decide))
      have hS9 : holS ws r4_1 none := holS_n
      refine va_bast hx hb hK hP hD hS k_13 0 hk_13 rfl (i_in2 (by have e0 : (0 : Int32).toInt = 0 := (by decide); have e24 : (24 : Int32).toInt = 24 := (by decide); have q_f8_1 := f8_1; have q_f13_1 := f13_1; obtain ⟨u_z_11, q_z_11⟩ := i_add ez_11; have q_c_9 := i_nlt c_9; have q_c_10 := i_nle c_10; have g_c5_1 := i_rg c5_1; have g_z_11 := i_rg z_11; omega)) dX1_push_29 (fun H locs hP hD hS => ?_)
      obtain ⟨ws_14, e_ws_14⟩ : ∃ z, z = ws.set k_13 (r4_1, .inl (g.cB, n4_1, .inl (upd f_13 (z_11 : Int32).toNatClampNeg (vp_nar .byte z_12)))) := ⟨_, rfl⟩
      have hP : va_P (gD g) cl0 ws_14 H := by rw [e_ws_14]; exact hP
      have hD : va_D A ws_14 := by rw [e_ws_14]; exact hD
      have E_15 : gE ws ws_14 := gE_ari e_ws_14 hk_13
      have hG : Good g ws_14 := Good_arB e_ws_14 hk_13 hG
      have Fr_16 : gF [] [(1, 4)] none ws ws_14 := gF_ar e_ws_14 hk_13 rfl hC9 hS9
      have hk_1 := gset_arO e_ws_14 hk_13 hk_1
      have o_h0 := E_15.1 _ _ o_h0
      have o_r0_1 := E_15.1 _ _ o_r0_1
      have a_r1_1 := E_15.1 _ _ a_r1_1
      have a_r2_1 := E_15.1 _ _ a_r2_1
      have a_r3_1 := E_15.1 _ _ a_r3_1
      have a_r4_1 := E_15.1 _ _ a_r4_1
      have o_v8_1 : ∀ b, v8_1 = some b → gC ws_14 b 9 := fun b h => E_15.1 _ _ (o_v8_1 b h)
      have o_v9_1 : ∀ b, v9_1 = some b → gC ws_14 b 7 := fun b h => E_15.1 _ _ (o_v9_1 b h)
      refine lv_aload_n hx hb dX1_push_30 rfl (lv_at hl 0 rfl) ?_
      refine lv_dup hx hb dX1_push_31 rfl ?_
      refine va_get (D := gD g) (ci := 1) (v := .int c5_1) (C := RX1) (T := TX1) (N := 10) hx hb hts inX1 hown hK hP k_1 hk_1 rfl 5 (by decide) (hts _ kw_486) (fun _ h9 => h9) rfl dX1_push_32 ?_
      refine lv_iconst (v := 1) hx hb dX1_push_35 (by decide) ?_
      refine lv_iadd hx hb dX1_push_36 ?_
      refine lv_topi (fun z_17 ez_17 => ?_)
      have hV9 : okv ws_14 1 5 (.int z_17) := okv_i
      refine va_put (D := gD g) (ci := 1) (v := .int z_17) (ty := .int) (C := RX1) (T := TX1) (N := 10) hx hb hts inX1 tyX1 tyX1_ok nmX1 hown hK hP hD hS k_1 hk_1 rfl 5 (by decide) (hts _ kw_486) (fun _ h9 => h9) rfl (by decide +kernel) rfl rfl (Nat.le_of_ble_eq_true rfl) dX1_push_37 (fun H locs hP hD hS => ?_)
      have hi_18 : invX1 g ws_14 h0 [.ref r0_1, .ref r1_1, .ref r2_1, .ref r3_1, .ref r4_1, .int z_17, .int c6_1, .int c7_1, va_rf v8_1, va_rf v9_1] := ⟨r0_1, r1_1, (n1_1), r2_1, (n2_1), r3_1, (n3_1), r4_1, (n4_1), (z_17), (c6_1), (c7_1), v8_1, v9_1, rfl, o_r0_1, a_r1_1, f2_1, a_r2_1, f4_1, a_r3_1, f6_1, a_r4_1, f8_1, hz_c6_1, hz_c7_1, o_v8_1, o_v9_1, f13_1, f14_1, f15_1, f16_1, trivial⟩
      obtain ⟨ws_19, e_ws_19⟩ : ∃ z, z = ws_14.set k_1 (h0, .inr (1, [.ref r0_1, .ref r1_1, .ref r2_1, .ref r3_1, .ref r4_1, .int z_17, .int c6_1, .int c7_1, va_rf v8_1, va_rf v9_1])) := ⟨_, rfl⟩
      have hP : va_P (gD g) cl0 ws_19 H := by rw [e_ws_19]; exact hP
      have hD : va_D A ws_19 := by rw [e_ws_19]; exact hD
      have E_20 : gE ws_14 ws_19 := gE_set e_ws_19 hk_1 (cw_o (fi := 5) (v := .int z_17) rfl (by decide))
      have hG : Good g ws_19 := Good_set (fi := 5) (v := .int z_17) e_ws_19 hk_1 E_20 rfl hV9 hG (ivX1 hi_18)
      have Fr_21 : gF [(1, 5)] [] (some h0) ws_14 ws_19 := gF_put (fi := 5) (v := .int z_17) e_ws_19 hk_1 rfl (by decide)
      have hkN := gset_self e_ws_19 hk_1
      have hk_1 := hkN
      have o_h0 := E_20.1 _ _ o_h0
      have o_r0_1 := E_20.1 _ _ o_r0_1
      have a_r1_1 := E_20.1 _ _ a_r1_1
      have a_r2_1 := E_20.1 _ _ a_r2_1
      have a_r3_1 := E_20.1 _ _ a_r3_1
      have a_r4_1 := E_20.1 _ _ a_r4_1
      have o_v8_1 : ∀ b, v8_1 = some b → gC ws_19 b 9 := fun b h => E_20.1 _ _ (o_v8_1 b h)
      have o_v9_1 : ∀ b, v9_1 = some b → gC ws_19 b 7 := fun b h => E_20.1 _ _ (o_v9_1 b h)
      exact J_40 ws_19 H locs ls ((E_15.tr E_20)) ((gF.tr (gF.mo (F' := [(1, 5)]) (C' := [(1, 4)]) (S' := none) Fr_16 (fun _ h => absurd h List.not_mem_nil) (fun _ h => h) (Or.inr rfl)) (gF.mo (F' := [(1, 5)]) (C' := [(1, 4)]) (S' := none) Fr_21 (fun _ h => h) (fun _ h => absurd h List.not_mem_nil) (Or.inl rfl)))) hG hP hD hS (lv_sub hl [] rfl)
set_option maxHeartbeats 1000000 in
set_option maxRecDepth 100000 in
theorem m_X1_isReference (l : Launch) (g : Gm) (sz : Nat) (ws : va_W) (x0 : Int32) (hG : Good g ws)  : Met l yX1_isReference (wt yX1_isReference cX1_isReference 1 (some .boolean)) ({ frames := 0, cells := 0, slots := 0, locals := 0 }) (va_Pc [.int x0] (st_G g sz ws)) (va_Qi (fun (r : Int32) (u9 : Unit) => r = 0 ∨ r = 1) (gQ0 g (va_A ws sz) ws) (va_A ws sz)) (0) (0) (va_A ws sz) := by
  refine Met.ofW (cc := cX1_isReference) (maxL := 1) (ret := (some .boolean)) (by decide) rfl ?_
  intro p e s m args below meth c s₁ B hml hv
  obtain ⟨rfl, hsz, hP, hK, hD0, hex, hE⟩ := hv
  have hx := B.exec
  have hb := B.bytes
  have hr := B.returns
  have hts0 := atoms_spec (ws := wt yX1_isReference cX1_isReference 1 (some .boolean)) B.pre
  have hts : ∀ w ∈ tb, w.before _ s = true := fun w h => hts0 w (List.mem_cons_of_mem _ h)
  have hown : s.vm.findClass RX1 = some m.cls := findClass_of_methodNamed B.named
  subst hsz
  have hD := hD0.self (sz := s.heap.size)
  generalize hAe : va_A ws s.heap.size = A at hD hE ⊢
  have hA : ∀ q : Nat, s.heap.size ≤ q → A q := fun q h => by rw [← hAe]; exact Or.inr h
  have hS : va_S A s.heap s.heap [] := va_S.rf
  have hl := lv_entry ([.int x0]) (n := 1) (Nat.le_of_ble_eq_true rfl)
  rw [lg_entry_eq]
  generalize (lg_sl ([.int x0]) ++ List.replicate (1 - (lg_sl ([.int x0])).length) Slot.unset).toArray = ls at hl ⊢
  have hl : lv_has ls 1 [(0, .int x0)] := hl
  refine lv_iload_n hx hb dX1_isReference_0 rfl (lv_at hl 0 rfl) ?_
  refine lv_iconst (v := 4) hx hb dX1_isReference_1 (by decide) ?_
  have J_21 : ∀ (t_1 : Int32) (H : Heap) (locs : List Loc) (ls : Array Slot), t_1 = 0 ∨ t_1 = 1 → va_P (gD g) cl0 ws H → va_D A ws → va_S A s.heap H locs → lv_has ls 1 [] → W p l e (headSpec (wt yX1_isReference cX1_isReference 1 (some .boolean)) ({ frames := 0, cells := 0, slots := 0, locals := 0 })).room s m ([.int x0] : List Value).toArray below meth c H locs (0) (0) (MQ below (va_Qi (fun (r : Int32) (u9 : Unit) => r = 0 ∨ r = 1) (gQ0 g A ws) A) ([.int x0] : List Value).toArray s (0) (0) A) (F0 m 21 ls [.int t_1]) := by
    intro t_1 H locs ls iv_2 hP hD hS hl
    have hz_t_1 := iv_2
    refine W.widen (k := 0) (n := 0) (Nat.le_of_ble_eq_true rfl) (Nat.le_of_ble_eq_true rfl) ?_
    exact W.zret (v := t_1) hx hb hr (nz hz_t_1) (fun t9 ht9 hW9 => ⟨⟨_, (), rfl, hz_t_1, ⟨by rw [ht9]; exact hP, hD⟩⟩, hS.F ht9⟩) hS.2.2 dX1_isReference_21
  have J_16 : ∀  (H : Heap) (locs : List Loc) (ls : Array Slot), va_P (gD g) cl0 ws H → va_D A ws → va_S A s.heap H locs → lv_has ls 1 [] → W p l e (headSpec (wt yX1_isReference cX1_isReference 1 (some .boolean)) ({ frames := 0, cells := 0, slots := 0, locals := 0 })).room s m ([.int x0] : List Value).toArray below meth c H locs (0) (0) (MQ below (va_Qi (fun (r : Int32) (u9 : Unit) => r = 0 ∨ r = 1) (gQ0 g A ws) A) ([.int x0] : List Value).toArray s (0) (0) A) (F0 m 16 ls []) := by
    intro  H locs ls  hP hD hS hl
    refine lv_iconst (v := 1) hx hb dX1_isReference_16 (by decide) ?_
    refine lv_goto (tgt := 21) hx hb dX1_isReference_17 (by decide) ?_
    exact J_21 (1) H locs ls (Or.inr rfl) hP hD hS (lv_sub hl [] rfl)
  refine lv_icmp_eq (tgt := 16) hx hb dX1_isReference_2 (by decide) (fun c_7 => ?_) (fun c_7 => ?_)
  · exact J_16  _ _ ls  hP hD hS (lv_sub hl [] rfl)
  · refine lv_iload_n hx hb dX1_isReference_5 rfl (lv_at hl 0 rfl) ?_
    refine lv_iconst (v := 5) hx hb dX1_isReference_6 (by decide) ?_
    refine lv_icmp_eq (tgt := 16) hx hb dX1_isReference_7 (by decide) (fun c_8 => ?_) (fun c_8 => ?_)
    · exact J_16  _ _ ls  hP hD hS (lv_sub hl [] rfl)
    · refine lv_iload_n hx hb dX1_isReference_10 rfl (lv_at hl 0 rfl) ?_
      refine lv_bipush (v := 6) hx hb dX1_isReference_11 (by decide) ?_
      refine lv_icmp_ne (tgt := 20) hx hb dX1_isReference_13 (by decide) (fun c_9 => ?_) (fun c_9 => ?_)
      · refine lv_iconst (v := 0) hx hb dX1_isReference_20 (by decide) ?_
        exact J_21 (0) _ _ ls (Or.inl rfl) hP hD hS (lv_sub hl [] rfl)
      · exact J_16  _ _ ls  hP hD hS (lv_sub hl [] rfl)
set_option maxHeartbeats 1000000 in
set_option maxRecDepth 100000 in
theorem m_X1_isOnePlace (l : Launch) (g : Gm) (sz : Nat) (ws : va_W) (x0 : Int32) (hG : Good g ws)  : Met l yX1_isOnePlace (wt yX1_isOnePlace cX1_isOnePlace 1 (some .boolean)) ({ frames := 0, cells := 0, slots := 0, locals := 0 }) (va_Pc [.int x0] (st_G g sz ws)) (va_Qi (fun (r : Int32) (u9 : Unit) => r = 0 ∨ r = 1) (gQ0 g (va_A ws sz) ws) (va_A ws sz)) (0) (0) (va_A ws sz) := by
  refine Met.ofW (cc := cX1_isOnePlace) (maxL := 1) (ret := (some .boolean)) (by decide) rfl ?_
  intro p e s m args below meth c s₁ B hml hv
  obtain ⟨rfl, hsz, hP, hK, hD0, hex, hE⟩ := hv
  have hx := B.exec
  have hb := B.bytes
  have hr := B.returns
  have hts0 := atoms_spec (ws := wt yX1_isOnePlace cX1_isOnePlace 1 (some .boolean)) B.pre
  have hts : ∀ w ∈ tb, w.before _ s = true := fun w h => hts0 w (List.mem_cons_of_mem _ h)
  have hown : s.vm.findClass RX1 = some m.cls := findClass_of_methodNamed B.named
  subst hsz
  have hD := hD0.self (sz := s.heap.size)
  generalize hAe : va_A ws s.heap.size = A at hD hE ⊢
  have hA : ∀ q : Nat, s.heap.size ≤ q → A q := fun q h => by rw [← hAe]; exact Or.inr h
  have hS : va_S A s.heap s.heap [] := va_S.rf
  have hl := lv_entry ([.int x0]) (n := 1) (Nat.le_of_ble_eq_true rfl)
  rw [lg_entry_eq]
  generalize (lg_sl ([.int x0]) ++ List.replicate (1 - (lg_sl ([.int x0])).length) Slot.unset).toArray = ls at hl ⊢
  have hl : lv_has ls 1 [(0, .int x0)] := hl
  refine lv_iload_n hx hb dX1_isOnePlace_0 rfl (lv_at hl 0 rfl) ?_
  refine lv_iconst (v := 1) hx hb dX1_isOnePlace_1 (by decide) ?_
  have J_26 : ∀ (t_1 : Int32) (H : Heap) (locs : List Loc) (ls : Array Slot), t_1 = 0 ∨ t_1 = 1 → va_P (gD g) cl0 ws H → va_D A ws → va_S A s.heap H locs → lv_has ls 1 [] → W p l e (headSpec (wt yX1_isOnePlace cX1_isOnePlace 1 (some .boolean)) ({ frames := 0, cells := 0, slots := 0, locals := 0 })).room s m ([.int x0] : List Value).toArray below meth c H locs (0) (0) (MQ below (va_Qi (fun (r : Int32) (u9 : Unit) => r = 0 ∨ r = 1) (gQ0 g A ws) A) ([.int x0] : List Value).toArray s (0) (0) A) (F0 m 26 ls [.int t_1]) := by
    intro t_1 H locs ls iv_2 hP hD hS hl
    have hz_t_1 := iv_2
    refine W.widen (k := 0) (n := 0) (Nat.le_of_ble_eq_true rfl) (Nat.le_of_ble_eq_true rfl) ?_
    exact W.zret (v := t_1) hx hb hr (nz hz_t_1) (fun t9 ht9 hW9 => ⟨⟨_, (), rfl, hz_t_1, ⟨by rw [ht9]; exact hP, hD⟩⟩, hS.F ht9⟩) hS.2.2 dX1_isOnePlace_26
  have J_21 : ∀  (H : Heap) (locs : List Loc) (ls : Array Slot), va_P (gD g) cl0 ws H → va_D A ws → va_S A s.heap H locs → lv_has ls 1 [] → W p l e (headSpec (wt yX1_isOnePlace cX1_isOnePlace 1 (some .boolean)) ({ frames := 0, cells := 0, slots := 0, locals := 0 })).room s m ([.int x0] : List Value).toArray below meth c H locs (0) (0) (MQ below (va_Qi (fun (r : Int32) (u9 : Unit) => r = 0 ∨ r = 1) (gQ0 g A ws) A) ([.int x0] : List Value).toArray s (0) (0) A) (F0 m 21 ls []) := by
    intro  H locs ls  hP hD hS hl
    refine lv_iconst (v := 1) hx hb dX1_isOnePlace_21 (by decide) ?_
    refine lv_goto (tgt := 26) hx hb dX1_isOnePlace_22 (by decide) ?_
    exact J_26 (1) H locs ls (Or.inr rfl) hP hD hS (lv_sub hl [] rfl)
  refine lv_icmp_eq (tgt := 21) hx hb dX1_isOnePlace_2 (by decide) (fun c_7 => ?_) (fun c_7 => ?_)
  · exact J_21  _ _ ls  hP hD hS (lv_sub hl [] rfl)
  · refine lv_iload_n hx hb dX1_isOnePlace_5 rfl (lv_at hl 0 rfl) ?_
    refine lv_iconst (v := 4) hx hb dX1_isOnePlace_6 (by decide) ?_
    refine lv_icmp_eq (tgt := 21) hx hb dX1_isOnePlace_7 (by decide) (fun c_8 => ?_) (fun c_8 => ?_)
    · exact J_21  _ _ ls  hP hD hS (lv_sub hl [] rfl)
    · refine lv_iload_n hx hb dX1_isOnePlace_10 rfl (lv_at hl 0 rfl) ?_
      refine lv_iconst (v := 5) hx hb dX1_isOnePlace_11 (by decide) ?_
      refine lv_icmp_eq (tgt := 21) hx hb dX1_isOnePlace_12 (by decide) (fun c_9 => ?_) (fun c_9 => ?_)
      · exact J_21  _ _ ls  hP hD hS (lv_sub hl [] rfl)
      · refine lv_iload_n hx hb dX1_isOnePlace_15 rfl (lv_at hl 0 rfl) ?_
        refine lv_bipush (v := 6) hx hb dX1_isOnePlace_16 (by decide) ?_
        refine lv_icmp_ne (tgt := 25) hx hb dX1_isOnePlace_18 (by decide) (fun c_10 => ?_) (fun c_10 => ?_)
        · refine lv_iconst (v := 0) hx hb dX1_isOnePlace_25 (by decide) ?_
          exact J_26 (0) _ _ ls (Or.inl rfl) hP hD hS (lv_sub hl [] rfl)
        · exact J_21  _ _ ls  hP hD hS (lv_sub hl [] rfl)
set_option maxHeartbeats 1000000 in
set_option maxRecDepth 100000 in
theorem m_X1_take (l : Launch) (g : Gm) (sz : Nat) (ws : va_W) (h0 : Nat) (x1 : Int32) (hG : Good g ws) (o_h0 : gC ws h0 1) : Met l yX1_take (wt yX1_take cX1_take 3 (some .int)) ({ frames := 1, cells := 0, slots := 0, locals := 20 }) (va_Pc [.ref h0, .int x1] (st_G g sz ws)) (va_Qi (fun (r : Int32) (u9 : va_W) => True) (gQ1 g [(1, 5), (1, 6)] [] none (va_A ws sz) ws) (va_A ws sz)) (0) (0) (va_A ws sz) := by
  refine Met.ofW (cc := cX1_take) (maxL := 3) (ret := (some .int)) (by decide) rfl ?_
  intro p e s m args below meth c s₁ B hml hv
  obtain ⟨rfl, hsz, hP, hK, hD0, hex, hE⟩ := hv
  have hx := B.exec
  have hb := B.bytes
  have hr := B.returns
  have hts0 := atoms_spec (ws := wt yX1_take cX1_take 3 (some .int)) B.pre
  have hts : ∀ w ∈ tb, w.before _ s = true := fun w h => hts0 w (List.mem_cons_of_mem _ h)
  have hown : s.vm.findClass RX1 = some m.cls := findClass_of_methodNamed B.named
  subst hsz
  have hD := hD0.self (sz := s.heap.size)
  generalize hAe : va_A ws s.heap.size = A at hD hE ⊢
  have hA : ∀ q : Nat, s.heap.size ≤ q → A q := fun q h => by rw [← hAe]; exact Or.inr h
  have hS : va_S A s.heap s.heap [] := va_S.rf
  have hl := lv_entry ([.ref h0, .int x1]) (n := 3) (Nat.le_of_ble_eq_true rfl)
  rw [lg_entry_eq]
  generalize (lg_sl ([.ref h0, .int x1]) ++ List.replicate (3 - (lg_sl ([.ref h0, .int x1])).length) Slot.unset).toArray = ls at hl ⊢
  have hl : lv_has ls 3 [(0, .ref h0), (1, .int x1)] := hl
  refine lv_aload_n hx hb dX1_take_0 rfl (lv_at hl 0 rfl) ?_
  have hFc := gfree hD hS hA
  obtain ⟨k_1, fs_1, hk_1⟩ := gC_of o_h0
  refine va_calli (va_runV (As := []) (rest := []) ⟨hx, hb, hml, hown, hts⟩ (m_X1_pop l g s.heap.size ws h0 hG o_h0) (cwV 0 hts (gd_V kw_603 kw_582 kw_583 kw_392 kw_581) rfl rfl rfl (by decide +kernel) ⟨Nat.le_of_ble_eq_true rfl, Nat.le_of_ble_eq_true rfl⟩) ⟨gblind, va_recv hK hP (ci := 1) (q0 := k_1) rfl hk_1, fun U hU hW9 => gmk hU hW9 hP hK hD hex hE hS hFc⟩ rfl rfl hl.1 rfl (lv_room (Nat.le_of_ble_eq_true rfl)) dX1_take_1 ⟨Nat.le_of_ble_eq_true rfl, Nat.le_of_ble_eq_true rfl⟩) hS (fun q _ h => hFc q h) hFc (fun r_2 ws_3 t9 H1 locs ht9 hvm9 hw9 hB9 hz9 hk9 hS => ?_)
  obtain ⟨E_4, Fr_5, hG, hP1, hD1⟩ := hB9
  have hP : va_P (gD g) cl0 ws_3 H1 := by rw [← ht9]; exact hP1
  have hD : va_D A ws_3 := hD1.weaken (fun _ _ _ h => hFc _ h)
  clear hP1 hD1 hz9 hk9 hvm9 ht9 hw9
  generalize H1 = H at hP hS ⊢
  have o_h0 := E_4.1 _ _ o_h0
  refine lv_istore_n (lv' := [(2, .int r_2), (0, .ref h0), (1, .int x1)]) hx hb dX1_take_4 rfl hl (by decide) rfl (fun ls hl => ?_)
  refine lv_iload_n hx hb dX1_take_5 rfl (lv_at hl 2 rfl) ?_
  have J_199 : ∀ (ws_8 : va_W) (H : Heap) (locs : List Loc) (ls : Array Slot), gE ws_3 ws_8 → gF [(1, 5), (1, 6)] [] none ws_3 ws_8 → Good g ws_8 → va_P (gD g) cl0 ws_8 H → va_D A ws_8 → va_S A s.heap H locs → lv_has ls 3 [(2, .int r_2)] → W p l e (headSpec (wt yX1_take cX1_take 3 (some .int)) ({ frames := 1, cells := 0, slots := 0, locals := 20 })).room s m ([.ref h0, .int x1] : List Value).toArray below meth c H locs (0) (0) (MQ below (va_Qi (fun (r : Int32) (u9 : va_W) => True) (gQ1 g [(1, 5), (1, 6)] [] none A ws) A) ([.ref h0, .int x1] : List Value).toArray s (0) (0) A) (F0 m 199 ls []) := by
    intro ws_8 H locs ls  E_9 Fr_10 hG hP hD hS hl
    have o_h0 := E_9.1 _ _ o_h0
    refine lv_iload_n hx hb dX1_take_199 rfl (lv_at hl 0 rfl) ?_
    refine W.widen (k := 0) (n := 0) (Nat.le_of_ble_eq_true rfl) (Nat.le_of_ble_eq_true rfl) ?_
    exact W.iret (v := r_2) hx hb hr (fun t9 ht9 hW9 => ⟨⟨_, ws_8, rfl, trivial, ⟨(E_4.tr E_9), (gF.tr (gF.mo (F' := [(1, 5), (1, 6)]) (C' := []) (S' := none) Fr_5 (by decide) (fun _ h => h) (Or.inr rfl)) Fr_10), hG, by rw [ht9]; exact hP, hD⟩⟩, hS.F ht9⟩) hS.2.2 dX1_take_200
  have K_6_178 : W p l e (headSpec (wt yX1_take cX1_take 3 (some .int)) ({ frames := 1, cells := 0, slots := 0, locals := 20 })).room s m ([.ref h0, .int x1] : List Value).toArray below meth c H locs (0) (0) (MQ below (va_Qi (fun (r : Int32) (u9 : va_W) => True) (gQ1 g [(1, 5), (1, 6)] [] none A ws) A) ([.ref h0, .int x1] : List Value).toArray s (0) (0) A) (F0 m 178 ls []) := by
    refine lv_aload_n hx hb dX1_take_178 rfl (lv_at hl 1 rfl) ?_
    refine lv_dup hx hb dX1_take_179 rfl ?_
    obtain ⟨k_11, fs9, hk_11⟩ := gC_of o_h0
    obtain ⟨r0_11, r1_11, n1_11, r2_11, n2_11, r3_11, n3_11, r4_11, n4_11, c5_11, c6_11, c7_11, v8_11, v9_11, rfl, o_r0_11, a_r1_11, f2_11, a_r2_11, f4_11, a_r3_11, f6_11, a_r4_11, f8_11, hz_c6_11, hz_c7_11, o_v8_11, o_v9_11, f13_11, f14_11, f15_11, f16_11, -⟩ := (hG.1 _ _ _ _ hk_11).hX1 rfl
    refine va_get (D := gD g) (ci := 1) (v := .int c6_11) (C := RX1) (T := TX1) (N := 10) hx hb hts inX1 hown hK hP k_11 hk_11 rfl 6 (by decide) (hts _ kw_536) (fun _ h9 => h9) rfl dX1_take_180 ?_
    refine lv_iload_n hx hb dX1_take_183 rfl (lv_at hl 0 rfl) ?_
    have hFc := gfree hD hS hA
    refine va_calli (va_runS (As := [.int r_2]) (rest := [.int c6_11, .ref h0]) ⟨hx, hb, hml, hown, hts⟩ (m_X1_isOnePlace l g H.size ws_3 (r_2) hG ) (va_cwS 1 hts (gd_S kw_604 kw_555 kw_392 kw_554) rfl rfl rfl (by decide +kernel) ⟨Nat.le_of_ble_eq_true rfl, Nat.le_of_ble_eq_true rfl⟩) ⟨gblind, fun U hU hW9 => gmk hU hW9 hP hK hD hex hE hS hFc⟩ rfl rfl hl.1 rfl (lv_room (Nat.le_of_ble_eq_true rfl)) dX1_take_184 ⟨Nat.le_of_ble_eq_true rfl, Nat.le_of_ble_eq_true rfl⟩) hS (fun q _ h => hFc q h) hFc (fun r_12 u9 t9 H1 locs ht9 hvm9 hw9 hB9 hz9 hk9 hS => ?_)
    have hP : va_P (gD g) cl0 ws_3 H1 := by rw [← ht9]; exact hB9.1
    have hz_r_12 : r_12 = 0 ∨ r_12 = 1 := hw9
    clear hB9 hz9 hk9 hvm9 ht9 hw9
    generalize H1 = H at hP hS ⊢
    have J_195 : ∀ (t_13 : Int32) (H : Heap) (locs : List Loc) (ls : Array Slot), t_13 = 0 ∨ t_13 = 1 → va_P (gD g) cl0 ws_3 H → va_D A ws_3 → va_S A s.heap H locs → lv_has ls 3 [(2, .int r_2)] → W p l e (headSpec (wt yX1_take cX1_take 3 (some .int)) ({ frames := 1, cells := 0, slots := 0, locals := 20 })).room s m ([.ref h0, .int x1] : List Value).toArray below meth c H locs (0) (0) (MQ below (va_Qi (fun (r : Int32) (u9 : va_W) => True) (gQ1 g [(1, 5), (1, 6)] [] none A ws) A) ([.ref h0, .int x1] : List Value).toArray s (0) (0) A) (F0 m 195 ls [.int t_13, .int c6_11, .ref h0]) := by
      intro t_13 H locs ls iv_14 hP hD hS hl
      have hz_t_13 := iv_14
      refine lv_ior hx hb dX1_take_195 ?_
      refine lv_topi (fun z_17 ez_17 => ?_)
      have hz_z_17 := bit_or ez_17 hz_c6_11 hz_t_13
      have hV9 : okv ws_3 1 6 (.int z_17) := okv_i
      refine va_put (D := gD g) (ci := 1) (v := .int z_17) (ty := .boolean) (C := RX1) (T := TX1) (N := 10) hx hb hts inX1 tyX1 tyX1_ok nmX1 hown hK hP hD hS k_11 hk_11 rfl 6 (by decide) (hts _ kw_536) (fun _ h9 => h9) rfl (by decide +kernel) (nz hz_z_17) (fz hz_z_17) (Nat.le_of_ble_eq_true rfl) dX1_take_196 (fun H locs hP hD hS => ?_)
      have hi_18 : invX1 g ws_3 h0 [.ref r0_11, .ref r1_11, .ref r2_11, .ref r3_11, .ref r4_11, .int c5_11, .int z_17, .int c7_11, va_rf v8_11, va_rf v9_11] := ⟨r0_11, r1_11, (n1_11), r2_11, (n2_11), r3_11, (n3_11), r4_11, (n4_11), (c5_11), (z_17), (c7_11), v8_11, v9_11, rfl, o_r0_11, a_r1_11, f2_11, a_r2_11, f4_11, a_r3_11, f6_11, a_r4_11, f8_11, hz_z_17, hz_c7_11, o_v8_11, o_v9_11, f13_11, f14_11, f15_11, f16_11, trivial⟩
      obtain ⟨ws_19, e_ws_19⟩ : ∃ z, z = ws_3.set k_11 (h0, .inr (1, [.ref r0_11, .ref r1_11, .ref r2_11, .ref r3_11, .ref r4_11, .int c5_11, .int z_17, .int c7_11, va_rf v8_11, va_rf v9_11])) := ⟨_, rfl⟩
      have hP : va_P (gD g) cl0 ws_19 H := by rw [e_ws_19]; exact hP
      have hD : va_D A ws_19 := by rw [e_ws_19]; exact hD
      have E_20 : gE ws_3 ws_19 := gE_set e_ws_19 hk_11 (cw_o (fi := 6) (v := .int z_17) rfl (by decide))
      have hG : Good g ws_19 := Good_set (fi := 6) (v := .int z_17) e_ws_19 hk_11 E_20 rfl hV9 hG (ivX1 hi_18)
      have Fr_21 : gF [(1, 6)] [] (some h0) ws_3 ws_19 := gF_put (fi := 6) (v := .int z_17) e_ws_19 hk_11 rfl (by decide)
      have hkN := gset_self e_ws_19 hk_11
      have hk_11 := hkN
      have o_h0 := E_20.1 _ _ o_h0
      have o_r0_11 := E_20.1 _ _ o_r0_11
      have a_r1_11 := E_20.1 _ _ a_r1_11
      have a_r2_11 := E_20.1 _ _ a_r2_11
      have a_r3_11 := E_20.1 _ _ a_r3_11
      have a_r4_11 := E_20.1 _ _ a_r4_11
      have o_v8_11 : ∀ b, v8_11 = some b → gC ws_19 b 9 := fun b h => E_20.1 _ _ (o_v8_11 b h)
      have o_v9_11 : ∀ b, v9_11 = some b → gC ws_19 b 7 := fun b h => E_20.1 _ _ (o_v9_11 b h)
      exact J_199 ws_19 H locs ls (E_20) ((gF.mo (F' := [(1, 5), (1, 6)]) (C' := []) (S' := none) Fr_21 (by decide) (fun _ h => h) (Or.inl rfl))) hG hP hD hS (lv_sub hl [0] rfl)
    refine lv_if_ne (tgt := 194) hx hb dX1_take_187 (by decide) (fun c_22 => ?_) (fun c_22 => ?_)
    · refine lv_iconst (v := 0) hx hb dX1_take_194 (by decide) ?_
      exact J_195 (0) H locs ls (Or.inl rfl) hP hD hS (lv_sub hl [0] rfl)
    · refine lv_iconst (v := 1) hx hb dX1_take_190 (by decide) ?_
      refine lv_goto (tgt := 195) hx hb dX1_take_191 (by decide) ?_
      exact J_195 (1) H locs ls (Or.inr rfl) hP hD hS (lv_sub hl [0] rfl)
  have K_6_40 : W p l e (headSpec (wt yX1_take cX1_take 3 (some .int)) ({ frames := 1, cells := 0, slots := 0, locals := 20 })).room s m ([.ref h0, .int x1] : List Value).toArray below meth c H locs (0) (0) (MQ below (va_Qi (fun (r : Int32) (u9 : va_W) => True) (gQ1 g [(1, 5), (1, 6)] [] none A ws) A) ([.ref h0, .int x1] : List Value).toArray s (0) (0) A) (F0 m 40 ls []) := by
    refine lv_aload_n hx hb dX1_take_40 rfl (lv_at hl 1 rfl) ?_
    refine lv_dup hx hb dX1_take_41 rfl ?_
    obtain ⟨k_23, fs9, hk_23⟩ := gC_of o_h0
    obtain ⟨r0_23, r1_23, n1_23, r2_23, n2_23, r3_23, n3_23, r4_23, n4_23, c5_23, c6_23, c7_23, v8_23, v9_23, rfl, o_r0_23, a_r1_23, f2_23, a_r2_23, f4_23, a_r3_23, f6_23, a_r4_23, f8_23, hz_c6_23, hz_c7_23, o_v8_23, o_v9_23, f13_23, f14_23, f15_23, f16_23, -⟩ := (hG.1 _ _ _ _ hk_23).hX1 rfl
    refine va_get (D := gD g) (ci := 1) (v := .int c6_23) (C := RX1) (T := TX1) (N := 10) hx hb hts inX1 hown hK hP k_23 hk_23 rfl 6 (by decide) (hts _ kw_536) (fun _ h9 => h9) rfl dX1_take_42 ?_
    refine lv_iload_n hx hb dX1_take_45 rfl (lv_at hl 0 rfl) ?_
    refine lv_iconst (v := 1) hx hb dX1_take_46 (by decide) ?_
    have J_55 : ∀ (t_24 : Int32) (H : Heap) (locs : List Loc) (ls : Array Slot), t_24 = 0 ∨ t_24 = 1 → va_P (gD g) cl0 ws_3 H → va_D A ws_3 → va_S A s.heap H locs → lv_has ls 3 [(2, .int r_2)] → W p l e (headSpec (wt yX1_take cX1_take 3 (some .int)) ({ frames := 1, cells := 0, slots := 0, locals := 20 })).room s m ([.ref h0, .int x1] : List Value).toArray below meth c H locs (0) (0) (MQ below (va_Qi (fun (r : Int32) (u9 : va_W) => True) (gQ1 g [(1, 5), (1, 6)] [] none A ws) A) ([.ref h0, .int x1] : List Value).toArray s (0) (0) A) (F0 m 55 ls [.int t_24, .int c6_23, .ref h0]) := by
      intro t_24 H locs ls iv_25 hP hD hS hl
      have hz_t_24 := iv_25
      refine lv_ior hx hb dX1_take_55 ?_
      refine lv_topi (fun z_28 ez_28 => ?_)
      have hz_z_28 := bit_or ez_28 hz_c6_23 hz_t_24
      have hV9 : okv ws_3 1 6 (.int z_28) := okv_i
      refine va_put (D := gD g) (ci := 1) (v := .int z_28) (ty := .boolean) (C := RX1) (T := TX1) (N := 10) hx hb hts inX1 tyX1 tyX1_ok nmX1 hown hK hP hD hS k_23 hk_23 rfl 6 (by decide) (hts _ kw_536) (fun _ h9 => h9) rfl (by decide +kernel) (nz hz_z_28) (fz hz_z_28) (Nat.le_of_ble_eq_true rfl) dX1_take_56 (fun H locs hP hD hS => ?_)
      have hi_29 : invX1 g ws_3 h0 [.ref r0_23, .ref r1_23, .ref r2_23, .ref r3_23, .ref r4_23, .int c5_23, .int z_28, .int c7_23, va_rf v8_23, va_rf v9_23] := ⟨r0_23, r1_23, (n1_23), r2_23, (n2_23), r3_23, (n3_23), r4_23, (n4_23), (c5_23), (z_28), (c7_23), v8_23, v9_23, rfl, o_r0_23, a_r1_23, f2_23, a_r2_23, f4_23, a_r3_23, f6_23, a_r4_23, f8_23, hz_z_28, hz_c7_23, o_v8_23, o_v9_23, f13_23, f14_23, f15_23, f16_23, trivial⟩
      obtain ⟨ws_30, e_ws_30⟩ : ∃ z, z = ws_3.set k_23 (h0, .inr (1, [.ref r0_23, .ref r1_23, .ref r2_23, .ref r3_23, .ref r4_23, .int c5_23, .int z_28, .int c7_23, va_rf v8_23, va_rf v9_23])) := ⟨_, rfl⟩
      have hP : va_P (gD g) cl0 ws_30 H := by rw [e_ws_30]; exact hP
      have hD : va_D A ws_30 := by rw [e_ws_30]; exact hD
      have E_31 : gE ws_3 ws_30 := gE_set e_ws_30 hk_23 (cw_o (fi := 6) (v := .int z_28) rfl (by decide))
      have hG : Good g ws_30 := Good_set (fi := 6) (v := .int z_28) e_ws_30 hk_23 E_31 rfl hV9 hG (ivX1 hi_29)
      have Fr_32 : gF [(1, 6)] [] (some h0) ws_3 ws_30 := gF_put (fi := 6) (v := .int z_28) e_ws_30 hk_23 rfl (by decide)
      have hkN := gset_self e_ws_30 hk_23
      have hk_23 := hkN
      have o_h0 := E_31.1 _ _ o_h0
      have o_r0_23 := E_31.1 _ _ o_r0_23
      have a_r1_23 := E_31.1 _ _ a_r1_23
      have a_r2_23 := E_31.1 _ _ a_r2_23
      have a_r3_23 := E_31.1 _ _ a_r3_23
      have a_r4_23 := E_31.1 _ _ a_r4_23
      have o_v8_23 : ∀ b, v8_23 = some b → gC ws_30 b 9 := fun b h => E_31.1 _ _ (o_v8_23 b h)
      have o_v9_23 : ∀ b, v9_23 = some b → gC ws_30 b 7 := fun b h => E_31.1 _ _ (o_v9_23 b h)
      refine lv_goto (tgt := 199) hx hb dX1_take_59 (by decide) ?_
      exact J_199 ws_30 H locs ls (E_31) ((gF.mo (F' := [(1, 5), (1, 6)]) (C' := []) (S' := none) Fr_32 (by decide) (fun _ h => h) (Or.inl rfl))) hG hP hD hS (lv_sub hl [0] rfl)
    refine lv_icmp_eq (tgt := 54) hx hb dX1_take_47 (by decide) (fun c_33 => ?_) (fun c_33 => ?_)
    · refine lv_iconst (v := 0) hx hb dX1_take_54 (by decide) ?_
      exact J_55 (0) H locs ls (Or.inl rfl) hP hD hS (lv_sub hl [0] rfl)
    · refine lv_iconst (v := 1) hx hb dX1_take_50 (by decide) ?_
      refine lv_goto (tgt := 55) hx hb dX1_take_51 (by decide) ?_
      exact J_55 (1) H locs ls (Or.inr rfl) hP hD hS (lv_sub hl [0] rfl)
  have K_6_62 : W p l e (headSpec (wt yX1_take cX1_take 3 (some .int)) ({ frames := 1, cells := 0, slots := 0, locals := 20 })).room s m ([.ref h0, .int x1] : List Value).toArray below meth c H locs (0) (0) (MQ below (va_Qi (fun (r : Int32) (u9 : va_W) => True) (gQ1 g [(1, 5), (1, 6)] [] none A ws) A) ([.ref h0, .int x1] : List Value).toArray s (0) (0) A) (F0 m 62 ls []) := by
    refine lv_aload_n hx hb dX1_take_62 rfl (lv_at hl 1 rfl) ?_
    refine lv_dup hx hb dX1_take_63 rfl ?_
    obtain ⟨k_34, fs9, hk_34⟩ := gC_of o_h0
    obtain ⟨r0_34, r1_34, n1_34, r2_34, n2_34, r3_34, n3_34, r4_34, n4_34, c5_34, c6_34, c7_34, v8_34, v9_34, rfl, o_r0_34, a_r1_34, f2_34, a_r2_34, f4_34, a_r3_34, f6_34, a_r4_34, f8_34, hz_c6_34, hz_c7_34, o_v8_34, o_v9_34, f13_34, f14_34, f15_34, f16_34, -⟩ := (hG.1 _ _ _ _ hk_34).hX1 rfl
    refine va_get (D := gD g) (ci := 1) (v := .int c6_34) (C := RX1) (T := TX1) (N := 10) hx hb hts inX1 hown hK hP k_34 hk_34 rfl 6 (by decide) (hts _ kw_536) (fun _ h9 => h9) rfl dX1_take_64 ?_
    refine lv_iload_n hx hb dX1_take_67 rfl (lv_at hl 0 rfl) ?_
    refine lv_iconst (v := 3) hx hb dX1_take_68 (by decide) ?_
    have J_77 : ∀ (t_35 : Int32) (H : Heap) (locs : List Loc) (ls : Array Slot), t_35 = 0 ∨ t_35 = 1 → va_P (gD g) cl0 ws_3 H → va_D A ws_3 → va_S A s.heap H locs → lv_has ls 3 [(0, .ref h0), (2, .int r_2)] → W p l e (headSpec (wt yX1_take cX1_take 3 (some .int)) ({ frames := 1, cells := 0, slots := 0, locals := 20 })).room s m ([.ref h0, .int x1] : List Value).toArray below meth c H locs (0) (0) (MQ below (va_Qi (fun (r : Int32) (u9 : va_W) => True) (gQ1 g [(1, 5), (1, 6)] [] none A ws) A) ([.ref h0, .int x1] : List Value).toArray s (0) (0) A) (F0 m 77 ls [.int t_35, .int c6_34, .ref h0]) := by
      intro t_35 H locs ls iv_36 hP hD hS hl
      have hz_t_35 := iv_36
      refine lv_aload_n hx hb dX1_take_77 rfl (lv_at hl 0 rfl) ?_
      have hFc := gfree hD hS hA
      refine va_calli (va_runV (As := []) (rest := [.int t_35, .int c6_34, .ref h0]) ⟨hx, hb, hml, hown, hts⟩ (m_X1_pop l g H.size ws_3 h0 hG o_h0) (cwV 0 hts (gd_V kw_603 kw_582 kw_583 kw_392 kw_581) rfl rfl rfl (by decide +kernel) ⟨Nat.le_of_ble_eq_true rfl, Nat.le_of_ble_eq_true rfl⟩) ⟨gblind, va_recv hK hP (ci := 1) (q0 := k_34) rfl hk_34, fun U hU hW9 => gmk hU hW9 hP hK hD hex hE hS hFc⟩ rfl rfl hl.1 rfl (lv_room (Nat.le_of_ble_eq_true rfl)) dX1_take_78 ⟨Nat.le_of_ble_eq_true rfl, Nat.le_of_ble_eq_true rfl⟩) hS (fun q _ h => hFc q h) hFc (fun r_39 ws_40 t9 H1 locs ht9 hvm9 hw9 hB9 hz9 hk9 hS => ?_)
      obtain ⟨E_41, Fr_42, hG, hP1, hD1⟩ := hB9
      have hP : va_P (gD g) cl0 ws_40 H1 := by rw [← ht9]; exact hP1
      have hD : va_D A ws_40 := hD1.weaken (fun _ _ _ h => hFc _ h)
      clear hP1 hD1 hz9 hk9 hvm9 ht9 hw9
      generalize H1 = H at hP hS ⊢
      have aa_45 := a_r1_34
      have aa_46 := a_r2_34
      have aa_47 := a_r3_34
      have aa_48 := a_r4_34
      have o_h0 := E_41.1 _ _ o_h0
      refine lv_iconst (v := 2) hx hb dX1_take_81 (by decide) ?_
      have J_90 : ∀ (t_49 : Int32) (H : Heap) (locs : List Loc) (ls : Array Slot), t_49 = 0 ∨ t_49 = 1 → va_P (gD g) cl0 ws_40 H → va_D A ws_40 → va_S A s.heap H locs → lv_has ls 3 [(2, .int r_2)] → W p l e (headSpec (wt yX1_take cX1_take 3 (some .int)) ({ frames := 1, cells := 0, slots := 0, locals := 20 })).room s m ([.ref h0, .int x1] : List Value).toArray below meth c H locs (0) (0) (MQ below (va_Qi (fun (r : Int32) (u9 : va_W) => True) (gQ1 g [(1, 5), (1, 6)] [] none A ws) A) ([.ref h0, .int x1] : List Value).toArray s (0) (0) A) (F0 m 90 ls [.int t_49, .int t_35, .int c6_34, .ref h0]) := by
        intro t_49 H locs ls iv_50 hP hD hS hl
        have hz_t_49 := iv_50
        refine lv_ior hx hb dX1_take_90 ?_
        refine lv_topi (fun z_53 ez_53 => ?_)
        have hz_z_53 := bit_or ez_53 hz_t_35 hz_t_49
        refine lv_ior hx hb dX1_take_91 ?_
        refine lv_topi (fun z_54 ez_54 => ?_)
        have hz_z_54 := bit_or ez_54 hz_c6_34 hz_z_53
        obtain ⟨fs9, hk_55, hq_55⟩ := ((gF.a (F' := [(1, 5)]) Fr_42 (fun _ h => h))) _ _ _ hk_34
        obtain ⟨r0_55, r1_55, n1_55, r2_55, n2_55, r3_55, n3_55, r4_55, n4_55, c5_55, c6_55, c7_55, v8_55, v9_55, rfl, o_r0_55, a_r1_55, f2_55, a_r2_55, f4_55, a_r3_55, f6_55, a_r4_55, f8_55, hz_c6_55, hz_c7_55, o_v8_55, o_v9_55, f13_55, f14_55, f15_55, f16_55, -⟩ := (hG.1 _ _ _ _ hk_55).hX1 rfl
        obtain rfl := fe_r (hq_55 2 (by decide))
        have hn9 := gI_n hD ((E_41).1 _ _ aa_46) a_r2_55
        subst hn9
        have a_r2_34 := a_r2_55
        obtain rfl := fe_i (hq_55 6 (by decide))
        have hz_c6_34 := hz_c6_55
        obtain rfl := fe_q (hq_55 8 (by decide))
        have o_v8_34 := o_v8_55
        obtain rfl := fe_q (hq_55 9 (by decide))
        have o_v9_34 := o_v9_55
        have hV9 : okv ws_40 1 6 (.int z_54) := okv_i
        refine va_put (D := gD g) (ci := 1) (v := .int z_54) (ty := .boolean) (C := RX1) (T := TX1) (N := 10) hx hb hts inX1 tyX1 tyX1_ok nmX1 hown hK hP hD hS k_34 hk_55 rfl 6 (by decide) (hts _ kw_536) (fun _ h9 => h9) rfl (by decide +kernel) (nz hz_z_54) (fz hz_z_54) (Nat.le_of_ble_eq_true rfl) dX1_take_92 (fun H locs hP hD hS => ?_)
        have hi_56 : invX1 g ws_40 h0 [.ref r0_55, .ref r1_55, .ref r2_34, .ref r3_55, .ref r4_55, .int c5_55, .int z_54, .int c7_55, va_rf v8_34, va_rf v9_34] := ⟨r0_55, r1_55, (n1_55), r2_34, (n2_34), r3_55, (n3_55), r4_55, (n4_55), (c5_55), (z_54), (c7_55), v8_34, v9_34, rfl, o_r0_55, a_r1_55, f2_55, a_r2_34, f4_55, a_r3_55, f6_55, a_r4_55, f8_55, hz_z_54, hz_c7_55, o_v8_34, o_v9_34, f13_55, f14_55, f15_55, f16_55, trivial⟩
        obtain ⟨ws_57, e_ws_57⟩ : ∃ z, z = ws_40.set k_34 (h0, .inr (1, [.ref r0_55, .ref r1_55, .ref r2_34, .ref r3_55, .ref r4_55, .int c5_55, .int z_54, .int c7_55, va_rf v8_34, va_rf v9_34])) := ⟨_, rfl⟩
        have hP : va_P (gD g) cl0 ws_57 H := by rw [e_ws_57]; exact hP
        have hD : va_D A ws_57 := by rw [e_ws_57]; exact hD
        have E_58 : gE ws_40 ws_57 := gE_set e_ws_57 hk_55 (cw_o (fi := 6) (v := .int z_54) rfl (by decide))
        have hG : Good g ws_57 := Good_set (fi := 6) (v := .int z_54) e_ws_57 hk_55 E_58 rfl hV9 hG (ivX1 hi_56)
        have Fr_59 : gF [(1, 6)] [] (some h0) ws_40 ws_57 := gF_put (fi := 6) (v := .int z_54) e_ws_57 hk_55 rfl (by decide)
        have hkN := gset_self e_ws_57 hk_55
        have hk_55 := hkN
        have o_h0 := E_58.1 _ _ o_h0
        have o_r0_55 := E_58.1 _ _ o_r0_55
        have a_r1_55 := E_58.1 _ _ a_r1_55
        have a_r3_55 := E_58.1 _ _ a_r3_55
        have a_r4_55 := E_58.1 _ _ a_r4_55
        have a_r2_34 := E_58.1 _ _ a_r2_34
        have o_v8_34 : ∀ b, v8_34 = some b → gC ws_57 b 9 := fun b h => E_58.1 _ _ (o_v8_34 b h)
        have o_v9_34 : ∀ b, v9_34 = some b → gC ws_57 b 7 := fun b h => E_58.1 _ _ (o_v9_34 b h)
        refine lv_goto (tgt := 199) hx hb dX1_take_95 (by decide) ?_
        exact J_199 ws_57 H locs ls ((E_41.tr E_58)) ((gF.tr (gF.mo (F' := [(1, 5), (1, 6)]) (C' := []) (S' := none) Fr_42 (by decide) (fun _ h => h) (Or.inr rfl)) (gF.mo (F' := [(1, 5), (1, 6)]) (C' := []) (S' := none) Fr_59 (by decide) (fun _ h => h) (Or.inl rfl)))) hG hP hD hS (lv_sub hl [0] rfl)
      refine lv_icmp_eq (tgt := 89) hx hb dX1_take_82 (by decide) (fun c_60 => ?_) (fun c_60 => ?_)
      · refine lv_iconst (v := 0) hx hb dX1_take_89 (by decide) ?_
        exact J_90 (0) H locs ls (Or.inl rfl) hP hD hS (lv_sub hl [1] rfl)
      · refine lv_iconst (v := 1) hx hb dX1_take_85 (by decide) ?_
        refine lv_goto (tgt := 90) hx hb dX1_take_86 (by decide) ?_
        exact J_90 (1) H locs ls (Or.inr rfl) hP hD hS (lv_sub hl [1] rfl)
    refine lv_icmp_eq (tgt := 76) hx hb dX1_take_69 (by decide) (fun c_61 => ?_) (fun c_61 => ?_)
    · refine lv_iconst (v := 0) hx hb dX1_take_76 (by decide) ?_
      exact J_77 (0) H locs ls (Or.inl rfl) hP hD hS (lv_sub hl [1, 0] rfl)
    · refine lv_iconst (v := 1) hx hb dX1_take_72 (by decide) ?_
      refine lv_goto (tgt := 77) hx hb dX1_take_73 (by decide) ?_
      exact J_77 (1) H locs ls (Or.inr rfl) hP hD hS (lv_sub hl [1, 0] rfl)
  have K_6_98 : W p l e (headSpec (wt yX1_take cX1_take 3 (some .int)) ({ frames := 1, cells := 0, slots := 0, locals := 20 })).room s m ([.ref h0, .int x1] : List Value).toArray below meth c H locs (0) (0) (MQ below (va_Qi (fun (r : Int32) (u9 : va_W) => True) (gQ1 g [(1, 5), (1, 6)] [] none A ws) A) ([.ref h0, .int x1] : List Value).toArray s (0) (0) A) (F0 m 98 ls []) := by
    refine lv_aload_n hx hb dX1_take_98 rfl (lv_at hl 1 rfl) ?_
    refine lv_dup hx hb dX1_take_99 rfl ?_
    obtain ⟨k_62, fs9, hk_62⟩ := gC_of o_h0
    obtain ⟨r0_62, r1_62, n1_62, r2_62, n2_62, r3_62, n3_62, r4_62, n4_62, c5_62, c6_62, c7_62, v8_62, v9_62, rfl, o_r0_62, a_r1_62, f2_62, a_r2_62, f4_62, a_r3_62, f6_62, a_r4_62, f8_62, hz_c6_62, hz_c7_62, o_v8_62, o_v9_62, f13_62, f14_62, f15_62, f16_62, -⟩ := (hG.1 _ _ _ _ hk_62).hX1 rfl
    refine va_get (D := gD g) (ci := 1) (v := .int c6_62) (C := RX1) (T := TX1) (N := 10) hx hb hts inX1 hown hK hP k_62 hk_62 rfl 6 (by decide) (hts _ kw_536) (fun _ h9 => h9) rfl dX1_take_100 ?_
    refine lv_iload_n hx hb dX1_take_103 rfl (lv_at hl 0 rfl) ?_
    refine lv_iconst (v := 4) hx hb dX1_take_104 (by decide) ?_
    have J_119 : ∀ (t_63 : Int32) (H : Heap) (locs : List Loc) (ls : Array Slot), t_63 = 0 ∨ t_63 = 1 → va_P (gD g) cl0 ws_3 H → va_D A ws_3 → va_S A s.heap H locs → lv_has ls 3 [(2, .int r_2)] → W p l e (headSpec (wt yX1_take cX1_take 3 (some .int)) ({ frames := 1, cells := 0, slots := 0, locals := 20 })).room s m ([.ref h0, .int x1] : List Value).toArray below meth c H locs (0) (0) (MQ below (va_Qi (fun (r : Int32) (u9 : va_W) => True) (gQ1 g [(1, 5), (1, 6)] [] none A ws) A) ([.ref h0, .int x1] : List Value).toArray s (0) (0) A) (F0 m 119 ls [.int t_63, .int c6_62, .ref h0]) := by
      intro t_63 H locs ls iv_64 hP hD hS hl
      have hz_t_63 := iv_64
      refine lv_ior hx hb dX1_take_119 ?_
      refine lv_topi (fun z_67 ez_67 => ?_)
      have hz_z_67 := bit_or ez_67 hz_c6_62 hz_t_63
      have hV9 : okv ws_3 1 6 (.int z_67) := okv_i
      refine va_put (D := gD g) (ci := 1) (v := .int z_67) (ty := .boolean) (C := RX1) (T := TX1) (N := 10) hx hb hts inX1 tyX1 tyX1_ok nmX1 hown hK hP hD hS k_62 hk_62 rfl 6 (by decide) (hts _ kw_536) (fun _ h9 => h9) rfl (by decide +kernel) (nz hz_z_67) (fz hz_z_67) (Nat.le_of_ble_eq_true rfl) dX1_take_120 (fun H locs hP hD hS => ?_)
      have hi_68 : invX1 g ws_3 h0 [.ref r0_62, .ref r1_62, .ref r2_62, .ref r3_62, .ref r4_62, .int c5_62, .int z_67, .int c7_62, va_rf v8_62, va_rf v9_62] := ⟨r0_62, r1_62, (n1_62), r2_62, (n2_62), r3_62, (n3_62), r4_62, (n4_62), (c5_62), (z_67), (c7_62), v8_62, v9_62, rfl, o_r0_62, a_r1_62, f2_62, a_r2_62, f4_62, a_r3_62, f6_62, a_r4_62, f8_62, hz_z_67, hz_c7_62, o_v8_62, o_v9_62, f13_62, f14_62, f15_62, f16_62, trivial⟩
      obtain ⟨ws_69, e_ws_69⟩ : ∃ z, z = ws_3.set k_62 (h0, .inr (1, [.ref r0_62, .ref r1_62, .ref r2_62, .ref r3_62, .ref r4_62, .int c5_62, .int z_67, .int c7_62, va_rf v8_62, va_rf v9_62])) := ⟨_, rfl⟩
      have hP : va_P (gD g) cl0 ws_69 H := by rw [e_ws_69]; exact hP
      have hD : va_D A ws_69 := by rw [e_ws_69]; exact hD
      have E_70 : gE ws_3 ws_69 := gE_set e_ws_69 hk_62 (cw_o (fi := 6) (v := .int z_67) rfl (by decide))
      have hG : Good g ws_69 := Good_set (fi := 6) (v := .int z_67) e_ws_69 hk_62 E_70 rfl hV9 hG (ivX1 hi_68)
      have Fr_71 : gF [(1, 6)] [] (some h0) ws_3 ws_69 := gF_put (fi := 6) (v := .int z_67) e_ws_69 hk_62 rfl (by decide)
      have hkN := gset_self e_ws_69 hk_62
      have hk_62 := hkN
      have o_h0 := E_70.1 _ _ o_h0
      have o_r0_62 := E_70.1 _ _ o_r0_62
      have a_r1_62 := E_70.1 _ _ a_r1_62
      have a_r2_62 := E_70.1 _ _ a_r2_62
      have a_r3_62 := E_70.1 _ _ a_r3_62
      have a_r4_62 := E_70.1 _ _ a_r4_62
      have o_v8_62 : ∀ b, v8_62 = some b → gC ws_69 b 9 := fun b h => E_70.1 _ _ (o_v8_62 b h)
      have o_v9_62 : ∀ b, v9_62 = some b → gC ws_69 b 7 := fun b h => E_70.1 _ _ (o_v9_62 b h)
      refine lv_goto (tgt := 199) hx hb dX1_take_123 (by decide) ?_
      exact J_199 ws_69 H locs ls (E_70) ((gF.mo (F' := [(1, 5), (1, 6)]) (C' := []) (S' := none) Fr_71 (by decide) (fun _ h => h) (Or.inl rfl))) hG hP hD hS (lv_sub hl [0] rfl)
    have J_118 : ∀  (H : Heap) (locs : List Loc) (ls : Array Slot), va_P (gD g) cl0 ws_3 H → va_D A ws_3 → va_S A s.heap H locs → lv_has ls 3 [(2, .int r_2)] → W p l e (headSpec (wt yX1_take cX1_take 3 (some .int)) ({ frames := 1, cells := 0, slots := 0, locals := 20 })).room s m ([.ref h0, .int x1] : List Value).toArray below meth c H locs (0) (0) (MQ below (va_Qi (fun (r : Int32) (u9 : va_W) => True) (gQ1 g [(1, 5), (1, 6)] [] none A ws) A) ([.ref h0, .int x1] : List Value).toArray s (0) (0) A) (F0 m 118 ls [.int c6_62, .ref h0]) := by
      intro  H locs ls  hP hD hS hl
      refine lv_iconst (v := 0) hx hb dX1_take_118 (by decide) ?_
      exact J_119 (0) H locs ls (Or.inl rfl) hP hD hS (lv_sub hl [0] rfl)
    refine lv_icmp_eq (tgt := 118) hx hb dX1_take_105 (by decide) (fun c_74 => ?_) (fun c_74 => ?_)
    · exact J_118  H locs ls  hP hD hS (lv_sub hl [0] rfl)
    · refine lv_iload_n hx hb dX1_take_108 rfl (lv_at hl 0 rfl) ?_
      refine lv_bipush (v := 6) hx hb dX1_take_109 (by decide) ?_
      refine lv_icmp_eq (tgt := 118) hx hb dX1_take_111 (by decide) (fun c_75 => ?_) (fun c_75 => ?_)
      · exact J_118  H locs ls  hP hD hS (lv_sub hl [0] rfl)
      · refine lv_iconst (v := 1) hx hb dX1_take_114 (by decide) ?_
        refine lv_goto (tgt := 119) hx hb dX1_take_115 (by decide) ?_
        exact J_119 (1) H locs ls (Or.inr rfl) hP hD hS (lv_sub hl [0] rfl)
  have K_6_154 : W p l e (headSpec (wt yX1_take cX1_take 3 (some .int)) ({ frames := 1, cells := 0, slots := 0, locals := 20 })).room s m ([.ref h0, .int x1] : List Value).toArray below meth c H locs (0) (0) (MQ below (va_Qi (fun (r : Int32) (u9 : va_W) => True) (gQ1 g [(1, 5), (1, 6)] [] none A ws) A) ([.ref h0, .int x1] : List Value).toArray s (0) (0) A) (F0 m 154 ls []) := by
    refine lv_aload_n hx hb dX1_take_154 rfl (lv_at hl 1 rfl) ?_
    refine lv_dup hx hb dX1_take_155 rfl ?_
    obtain ⟨k_76, fs9, hk_76⟩ := gC_of o_h0
    obtain ⟨r0_76, r1_76, n1_76, r2_76, n2_76, r3_76, n3_76, r4_76, n4_76, c5_76, c6_76, c7_76, v8_76, v9_76, rfl, o_r0_76, a_r1_76, f2_76, a_r2_76, f4_76, a_r3_76, f6_76, a_r4_76, f8_76, hz_c6_76, hz_c7_76, o_v8_76, o_v9_76, f13_76, f14_76, f15_76, f16_76, -⟩ := (hG.1 _ _ _ _ hk_76).hX1 rfl
    refine va_get (D := gD g) (ci := 1) (v := .int c6_76) (C := RX1) (T := TX1) (N := 10) hx hb hts inX1 hown hK hP k_76 hk_76 rfl 6 (by decide) (hts _ kw_536) (fun _ h9 => h9) rfl dX1_take_156 ?_
    refine lv_iload_n hx hb dX1_take_159 rfl (lv_at hl 0 rfl) ?_
    have hFc := gfree hD hS hA
    refine va_calli (va_runS (As := [.int r_2]) (rest := [.int c6_76, .ref h0]) ⟨hx, hb, hml, hown, hts⟩ (m_X1_isReference l g H.size ws_3 (r_2) hG ) (va_cwS 1 hts (gd_S kw_571 kw_557 kw_392 kw_556) rfl rfl rfl (by decide +kernel) ⟨Nat.le_of_ble_eq_true rfl, Nat.le_of_ble_eq_true rfl⟩) ⟨gblind, fun U hU hW9 => gmk hU hW9 hP hK hD hex hE hS hFc⟩ rfl rfl hl.1 rfl (lv_room (Nat.le_of_ble_eq_true rfl)) dX1_take_160 ⟨Nat.le_of_ble_eq_true rfl, Nat.le_of_ble_eq_true rfl⟩) hS (fun q _ h => hFc q h) hFc (fun r_77 u9 t9 H1 locs ht9 hvm9 hw9 hB9 hz9 hk9 hS => ?_)
    have hP : va_P (gD g) cl0 ws_3 H1 := by rw [← ht9]; exact hB9.1
    have hz_r_77 : r_77 = 0 ∨ r_77 = 1 := hw9
    clear hB9 hz9 hk9 hvm9 ht9 hw9
    generalize H1 = H at hP hS ⊢
    have J_171 : ∀ (t_78 : Int32) (H : Heap) (locs : List Loc) (ls : Array Slot), t_78 = 0 ∨ t_78 = 1 → va_P (gD g) cl0 ws_3 H → va_D A ws_3 → va_S A s.heap H locs → lv_has ls 3 [(2, .int r_2)] → W p l e (headSpec (wt yX1_take cX1_take 3 (some .int)) ({ frames := 1, cells := 0, slots := 0, locals := 20 })).room s m ([.ref h0, .int x1] : List Value).toArray below meth c H locs (0) (0) (MQ below (va_Qi (fun (r : Int32) (u9 : va_W) => True) (gQ1 g [(1, 5), (1, 6)] [] none A ws) A) ([.ref h0, .int x1] : List Value).toArray s (0) (0) A) (F0 m 171 ls [.int t_78, .int c6_76, .ref h0]) := by
      intro t_78 H locs ls iv_79 hP hD hS hl
      have hz_t_78 := iv_79
      refine lv_ior hx hb dX1_take_171 ?_
      refine lv_topi (fun z_82 ez_82 => ?_)
      have hz_z_82 := bit_or ez_82 hz_c6_76 hz_t_78
      have hV9 : okv ws_3 1 6 (.int z_82) := okv_i
      refine va_put (D := gD g) (ci := 1) (v := .int z_82) (ty := .boolean) (C := RX1) (T := TX1) (N := 10) hx hb hts inX1 tyX1 tyX1_ok nmX1 hown hK hP hD hS k_76 hk_76 rfl 6 (by decide) (hts _ kw_536) (fun _ h9 => h9) rfl (by decide +kernel) (nz hz_z_82) (fz hz_z_82) (Nat.le_of_ble_eq_true rfl) dX1_take_172 (fun H locs hP hD hS => ?_)
      have hi_83 : invX1 g ws_3 h0 [.ref r0_76, .ref r1_76, .ref r2_76, .ref r3_76, .ref r4_76, .int c5_76, .int z_82, .int c7_76, va_rf v8_76, va_rf v9_76] := ⟨r0_76, r1_76, (n1_76), r2_76, (n2_76), r3_76, (n3_76), r4_76, (n4_76), (c5_76), (z_82), (c7_76), v8_76, v9_76, rfl, o_r0_76, a_r1_76, f2_76, a_r2_76, f4_76, a_r3_76, f6_76, a_r4_76, f8_76, hz_z_82, hz_c7_76, o_v8_76, o_v9_76, f13_76, f14_76, f15_76, f16_76, trivial⟩
      obtain ⟨ws_84, e_ws_84⟩ : ∃ z, z = ws_3.set k_76 (h0, .inr (1, [.ref r0_76, .ref r1_76, .ref r2_76, .ref r3_76, .ref r4_76, .int c5_76, .int z_82, .int c7_76, va_rf v8_76, va_rf v9_76])) := ⟨_, rfl⟩
      have hP : va_P (gD g) cl0 ws_84 H := by rw [e_ws_84]; exact hP
      have hD : va_D A ws_84 := by rw [e_ws_84]; exact hD
      have E_85 : gE ws_3 ws_84 := gE_set e_ws_84 hk_76 (cw_o (fi := 6) (v := .int z_82) rfl (by decide))
      have hG : Good g ws_84 := Good_set (fi := 6) (v := .int z_82) e_ws_84 hk_76 E_85 rfl hV9 hG (ivX1 hi_83)
      have Fr_86 : gF [(1, 6)] [] (some h0) ws_3 ws_84 := gF_put (fi := 6) (v := .int z_82) e_ws_84 hk_76 rfl (by decide)
      have hkN := gset_self e_ws_84 hk_76
      have hk_76 := hkN
      have o_h0 := E_85.1 _ _ o_h0
      have o_r0_76 := E_85.1 _ _ o_r0_76
      have a_r1_76 := E_85.1 _ _ a_r1_76
      have a_r2_76 := E_85.1 _ _ a_r2_76
      have a_r3_76 := E_85.1 _ _ a_r3_76
      have a_r4_76 := E_85.1 _ _ a_r4_76
      have o_v8_76 : ∀ b, v8_76 = some b → gC ws_84 b 9 := fun b h => E_85.1 _ _ (o_v8_76 b h)
      have o_v9_76 : ∀ b, v9_76 = some b → gC ws_84 b 7 := fun b h => E_85.1 _ _ (o_v9_76 b h)
      refine lv_goto (tgt := 199) hx hb dX1_take_175 (by decide) ?_
      exact J_199 ws_84 H locs ls (E_85) ((gF.mo (F' := [(1, 5), (1, 6)]) (C' := []) (S' := none) Fr_86 (by decide) (fun _ h => h) (Or.inl rfl))) hG hP hD hS (lv_sub hl [0] rfl)
    refine lv_if_ne (tgt := 170) hx hb dX1_take_163 (by decide) (fun c_87 => ?_) (fun c_87 => ?_)
    · refine lv_iconst (v := 0) hx hb dX1_take_170 (by decide) ?_
      exact J_171 (0) H locs ls (Or.inl rfl) hP hD hS (lv_sub hl [0] rfl)
    · refine lv_iconst (v := 1) hx hb dX1_take_166 (by decide) ?_
      refine lv_goto (tgt := 171) hx hb dX1_take_167 (by decide) ?_
      exact J_171 (1) H locs ls (Or.inr rfl) hP hD hS (lv_sub hl [0] rfl)
  have K_6_126 : W p l e (headSpec (wt yX1_take cX1_take 3 (some .int)) ({ frames := 1, cells := 0, slots := 0, locals := 20 })).room s m ([.ref h0, .int x1] : List Value).toArray below meth c H locs (0) (0) (MQ below (va_Qi (fun (r : Int32) (u9 : va_W) => True) (gQ1 g [(1, 5), (1, 6)] [] none A ws) A) ([.ref h0, .int x1] : List Value).toArray s (0) (0) A) (F0 m 126 ls []) := by
    refine lv_aload_n hx hb dX1_take_126 rfl (lv_at hl 1 rfl) ?_
    refine lv_dup hx hb dX1_take_127 rfl ?_
    obtain ⟨k_88, fs9, hk_88⟩ := gC_of o_h0
    obtain ⟨r0_88, r1_88, n1_88, r2_88, n2_88, r3_88, n3_88, r4_88, n4_88, c5_88, c6_88, c7_88, v8_88, v9_88, rfl, o_r0_88, a_r1_88, f2_88, a_r2_88, f4_88, a_r3_88, f6_88, a_r4_88, f8_88, hz_c6_88, hz_c7_88, o_v8_88, o_v9_88, f13_88, f14_88, f15_88, f16_88, -⟩ := (hG.1 _ _ _ _ hk_88).hX1 rfl
    refine va_get (D := gD g) (ci := 1) (v := .int c6_88) (C := RX1) (T := TX1) (N := 10) hx hb hts inX1 hown hK hP k_88 hk_88 rfl 6 (by decide) (hts _ kw_536) (fun _ h9 => h9) rfl dX1_take_128 ?_
    refine lv_iload_n hx hb dX1_take_131 rfl (lv_at hl 0 rfl) ?_
    refine lv_iconst (v := 5) hx hb dX1_take_132 (by decide) ?_
    have J_147 : ∀ (t_89 : Int32) (H : Heap) (locs : List Loc) (ls : Array Slot), t_89 = 0 ∨ t_89 = 1 → va_P (gD g) cl0 ws_3 H → va_D A ws_3 → va_S A s.heap H locs → lv_has ls 3 [(2, .int r_2)] → W p l e (headSpec (wt yX1_take cX1_take 3 (some .int)) ({ frames := 1, cells := 0, slots := 0, locals := 20 })).room s m ([.ref h0, .int x1] : List Value).toArray below meth c H locs (0) (0) (MQ below (va_Qi (fun (r : Int32) (u9 : va_W) => True) (gQ1 g [(1, 5), (1, 6)] [] none A ws) A) ([.ref h0, .int x1] : List Value).toArray s (0) (0) A) (F0 m 147 ls [.int t_89, .int c6_88, .ref h0]) := by
      intro t_89 H locs ls iv_90 hP hD hS hl
      have hz_t_89 := iv_90
      refine lv_ior hx hb dX1_take_147 ?_
      refine lv_topi (fun z_93 ez_93 => ?_)
      have hz_z_93 := bit_or ez_93 hz_c6_88 hz_t_89
      have hV9 : okv ws_3 1 6 (.int z_93) := okv_i
      refine va_put (D := gD g) (ci := 1) (v := .int z_93) (ty := .boolean) (C := RX1) (T := TX1) (N := 10) hx hb hts inX1 tyX1 tyX1_ok nmX1 hown hK hP hD hS k_88 hk_88 rfl 6 (by decide) (hts _ kw_536) (fun _ h9 => h9) rfl (by decide +kernel) (nz hz_z_93) (fz hz_z_93) (Nat.le_of_ble_eq_true rfl) dX1_take_148 (fun H locs hP hD hS => ?_)
      have hi_94 : invX1 g ws_3 h0 [.ref r0_88, .ref r1_88, .ref r2_88, .ref r3_88, .ref r4_88, .int c5_88, .int z_93, .int c7_88, va_rf v8_88, va_rf v9_88] := ⟨r0_88, r1_88, (n1_88), r2_88, (n2_88), r3_88, (n3_88), r4_88, (n4_88), (c5_88), (z_93), (c7_88), v8_88, v9_88, rfl, o_r0_88, a_r1_88, f2_88, a_r2_88, f4_88, a_r3_88, f6_88, a_r4_88, f8_88, hz_z_93, hz_c7_88, o_v8_88, o_v9_88, f13_88, f14_88, f15_88, f16_88, trivial⟩
      obtain ⟨ws_95, e_ws_95⟩ : ∃ z, z = ws_3.set k_88 (h0, .inr (1, [.ref r0_88, .ref r1_88, .ref r2_88, .ref r3_88, .ref r4_88, .int c5_88, .int z_93, .int c7_88, va_rf v8_88, va_rf v9_88])) := ⟨_, rfl⟩
      have hP : va_P (gD g) cl0 ws_95 H := by rw [e_ws_95]; exact hP
      have hD : va_D A ws_95 := by rw [e_ws_95]; exact hD
      have E_96 : gE ws_3 ws_95 := gE_set e_ws_95 hk_88 (cw_o (fi := 6) (v := .int z_93) rfl (by decide))
      have hG : Good g ws_95 := Good_set (fi := 6) (v := .int z_93) e_ws_95 hk_88 E_96 rfl hV9 hG (ivX1 hi_94)
      have Fr_97 : gF [(1, 6)] [] (some h0) ws_3 ws_95 := gF_put (fi := 6) (v := .int z_93) e_ws_95 hk_88 rfl (by decide)
      have hkN := gset_self e_ws_95 hk_88
      have hk_88 := hkN
      have o_h0 := E_96.1 _ _ o_h0
      have o_r0_88 := E_96.1 _ _ o_r0_88
      have a_r1_88 := E_96.1 _ _ a_r1_88
      have a_r2_88 := E_96.1 _ _ a_r2_88
      have a_r3_88 := E_96.1 _ _ a_r3_88
      have a_r4_88 := E_96.1 _ _ a_r4_88
      have o_v8_88 : ∀ b, v8_88 = some b → gC ws_95 b 9 := fun b h => E_96.1 _ _ (o_v8_88 b h)
      have o_v9_88 : ∀ b, v9_88 = some b → gC ws_95 b 7 := fun b h => E_96.1 _ _ (o_v9_88 b h)
      refine lv_goto (tgt := 199) hx hb dX1_take_151 (by decide) ?_
      exact J_199 ws_95 H locs ls (E_96) ((gF.mo (F' := [(1, 5), (1, 6)]) (C' := []) (S' := none) Fr_97 (by decide) (fun _ h => h) (Or.inl rfl))) hG hP hD hS (lv_sub hl [0] rfl)
    have J_146 : ∀  (H : Heap) (locs : List Loc) (ls : Array Slot), va_P (gD g) cl0 ws_3 H → va_D A ws_3 → va_S A s.heap H locs → lv_has ls 3 [(2, .int r_2)] → W p l e (headSpec (wt yX1_take cX1_take 3 (some .int)) ({ frames := 1, cells := 0, slots := 0, locals := 20 })).room s m ([.ref h0, .int x1] : List Value).toArray below meth c H locs (0) (0) (MQ below (va_Qi (fun (r : Int32) (u9 : va_W) => True) (gQ1 g [(1, 5), (1, 6)] [] none A ws) A) ([.ref h0, .int x1] : List Value).toArray s (0) (0) A) (F0 m 146 ls [.int c6_88, .ref h0]) := by
      intro  H locs ls  hP hD hS hl
      refine lv_iconst (v := 0) hx hb dX1_take_146 (by decide) ?_
      exact J_147 (0) H locs ls (Or.inl rfl) hP hD hS (lv_sub hl [0] rfl)
    refine lv_icmp_eq (tgt := 146) hx hb dX1_take_133 (by decide) (fun c_100 => ?_) (fun c_100 => ?_)
    · exact J_146  H locs ls  hP hD hS (lv_sub hl [0] rfl)
    · refine lv_iload_n hx hb dX1_take_136 rfl (lv_at hl 0 rfl) ?_
      refine lv_bipush (v := 6) hx hb dX1_take_137 (by decide) ?_
      refine lv_icmp_eq (tgt := 146) hx hb dX1_take_139 (by decide) (fun c_101 => ?_) (fun c_101 => ?_)
      · exact J_146  H locs ls  hP hD hS (lv_sub hl [0] rfl)
      · refine lv_iconst (v := 1) hx hb dX1_take_142 (by decide) ?_
        refine lv_goto (tgt := 147) hx hb dX1_take_143 (by decide) ?_
        exact J_147 (1) H locs ls (Or.inr rfl) hP hD hS (lv_sub hl [0] rfl)
  rcases Classical.em ((x1 : Int32).toInt < 1 ∨ 5 < (x1 : Int32).toInt) with c9 | c9
  · exact lv_tableOut (tgt := 178) hx hb dX1_take_6 c9 (by decide) K_6_178
  · rcases (show (x1 : Int32).toInt = 1 ∨ (x1 : Int32).toInt = 2 ∨ (x1 : Int32).toInt = 3 ∨ (x1 : Int32).toInt = 4 ∨ (x1 : Int32).toInt = 5 by omega) with c9 | c9 | c9 | c9 | c9
    · exact lv_tableIn (off := 34) (tgt := 40) hx hb dX1_take_6 (by rw [c9]; decide) (by rw [c9]; decide) (by rw [c9]; rfl) (by decide) K_6_40
    · exact lv_tableIn (off := 56) (tgt := 62) hx hb dX1_take_6 (by rw [c9]; decide) (by rw [c9]; decide) (by rw [c9]; rfl) (by decide) K_6_62
    · exact lv_tableIn (off := 92) (tgt := 98) hx hb dX1_take_6 (by rw [c9]; decide) (by rw [c9]; decide) (by rw [c9]; rfl) (by decide) K_6_98
    · exact lv_tableIn (off := 148) (tgt := 154) hx hb dX1_take_6 (by rw [c9]; decide) (by rw [c9]; decide) (by rw [c9]; rfl) (by decide) K_6_154
    · exact lv_tableIn (off := 120) (tgt := 126) hx hb dX1_take_6 (by rw [c9]; decide) (by rw [c9]; decide) (by rw [c9]; rfl) (by decide) K_6_126
set_option maxHeartbeats 1000000 in
set_option maxRecDepth 100000 in
theorem m_X1_give (l : Launch) (g : Gm) (sz : Nat) (ws : va_W) (h0 : Nat) (x1 : Int32) (hG : Good g ws) (o_h0 : gC ws h0 1) : Met l yX1_give (wt yX1_give cX1_give 2 none) ({ frames := 1, cells := 0, slots := 0, locals := 21 }) (va_Pc [.ref h0, .int x1] (st_G g sz ws)) (va_Qv (fun (u9 : va_W) => True) (gQ1 g [(1, 5)] [(1, 4)] none (va_A ws sz) ws) (va_A ws sz)) (0) (0) (va_A ws sz) := by
  refine Met.ofW (cc := cX1_give) (maxL := 2) (ret := none) (by decide) rfl ?_
  intro p e s m args below meth c s₁ B hml hv
  obtain ⟨rfl, hsz, hP, hK, hD0, hex, hE⟩ := hv
  have hx := B.exec
  have hb := B.bytes
  have hr := B.returns
  have hts0 := atoms_spec (ws := wt yX1_give cX1_give 2 none) B.pre
  have hts : ∀ w ∈ tb, w.before _ s = true := fun w h => hts0 w (List.mem_cons_of_mem _ h)
  have hown : s.vm.findClass RX1 = some m.cls := findClass_of_methodNamed B.named
  subst hsz
  have hD := hD0.self (sz := s.heap.size)
  generalize hAe : va_A ws s.heap.size = A at hD hE ⊢
  have hA : ∀ q : Nat, s.heap.size ≤ q → A q := fun q h => by rw [← hAe]; exact Or.inr h
  have hS : va_S A s.heap s.heap [] := va_S.rf
  have hl := lv_entry ([.ref h0, .int x1]) (n := 2) (Nat.le_of_ble_eq_true rfl)
  rw [lg_entry_eq]
  generalize (lg_sl ([.ref h0, .int x1]) ++ List.replicate (2 - (lg_sl ([.ref h0, .int x1])).length) Slot.unset).toArray = ls at hl ⊢
  have hl : lv_has ls 2 [(0, .ref h0), (1, .int x1)] := hl
  refine lv_iload_n hx hb dX1_give_0 rfl (lv_at hl 1 rfl) ?_
  have J_12 : ∀ (ws_1 : va_W) (H : Heap) (locs : List Loc) (ls : Array Slot), gE ws ws_1 → gF [(1, 5)] [(1, 4)] none ws ws_1 → Good g ws_1 → va_P (gD g) cl0 ws_1 H → va_D A ws_1 → va_S A s.heap H locs → lv_has ls 2 [(0, .ref h0), (1, .int x1)] → W p l e (headSpec (wt yX1_give cX1_give 2 none) ({ frames := 1, cells := 0, slots := 0, locals := 21 })).room s m ([.ref h0, .int x1] : List Value).toArray below meth c H locs (0) (0) (MQ below (va_Qv (fun (u9 : va_W) => True) (gQ1 g [(1, 5)] [(1, 4)] none A ws) A) ([.ref h0, .int x1] : List Value).toArray s (0) (0) A) (F0 m 12 ls []) := by
    intro ws_1 H locs ls  E_2 Fr_3 hG hP hD hS hl
    have o_h0 := E_2.1 _ _ o_h0
    refine lv_iload_n hx hb dX1_give_12 rfl (lv_at hl 1 rfl) ?_
    refine lv_iconst (v := 2) hx hb dX1_give_13 (by decide) ?_
    have J_22 : ∀ (ws_4 : va_W) (H : Heap) (locs : List Loc) (ls : Array Slot), gE ws_1 ws_4 → gF [(1, 5)] [(1, 4)] none ws_1 ws_4 → Good g ws_4 → va_P (gD g) cl0 ws_4 H → va_D A ws_4 → va_S A s.heap H locs → lv_has ls 2 [] → W p l e (headSpec (wt yX1_give cX1_give 2 none) ({ frames := 1, cells := 0, slots := 0, locals := 21 })).room s m ([.ref h0, .int x1] : List Value).toArray below meth c H locs (0) (0) (MQ below (va_Qv (fun (u9 : va_W) => True) (gQ1 g [(1, 5)] [(1, 4)] none A ws) A) ([.ref h0, .int x1] : List Value).toArray s (0) (0) A) (F0 m 22 ls []) := by
      intro ws_4 H locs ls  E_5 Fr_6 hG hP hD hS hl
      have o_h0 := E_5.1 _ _ o_h0
      refine W.widen (k := 0) (n := 0) (Nat.le_of_ble_eq_true rfl) (Nat.le_of_ble_eq_true rfl) ?_
      exact W.vret hx hb hr (fun t9 ht9 hW9 => ⟨⟨ws_4, rfl, trivial, ⟨(E_2.tr E_5), (gF.tr Fr_3 Fr_6), hG, by rw [ht9]; exact hP, hD⟩⟩, hS.F ht9⟩) hS.2.2 dX1_give_22
    refine lv_icmp_ne (tgt := 22) hx hb dX1_give_14 (by decide) (fun c_7 => ?_) (fun c_7 => ?_)
    · exact J_22 ws_1 H locs ls (gE.rf) (gF.rf) hG hP hD hS (lv_sub hl [] rfl)
    · refine lv_aload_n hx hb dX1_give_17 rfl (lv_at hl 0 rfl) ?_
      refine lv_iconst (v := 3) hx hb dX1_give_18 (by decide) ?_
      have hFc := gfree hD hS hA
      obtain ⟨k_8, fs_8, hk_8⟩ := gC_of o_h0
      refine va_callv (va_runV (As := [.int 3]) (rest := []) ⟨hx, hb, hml, hown, hts⟩ (m_X1_push l g H.size ws_1 h0 (3) hG o_h0) (cwV 1 hts (gd_V kw_526 kw_585 kw_586 kw_392 kw_584) rfl rfl rfl (by decide +kernel) ⟨Nat.le_of_ble_eq_true rfl, Nat.le_of_ble_eq_true rfl⟩) ⟨gblind, va_recv hK hP (ci := 1) (q0 := k_8) rfl hk_8, fun U hU hW9 => gmk hU hW9 hP hK hD hex hE hS hFc⟩ rfl rfl hl.1 rfl (lv_room (Nat.le_of_ble_eq_true rfl)) dX1_give_19 ⟨Nat.le_of_ble_eq_true rfl, Nat.le_of_ble_eq_true rfl⟩) hS (fun q _ h => hFc q h) hFc (fun  ws_9 t9 H1 locs ht9 hvm9 hw9 hB9 hz9 hk9 hS => ?_)
      obtain ⟨E_10, Fr_11, hG, hP1, hD1⟩ := hB9
      have hP : va_P (gD g) cl0 ws_9 H1 := by rw [← ht9]; exact hP1
      have hD : va_D A ws_9 := hD1.weaken (fun _ _ _ h => hFc _ h)
      clear hP1 hD1 hz9 hk9 hvm9 ht9 hw9
      generalize H1 = H at hP hS ⊢
      have o_h0 := E_10.1 _ _ o_h0
      exact J_22 ws_9 H locs ls (E_10) (Fr_11) hG hP hD hS (lv_sub hl [] rfl)
  refine lv_if_eq (tgt := 12) hx hb dX1_give_1 (by decide) (fun c_14 => ?_) (fun c_14 => ?_)
  · exact J_12 ws _ _ ls (gE.rf) (gF.rf) hG hP hD hS (lv_sub hl [0, 1] rfl)
  · refine lv_aload_n hx hb dX1_give_4 rfl (lv_at hl 0 rfl) ?_
    refine lv_iload_n hx hb dX1_give_5 rfl (lv_at hl 1 rfl) ?_
    have hFc := gfree hD hS hA
    refine va_calli (va_runS (As := [.int x1]) (rest := [.ref h0]) ⟨hx, hb, hml, hown, hts⟩ (m_X1_lowerType l g s.heap.size ws (x1) hG ) (va_cwS 1 hts (gd_S kw_484 kw_574 kw_392 kw_573) rfl rfl rfl (by decide +kernel) ⟨Nat.le_of_ble_eq_true rfl, Nat.le_of_ble_eq_true rfl⟩) ⟨gblind, fun U hU hW9 => gmk hU hW9 hP hK hD hex hE hS hFc⟩ rfl rfl hl.1 rfl (lv_room (Nat.le_of_ble_eq_true rfl)) dX1_give_6 ⟨Nat.le_of_ble_eq_true rfl, Nat.le_of_ble_eq_true rfl⟩) hS (fun q _ h => hFc q h) hFc (fun r_15 u9 t9 H1 locs ht9 hvm9 hw9 hB9 hz9 hk9 hS => ?_)
    have hP : va_P (gD g) cl0 ws H1 := by rw [← ht9]; exact hB9.1
    clear hB9 hz9 hk9 hvm9 ht9 hw9
    generalize H1 = H at hP hS ⊢
    have hFc := gfree hD hS hA
    obtain ⟨k_16, fs_16, hk_16⟩ := gC_of o_h0
    refine va_callv (va_runV (As := [.int r_15]) (rest := []) ⟨hx, hb, hml, hown, hts⟩ (m_X1_push l g H.size ws h0 (r_15) hG o_h0) (cwV 1 hts (gd_V kw_526 kw_585 kw_586 kw_392 kw_584) rfl rfl rfl (by decide +kernel) ⟨Nat.le_of_ble_eq_true rfl, Nat.le_of_ble_eq_true rfl⟩) ⟨gblind, va_recv hK hP (ci := 1) (q0 := k_16) rfl hk_16, fun U hU hW9 => gmk hU hW9 hP hK hD hex hE hS hFc⟩ rfl rfl hl.1 rfl (lv_room (Nat.le_of_ble_eq_true rfl)) dX1_give_9 ⟨Nat.le_of_ble_eq_true rfl, Nat.le_of_ble_eq_true rfl⟩) hS (fun q _ h => hFc q h) hFc (fun  ws_17 t9 H1 locs ht9 hvm9 hw9 hB9 hz9 hk9 hS => ?_)
    obtain ⟨E_18, Fr_19, hG, hP1, hD1⟩ := hB9
    have hP : va_P (gD g) cl0 ws_17 H1 := by rw [← ht9]; exact hP1
    have hD : va_D A ws_17 := hD1.weaken (fun _ _ _ h => hFc _ h)
    clear hP1 hD1 hz9 hk9 hvm9 ht9 hw9
    generalize H1 = H at hP hS ⊢
    have o_h0 := E_18.1 _ _ o_h0
    exact J_12 ws_17 H locs ls (E_18) (Fr_19) hG hP hD hS (lv_sub hl [0, 1] rfl)
set_option maxHeartbeats 1000000 in
set_option maxRecDepth 100000 in
theorem m_X1_load (l : Launch) (g : Gm) (sz : Nat) (ws : va_W) (h0 : Nat) (x1 : Int32) (x2 : Int32) (hG : Good g ws) (o_h0 : gC ws h0 1) : Met l yX1_load (wt yX1_load cX1_load 4 none) ({ frames := 2, cells := 0, slots := 0, locals := 42 }) (va_Pc [.ref h0, .int x1, .int x2] (st_G g sz ws)) (va_Qv (fun (u9 : va_W) => True) (gQ1 g [(1, 5), (1, 6)] [(1, 4)] none (va_A ws sz) ws) (va_A ws sz)) (0) (0) (va_A ws sz) := by
  refine Met.ofW (cc := cX1_load) (maxL := 4) (ret := none) (by decide) rfl ?_
  intro p e s m args below meth c s₁ B hml hv
  obtain ⟨rfl, hsz, hP, hK, hD0, hex, hE⟩ := hv
  have hx := B.exec
  have hb := B.bytes
  have hr := B.returns
  have hts0 := atoms_spec (ws := wt yX1_load cX1_load 4 none) B.pre
  have hts : ∀ w ∈ tb, w.before _ s = true := fun w h => hts0 w (List.mem_cons_of_mem _ h)
  have hown : s.vm.findClass RX1 = some m.cls := findClass_of_methodNamed B.named
  subst hsz
  have hD := hD0.self (sz := s.heap.size)
  generalize hAe : va_A ws s.heap.size = A at hD hE ⊢
  have hA : ∀ q : Nat, s.heap.size ≤ q → A q := fun q h => by rw [← hAe]; exact Or.inr h
  have hS : va_S A s.heap s.heap [] := va_S.rf
  have hl := lv_entry ([.ref h0, .int x1, .int x2]) (n := 4) (Nat.le_of_ble_eq_true rfl)
  rw [lg_entry_eq]
  generalize (lg_sl ([.ref h0, .int x1, .int x2]) ++ List.replicate (4 - (lg_sl ([.ref h0, .int x1, .int x2])).length) Slot.unset).toArray = ls at hl ⊢
  have hl : lv_has ls 4 [(0, .ref h0), (1, .int x1), (2, .int x2)] := hl
  refine lv_aload_n hx hb dX1_load_0 rfl (lv_at hl 0 rfl) ?_
  refine lv_iload_n hx hb dX1_load_1 rfl (lv_at hl 2 rfl) ?_
  have hFc := gfree hD hS hA
  obtain ⟨k_1, fs_1, hk_1⟩ := gC_of o_h0
  refine va_calli (va_runV (As := [.int x2]) (rest := []) ⟨hx, hb, hml, hown, hts⟩ (m_X1_placeAt l g s.heap.size ws h0 (x2) hG o_h0) (cwV 1 hts (gd_V kw_537 kw_579 kw_580 kw_392 kw_578) rfl rfl rfl (by decide +kernel) ⟨Nat.le_of_ble_eq_true rfl, Nat.le_of_ble_eq_true rfl⟩) ⟨gblind, va_recv hK hP (ci := 1) (q0 := k_1) rfl hk_1, fun U hU hW9 => gmk hU hW9 hP hK hD hex hE hS hFc⟩ rfl rfl hl.1 rfl (lv_room (Nat.le_of_ble_eq_true rfl)) dX1_load_2 ⟨Nat.le_of_ble_eq_true rfl, Nat.le_of_ble_eq_true rfl⟩) hS (fun q _ h => hFc q h) hFc (fun r_2 u9 t9 H1 locs ht9 hvm9 hw9 hB9 hz9 hk9 hS => ?_)
  have hP : va_P (gD g) cl0 ws H1 := by rw [← ht9]; exact hB9.1
  clear hB9 hz9 hk9 hvm9 ht9 hw9
  generalize H1 = H at hP hS ⊢
  refine lv_istore_n (lv' := [(3, .int r_2), (0, .ref h0), (1, .int x1), (2, .int x2)]) hx hb dX1_load_5 rfl hl (by decide) rfl (fun ls hl => ?_)
  refine lv_iload_n hx hb dX1_load_6 rfl (lv_at hl 2 rfl) ?_
  refine lv_bipush (v := 25) hx hb dX1_load_7 (by decide) ?_
  refine lv_icmp_ne (tgt := 50) hx hb dX1_load_9 (by decide) (fun c_3 => ?_) (fun c_3 => ?_)
  · refine lv_aload_n hx hb dX1_load_50 rfl (lv_at hl 1 rfl) ?_
    refine lv_dup hx hb dX1_load_51 rfl ?_
    obtain ⟨k_4, fs9, hk_4⟩ := gC_of o_h0
    obtain ⟨r0_4, r1_4, n1_4, r2_4, n2_4, r3_4, n3_4, r4_4, n4_4, c5_4, c6_4, c7_4, v8_4, v9_4, rfl, o_r0_4, a_r1_4, f2_4, a_r2_4, f4_4, a_r3_4, f6_4, a_r4_4, f8_4, hz_c6_4, hz_c7_4, o_v8_4, o_v9_4, f13_4, f14_4, f15_4, f16_4, -⟩ := (hG.1 _ _ _ _ hk_4).hX1 rfl
    refine va_get (D := gD g) (ci := 1) (v := .int c6_4) (C := RX1) (T := TX1) (N := 10) hx hb hts inX1 hown hK hP k_4 hk_4 rfl 6 (by decide) (hts _ kw_536) (fun _ h9 => h9) rfl dX1_load_52 ?_
    refine lv_iload_n hx hb dX1_load_55 rfl (lv_at hl 2 rfl) ?_
    refine lv_bipush (v := 21) hx hb dX1_load_56 (by decide) ?_
    have J_95 : ∀ (t_5 : Int32) (H : Heap) (locs : List Loc) (ls : Array Slot), t_5 = 0 ∨ t_5 = 1 → va_P (gD g) cl0 ws H → va_D A ws → va_S A s.heap H locs → lv_has ls 4 [(0, .ref h0), (1, .int x1)] → W p l e (headSpec (wt yX1_load cX1_load 4 none) ({ frames := 2, cells := 0, slots := 0, locals := 42 })).room s m ([.ref h0, .int x1, .int x2] : List Value).toArray below meth c H locs (0) (0) (MQ below (va_Qv (fun (u9 : va_W) => True) (gQ1 g [(1, 5), (1, 6)] [(1, 4)] none A ws) A) ([.ref h0, .int x1, .int x2] : List Value).toArray s (0) (0) A) (F0 m 95 ls [.int t_5, .int c6_4, .ref h0]) := by
      intro t_5 H locs ls iv_6 hP hD hS hl
      have hz_t_5 := iv_6
      refine lv_ior hx hb dX1_load_95 ?_
      refine lv_topi (fun z_9 ez_9 => ?_)
      have hz_z_9 := bit_or ez_9 hz_c6_4 hz_t_5
      have hV9 : okv ws 1 6 (.int z_9) := okv_i
      refine va_put (D := gD g) (ci := 1) (v := .int z_9) (ty := .boolean) (C := RX1) (T := TX1) (N := 10) hx hb hts inX1 tyX1 tyX1_ok nmX1 hown hK hP hD hS k_4 hk_4 rfl 6 (by decide) (hts _ kw_536) (fun _ h9 => h9) rfl (by decide +kernel) (nz hz_z_9) (fz hz_z_9) (Nat.le_of_ble_eq_true rfl) dX1_load_96 (fun H locs hP hD hS => ?_)
      have hi_10 : invX1 g ws h0 [.ref r0_4, .ref r1_4, .ref r2_4, .ref r3_4, .ref r4_4, .int c5_4, .int z_9, .int c7_4, va_rf v8_4, va_rf v9_4] := ⟨r0_4, r1_4, (n1_4), r2_4, (n2_4), r3_4, (n3_4), r4_4, (n4_4), (c5_4), (z_9), (c7_4), v8_4, v9_4, rfl, o_r0_4, a_r1_4, f2_4, a_r2_4, f4_4, a_r3_4, f6_4, a_r4_4, f8_4, hz_z_9, hz_c7_4, o_v8_4, o_v9_4, f13_4, f14_4, f15_4, f16_4, trivial⟩
      obtain ⟨ws_11, e_ws_11⟩ : ∃ z, z = ws.set k_4 (h0, .inr (1, [.ref r0_4, .ref r1_4, .ref r2_4, .ref r3_4, .ref r4_4, .int c5_4, .int z_9, .int c7_4, va_rf v8_4, va_rf v9_4])) := ⟨_, rfl⟩
      have hP : va_P (gD g) cl0 ws_11 H := by rw [e_ws_11]; exact hP
      have hD : va_D A ws_11 := by rw [e_ws_11]; exact hD
      have E_12 : gE ws ws_11 := gE_set e_ws_11 hk_4 (cw_o (fi := 6) (v := .int z_9) rfl (by decide))
      have hG : Good g ws_11 := Good_set (fi := 6) (v := .int z_9) e_ws_11 hk_4 E_12 rfl hV9 hG (ivX1 hi_10)
      have Fr_13 : gF [(1, 6)] [] (some h0) ws ws_11 := gF_put (fi := 6) (v := .int z_9) e_ws_11 hk_4 rfl (by decide)
      have hkN := gset_self e_ws_11 hk_4
      have hk_4 := hkN
      have o_h0 := E_12.1 _ _ o_h0
      have o_r0_4 := E_12.1 _ _ o_r0_4
      have a_r1_4 := E_12.1 _ _ a_r1_4
      have a_r2_4 := E_12.1 _ _ a_r2_4
      have a_r3_4 := E_12.1 _ _ a_r3_4
      have a_r4_4 := E_12.1 _ _ a_r4_4
      have o_v8_4 : ∀ b, v8_4 = some b → gC ws_11 b 9 := fun b h => E_12.1 _ _ (o_v8_4 b h)
      have o_v9_4 : ∀ b, v9_4 = some b → gC ws_11 b 7 := fun b h => E_12.1 _ _ (o_v9_4 b h)
      refine lv_aload_n hx hb dX1_load_99 rfl (lv_at hl 0 rfl) ?_
      refine lv_iload_n hx hb dX1_load_100 rfl (lv_at hl 1 rfl) ?_
      have hFc := gfree hD hS hA
      refine va_calli (va_runS (As := [.int x1]) (rest := [.ref h0]) ⟨hx, hb, hml, hown, hts⟩ (m_X6_gives l g H.size ws_11 (x1) hG ) (va_cwS 1 hts (gd_S kw_572 kw_1216 kw_1207 kw_1215) rfl rfl rfl (by decide +kernel) ⟨Nat.le_of_ble_eq_true rfl, Nat.le_of_ble_eq_true rfl⟩) ⟨gblind, fun U hU hW9 => gmk hU hW9 hP hK hD hex hE hS hFc⟩ rfl rfl hl.1 rfl (lv_room (Nat.le_of_ble_eq_true rfl)) dX1_load_101 ⟨Nat.le_of_ble_eq_true rfl, Nat.le_of_ble_eq_true rfl⟩) hS (fun q _ h => hFc q h) hFc (fun r_14 u9 t9 H1 locs ht9 hvm9 hw9 hB9 hz9 hk9 hS => ?_)
      have hP : va_P (gD g) cl0 ws_11 H1 := by rw [← ht9]; exact hB9.1
      clear hB9 hz9 hk9 hvm9 ht9 hw9
      generalize H1 = H at hP hS ⊢
      have hFc := gfree hD hS hA
      refine va_callv (va_runV (As := [.int r_14]) (rest := []) ⟨hx, hb, hml, hown, hts⟩ (m_X1_give l g H.size ws_11 h0 (r_14) hG o_h0) (cwV 1 hts (gd_V kw_541 kw_524 kw_525 kw_392 kw_523) rfl rfl rfl (by decide +kernel) ⟨Nat.le_of_ble_eq_true rfl, Nat.le_of_ble_eq_true rfl⟩) ⟨gblind, va_recv hK hP (ci := 1) (q0 := k_4) rfl hk_4, fun U hU hW9 => gmk hU hW9 hP hK hD hex hE hS hFc⟩ rfl rfl hl.1 rfl (lv_room (Nat.le_of_ble_eq_true rfl)) dX1_load_104 ⟨Nat.le_of_ble_eq_true rfl, Nat.le_of_ble_eq_true rfl⟩) hS (fun q _ h => hFc q h) hFc (fun  ws_15 t9 H1 locs ht9 hvm9 hw9 hB9 hz9 hk9 hS => ?_)
      obtain ⟨E_16, Fr_17, hG, hP1, hD1⟩ := hB9
      have hP : va_P (gD g) cl0 ws_15 H1 := by rw [← ht9]; exact hP1
      have hD : va_D A ws_15 := hD1.weaken (fun _ _ _ h => hFc _ h)
      clear hP1 hD1 hz9 hk9 hvm9 ht9 hw9
      generalize H1 = H at hP hS ⊢
      have aa_20 := a_r1_4
      have aa_21 := a_r2_4
      have aa_22 := a_r3_4
      have aa_23 := a_r4_4
      have o_h0 := E_16.1 _ _ o_h0
      refine W.widen (k := 0) (n := 0) (Nat.le_of_ble_eq_true rfl) (Nat.le_of_ble_eq_true rfl) ?_
      exact W.vret hx hb hr (fun t9 ht9 hW9 => ⟨⟨ws_15, rfl, trivial, ⟨(E_12.tr E_16), (gF.tr (gF.mo (F' := [(1, 5), (1, 6)]) (C' := [(1, 4)]) (S' := none) Fr_13 (by decide) (fun _ h => absurd h List.not_mem_nil) (Or.inl rfl)) (gF.mo (F' := [(1, 5), (1, 6)]) (C' := [(1, 4)]) (S' := none) Fr_17 (by decide) (fun _ h => h) (Or.inr rfl))), hG, by rw [ht9]; exact hP, hD⟩⟩, hS.F ht9⟩) hS.2.2 dX1_load_107
    refine lv_icmp_ne (tgt := 74) hx hb dX1_load_58 (by decide) (fun c_24 => ?_) (fun c_24 => ?_)
    · refine lv_iload_n hx hb dX1_load_74 rfl (lv_at hl 0 rfl) ?_
      refine lv_iconst (v := 2) hx hb dX1_load_75 (by decide) ?_
      have J_90 : ∀  (H : Heap) (locs : List Loc) (ls : Array Slot), va_P (gD g) cl0 ws H → va_D A ws → va_S A s.heap H locs → lv_has ls 4 [(0, .ref h0), (1, .int x1)] → W p l e (headSpec (wt yX1_load cX1_load 4 none) ({ frames := 2, cells := 0, slots := 0, locals := 42 })).room s m ([.ref h0, .int x1, .int x2] : List Value).toArray below meth c H locs (0) (0) (MQ below (va_Qv (fun (u9 : va_W) => True) (gQ1 g [(1, 5), (1, 6)] [(1, 4)] none A ws) A) ([.ref h0, .int x1, .int x2] : List Value).toArray s (0) (0) A) (F0 m 90 ls [.int c6_4, .ref h0]) := by
        intro  H locs ls  hP hD hS hl
        refine lv_iconst (v := 1) hx hb dX1_load_90 (by decide) ?_
        refine lv_goto (tgt := 95) hx hb dX1_load_91 (by decide) ?_
        exact J_95 (1) H locs ls (Or.inr rfl) hP hD hS (lv_sub hl [0, 1] rfl)
      refine lv_icmp_ne (tgt := 90) hx hb dX1_load_76 (by decide) (fun c_27 => ?_) (fun c_27 => ?_)
      · exact J_90  H locs ls  hP hD hS (lv_sub hl [1, 2] rfl)
      · refine lv_aload_n hx hb dX1_load_79 rfl (lv_at hl 1 rfl) ?_
        refine lv_iload_n hx hb dX1_load_80 rfl (lv_at hl 3 rfl) ?_
        refine lv_iconst (v := 1) hx hb dX1_load_81 (by decide) ?_
        refine lv_iadd hx hb dX1_load_82 ?_
        refine lv_topi (fun z_28 ez_28 => ?_)
        have hFc := gfree hD hS hA
        refine va_calli (va_runV (As := [.int z_28]) (rest := [.int c6_4, .ref h0]) ⟨hx, hb, hml, hown, hts⟩ (m_X1_placeAt l g H.size ws h0 (z_28) hG o_h0) (cwV 1 hts (gd_V kw_537 kw_579 kw_580 kw_392 kw_578) rfl rfl rfl (by decide +kernel) ⟨Nat.le_of_ble_eq_true rfl, Nat.le_of_ble_eq_true rfl⟩) ⟨gblind, va_recv hK hP (ci := 1) (q0 := k_4) rfl hk_4, fun U hU hW9 => gmk hU hW9 hP hK hD hex hE hS hFc⟩ rfl rfl hl.1 rfl (lv_room (Nat.le_of_ble_eq_true rfl)) dX1_load_83 ⟨Nat.le_of_ble_eq_true rfl, Nat.le_of_ble_eq_true rfl⟩) hS (fun q _ h => hFc q h) hFc (fun r_29 u9 t9 H1 locs ht9 hvm9 hw9 hB9 hz9 hk9 hS => ?_)
        have hP : va_P (gD g) cl0 ws H1 := by rw [← ht9]; exact hB9.1
        clear hB9 hz9 hk9 hvm9 ht9 hw9
        generalize H1 = H at hP hS ⊢
        refine lv_iconst (v := 3) hx hb dX1_load_86 (by decide) ?_
        refine lv_icmp_eq (tgt := 94) hx hb dX1_load_87 (by decide) (fun c_30 => ?_) (fun c_30 => ?_)
        · refine lv_iconst (v := 0) hx hb dX1_load_94 (by decide) ?_
          exact J_95 (0) H locs ls (Or.inl rfl) hP hD hS (lv_sub hl [1, 2] rfl)
        · exact J_90  H locs ls  hP hD hS (lv_sub hl [1, 2] rfl)
    · refine lv_iload_n hx hb dX1_load_61 rfl (lv_at hl 0 rfl) ?_
      refine lv_iconst (v := 1) hx hb dX1_load_62 (by decide) ?_
      refine lv_icmp_eq (tgt := 70) hx hb dX1_load_63 (by decide) (fun c_31 => ?_) (fun c_31 => ?_)
      · refine lv_iconst (v := 0) hx hb dX1_load_70 (by decide) ?_
        refine lv_goto (tgt := 95) hx hb dX1_load_71 (by decide) ?_
        exact J_95 (0) H locs ls (Or.inl rfl) hP hD hS (lv_sub hl [1, 2] rfl)
      · refine lv_iconst (v := 1) hx hb dX1_load_66 (by decide) ?_
        refine lv_goto (tgt := 95) hx hb dX1_load_67 (by decide) ?_
        exact J_95 (1) H locs ls (Or.inr rfl) hP hD hS (lv_sub hl [1, 2] rfl)
  · refine lv_aload_n hx hb dX1_load_12 rfl (lv_at hl 1 rfl) ?_
    refine lv_dup hx hb dX1_load_13 rfl ?_
    obtain ⟨k_32, fs9, hk_32⟩ := gC_of o_h0
    obtain ⟨r0_32, r1_32, n1_32, r2_32, n2_32, r3_32, n3_32, r4_32, n4_32, c5_32, c6_32, c7_32, v8_32, v9_32, rfl, o_r0_32, a_r1_32, f2_32, a_r2_32, f4_32, a_r3_32, f6_32, a_r4_32, f8_32, hz_c6_32, hz_c7_32, o_v8_32, o_v9_32, f13_32, f14_32, f15_32, f16_32, -⟩ := (hG.1 _ _ _ _ hk_32).hX1 rfl
    refine va_get (D := gD g) (ci := 1) (v := .int c6_32) (C := RX1) (T := TX1) (N := 10) hx hb hts inX1 hown hK hP k_32 hk_32 rfl 6 (by decide) (hts _ kw_536) (fun _ h9 => h9) rfl dX1_load_14 ?_
    refine lv_iload_n hx hb dX1_load_17 rfl (lv_at hl 0 rfl) ?_
    have hFc := gfree hD hS hA
    refine va_calli (va_runS (As := [.int r_2]) (rest := [.int c6_32, .ref h0]) ⟨hx, hb, hml, hown, hts⟩ (m_X1_isReference l g H.size ws (r_2) hG ) (va_cwS 1 hts (gd_S kw_571 kw_557 kw_392 kw_556) rfl rfl rfl (by decide +kernel) ⟨Nat.le_of_ble_eq_true rfl, Nat.le_of_ble_eq_true rfl⟩) ⟨gblind, fun U hU hW9 => gmk hU hW9 hP hK hD hex hE hS hFc⟩ rfl rfl hl.1 rfl (lv_room (Nat.le_of_ble_eq_true rfl)) dX1_load_18 ⟨Nat.le_of_ble_eq_true rfl, Nat.le_of_ble_eq_true rfl⟩) hS (fun q _ h => hFc q h) hFc (fun r_33 u9 t9 H1 locs ht9 hvm9 hw9 hB9 hz9 hk9 hS => ?_)
    have hP : va_P (gD g) cl0 ws H1 := by rw [← ht9]; exact hB9.1
    have hz_r_33 : r_33 = 0 ∨ r_33 = 1 := hw9
    clear hB9 hz9 hk9 hvm9 ht9 hw9
    generalize H1 = H at hP hS ⊢
    have J_29 : ∀ (t_34 : Int32) (H : Heap) (locs : List Loc) (ls : Array Slot), t_34 = 0 ∨ t_34 = 1 → va_P (gD g) cl0 ws H → va_D A ws → va_S A s.heap H locs → lv_has ls 4 [(0, .ref h0), (3, .int r_2)] → W p l e (headSpec (wt yX1_load cX1_load 4 none) ({ frames := 2, cells := 0, slots := 0, locals := 42 })).room s m ([.ref h0, .int x1, .int x2] : List Value).toArray below meth c H locs (0) (0) (MQ below (va_Qv (fun (u9 : va_W) => True) (gQ1 g [(1, 5), (1, 6)] [(1, 4)] none A ws) A) ([.ref h0, .int x1, .int x2] : List Value).toArray s (0) (0) A) (F0 m 29 ls [.int t_34, .int c6_32, .ref h0]) := by
      intro t_34 H locs ls iv_35 hP hD hS hl
      have hz_t_34 := iv_35
      refine lv_ior hx hb dX1_load_29 ?_
      refine lv_topi (fun z_38 ez_38 => ?_)
      have hz_z_38 := bit_or ez_38 hz_c6_32 hz_t_34
      have hV9 : okv ws 1 6 (.int z_38) := okv_i
      refine va_put (D := gD g) (ci := 1) (v := .int z_38) (ty := .boolean) (C := RX1) (T := TX1) (N := 10) hx hb hts inX1 tyX1 tyX1_ok nmX1 hown hK hP hD hS k_32 hk_32 rfl 6 (by decide) (hts _ kw_536) (fun _ h9 => h9) rfl (by decide +kernel) (nz hz_z_38) (fz hz_z_38) (Nat.le_of_ble_eq_true rfl) dX1_load_30 (fun H locs hP hD hS => ?_)
      have hi_39 : invX1 g ws h0 [.ref r0_32, .ref r1_32, .ref r2_32, .ref r3_32, .ref r4_32, .int c5_32, .int z_38, .int c7_32, va_rf v8_32, va_rf v9_32] := ⟨r0_32, r1_32, (n1_32), r2_32, (n2_32), r3_32, (n3_32), r4_32, (n4_32), (c5_32), (z_38), (c7_32), v8_32, v9_32, rfl, o_r0_32, a_r1_32, f2_32, a_r2_32, f4_32, a_r3_32, f6_32, a_r4_32, f8_32, hz_z_38, hz_c7_32, o_v8_32, o_v9_32, f13_32, f14_32, f15_32, f16_32, trivial⟩
      obtain ⟨ws_40, e_ws_40⟩ : ∃ z, z = ws.set k_32 (h0, .inr (1, [.ref r0_32, .ref r1_32, .ref r2_32, .ref r3_32, .ref r4_32, .int c5_32, .int z_38, .int c7_32, va_rf v8_32, va_rf v9_32])) := ⟨_, rfl⟩
      have hP : va_P (gD g) cl0 ws_40 H := by rw [e_ws_40]; exact hP
      have hD : va_D A ws_40 := by rw [e_ws_40]; exact hD
      have E_41 : gE ws ws_40 := gE_set e_ws_40 hk_32 (cw_o (fi := 6) (v := .int z_38) rfl (by decide))
      have hG : Good g ws_40 := Good_set (fi := 6) (v := .int z_38) e_ws_40 hk_32 E_41 rfl hV9 hG (ivX1 hi_39)
      have Fr_42 : gF [(1, 6)] [] (some h0) ws ws_40 := gF_put (fi := 6) (v := .int z_38) e_ws_40 hk_32 rfl (by decide)
      have hkN := gset_self e_ws_40 hk_32
      have hk_32 := hkN
      have o_h0 := E_41.1 _ _ o_h0
      have o_r0_32 := E_41.1 _ _ o_r0_32
      have a_r1_32 := E_41.1 _ _ a_r1_32
      have a_r2_32 := E_41.1 _ _ a_r2_32
      have a_r3_32 := E_41.1 _ _ a_r3_32
      have a_r4_32 := E_41.1 _ _ a_r4_32
      have o_v8_32 : ∀ b, v8_32 = some b → gC ws_40 b 9 := fun b h => E_41.1 _ _ (o_v8_32 b h)
      have o_v9_32 : ∀ b, v9_32 = some b → gC ws_40 b 7 := fun b h => E_41.1 _ _ (o_v9_32 b h)
      refine lv_aload_n hx hb dX1_load_33 rfl (lv_at hl 0 rfl) ?_
      refine lv_iload_n hx hb dX1_load_34 rfl (lv_at hl 1 rfl) ?_
      have hFc := gfree hD hS hA
      refine va_calli (va_runS (As := [.int r_2]) (rest := [.ref h0]) ⟨hx, hb, hml, hown, hts⟩ (m_X1_isReference l g H.size ws_40 (r_2) hG ) (va_cwS 1 hts (gd_S kw_571 kw_557 kw_392 kw_556) rfl rfl rfl (by decide +kernel) ⟨Nat.le_of_ble_eq_true rfl, Nat.le_of_ble_eq_true rfl⟩) ⟨gblind, fun U hU hW9 => gmk hU hW9 hP hK hD hex hE hS hFc⟩ rfl rfl hl.1 rfl (lv_room (Nat.le_of_ble_eq_true rfl)) dX1_load_35 ⟨Nat.le_of_ble_eq_true rfl, Nat.le_of_ble_eq_true rfl⟩) hS (fun q _ h => hFc q h) hFc (fun r_43 u9 t9 H1 locs ht9 hvm9 hw9 hB9 hz9 hk9 hS => ?_)
      have hP : va_P (gD g) cl0 ws_40 H1 := by rw [← ht9]; exact hB9.1
      have hz_r_43 : r_43 = 0 ∨ r_43 = 1 := hw9
      clear hB9 hz9 hk9 hvm9 ht9 hw9
      generalize H1 = H at hP hS ⊢
      have J_46 : ∀ (t_44 : Int32) (H : Heap) (locs : List Loc) (ls : Array Slot), va_P (gD g) cl0 ws_40 H → va_D A ws_40 → va_S A s.heap H locs → lv_has ls 4 [] → W p l e (headSpec (wt yX1_load cX1_load 4 none) ({ frames := 2, cells := 0, slots := 0, locals := 42 })).room s m ([.ref h0, .int x1, .int x2] : List Value).toArray below meth c H locs (0) (0) (MQ below (va_Qv (fun (u9 : va_W) => True) (gQ1 g [(1, 5), (1, 6)] [(1, 4)] none A ws) A) ([.ref h0, .int x1, .int x2] : List Value).toArray s (0) (0) A) (F0 m 46 ls [.int t_44, .ref h0]) := by
        intro t_44 H locs ls  hP hD hS hl
        have hFc := gfree hD hS hA
        refine va_callv (va_runV (As := [.int t_44]) (rest := []) ⟨hx, hb, hml, hown, hts⟩ (m_X1_push l g H.size ws_40 h0 (t_44) hG o_h0) (cwV 1 hts (gd_V kw_526 kw_585 kw_586 kw_392 kw_584) rfl rfl rfl (by decide +kernel) ⟨Nat.le_of_ble_eq_true rfl, Nat.le_of_ble_eq_true rfl⟩) ⟨gblind, va_recv hK hP (ci := 1) (q0 := k_32) rfl hk_32, fun U hU hW9 => gmk hU hW9 hP hK hD hex hE hS hFc⟩ rfl rfl hl.1 rfl (lv_room (Nat.le_of_ble_eq_true rfl)) dX1_load_46 ⟨Nat.le_of_ble_eq_true rfl, Nat.le_of_ble_eq_true rfl⟩) hS (fun q _ h => hFc q h) hFc (fun  ws_47 t9 H1 locs ht9 hvm9 hw9 hB9 hz9 hk9 hS => ?_)
        obtain ⟨E_48, Fr_49, hG, hP1, hD1⟩ := hB9
        have hP : va_P (gD g) cl0 ws_47 H1 := by rw [← ht9]; exact hP1
        have hD : va_D A ws_47 := hD1.weaken (fun _ _ _ h => hFc _ h)
        clear hP1 hD1 hz9 hk9 hvm9 ht9 hw9
        generalize H1 = H at hP hS ⊢
        have aa_52 := a_r1_32
        have aa_53 := a_r2_32
        have aa_54 := a_r3_32
        have aa_55 := a_r4_32
        have o_h0 := E_48.1 _ _ o_h0
        refine W.widen (k := 0) (n := 0) (Nat.le_of_ble_eq_true rfl) (Nat.le_of_ble_eq_true rfl) ?_
        exact W.vret hx hb hr (fun t9 ht9 hW9 => ⟨⟨ws_47, rfl, trivial, ⟨(E_41.tr E_48), (gF.tr (gF.mo (F' := [(1, 5), (1, 6)]) (C' := [(1, 4)]) (S' := none) Fr_42 (by decide) (fun _ h => absurd h List.not_mem_nil) (Or.inl rfl)) (gF.mo (F' := [(1, 5), (1, 6)]) (C' := [(1, 4)]) (S' := none) Fr_49 (by decide) (fun _ h => h) (Or.inr rfl))), hG, by rw [ht9]; exact hP, hD⟩⟩, hS.F ht9⟩) hS.2.2 dX1_load_49
      refine lv_if_eq (tgt := 45) hx hb dX1_load_38 (by decide) (fun c_56 => ?_) (fun c_56 => ?_)
      · refine lv_iconst (v := 0) hx hb dX1_load_45 (by decide) ?_
        exact J_46 (0) H locs ls  hP hD hS (lv_sub hl [] rfl)
      · refine lv_iload_n hx hb dX1_load_41 rfl (lv_at hl 1 rfl) ?_
        refine lv_goto (tgt := 46) hx hb dX1_load_42 (by decide) ?_
        exact J_46 (r_2) H locs ls  hP hD hS (lv_sub hl [] rfl)
    refine lv_if_ne (tgt := 28) hx hb dX1_load_21 (by decide) (fun c_57 => ?_) (fun c_57 => ?_)
    · refine lv_iconst (v := 0) hx hb dX1_load_28 (by decide) ?_
      exact J_29 (0) H locs ls (Or.inl rfl) hP hD hS (lv_sub hl [1, 0] rfl)
    · refine lv_iconst (v := 1) hx hb dX1_load_24 (by decide) ?_
      refine lv_goto (tgt := 29) hx hb dX1_load_25 (by decide) ?_
      exact J_29 (1) H locs ls (Or.inr rfl) hP hD hS (lv_sub hl [1, 0] rfl)
set_option maxHeartbeats 1000000 in
set_option maxRecDepth 100000 in
theorem m_X1_store (l : Launch) (g : Gm) (sz : Nat) (ws : va_W) (h0 : Nat) (x1 : Int32) (x2 : Int32) (hG : Good g ws) (o_h0 : gC ws h0 1) : Met l yX1_store (wt yX1_store cX1_store 6 none) ({ frames := 2, cells := 0, slots := 0, locals := 42 }) (va_Pc [.ref h0, .int x1, .int x2] (st_G g sz ws)) (va_Qv (fun (u9 : va_W) => True) (gQ1 g [(1, 5), (1, 6)] [(1, 4)] none (va_A ws sz) ws) (va_A ws sz)) (0) (0) (va_A ws sz) := by
  refine Met.ofW (cc := cX1_store) (maxL := 6) (ret := none) (by decide) rfl ?_
  intro p e s m args below meth c s₁ B hml hv
  obtain ⟨rfl, hsz, hP, hK, hD0, hex, hE⟩ := hv
  have hx := B.exec
  have hb := B.bytes
  have hr := B.returns
  have hts0 := atoms_spec (ws := wt yX1_store cX1_store 6 none) B.pre
  have hts : ∀ w ∈ tb, w.before _ s = true := fun w h => hts0 w (List.mem_cons_of_mem _ h)
  have hown : s.vm.findClass RX1 = some m.cls := findClass_of_methodNamed B.named
  subst hsz
  have hD := hD0.self (sz := s.heap.size)
  generalize hAe : va_A ws s.heap.size = A at hD hE ⊢
  have hA : ∀ q : Nat, s.heap.size ≤ q → A q := fun q h => by rw [← hAe]; exact Or.inr h
  have hS : va_S A s.heap s.heap [] := va_S.rf
  have hl := lv_entry ([.ref h0, .int x1, .int x2]) (n := 6) (Nat.le_of_ble_eq_true rfl)
  rw [lg_entry_eq]
  generalize (lg_sl ([.ref h0, .int x1, .int x2]) ++ List.replicate (6 - (lg_sl ([.ref h0, .int x1, .int x2])).length) Slot.unset).toArray = ls at hl ⊢
  have hl : lv_has ls 6 [(0, .ref h0), (1, .int x1), (2, .int x2)] := hl
  refine lv_iload_n hx hb dX1_store_0 rfl (lv_at hl 1 rfl) ?_
  have hFc := gfree hD hS hA
  refine va_calli (va_runS (As := [.int x1]) (rest := []) ⟨hx, hb, hml, hown, hts⟩ (m_X6_takes l g s.heap.size ws (x1) hG ) (va_cwS 1 hts (gd_S kw_598 kw_1255 kw_1207 kw_1254) rfl rfl rfl (by decide +kernel) ⟨Nat.le_of_ble_eq_true rfl, Nat.le_of_ble_eq_true rfl⟩) ⟨gblind, fun U hU hW9 => gmk hU hW9 hP hK hD hex hE hS hFc⟩ rfl rfl hl.1 rfl (lv_room (Nat.le_of_ble_eq_true rfl)) dX1_store_1 ⟨Nat.le_of_ble_eq_true rfl, Nat.le_of_ble_eq_true rfl⟩) hS (fun q _ h => hFc q h) hFc (fun r_1 u9 t9 H1 locs ht9 hvm9 hw9 hB9 hz9 hk9 hS => ?_)
  have hP : va_P (gD g) cl0 ws H1 := by rw [← ht9]; exact hB9.1
  clear hB9 hz9 hk9 hvm9 ht9 hw9
  generalize H1 = H at hP hS ⊢
  refine lv_istore_n (lv' := [(3, .int r_1), (0, .ref h0), (1, .int x1), (2, .int x2)]) hx hb dX1_store_4 rfl hl (by decide) rfl (fun ls hl => ?_)
  refine lv_aload_n hx hb dX1_store_5 rfl (lv_at hl 1 rfl) ?_
  refine lv_iload_n hx hb dX1_store_6 rfl (lv_at hl 0 rfl) ?_
  have hFc := gfree hD hS hA
  obtain ⟨k_2, fs_2, hk_2⟩ := gC_of o_h0
  refine va_calli (va_runV (As := [.int r_1]) (rest := []) ⟨hx, hb, hml, hown, hts⟩ (m_X1_take l g H.size ws h0 (r_1) hG o_h0) (cwV 1 hts (gd_V kw_539 kw_601 kw_602 kw_392 kw_600) rfl rfl rfl (by decide +kernel) ⟨Nat.le_of_ble_eq_true rfl, Nat.le_of_ble_eq_true rfl⟩) ⟨gblind, va_recv hK hP (ci := 1) (q0 := k_2) rfl hk_2, fun U hU hW9 => gmk hU hW9 hP hK hD hex hE hS hFc⟩ rfl rfl hl.1 rfl (lv_room (Nat.le_of_ble_eq_true rfl)) dX1_store_7 ⟨Nat.le_of_ble_eq_true rfl, Nat.le_of_ble_eq_true rfl⟩) hS (fun q _ h => hFc q h) hFc (fun r_3 ws_4 t9 H1 locs ht9 hvm9 hw9 hB9 hz9 hk9 hS => ?_)
  obtain ⟨E_5, Fr_6, hG, hP1, hD1⟩ := hB9
  have hP : va_P (gD g) cl0 ws_4 H1 := by rw [← ht9]; exact hP1
  have hD : va_D A ws_4 := hD1.weaken (fun _ _ _ h => hFc _ h)
  clear hP1 hD1 hz9 hk9 hvm9 ht9 hw9
  generalize H1 = H at hP hS ⊢
  have o_h0 := E_5.1 _ _ o_h0
  refine lv_istore (lv' := [(4, .int r_3), (3, .int r_1), (0, .ref h0), (1, .int x1), (2, .int x2)]) hx hb dX1_store_10 hl (by decide) rfl (fun ls hl => ?_)
  refine lv_iload_n hx hb dX1_store_12 rfl (lv_at hl 4 rfl) ?_
  refine lv_iload_n hx hb dX1_store_13 rfl (lv_at hl 3 rfl) ?_
  have hFc := gfree hD hS hA
  refine va_calli (va_runS (As := [.int x1]) (rest := [.int x2]) ⟨hx, hb, hml, hown, hts⟩ (m_X6_localWidth l g H.size ws_4 (x1) hG ) (va_cwS 1 hts (gd_S kw_599 kw_1247 kw_1207 kw_1246) rfl rfl rfl (by decide +kernel) ⟨Nat.le_of_ble_eq_true rfl, Nat.le_of_ble_eq_true rfl⟩) ⟨gblind, fun U hU hW9 => gmk hU hW9 hP hK hD hex hE hS hFc⟩ rfl rfl hl.1 rfl (lv_room (Nat.le_of_ble_eq_true rfl)) dX1_store_14 ⟨Nat.le_of_ble_eq_true rfl, Nat.le_of_ble_eq_true rfl⟩) hS (fun q _ h => hFc q h) hFc (fun r_9 u9 t9 H1 locs ht9 hvm9 hw9 hB9 hz9 hk9 hS => ?_)
  have hP : va_P (gD g) cl0 ws_4 H1 := by rw [← ht9]; exact hB9.1
  clear hB9 hz9 hk9 hvm9 ht9 hw9
  generalize H1 = H at hP hS ⊢
  refine lv_iadd hx hb dX1_store_17 ?_
  refine lv_topi (fun z_10 ez_10 => ?_)
  refine lv_istore (lv' := [(5, .int z_10), (4, .int r_3), (3, .int r_1), (0, .ref h0), (1, .int x1), (2, .int x2)]) hx hb dX1_store_18 hl (by decide) rfl (fun ls hl => ?_)
  refine lv_iload_n hx hb dX1_store_20 rfl (lv_at hl 5 rfl) ?_
  have J_43 : ∀ (ws_11 : va_W) (H : Heap) (locs : List Loc) (ls : Array Slot), gE ws_4 ws_11 → gF [] [(1, 4)] none ws_4 ws_11 → Good g ws_11 → va_P (gD g) cl0 ws_11 H → va_D A ws_11 → va_S A s.heap H locs → lv_has ls 6 [(0, .ref h0), (1, .int x1), (2, .int x2), (3, .int r_1), (4, .int r_3), (5, .int z_10)] → W p l e (headSpec (wt yX1_store cX1_store 6 none) ({ frames := 2, cells := 0, slots := 0, locals := 42 })).room s m ([.ref h0, .int x1, .int x2] : List Value).toArray below meth c H locs (0) (0) (MQ below (va_Qv (fun (u9 : va_W) => True) (gQ1 g [(1, 5), (1, 6)] [(1, 4)] none A ws) A) ([.ref h0, .int x1, .int x2] : List Value).toArray s (0) (0) A) (F0 m 43 ls []) := by
    intro ws_11 H locs ls  E_12 Fr_13 hG hP hD hS hl
    have o_h0 := E_12.1 _ _ o_h0
    refine lv_iload hx hb dX1_store_43 (lv_at hl 5 rfl) ?_
    refine lv_bipush (v := 24) hx hb dX1_store_45 (by decide) ?_
    have J_67 : ∀ (ws_14 : va_W) (H : Heap) (locs : List Loc) (ls : Array Slot), gE ws_11 ws_14 → gF [] [(1, 4)] none ws_11 ws_14 → Good g ws_14 → va_P (gD g) cl0 ws_14 H → va_D A ws_14 → va_S A s.heap H locs → lv_has ls 6 [(0, .ref h0), (1, .int x1), (2, .int x2), (3, .int r_1), (4, .int r_3)] → W p l e (headSpec (wt yX1_store cX1_store 6 none) ({ frames := 2, cells := 0, slots := 0, locals := 42 })).room s m ([.ref h0, .int x1, .int x2] : List Value).toArray below meth c H locs (0) (0) (MQ below (va_Qv (fun (u9 : va_W) => True) (gQ1 g [(1, 5), (1, 6)] [(1, 4)] none A ws) A) ([.ref h0, .int x1, .int x2] : List Value).toArray s (0) (0) A) (F0 m 67 ls []) := by
      intro ws_14 H locs ls  E_15 Fr_16 hG hP hD hS hl
      have o_h0 := E_15.1 _ _ o_h0
      refine lv_iload_n hx hb dX1_store_67 rfl (lv_at hl 1 rfl) ?_
      refine lv_bipush (v := 58) hx hb dX1_store_68 (by decide) ?_
      refine lv_icmp_ne (tgt := 93) hx hb dX1_store_70 (by decide) (fun c_17 => ?_) (fun c_17 => ?_)
      · refine lv_aload_n hx hb dX1_store_93 rfl (lv_at hl 0 rfl) ?_
        refine lv_iload_n hx hb dX1_store_94 rfl (lv_at hl 2 rfl) ?_
        refine lv_iload_n hx hb dX1_store_95 rfl (lv_at hl 3 rfl) ?_
        have hFc := gfree hD hS hA
        refine va_calli (va_runS (As := [.int r_1]) (rest := [.int x2, .ref h0]) ⟨hx, hb, hml, hown, hts⟩ (m_X1_lowerType l g H.size ws_14 (r_1) hG ) (va_cwS 1 hts (gd_S kw_484 kw_574 kw_392 kw_573) rfl rfl rfl (by decide +kernel) ⟨Nat.le_of_ble_eq_true rfl, Nat.le_of_ble_eq_true rfl⟩) ⟨gblind, fun U hU hW9 => gmk hU hW9 hP hK hD hex hE hS hFc⟩ rfl rfl hl.1 rfl (lv_room (Nat.le_of_ble_eq_true rfl)) dX1_store_96 ⟨Nat.le_of_ble_eq_true rfl, Nat.le_of_ble_eq_true rfl⟩) hS (fun q _ h => hFc q h) hFc (fun r_18 u9 t9 H1 locs ht9 hvm9 hw9 hB9 hz9 hk9 hS => ?_)
        have hP : va_P (gD g) cl0 ws_14 H1 := by rw [← ht9]; exact hB9.1
        clear hB9 hz9 hk9 hvm9 ht9 hw9
        generalize H1 = H at hP hS ⊢
        have hFc := gfree hD hS hA
        obtain ⟨k_19, fs_19, hk_19⟩ := gC_of o_h0
        refine va_callv (va_runV (As := [.int x2, .int r_18]) (rest := []) ⟨hx, hb, hml, hown, hts⟩ (m_X1_setPlace l g H.size ws_14 h0 (x2) (r_18) hG o_h0) (cwV 2 hts (gd_V kw_485 kw_588 kw_589 kw_392 kw_587) rfl rfl rfl (by decide +kernel) ⟨Nat.le_of_ble_eq_true rfl, Nat.le_of_ble_eq_true rfl⟩) ⟨gblind, va_recv hK hP (ci := 1) (q0 := k_19) rfl hk_19, fun U hU hW9 => gmk hU hW9 hP hK hD hex hE hS hFc⟩ rfl rfl hl.1 rfl (lv_room (Nat.le_of_ble_eq_true rfl)) dX1_store_99 ⟨Nat.le_of_ble_eq_true rfl, Nat.le_of_ble_eq_true rfl⟩) hS (fun q _ h => hFc q h) hFc (fun  ws_20 t9 H1 locs ht9 hvm9 hw9 hB9 hz9 hk9 hS => ?_)
        obtain ⟨E_21, Fr_22, hG, hP1, hD1⟩ := hB9
        have hP : va_P (gD g) cl0 ws_20 H1 := by rw [← ht9]; exact hP1
        have hD : va_D A ws_20 := hD1.weaken (fun _ _ _ h => hFc _ h)
        clear hP1 hD1 hz9 hk9 hvm9 ht9 hw9
        generalize H1 = H at hP hS ⊢
        have o_h0 := E_21.1 _ _ o_h0
        refine lv_iload_n hx hb dX1_store_102 rfl (lv_at hl 1 rfl) ?_
        refine lv_bipush (v := 55) hx hb dX1_store_103 (by decide) ?_
        have J_116 : ∀ (ws_25 : va_W) (H : Heap) (locs : List Loc) (ls : Array Slot), gE ws_20 ws_25 → gF [] [(1, 4)] none ws_20 ws_25 → Good g ws_25 → va_P (gD g) cl0 ws_25 H → va_D A ws_25 → va_S A s.heap H locs → lv_has ls 6 [] → W p l e (headSpec (wt yX1_store cX1_store 6 none) ({ frames := 2, cells := 0, slots := 0, locals := 42 })).room s m ([.ref h0, .int x1, .int x2] : List Value).toArray below meth c H locs (0) (0) (MQ below (va_Qv (fun (u9 : va_W) => True) (gQ1 g [(1, 5), (1, 6)] [(1, 4)] none A ws) A) ([.ref h0, .int x1, .int x2] : List Value).toArray s (0) (0) A) (F0 m 116 ls []) := by
          intro ws_25 H locs ls  E_26 Fr_27 hG hP hD hS hl
          have o_h0 := E_26.1 _ _ o_h0
          refine W.widen (k := 0) (n := 0) (Nat.le_of_ble_eq_true rfl) (Nat.le_of_ble_eq_true rfl) ?_
          exact W.vret hx hb hr (fun t9 ht9 hW9 => ⟨⟨ws_25, rfl, trivial, ⟨(E_5.tr (E_12.tr (E_15.tr (E_21.tr E_26)))), (gF.tr (gF.mo (F' := [(1, 5), (1, 6)]) (C' := [(1, 4)]) (S' := none) Fr_6 (fun _ h => h) (fun _ h => absurd h List.not_mem_nil) (Or.inr rfl)) (gF.tr (gF.mo (F' := [(1, 5), (1, 6)]) (C' := [(1, 4)]) (S' := none) Fr_13 (fun _ h => absurd h List.not_mem_nil) (fun _ h => h) (Or.inr rfl)) (gF.tr (gF.mo (F' := [(1, 5), (1, 6)]) (C' := [(1, 4)]) (S' := none) Fr_16 (fun _ h => absurd h List.not_mem_nil) (fun _ h => h) (Or.inr rfl)) (gF.tr (gF.mo (F' := [(1, 5), (1, 6)]) (C' := [(1, 4)]) (S' := none) Fr_22 (fun _ h => absurd h List.not_mem_nil) (fun _ h => h) (Or.inr rfl)) (gF.mo (F' := [(1, 5), (1, 6)]) (C' := [(1, 4)]) (S' := none) Fr_27 (fun _ h => absurd h List.not_mem_nil) (fun _ h => h) (Or.inr rfl)))))), hG, by rw [ht9]; exact hP, hD⟩⟩, hS.F ht9⟩) hS.2.2 dX1_store_116
        refine lv_icmp_ne (tgt := 116) hx hb dX1_store_105 (by decide) (fun c_28 => ?_) (fun c_28 => ?_)
        · exact J_116 ws_20 H locs ls (gE.rf) (gF.rf) hG hP hD hS (lv_sub hl [] rfl)
        · refine lv_aload_n hx hb dX1_store_108 rfl (lv_at hl 0 rfl) ?_
          refine lv_iload_n hx hb dX1_store_109 rfl (lv_at hl 2 rfl) ?_
          refine lv_iconst (v := 1) hx hb dX1_store_110 (by decide) ?_
          refine lv_iadd hx hb dX1_store_111 ?_
          refine lv_topi (fun z_29 ez_29 => ?_)
          refine lv_iconst (v := 3) hx hb dX1_store_112 (by decide) ?_
          have hFc := gfree hD hS hA
          obtain ⟨k_30, fs_30, hk_30⟩ := gC_of o_h0
          refine va_callv (va_runV (As := [.int z_29, .int 3]) (rest := []) ⟨hx, hb, hml, hown, hts⟩ (m_X1_setPlace l g H.size ws_20 h0 (z_29) (3) hG o_h0) (cwV 2 hts (gd_V kw_485 kw_588 kw_589 kw_392 kw_587) rfl rfl rfl (by decide +kernel) ⟨Nat.le_of_ble_eq_true rfl, Nat.le_of_ble_eq_true rfl⟩) ⟨gblind, va_recv hK hP (ci := 1) (q0 := k_30) rfl hk_30, fun U hU hW9 => gmk hU hW9 hP hK hD hex hE hS hFc⟩ rfl rfl hl.1 rfl (lv_room (Nat.le_of_ble_eq_true rfl)) dX1_store_113 ⟨Nat.le_of_ble_eq_true rfl, Nat.le_of_ble_eq_true rfl⟩) hS (fun q _ h => hFc q h) hFc (fun  ws_31 t9 H1 locs ht9 hvm9 hw9 hB9 hz9 hk9 hS => ?_)
          obtain ⟨E_32, Fr_33, hG, hP1, hD1⟩ := hB9
          have hP : va_P (gD g) cl0 ws_31 H1 := by rw [← ht9]; exact hP1
          have hD : va_D A ws_31 := hD1.weaken (fun _ _ _ h => hFc _ h)
          clear hP1 hD1 hz9 hk9 hvm9 ht9 hw9
          generalize H1 = H at hP hS ⊢
          have o_h0 := E_32.1 _ _ o_h0
          exact J_116 ws_31 H locs ls (E_32) (Fr_33) hG hP hD hS (lv_sub hl [] rfl)
      · refine lv_aload_n hx hb dX1_store_73 rfl (lv_at hl 0 rfl) ?_
        refine lv_iload_n hx hb dX1_store_74 rfl (lv_at hl 2 rfl) ?_
        refine lv_iload hx hb dX1_store_75 (lv_at hl 4 rfl) ?_
        have hFc := gfree hD hS hA
        refine va_calli (va_runS (As := [.int r_3]) (rest := [.int x2, .ref h0]) ⟨hx, hb, hml, hown, hts⟩ (m_X1_isReference l g H.size ws_14 (r_3) hG ) (va_cwS 1 hts (gd_S kw_571 kw_557 kw_392 kw_556) rfl rfl rfl (by decide +kernel) ⟨Nat.le_of_ble_eq_true rfl, Nat.le_of_ble_eq_true rfl⟩) ⟨gblind, fun U hU hW9 => gmk hU hW9 hP hK hD hex hE hS hFc⟩ rfl rfl hl.1 rfl (lv_room (Nat.le_of_ble_eq_true rfl)) dX1_store_77 ⟨Nat.le_of_ble_eq_true rfl, Nat.le_of_ble_eq_true rfl⟩) hS (fun q _ h => hFc q h) hFc (fun r_36 u9 t9 H1 locs ht9 hvm9 hw9 hB9 hz9 hk9 hS => ?_)
        have hP : va_P (gD g) cl0 ws_14 H1 := by rw [← ht9]; exact hB9.1
        have hz_r_36 : r_36 = 0 ∨ r_36 = 1 := hw9
        clear hB9 hz9 hk9 hvm9 ht9 hw9
        generalize H1 = H at hP hS ⊢
        have J_89 : ∀ (t_37 : Int32) (H : Heap) (locs : List Loc) (ls : Array Slot), va_P (gD g) cl0 ws_14 H → va_D A ws_14 → va_S A s.heap H locs → lv_has ls 6 [] → W p l e (headSpec (wt yX1_store cX1_store 6 none) ({ frames := 2, cells := 0, slots := 0, locals := 42 })).room s m ([.ref h0, .int x1, .int x2] : List Value).toArray below meth c H locs (0) (0) (MQ below (va_Qv (fun (u9 : va_W) => True) (gQ1 g [(1, 5), (1, 6)] [(1, 4)] none A ws) A) ([.ref h0, .int x1, .int x2] : List Value).toArray s (0) (0) A) (F0 m 89 ls [.int t_37, .int x2, .ref h0]) := by
          intro t_37 H locs ls  hP hD hS hl
          have hFc := gfree hD hS hA
          obtain ⟨k_40, fs_40, hk_40⟩ := gC_of o_h0
          refine va_callv (va_runV (As := [.int x2, .int t_37]) (rest := []) ⟨hx, hb, hml, hown, hts⟩ (m_X1_setPlace l g H.size ws_14 h0 (x2) (t_37) hG o_h0) (cwV 2 hts (gd_V kw_485 kw_588 kw_589 kw_392 kw_587) rfl rfl rfl (by decide +kernel) ⟨Nat.le_of_ble_eq_true rfl, Nat.le_of_ble_eq_true rfl⟩) ⟨gblind, va_recv hK hP (ci := 1) (q0 := k_40) rfl hk_40, fun U hU hW9 => gmk hU hW9 hP hK hD hex hE hS hFc⟩ rfl rfl hl.1 rfl (lv_room (Nat.le_of_ble_eq_true rfl)) dX1_store_89 ⟨Nat.le_of_ble_eq_true rfl, Nat.le_of_ble_eq_true rfl⟩) hS (fun q _ h => hFc q h) hFc (fun  ws_41 t9 H1 locs ht9 hvm9 hw9 hB9 hz9 hk9 hS => ?_)
          obtain ⟨E_42, Fr_43, hG, hP1, hD1⟩ := hB9
          have hP : va_P (gD g) cl0 ws_41 H1 := by rw [← ht9]; exact hP1
          have hD : va_D A ws_41 := hD1.weaken (fun _ _ _ h => hFc _ h)
          clear hP1 hD1 hz9 hk9 hvm9 ht9 hw9
          generalize H1 = H at hP hS ⊢
          have o_h0 := E_42.1 _ _ o_h0
          refine W.widen (k := 0) (n := 0) (Nat.le_of_ble_eq_true rfl) (Nat.le_of_ble_eq_true rfl) ?_
          exact W.vret hx hb hr (fun t9 ht9 hW9 => ⟨⟨ws_41, rfl, trivial, ⟨(E_5.tr (E_12.tr (E_15.tr E_42))), (gF.tr (gF.mo (F' := [(1, 5), (1, 6)]) (C' := [(1, 4)]) (S' := none) Fr_6 (fun _ h => h) (fun _ h => absurd h List.not_mem_nil) (Or.inr rfl)) (gF.tr (gF.mo (F' := [(1, 5), (1, 6)]) (C' := [(1, 4)]) (S' := none) Fr_13 (fun _ h => absurd h List.not_mem_nil) (fun _ h => h) (Or.inr rfl)) (gF.tr (gF.mo (F' := [(1, 5), (1, 6)]) (C' := [(1, 4)]) (S' := none) Fr_16 (fun _ h => absurd h List.not_mem_nil) (fun _ h => h) (Or.inr rfl)) (gF.mo (F' := [(1, 5), (1, 6)]) (C' := [(1, 4)]) (S' := none) Fr_43 (fun _ h => absurd h List.not_mem_nil) (fun _ h => h) (Or.inr rfl))))), hG, by rw [ht9]; exact hP, hD⟩⟩, hS.F ht9⟩) hS.2.2 dX1_store_92
        refine lv_if_eq (tgt := 88) hx hb dX1_store_80 (by decide) (fun c_46 => ?_) (fun c_46 => ?_)
        · refine lv_iconst (v := 0) hx hb dX1_store_88 (by decide) ?_
          exact J_89 (0) H locs ls  hP hD hS (lv_sub hl [] rfl)
        · refine lv_iload hx hb dX1_store_83 (lv_at hl 4 rfl) ?_
          refine lv_goto (tgt := 89) hx hb dX1_store_85 (by decide) ?_
          exact J_89 (r_3) H locs ls  hP hD hS (lv_sub hl [] rfl)
    refine lv_icmp_ge (tgt := 67) hx hb dX1_store_47 (by decide) (fun c_47 => ?_) (fun c_47 => ?_)
    · exact J_67 ws_11 H locs ls (gE.rf) (gF.rf) hG hP hD hS (lv_sub hl [0, 1, 2, 3, 4] rfl)
    · refine lv_aload_n hx hb dX1_store_50 rfl (lv_at hl 0 rfl) ?_
      refine lv_iload hx hb dX1_store_51 (lv_at hl 5 rfl) ?_
      have hFc := gfree hD hS hA
      obtain ⟨k_48, fs_48, hk_48⟩ := gC_of o_h0
      refine va_calli (va_runV (As := [.int z_10]) (rest := []) ⟨hx, hb, hml, hown, hts⟩ (m_X1_placeAt l g H.size ws_11 h0 (z_10) hG o_h0) (cwV 1 hts (gd_V kw_537 kw_579 kw_580 kw_392 kw_578) rfl rfl rfl (by decide +kernel) ⟨Nat.le_of_ble_eq_true rfl, Nat.le_of_ble_eq_true rfl⟩) ⟨gblind, va_recv hK hP (ci := 1) (q0 := k_48) rfl hk_48, fun U hU hW9 => gmk hU hW9 hP hK hD hex hE hS hFc⟩ rfl rfl hl.1 rfl (lv_room (Nat.le_of_ble_eq_true rfl)) dX1_store_53 ⟨Nat.le_of_ble_eq_true rfl, Nat.le_of_ble_eq_true rfl⟩) hS (fun q _ h => hFc q h) hFc (fun r_49 u9 t9 H1 locs ht9 hvm9 hw9 hB9 hz9 hk9 hS => ?_)
      have hP : va_P (gD g) cl0 ws_11 H1 := by rw [← ht9]; exact hB9.1
      clear hB9 hz9 hk9 hvm9 ht9 hw9
      generalize H1 = H at hP hS ⊢
      refine lv_iconst (v := 3) hx hb dX1_store_56 (by decide) ?_
      refine lv_icmp_ne (tgt := 67) hx hb dX1_store_57 (by decide) (fun c_50 => ?_) (fun c_50 => ?_)
      · exact J_67 ws_11 H locs ls (gE.rf) (gF.rf) hG hP hD hS (lv_sub hl [0, 1, 2, 3, 4] rfl)
      · refine lv_aload_n hx hb dX1_store_60 rfl (lv_at hl 0 rfl) ?_
        refine lv_iload hx hb dX1_store_61 (lv_at hl 5 rfl) ?_
        refine lv_iconst (v := 0) hx hb dX1_store_63 (by decide) ?_
        have hFc := gfree hD hS hA
        obtain ⟨k_51, fs_51, hk_51⟩ := gC_of o_h0
        refine va_callv (va_runV (As := [.int z_10, .int 0]) (rest := []) ⟨hx, hb, hml, hown, hts⟩ (m_X1_setPlace l g H.size ws_11 h0 (z_10) (0) hG o_h0) (cwV 2 hts (gd_V kw_485 kw_588 kw_589 kw_392 kw_587) rfl rfl rfl (by decide +kernel) ⟨Nat.le_of_ble_eq_true rfl, Nat.le_of_ble_eq_true rfl⟩) ⟨gblind, va_recv hK hP (ci := 1) (q0 := k_51) rfl hk_51, fun U hU hW9 => gmk hU hW9 hP hK hD hex hE hS hFc⟩ rfl rfl hl.1 rfl (lv_room (Nat.le_of_ble_eq_true rfl)) dX1_store_64 ⟨Nat.le_of_ble_eq_true rfl, Nat.le_of_ble_eq_true rfl⟩) hS (fun q _ h => hFc q h) hFc (fun  ws_52 t9 H1 locs ht9 hvm9 hw9 hB9 hz9 hk9 hS => ?_)
        obtain ⟨E_53, Fr_54, hG, hP1, hD1⟩ := hB9
        have hP : va_P (gD g) cl0 ws_52 H1 := by rw [← ht9]; exact hP1
        have hD : va_D A ws_52 := hD1.weaken (fun _ _ _ h => hFc _ h)
        clear hP1 hD1 hz9 hk9 hvm9 ht9 hw9
        generalize H1 = H at hP hS ⊢
        have o_h0 := E_53.1 _ _ o_h0
        exact J_67 ws_52 H locs ls (E_53) (Fr_54) hG hP hD hS (lv_sub hl [0, 1, 2, 3, 4] rfl)
  refine lv_if_le (tgt := 43) hx hb dX1_store_21 (by decide) (fun c_57 => ?_) (fun c_57 => ?_)
  · exact J_43 ws_4 H locs ls (gE.rf) (gF.rf) hG hP hD hS (lv_sub hl [3, 4, 5, 2, 1, 0] rfl)
  · refine lv_aload_n hx hb dX1_store_24 rfl (lv_at hl 3 rfl) ?_
    refine lv_iload_n hx hb dX1_store_25 rfl (lv_at hl 5 rfl) ?_
    refine lv_iconst (v := 1) hx hb dX1_store_26 (by decide) ?_
    refine lv_isub hx hb dX1_store_27 ?_
    refine lv_topi (fun z_58 ez_58 => ?_)
    have hFc := gfree hD hS hA
    obtain ⟨k_59, fs_59, hk_59⟩ := gC_of o_h0
    refine va_calli (va_runV (As := [.int z_58]) (rest := []) ⟨hx, hb, hml, hown, hts⟩ (m_X1_placeAt l g H.size ws_4 h0 (z_58) hG o_h0) (cwV 1 hts (gd_V kw_537 kw_579 kw_580 kw_392 kw_578) rfl rfl rfl (by decide +kernel) ⟨Nat.le_of_ble_eq_true rfl, Nat.le_of_ble_eq_true rfl⟩) ⟨gblind, va_recv hK hP (ci := 1) (q0 := k_59) rfl hk_59, fun U hU hW9 => gmk hU hW9 hP hK hD hex hE hS hFc⟩ rfl rfl hl.1 rfl (lv_room (Nat.le_of_ble_eq_true rfl)) dX1_store_28 ⟨Nat.le_of_ble_eq_true rfl, Nat.le_of_ble_eq_true rfl⟩) hS (fun q _ h => hFc q h) hFc (fun r_60 u9 t9 H1 locs ht9 hvm9 hw9 hB9 hz9 hk9 hS => ?_)
    have hP : va_P (gD g) cl0 ws_4 H1 := by rw [← ht9]; exact hB9.1
    clear hB9 hz9 hk9 hvm9 ht9 hw9
    generalize H1 = H at hP hS ⊢
    refine lv_iconst (v := 2) hx hb dX1_store_31 (by decide) ?_
    refine lv_icmp_ne (tgt := 43) hx hb dX1_store_32 (by decide) (fun c_61 => ?_) (fun c_61 => ?_)
    · exact J_43 ws_4 H locs ls (gE.rf) (gF.rf) hG hP hD hS (lv_sub hl [3, 4, 5, 2, 1, 0] rfl)
    · refine lv_aload_n hx hb dX1_store_35 rfl (lv_at hl 3 rfl) ?_
      refine lv_iload_n hx hb dX1_store_36 rfl (lv_at hl 5 rfl) ?_
      refine lv_iconst (v := 1) hx hb dX1_store_37 (by decide) ?_
      refine lv_isub hx hb dX1_store_38 ?_
      refine lv_topi (fun z_62 ez_62 => ?_)
      refine lv_iconst (v := 0) hx hb dX1_store_39 (by decide) ?_
      have hFc := gfree hD hS hA
      obtain ⟨k_63, fs_63, hk_63⟩ := gC_of o_h0
      refine va_callv (va_runV (As := [.int z_62, .int 0]) (rest := []) ⟨hx, hb, hml, hown, hts⟩ (m_X1_setPlace l g H.size ws_4 h0 (z_62) (0) hG o_h0) (cwV 2 hts (gd_V kw_485 kw_588 kw_589 kw_392 kw_587) rfl rfl rfl (by decide +kernel) ⟨Nat.le_of_ble_eq_true rfl, Nat.le_of_ble_eq_true rfl⟩) ⟨gblind, va_recv hK hP (ci := 1) (q0 := k_63) rfl hk_63, fun U hU hW9 => gmk hU hW9 hP hK hD hex hE hS hFc⟩ rfl rfl hl.1 rfl (lv_room (Nat.le_of_ble_eq_true rfl)) dX1_store_40 ⟨Nat.le_of_ble_eq_true rfl, Nat.le_of_ble_eq_true rfl⟩) hS (fun q _ h => hFc q h) hFc (fun  ws_64 t9 H1 locs ht9 hvm9 hw9 hB9 hz9 hk9 hS => ?_)
      obtain ⟨E_65, Fr_66, hG, hP1, hD1⟩ := hB9
      have hP : va_P (gD g) cl0 ws_64 H1 := by rw [← ht9]; exact hP1
      have hD : va_D A ws_64 := hD1.weaken (fun _ _ _ h => hFc _ h)
      clear hP1 hD1 hz9 hk9 hvm9 ht9 hw9
      generalize H1 = H at hP hS ⊢
      have o_h0 := E_65.1 _ _ o_h0
      exact J_43 ws_64 H locs ls (E_65) (Fr_66) hG hP hD hS (lv_sub hl [3, 4, 5, 2, 1, 0] rfl)
set_option maxHeartbeats 1000000 in
set_option maxRecDepth 100000 in
theorem m_X1_takeCopy (l : Launch) (g : Gm) (sz : Nat) (ws : va_W) (h0 : Nat) (hG : Good g ws) (o_h0 : gC ws h0 1) : Met l yX1_takeCopy (wt yX1_takeCopy cX1_takeCopy 2 (some .int)) ({ frames := 2, cells := 0, slots := 0, locals := 42 }) (va_Pc [.ref h0] (st_G g sz ws)) (va_Qi (fun (r : Int32) (u9 : va_W) => True) (gQ1 g [(1, 5), (1, 6)] [] none (va_A ws sz) ws) (va_A ws sz)) (0) (0) (va_A ws sz) := by
  refine Met.ofW (cc := cX1_takeCopy) (maxL := 2) (ret := (some .int)) (by decide) rfl ?_
  intro p e s m args below meth c s₁ B hml hv
  obtain ⟨rfl, hsz, hP, hK, hD0, hex, hE⟩ := hv
  have hx := B.exec
  have hb := B.bytes
  have hr := B.returns
  have hts0 := atoms_spec (ws := wt yX1_takeCopy cX1_takeCopy 2 (some .int)) B.pre
  have hts : ∀ w ∈ tb, w.before _ s = true := fun w h => hts0 w (List.mem_cons_of_mem _ h)
  have hown : s.vm.findClass RX1 = some m.cls := findClass_of_methodNamed B.named
  subst hsz
  have hD := hD0.self (sz := s.heap.size)
  generalize hAe : va_A ws s.heap.size = A at hD hE ⊢
  have hA : ∀ q : Nat, s.heap.size ≤ q → A q := fun q h => by rw [← hAe]; exact Or.inr h
  have hS : va_S A s.heap s.heap [] := va_S.rf
  have hl := lv_entry ([.ref h0]) (n := 2) (Nat.le_of_ble_eq_true rfl)
  rw [lg_entry_eq]
  generalize (lg_sl ([.ref h0]) ++ List.replicate (2 - (lg_sl ([.ref h0])).length) Slot.unset).toArray = ls at hl ⊢
  have hl : lv_has ls 2 [(0, .ref h0)] := hl
  refine lv_aload_n hx hb dX1_takeCopy_0 rfl (lv_at hl 0 rfl) ?_
  refine lv_bipush (v := 6) hx hb dX1_takeCopy_1 (by decide) ?_
  have hFc := gfree hD hS hA
  obtain ⟨k_1, fs_1, hk_1⟩ := gC_of o_h0
  refine va_calli (va_runV (As := [.int 6]) (rest := []) ⟨hx, hb, hml, hown, hts⟩ (m_X1_take l g s.heap.size ws h0 (6) hG o_h0) (cwV 1 hts (gd_V kw_539 kw_601 kw_602 kw_392 kw_600) rfl rfl rfl (by decide +kernel) ⟨Nat.le_of_ble_eq_true rfl, Nat.le_of_ble_eq_true rfl⟩) ⟨gblind, va_recv hK hP (ci := 1) (q0 := k_1) rfl hk_1, fun U hU hW9 => gmk hU hW9 hP hK hD hex hE hS hFc⟩ rfl rfl hl.1 rfl (lv_room (Nat.le_of_ble_eq_true rfl)) dX1_takeCopy_3 ⟨Nat.le_of_ble_eq_true rfl, Nat.le_of_ble_eq_true rfl⟩) hS (fun q _ h => hFc q h) hFc (fun r_2 ws_3 t9 H1 locs ht9 hvm9 hw9 hB9 hz9 hk9 hS => ?_)
  obtain ⟨E_4, Fr_5, hG, hP1, hD1⟩ := hB9
  have hP : va_P (gD g) cl0 ws_3 H1 := by rw [← ht9]; exact hP1
  have hD : va_D A ws_3 := hD1.weaken (fun _ _ _ h => hFc _ h)
  clear hP1 hD1 hz9 hk9 hvm9 ht9 hw9
  generalize H1 = H at hP hS ⊢
  have o_h0 := E_4.1 _ _ o_h0
  refine lv_istore_n (lv' := [(1, .int r_2), (0, .ref h0)]) hx hb dX1_takeCopy_6 rfl hl (by decide) rfl (fun ls hl => ?_)
  refine lv_iload_n hx hb dX1_takeCopy_7 rfl (lv_at hl 0 rfl) ?_
  have hFc := gfree hD hS hA
  refine va_calli (va_runS (As := [.int r_2]) (rest := []) ⟨hx, hb, hml, hown, hts⟩ (m_X1_isOnePlace l g H.size ws_3 (r_2) hG ) (va_cwS 1 hts (gd_S kw_604 kw_555 kw_392 kw_554) rfl rfl rfl (by decide +kernel) ⟨Nat.le_of_ble_eq_true rfl, Nat.le_of_ble_eq_true rfl⟩) ⟨gblind, fun U hU hW9 => gmk hU hW9 hP hK hD hex hE hS hFc⟩ rfl rfl hl.1 rfl (lv_room (Nat.le_of_ble_eq_true rfl)) dX1_takeCopy_8 ⟨Nat.le_of_ble_eq_true rfl, Nat.le_of_ble_eq_true rfl⟩) hS (fun q _ h => hFc q h) hFc (fun r_8 u9 t9 H1 locs ht9 hvm9 hw9 hB9 hz9 hk9 hS => ?_)
  have hP : va_P (gD g) cl0 ws_3 H1 := by rw [← ht9]; exact hB9.1
  have hz_r_8 : r_8 = 0 ∨ r_8 = 1 := hw9
  clear hB9 hz9 hk9 hvm9 ht9 hw9
  generalize H1 = H at hP hS ⊢
  have J_19 : ∀ (t_9 : Int32) (H : Heap) (locs : List Loc) (ls : Array Slot), va_P (gD g) cl0 ws_3 H → va_D A ws_3 → va_S A s.heap H locs → lv_has ls 2 [] → W p l e (headSpec (wt yX1_takeCopy cX1_takeCopy 2 (some .int)) ({ frames := 2, cells := 0, slots := 0, locals := 42 })).room s m ([.ref h0] : List Value).toArray below meth c H locs (0) (0) (MQ below (va_Qi (fun (r : Int32) (u9 : va_W) => True) (gQ1 g [(1, 5), (1, 6)] [] none A ws) A) ([.ref h0] : List Value).toArray s (0) (0) A) (F0 m 19 ls [.int t_9]) := by
    intro t_9 H locs ls  hP hD hS hl
    refine W.widen (k := 0) (n := 0) (Nat.le_of_ble_eq_true rfl) (Nat.le_of_ble_eq_true rfl) ?_
    exact W.iret (v := t_9) hx hb hr (fun t9 ht9 hW9 => ⟨⟨_, ws_3, rfl, trivial, ⟨E_4, Fr_5, hG, by rw [ht9]; exact hP, hD⟩⟩, hS.F ht9⟩) hS.2.2 dX1_takeCopy_19
  refine lv_if_eq (tgt := 18) hx hb dX1_takeCopy_11 (by decide) (fun c_12 => ?_) (fun c_12 => ?_)
  · refine lv_iconst (v := 0) hx hb dX1_takeCopy_18 (by decide) ?_
    exact J_19 (0) H locs ls  hP hD hS (lv_sub hl [] rfl)
  · refine lv_iload_n hx hb dX1_takeCopy_14 rfl (lv_at hl 0 rfl) ?_
    refine lv_goto (tgt := 19) hx hb dX1_takeCopy_15 (by decide) ?_
    exact J_19 (r_2) H locs ls  hP hD hS (lv_sub hl [] rfl)
set_option maxHeartbeats 1000000 in
set_option maxRecDepth 100000 in
theorem m_X1_hasLong (l : Launch) (g : Gm) (sz : Nat) (ws : va_W) (h0 : Nat) (hG : Good g ws) (o_h0 : gC ws h0 1) : Met l yX1_hasLong (wt yX1_hasLong cX1_hasLong 1 (some .boolean)) ({ frames := 1, cells := 0, slots := 0, locals := 21 }) (va_Pc [.ref h0] (st_G g sz ws)) (va_Qi (fun (r : Int32) (u9 : Unit) => r = 0 ∨ r = 1) (gQ0 g (va_A ws sz) ws) (va_A ws sz)) (0) (0) (va_A ws sz) := by
  refine Met.ofW (cc := cX1_hasLong) (maxL := 1) (ret := (some .boolean)) (by decide) rfl ?_
  intro p e s m args below meth c s₁ B hml hv
  obtain ⟨rfl, hsz, hP, hK, hD0, hex, hE⟩ := hv
  have hx := B.exec
  have hb := B.bytes
  have hr := B.returns
  have hts0 := atoms_spec (ws := wt yX1_hasLong cX1_hasLong 1 (some .boolean)) B.pre
  have hts : ∀ w ∈ tb, w.before _ s = true := fun w h => hts0 w (List.mem_cons_of_mem _ h)
  have hown : s.vm.findClass RX1 = some m.cls := findClass_of_methodNamed B.named
  subst hsz
  have hD := hD0.self (sz := s.heap.size)
  generalize hAe : va_A ws s.heap.size = A at hD hE ⊢
  have hA : ∀ q : Nat, s.heap.size ≤ q → A q := fun q h => by rw [← hAe]; exact Or.inr h
  have hS : va_S A s.heap s.heap [] := va_S.rf
  have hl := lv_entry ([.ref h0]) (n := 1) (Nat.le_of_ble_eq_true rfl)
  rw [lg_entry_eq]
  generalize (lg_sl ([.ref h0]) ++ List.replicate (1 - (lg_sl ([.ref h0])).length) Slot.unset).toArray = ls at hl ⊢
  have hl : lv_has ls 1 [(0, .ref h0)] := hl
  refine lv_aload_n hx hb dX1_hasLong_0 rfl (lv_at hl 0 rfl) ?_
  obtain ⟨k_1, fs9, hk_1⟩ := gC_of o_h0
  obtain ⟨r0_1, r1_1, n1_1, r2_1, n2_1, r3_1, n3_1, r4_1, n4_1, c5_1, c6_1, c7_1, v8_1, v9_1, rfl, o_r0_1, a_r1_1, f2_1, a_r2_1, f4_1, a_r3_1, f6_1, a_r4_1, f8_1, hz_c6_1, hz_c7_1, o_v8_1, o_v9_1, f13_1, f14_1, f15_1, f16_1, -⟩ := (hG.1 _ _ _ _ hk_1).hX1 rfl
  refine va_get (D := gD g) (ci := 1) (v := .int c5_1) (C := RX1) (T := TX1) (N := 10) hx hb hts inX1 hown hK hP k_1 hk_1 rfl 5 (by decide) (hts _ kw_486) (fun _ h9 => h9) rfl dX1_hasLong_1 ?_
  refine lv_iconst (v := 2) hx hb dX1_hasLong_4 (by decide) ?_
  have J_47 : ∀ (t_2 : Int32) (H : Heap) (locs : List Loc) (ls : Array Slot), t_2 = 0 ∨ t_2 = 1 → va_P (gD g) cl0 ws H → va_D A ws → va_S A s.heap H locs → lv_has ls 1 [] → W p l e (headSpec (wt yX1_hasLong cX1_hasLong 1 (some .boolean)) ({ frames := 1, cells := 0, slots := 0, locals := 21 })).room s m ([.ref h0] : List Value).toArray below meth c H locs (0) (0) (MQ below (va_Qi (fun (r : Int32) (u9 : Unit) => r = 0 ∨ r = 1) (gQ0 g A ws) A) ([.ref h0] : List Value).toArray s (0) (0) A) (F0 m 47 ls [.int t_2]) := by
    intro t_2 H locs ls iv_3 hP hD hS hl
    have hz_t_2 := iv_3
    refine W.widen (k := 0) (n := 0) (Nat.le_of_ble_eq_true rfl) (Nat.le_of_ble_eq_true rfl) ?_
    exact W.zret (v := t_2) hx hb hr (nz hz_t_2) (fun t9 ht9 hW9 => ⟨⟨_, (), rfl, hz_t_2, ⟨by rw [ht9]; exact hP, hD⟩⟩, hS.F ht9⟩) hS.2.2 dX1_hasLong_47
  have J_46 : ∀  (H : Heap) (locs : List Loc) (ls : Array Slot), va_P (gD g) cl0 ws H → va_D A ws → va_S A s.heap H locs → lv_has ls 1 [] → W p l e (headSpec (wt yX1_hasLong cX1_hasLong 1 (some .boolean)) ({ frames := 1, cells := 0, slots := 0, locals := 21 })).room s m ([.ref h0] : List Value).toArray below meth c H locs (0) (0) (MQ below (va_Qi (fun (r : Int32) (u9 : Unit) => r = 0 ∨ r = 1) (gQ0 g A ws) A) ([.ref h0] : List Value).toArray s (0) (0) A) (F0 m 46 ls []) := by
    intro  H locs ls  hP hD hS hl
    refine lv_iconst (v := 0) hx hb dX1_hasLong_46 (by decide) ?_
    exact J_47 (0) H locs ls (Or.inl rfl) hP hD hS (lv_sub hl [] rfl)
  refine lv_icmp_lt (tgt := 46) hx hb dX1_hasLong_5 (by decide) (fun c_8 => ?_) (fun c_8 => ?_)
  · exact J_46  _ _ ls  hP hD hS (lv_sub hl [] rfl)
  · refine lv_aload_n hx hb dX1_hasLong_8 rfl (lv_at hl 0 rfl) ?_
    refine lv_bipush (v := 24) hx hb dX1_hasLong_9 (by decide) ?_
    refine lv_aload_n hx hb dX1_hasLong_11 rfl (lv_at hl 0 rfl) ?_
    refine va_get (D := gD g) (ci := 1) (v := .int c5_1) (C := RX1) (T := TX1) (N := 10) hx hb hts inX1 hown hK hP k_1 hk_1 rfl 5 (by decide) (hts _ kw_486) (fun _ h9 => h9) rfl dX1_hasLong_12 ?_
    refine lv_iadd hx hb dX1_hasLong_15 ?_
    refine lv_topi (fun z_9 ez_9 => ?_)
    refine lv_iconst (v := 1) hx hb dX1_hasLong_16 (by decide) ?_
    refine lv_isub hx hb dX1_hasLong_17 ?_
    refine lv_topi (fun z_10 ez_10 => ?_)
    have hFc := gfree hD hS hA
    refine va_calli (va_runV (As := [.int z_10]) (rest := []) ⟨hx, hb, hml, hown, hts⟩ (m_X1_placeAt l g s.heap.size ws h0 (z_10) hG o_h0) (cwV 1 hts (gd_V kw_537 kw_579 kw_580 kw_392 kw_578) rfl rfl rfl (by decide +kernel) ⟨Nat.le_of_ble_eq_true rfl, Nat.le_of_ble_eq_true rfl⟩) ⟨gblind, va_recv hK hP (ci := 1) (q0 := k_1) rfl hk_1, fun U hU hW9 => gmk hU hW9 hP hK hD hex hE hS hFc⟩ rfl rfl hl.1 rfl (lv_room (Nat.le_of_ble_eq_true rfl)) dX1_hasLong_18 ⟨Nat.le_of_ble_eq_true rfl, Nat.le_of_ble_eq_true rfl⟩) hS (fun q _ h => hFc q h) hFc (fun r_11 u9 t9 H1 locs ht9 hvm9 hw9 hB9 hz9 hk9 hS => ?_)
    have hP : va_P (gD g) cl0 ws H1 := by rw [← ht9]; exact hB9.1
    clear hB9 hz9 hk9 hvm9 ht9 hw9
    generalize H1 = H at hP hS ⊢
    refine lv_iconst (v := 3) hx hb dX1_hasLong_21 (by decide) ?_
    refine lv_icmp_ne (tgt := 46) hx hb dX1_hasLong_22 (by decide) (fun c_12 => ?_) (fun c_12 => ?_)
    · exact J_46  H locs ls  hP hD hS (lv_sub hl [] rfl)
    · refine lv_aload_n hx hb dX1_hasLong_25 rfl (lv_at hl 0 rfl) ?_
      refine lv_bipush (v := 24) hx hb dX1_hasLong_26 (by decide) ?_
      refine lv_aload_n hx hb dX1_hasLong_28 rfl (lv_at hl 0 rfl) ?_
      refine va_get (D := gD g) (ci := 1) (v := .int c5_1) (C := RX1) (T := TX1) (N := 10) hx hb hts inX1 hown hK hP k_1 hk_1 rfl 5 (by decide) (hts _ kw_486) (fun _ h9 => h9) rfl dX1_hasLong_29 ?_
      refine lv_iadd hx hb dX1_hasLong_32 ?_
      refine lv_topi (fun z_13 ez_13 => ?_)
      refine lv_iconst (v := 2) hx hb dX1_hasLong_33 (by decide) ?_
      refine lv_isub hx hb dX1_hasLong_34 ?_
      refine lv_topi (fun z_14 ez_14 => ?_)
      have hFc := gfree hD hS hA
      refine va_calli (va_runV (As := [.int z_14]) (rest := []) ⟨hx, hb, hml, hown, hts⟩ (m_X1_placeAt l g H.size ws h0 (z_14) hG o_h0) (cwV 1 hts (gd_V kw_537 kw_579 kw_580 kw_392 kw_578) rfl rfl rfl (by decide +kernel) ⟨Nat.le_of_ble_eq_true rfl, Nat.le_of_ble_eq_true rfl⟩) ⟨gblind, va_recv hK hP (ci := 1) (q0 := k_1) rfl hk_1, fun U hU hW9 => gmk hU hW9 hP hK hD hex hE hS hFc⟩ rfl rfl hl.1 rfl (lv_room (Nat.le_of_ble_eq_true rfl)) dX1_hasLong_35 ⟨Nat.le_of_ble_eq_true rfl, Nat.le_of_ble_eq_true rfl⟩) hS (fun q _ h => hFc q h) hFc (fun r_15 u9 t9 H1 locs ht9 hvm9 hw9 hB9 hz9 hk9 hS => ?_)
      have hP : va_P (gD g) cl0 ws H1 := by rw [← ht9]; exact hB9.1
      clear hB9 hz9 hk9 hvm9 ht9 hw9
      generalize H1 = H at hP hS ⊢
      refine lv_iconst (v := 2) hx hb dX1_hasLong_38 (by decide) ?_
      refine lv_icmp_ne (tgt := 46) hx hb dX1_hasLong_39 (by decide) (fun c_16 => ?_) (fun c_16 => ?_)
      · exact J_46  H locs ls  hP hD hS (lv_sub hl [] rfl)
      · refine lv_iconst (v := 1) hx hb dX1_hasLong_42 (by decide) ?_
        refine lv_goto (tgt := 47) hx hb dX1_hasLong_43 (by decide) ?_
        exact J_47 (1) H locs ls (Or.inr rfl) hP hD hS (lv_sub hl [] rfl)
set_option maxHeartbeats 1000000 in
set_option maxRecDepth 100000 in
theorem m_X1_shuffle (l : Launch) (g : Gm) (sz : Nat) (ws : va_W) (h0 : Nat) (x1 : Int32) (hG : Good g ws) (o_h0 : gC ws h0 1) : Met l yX1_shuffle (wt yX1_shuffle cX1_shuffle 4 none) ({ frames := 3, cells := 0, slots := 0, locals := 63 }) (va_Pc [.ref h0, .int x1] (st_G g sz ws)) (va_Qv (fun (u9 : va_W) => True) (gQ1 g [(1, 5), (1, 6)] [(1, 4)] none (va_A ws sz) ws) (va_A ws sz)) (0) (0) (va_A ws sz) := by
  refine Met.ofW (cc := cX1_shuffle) (maxL := 4) (ret := none) (by decide) rfl ?_
  intro p e s m args below meth c s₁ B hml hv
  obtain ⟨rfl, hsz, hP, hK, hD0, hex, hE⟩ := hv
  have hx := B.exec
  have hb := B.bytes
  have hr := B.returns
  have hts0 := atoms_spec (ws := wt yX1_shuffle cX1_shuffle 4 none) B.pre
  have hts : ∀ w ∈ tb, w.before _ s = true := fun w h => hts0 w (List.mem_cons_of_mem _ h)
  have hown : s.vm.findClass RX1 = some m.cls := findClass_of_methodNamed B.named
  subst hsz
  have hD := hD0.self (sz := s.heap.size)
  generalize hAe : va_A ws s.heap.size = A at hD hE ⊢
  have hA : ∀ q : Nat, s.heap.size ≤ q → A q := fun q h => by rw [← hAe]; exact Or.inr h
  have hS : va_S A s.heap s.heap [] := va_S.rf
  have hl := lv_entry ([.ref h0, .int x1]) (n := 4) (Nat.le_of_ble_eq_true rfl)
  rw [lg_entry_eq]
  generalize (lg_sl ([.ref h0, .int x1]) ++ List.replicate (4 - (lg_sl ([.ref h0, .int x1])).length) Slot.unset).toArray = ls at hl ⊢
  have hl : lv_has ls 4 [(0, .ref h0), (1, .int x1)] := hl
  refine lv_iload_n hx hb dX1_shuffle_0 rfl (lv_at hl 1 rfl) ?_
  refine lv_bipush (v := 88) hx hb dX1_shuffle_1 (by decide) ?_
  have J_40 : ∀  (H : Heap) (locs : List Loc) (ls : Array Slot), va_P (gD g) cl0 ws H → va_D A ws → va_S A s.heap H locs → lv_has ls 4 [(0, .ref h0), (1, .int x1)] → W p l e (headSpec (wt yX1_shuffle cX1_shuffle 4 none) ({ frames := 3, cells := 0, slots := 0, locals := 63 })).room s m ([.ref h0, .int x1] : List Value).toArray below meth c H locs (0) (0) (MQ below (va_Qv (fun (u9 : va_W) => True) (gQ1 g [(1, 5), (1, 6)] [(1, 4)] none A ws) A) ([.ref h0, .int x1] : List Value).toArray s (0) (0) A) (F0 m 40 ls []) := by
    intro  H locs ls  hP hD hS hl
    refine lv_aload_n hx hb dX1_shuffle_40 rfl (lv_at hl 0 rfl) ?_
    have hFc := gfree hD hS hA
    obtain ⟨k_3, fs_3, hk_3⟩ := gC_of o_h0
    refine va_calli (va_runV (As := []) (rest := []) ⟨hx, hb, hml, hown, hts⟩ (m_X1_takeCopy l g H.size ws h0 hG o_h0) (cwV 0 hts (gd_V kw_594 kw_606 kw_607 kw_392 kw_605) rfl rfl rfl (by decide +kernel) ⟨Nat.le_of_ble_eq_true rfl, Nat.le_of_ble_eq_true rfl⟩) ⟨gblind, va_recv hK hP (ci := 1) (q0 := k_3) rfl hk_3, fun U hU hW9 => gmk hU hW9 hP hK hD hex hE hS hFc⟩ rfl rfl hl.1 rfl (lv_room (Nat.le_of_ble_eq_true rfl)) dX1_shuffle_41 ⟨Nat.le_of_ble_eq_true rfl, Nat.le_of_ble_eq_true rfl⟩) hS (fun q _ h => hFc q h) hFc (fun r_4 ws_5 t9 H1 locs ht9 hvm9 hw9 hB9 hz9 hk9 hS => ?_)
    obtain ⟨E_6, Fr_7, hG, hP1, hD1⟩ := hB9
    have hP : va_P (gD g) cl0 ws_5 H1 := by rw [← ht9]; exact hP1
    have hD : va_D A ws_5 := hD1.weaken (fun _ _ _ h => hFc _ h)
    clear hP1 hD1 hz9 hk9 hvm9 ht9 hw9
    generalize H1 = H at hP hS ⊢
    have o_h0 := E_6.1 _ _ o_h0
    refine lv_istore_n (lv' := [(2, .int r_4), (0, .ref h0), (1, .int x1)]) hx hb dX1_shuffle_44 rfl hl (by decide) rfl (fun ls hl => ?_)
    refine lv_iload_n hx hb dX1_shuffle_45 rfl (lv_at hl 2 rfl) ?_
    refine lv_bipush (v := 87) hx hb dX1_shuffle_46 (by decide) ?_
    have J_65 : ∀ (t_10 : Int32) (ws_11 : va_W) (H : Heap) (locs : List Loc) (ls : Array Slot), gE ws_5 ws_11 → gF [(1, 5), (1, 6)] [] none ws_5 ws_11 → Good g ws_11 → va_P (gD g) cl0 ws_11 H → va_D A ws_11 → va_S A s.heap H locs → lv_has ls 4 [(0, .ref h0), (1, .int x1), (2, .int r_4)] → W p l e (headSpec (wt yX1_shuffle cX1_shuffle 4 none) ({ frames := 3, cells := 0, slots := 0, locals := 63 })).room s m ([.ref h0, .int x1] : List Value).toArray below meth c H locs (0) (0) (MQ below (va_Qv (fun (u9 : va_W) => True) (gQ1 g [(1, 5), (1, 6)] [(1, 4)] none A ws) A) ([.ref h0, .int x1] : List Value).toArray s (0) (0) A) (F0 m 65 ls [.int t_10]) := by
      intro t_10 ws_11 H locs ls  E_12 Fr_13 hG hP hD hS hl
      have o_h0 := E_12.1 _ _ o_h0
      refine lv_istore_n (lv' := [(3, .int t_10), (0, .ref h0), (1, .int x1), (2, .int r_4)]) hx hb dX1_shuffle_65 rfl hl (by decide) rfl (fun ls hl => ?_)
      refine lv_iload_n hx hb dX1_shuffle_66 rfl (lv_at hl 2 rfl) ?_
      have J_175 : ∀ (ws_14 : va_W) (H : Heap) (locs : List Loc) (ls : Array Slot), gE ws_11 ws_14 → gF [(1, 5)] [(1, 4)] none ws_11 ws_14 → Good g ws_14 → va_P (gD g) cl0 ws_14 H → va_D A ws_14 → va_S A s.heap H locs → lv_has ls 4 [] → W p l e (headSpec (wt yX1_shuffle cX1_shuffle 4 none) ({ frames := 3, cells := 0, slots := 0, locals := 63 })).room s m ([.ref h0, .int x1] : List Value).toArray below meth c H locs (0) (0) (MQ below (va_Qv (fun (u9 : va_W) => True) (gQ1 g [(1, 5), (1, 6)] [(1, 4)] none A ws) A) ([.ref h0, .int x1] : List Value).toArray s (0) (0) A) (F0 m 175 ls []) := by
        intro ws_14 H locs ls  E_15 Fr_16 hG hP hD hS hl
        have o_h0 := E_15.1 _ _ o_h0
        refine W.widen (k := 0) (n := 0) (Nat.le_of_ble_eq_true rfl) (Nat.le_of_ble_eq_true rfl) ?_
        exact W.vret hx hb hr (fun t9 ht9 hW9 => ⟨⟨ws_14, rfl, trivial, ⟨(E_6.tr (E_12.tr E_15)), (gF.tr (gF.mo (F' := [(1, 5), (1, 6)]) (C' := [(1, 4)]) (S' := none) Fr_7 (fun _ h => h) (fun _ h => absurd h List.not_mem_nil) (Or.inr rfl)) (gF.tr (gF.mo (F' := [(1, 5), (1, 6)]) (C' := [(1, 4)]) (S' := none) Fr_13 (fun _ h => h) (fun _ h => absurd h List.not_mem_nil) (Or.inr rfl)) (gF.mo (F' := [(1, 5), (1, 6)]) (C' := [(1, 4)]) (S' := none) Fr_16 (by decide) (fun _ h => h) (Or.inr rfl)))), hG, by rw [ht9]; exact hP, hD⟩⟩, hS.F ht9⟩) hS.2.2 dX1_shuffle_175
      have K_67_175 : W p l e (headSpec (wt yX1_shuffle cX1_shuffle 4 none) ({ frames := 3, cells := 0, slots := 0, locals := 63 })).room s m ([.ref h0, .int x1] : List Value).toArray below meth c H locs (0) (0) (MQ below (va_Qv (fun (u9 : va_W) => True) (gQ1 g [(1, 5), (1, 6)] [(1, 4)] none A ws) A) ([.ref h0, .int x1] : List Value).toArray s (0) (0) A) (F0 m 175 ls []) := by
        exact J_175 ws_11 H locs ls (gE.rf) (gF.rf) hG hP hD hS (lv_sub hl [] rfl)
      have K_67_108 : W p l e (headSpec (wt yX1_shuffle cX1_shuffle 4 none) ({ frames := 3, cells := 0, slots := 0, locals := 63 })).room s m ([.ref h0, .int x1] : List Value).toArray below meth c H locs (0) (0) (MQ below (va_Qv (fun (u9 : va_W) => True) (gQ1 g [(1, 5), (1, 6)] [(1, 4)] none A ws) A) ([.ref h0, .int x1] : List Value).toArray s (0) (0) A) (F0 m 108 ls []) := by
        refine lv_aload_n hx hb dX1_shuffle_108 rfl (lv_at hl 1 rfl) ?_
        refine lv_iload_n hx hb dX1_shuffle_109 rfl (lv_at hl 3 rfl) ?_
        have hFc := gfree hD hS hA
        obtain ⟨k_17, fs_17, hk_17⟩ := gC_of o_h0
        refine va_callv (va_runV (As := [.int r_4]) (rest := []) ⟨hx, hb, hml, hown, hts⟩ (m_X1_push l g H.size ws_11 h0 (r_4) hG o_h0) (cwV 1 hts (gd_V kw_526 kw_585 kw_586 kw_392 kw_584) rfl rfl rfl (by decide +kernel) ⟨Nat.le_of_ble_eq_true rfl, Nat.le_of_ble_eq_true rfl⟩) ⟨gblind, va_recv hK hP (ci := 1) (q0 := k_17) rfl hk_17, fun U hU hW9 => gmk hU hW9 hP hK hD hex hE hS hFc⟩ rfl rfl hl.1 rfl (lv_room (Nat.le_of_ble_eq_true rfl)) dX1_shuffle_110 ⟨Nat.le_of_ble_eq_true rfl, Nat.le_of_ble_eq_true rfl⟩) hS (fun q _ h => hFc q h) hFc (fun  ws_18 t9 H1 locs ht9 hvm9 hw9 hB9 hz9 hk9 hS => ?_)
        obtain ⟨E_19, Fr_20, hG, hP1, hD1⟩ := hB9
        have hP : va_P (gD g) cl0 ws_18 H1 := by rw [← ht9]; exact hP1
        have hD : va_D A ws_18 := hD1.weaken (fun _ _ _ h => hFc _ h)
        clear hP1 hD1 hz9 hk9 hvm9 ht9 hw9
        generalize H1 = H at hP hS ⊢
        have o_h0 := E_19.1 _ _ o_h0
        refine lv_aload_n hx hb dX1_shuffle_113 rfl (lv_at hl 1 rfl) ?_
        refine lv_iload_n hx hb dX1_shuffle_114 rfl (lv_at hl 3 rfl) ?_
        have hFc := gfree hD hS hA
        obtain ⟨k_23, fs_23, hk_23⟩ := gC_of o_h0
        refine va_callv (va_runV (As := [.int r_4]) (rest := []) ⟨hx, hb, hml, hown, hts⟩ (m_X1_push l g H.size ws_18 h0 (r_4) hG o_h0) (cwV 1 hts (gd_V kw_526 kw_585 kw_586 kw_392 kw_584) rfl rfl rfl (by decide +kernel) ⟨Nat.le_of_ble_eq_true rfl, Nat.le_of_ble_eq_true rfl⟩) ⟨gblind, va_recv hK hP (ci := 1) (q0 := k_23) rfl hk_23, fun U hU hW9 => gmk hU hW9 hP hK hD hex hE hS hFc⟩ rfl rfl hl.1 rfl (lv_room (Nat.le_of_ble_eq_true rfl)) dX1_shuffle_115 ⟨Nat.le_of_ble_eq_true rfl, Nat.le_of_ble_eq_true rfl⟩) hS (fun q _ h => hFc q h) hFc (fun  ws_24 t9 H1 locs ht9 hvm9 hw9 hB9 hz9 hk9 hS => ?_)
        obtain ⟨E_25, Fr_26, hG, hP1, hD1⟩ := hB9
        have hP : va_P (gD g) cl0 ws_24 H1 := by rw [← ht9]; exact hP1
        have hD : va_D A ws_24 := hD1.weaken (fun _ _ _ h => hFc _ h)
        clear hP1 hD1 hz9 hk9 hvm9 ht9 hw9
        generalize H1 = H at hP hS ⊢
        have o_h0 := E_25.1 _ _ o_h0
        refine lv_goto (tgt := 175) hx hb dX1_shuffle_118 (by decide) ?_
        exact J_175 ws_24 H locs ls ((E_19.tr E_25)) ((gF.tr Fr_20 Fr_26)) hG hP hD hS (lv_sub hl [] rfl)
      have K_67_121 : W p l e (headSpec (wt yX1_shuffle cX1_shuffle 4 none) ({ frames := 3, cells := 0, slots := 0, locals := 63 })).room s m ([.ref h0, .int x1] : List Value).toArray below meth c H locs (0) (0) (MQ below (va_Qv (fun (u9 : va_W) => True) (gQ1 g [(1, 5), (1, 6)] [(1, 4)] none A ws) A) ([.ref h0, .int x1] : List Value).toArray s (0) (0) A) (F0 m 121 ls []) := by
        refine lv_aload_n hx hb dX1_shuffle_121 rfl (lv_at hl 1 rfl) ?_
        refine lv_iload_n hx hb dX1_shuffle_122 rfl (lv_at hl 3 rfl) ?_
        have hFc := gfree hD hS hA
        obtain ⟨k_29, fs_29, hk_29⟩ := gC_of o_h0
        refine va_callv (va_runV (As := [.int r_4]) (rest := []) ⟨hx, hb, hml, hown, hts⟩ (m_X1_push l g H.size ws_11 h0 (r_4) hG o_h0) (cwV 1 hts (gd_V kw_526 kw_585 kw_586 kw_392 kw_584) rfl rfl rfl (by decide +kernel) ⟨Nat.le_of_ble_eq_true rfl, Nat.le_of_ble_eq_true rfl⟩) ⟨gblind, va_recv hK hP (ci := 1) (q0 := k_29) rfl hk_29, fun U hU hW9 => gmk hU hW9 hP hK hD hex hE hS hFc⟩ rfl rfl hl.1 rfl (lv_room (Nat.le_of_ble_eq_true rfl)) dX1_shuffle_123 ⟨Nat.le_of_ble_eq_true rfl, Nat.le_of_ble_eq_true rfl⟩) hS (fun q _ h => hFc q h) hFc (fun  ws_30 t9 H1 locs ht9 hvm9 hw9 hB9 hz9 hk9 hS => ?_)
        obtain ⟨E_31, Fr_32, hG, hP1, hD1⟩ := hB9
        have hP : va_P (gD g) cl0 ws_30 H1 := by rw [← ht9]; exact hP1
        have hD : va_D A ws_30 := hD1.weaken (fun _ _ _ h => hFc _ h)
        clear hP1 hD1 hz9 hk9 hvm9 ht9 hw9
        generalize H1 = H at hP hS ⊢
        have o_h0 := E_31.1 _ _ o_h0
        refine lv_aload_n hx hb dX1_shuffle_126 rfl (lv_at hl 1 rfl) ?_
        refine lv_iload_n hx hb dX1_shuffle_127 rfl (lv_at hl 0 rfl) ?_
        have hFc := gfree hD hS hA
        obtain ⟨k_35, fs_35, hk_35⟩ := gC_of o_h0
        refine va_callv (va_runV (As := [.int t_10]) (rest := []) ⟨hx, hb, hml, hown, hts⟩ (m_X1_push l g H.size ws_30 h0 (t_10) hG o_h0) (cwV 1 hts (gd_V kw_526 kw_585 kw_586 kw_392 kw_584) rfl rfl rfl (by decide +kernel) ⟨Nat.le_of_ble_eq_true rfl, Nat.le_of_ble_eq_true rfl⟩) ⟨gblind, va_recv hK hP (ci := 1) (q0 := k_35) rfl hk_35, fun U hU hW9 => gmk hU hW9 hP hK hD hex hE hS hFc⟩ rfl rfl hl.1 rfl (lv_room (Nat.le_of_ble_eq_true rfl)) dX1_shuffle_128 ⟨Nat.le_of_ble_eq_true rfl, Nat.le_of_ble_eq_true rfl⟩) hS (fun q _ h => hFc q h) hFc (fun  ws_36 t9 H1 locs ht9 hvm9 hw9 hB9 hz9 hk9 hS => ?_)
        obtain ⟨E_37, Fr_38, hG, hP1, hD1⟩ := hB9
        have hP : va_P (gD g) cl0 ws_36 H1 := by rw [← ht9]; exact hP1
        have hD : va_D A ws_36 := hD1.weaken (fun _ _ _ h => hFc _ h)
        clear hP1 hD1 hz9 hk9 hvm9 ht9 hw9
        generalize H1 = H at hP hS ⊢
        have o_h0 := E_37.1 _ _ o_h0
        refine lv_aload_n hx hb dX1_shuffle_131 rfl (lv_at hl 1 rfl) ?_
        refine lv_iload_n hx hb dX1_shuffle_132 rfl (lv_at hl 3 rfl) ?_
        have hFc := gfree hD hS hA
        obtain ⟨k_41, fs_41, hk_41⟩ := gC_of o_h0
        refine va_callv (va_runV (As := [.int r_4]) (rest := []) ⟨hx, hb, hml, hown, hts⟩ (m_X1_push l g H.size ws_36 h0 (r_4) hG o_h0) (cwV 1 hts (gd_V kw_526 kw_585 kw_586 kw_392 kw_584) rfl rfl rfl (by decide +kernel) ⟨Nat.le_of_ble_eq_true rfl, Nat.le_of_ble_eq_true rfl⟩) ⟨gblind, va_recv hK hP (ci := 1) (q0 := k_41) rfl hk_41, fun U hU hW9 => gmk hU hW9 hP hK hD hex hE hS hFc⟩ rfl rfl hl.1 rfl (lv_room (Nat.le_of_ble_eq_true rfl)) dX1_shuffle_133 ⟨Nat.le_of_ble_eq_true rfl, Nat.le_of_ble_eq_true rfl⟩) hS (fun q _ h => hFc q h) hFc (fun  ws_42 t9 H1 locs ht9 hvm9 hw9 hB9 hz9 hk9 hS => ?_)
        obtain ⟨E_43, Fr_44, hG, hP1, hD1⟩ := hB9
        have hP : va_P (gD g) cl0 ws_42 H1 := by rw [← ht9]; exact hP1
        have hD : va_D A ws_42 := hD1.weaken (fun _ _ _ h => hFc _ h)
        clear hP1 hD1 hz9 hk9 hvm9 ht9 hw9
        generalize H1 = H at hP hS ⊢
        have o_h0 := E_43.1 _ _ o_h0
        refine lv_goto (tgt := 175) hx hb dX1_shuffle_136 (by decide) ?_
        exact J_175 ws_42 H locs ls ((E_31.tr (E_37.tr E_43))) ((gF.tr Fr_32 (gF.tr Fr_38 Fr_44))) hG hP hD hS (lv_sub hl [] rfl)
      have K_67_139 : W p l e (headSpec (wt yX1_shuffle cX1_shuffle 4 none) ({ frames := 3, cells := 0, slots := 0, locals := 63 })).room s m ([.ref h0, .int x1] : List Value).toArray below meth c H locs (0) (0) (MQ below (va_Qv (fun (u9 : va_W) => True) (gQ1 g [(1, 5), (1, 6)] [(1, 4)] none A ws) A) ([.ref h0, .int x1] : List Value).toArray s (0) (0) A) (F0 m 139 ls []) := by
        refine lv_aload_n hx hb dX1_shuffle_139 rfl (lv_at hl 1 rfl) ?_
        refine lv_iload_n hx hb dX1_shuffle_140 rfl (lv_at hl 0 rfl) ?_
        have hFc := gfree hD hS hA
        obtain ⟨k_47, fs_47, hk_47⟩ := gC_of o_h0
        refine va_callv (va_runV (As := [.int t_10]) (rest := []) ⟨hx, hb, hml, hown, hts⟩ (m_X1_push l g H.size ws_11 h0 (t_10) hG o_h0) (cwV 1 hts (gd_V kw_526 kw_585 kw_586 kw_392 kw_584) rfl rfl rfl (by decide +kernel) ⟨Nat.le_of_ble_eq_true rfl, Nat.le_of_ble_eq_true rfl⟩) ⟨gblind, va_recv hK hP (ci := 1) (q0 := k_47) rfl hk_47, fun U hU hW9 => gmk hU hW9 hP hK hD hex hE hS hFc⟩ rfl rfl hl.1 rfl (lv_room (Nat.le_of_ble_eq_true rfl)) dX1_shuffle_141 ⟨Nat.le_of_ble_eq_true rfl, Nat.le_of_ble_eq_true rfl⟩) hS (fun q _ h => hFc q h) hFc (fun  ws_48 t9 H1 locs ht9 hvm9 hw9 hB9 hz9 hk9 hS => ?_)
        obtain ⟨E_49, Fr_50, hG, hP1, hD1⟩ := hB9
        have hP : va_P (gD g) cl0 ws_48 H1 := by rw [← ht9]; exact hP1
        have hD : va_D A ws_48 := hD1.weaken (fun _ _ _ h => hFc _ h)
        clear hP1 hD1 hz9 hk9 hvm9 ht9 hw9
        generalize H1 = H at hP hS ⊢
        have o_h0 := E_49.1 _ _ o_h0
        refine lv_aload_n hx hb dX1_shuffle_144 rfl (lv_at hl 1 rfl) ?_
        refine lv_iload_n hx hb dX1_shuffle_145 rfl (lv_at hl 3 rfl) ?_
        have hFc := gfree hD hS hA
        obtain ⟨k_53, fs_53, hk_53⟩ := gC_of o_h0
        refine va_callv (va_runV (As := [.int r_4]) (rest := []) ⟨hx, hb, hml, hown, hts⟩ (m_X1_push l g H.size ws_48 h0 (r_4) hG o_h0) (cwV 1 hts (gd_V kw_526 kw_585 kw_586 kw_392 kw_584) rfl rfl rfl (by decide +kernel) ⟨Nat.le_of_ble_eq_true rfl, Nat.le_of_ble_eq_true rfl⟩) ⟨gblind, va_recv hK hP (ci := 1) (q0 := k_53) rfl hk_53, fun U hU hW9 => gmk hU hW9 hP hK hD hex hE hS hFc⟩ rfl rfl hl.1 rfl (lv_room (Nat.le_of_ble_eq_true rfl)) dX1_shuffle_146 ⟨Nat.le_of_ble_eq_true rfl, Nat.le_of_ble_eq_true rfl⟩) hS (fun q _ h => hFc q h) hFc (fun  ws_54 t9 H1 locs ht9 hvm9 hw9 hB9 hz9 hk9 hS => ?_)
        obtain ⟨E_55, Fr_56, hG, hP1, hD1⟩ := hB9
        have hP : va_P (gD g) cl0 ws_54 H1 := by rw [← ht9]; exact hP1
        have hD : va_D A ws_54 := hD1.weaken (fun _ _ _ h => hFc _ h)
        clear hP1 hD1 hz9 hk9 hvm9 ht9 hw9
        generalize H1 = H at hP hS ⊢
        have o_h0 := E_55.1 _ _ o_h0
        refine lv_aload_n hx hb dX1_shuffle_149 rfl (lv_at hl 1 rfl) ?_
        refine lv_iload_n hx hb dX1_shuffle_150 rfl (lv_at hl 0 rfl) ?_
        have hFc := gfree hD hS hA
        obtain ⟨k_59, fs_59, hk_59⟩ := gC_of o_h0
        refine va_callv (va_runV (As := [.int t_10]) (rest := []) ⟨hx, hb, hml, hown, hts⟩ (m_X1_push l g H.size ws_54 h0 (t_10) hG o_h0) (cwV 1 hts (gd_V kw_526 kw_585 kw_586 kw_392 kw_584) rfl rfl rfl (by decide +kernel) ⟨Nat.le_of_ble_eq_true rfl, Nat.le_of_ble_eq_true rfl⟩) ⟨gblind, va_recv hK hP (ci := 1) (q0 := k_59) rfl hk_59, fun U hU hW9 => gmk hU hW9 hP hK hD hex hE hS hFc⟩ rfl rfl hl.1 rfl (lv_room (Nat.le_of_ble_eq_true rfl)) dX1_shuffle_151 ⟨Nat.le_of_ble_eq_true rfl, Nat.le_of_ble_eq_true rfl⟩) hS (fun q _ h => hFc q h) hFc (fun  ws_60 t9 H1 locs ht9 hvm9 hw9 hB9 hz9 hk9 hS => ?_)
        obtain ⟨E_61, Fr_62, hG, hP1, hD1⟩ := hB9
        have hP : va_P (gD g) cl0 ws_60 H1 := by rw [← ht9]; exact hP1
        have hD : va_D A ws_60 := hD1.weaken (fun _ _ _ h => hFc _ h)
        clear hP1 hD1 hz9 hk9 hvm9 ht9 hw9
        generalize H1 = H at hP hS ⊢
        have o_h0 := E_61.1 _ _ o_h0
        refine lv_aload_n hx hb dX1_shuffle_154 rfl (lv_at hl 1 rfl) ?_
        refine lv_iload_n hx hb dX1_shuffle_155 rfl (lv_at hl 3 rfl) ?_
        have hFc := gfree hD hS hA
        obtain ⟨k_65, fs_65, hk_65⟩ := gC_of o_h0
        refine va_callv (va_runV (As := [.int r_4]) (rest := []) ⟨hx, hb, hml, hown, hts⟩ (m_X1_push l g H.size ws_60 h0 (r_4) hG o_h0) (cwV 1 hts (gd_V kw_526 kw_585 kw_586 kw_392 kw_584) rfl rfl rfl (by decide +kernel) ⟨Nat.le_of_ble_eq_true rfl, Nat.le_of_ble_eq_true rfl⟩) ⟨gblind, va_recv hK hP (ci := 1) (q0 := k_65) rfl hk_65, fun U hU hW9 => gmk hU hW9 hP hK hD hex hE hS hFc⟩ rfl rfl hl.1 rfl (lv_room (Nat.le_of_ble_eq_true rfl)) dX1_shuffle_156 ⟨Nat.le_of_ble_eq_true rfl, Nat.le_of_ble_eq_true rfl⟩) hS (fun q _ h => hFc q h) hFc (fun  ws_66 t9 H1 locs ht9 hvm9 hw9 hB9 hz9 hk9 hS => ?_)
        obtain ⟨E_67, Fr_68, hG, hP1, hD1⟩ := hB9
        have hP : va_P (gD g) cl0 ws_66 H1 := by rw [← ht9]; exact hP1
        have hD : va_D A ws_66 := hD1.weaken (fun _ _ _ h => hFc _ h)
        clear hP1 hD1 hz9 hk9 hvm9 ht9 hw9
        generalize H1 = H at hP hS ⊢
        have o_h0 := E_67.1 _ _ o_h0
        refine lv_goto (tgt := 175) hx hb dX1_shuffle_159 (by decide) ?_
        exact J_175 ws_66 H locs ls ((E_49.tr (E_55.tr (E_61.tr E_67)))) ((gF.tr Fr_50 (gF.tr Fr_56 (gF.tr Fr_62 Fr_68)))) hG hP hD hS (lv_sub hl [] rfl)
      have K_67_162 : W p l e (headSpec (wt yX1_shuffle cX1_shuffle 4 none) ({ frames := 3, cells := 0, slots := 0, locals := 63 })).room s m ([.ref h0, .int x1] : List Value).toArray below meth c H locs (0) (0) (MQ below (va_Qv (fun (u9 : va_W) => True) (gQ1 g [(1, 5), (1, 6)] [(1, 4)] none A ws) A) ([.ref h0, .int x1] : List Value).toArray s (0) (0) A) (F0 m 162 ls []) := by
        refine lv_aload_n hx hb dX1_shuffle_162 rfl (lv_at hl 1 rfl) ?_
        refine lv_iload_n hx hb dX1_shuffle_163 rfl (lv_at hl 3 rfl) ?_
        have hFc := gfree hD hS hA
        obtain ⟨k_71, fs_71, hk_71⟩ := gC_of o_h0
        refine va_callv (va_runV (As := [.int r_4]) (rest := []) ⟨hx, hb, hml, hown, hts⟩ (m_X1_push l g H.size ws_11 h0 (r_4) hG o_h0) (cwV 1 hts (gd_V kw_526 kw_585 kw_586 kw_392 kw_584) rfl rfl rfl (by decide +kernel) ⟨Nat.le_of_ble_eq_true rfl, Nat.le_of_ble_eq_true rfl⟩) ⟨gblind, va_recv hK hP (ci := 1) (q0 := k_71) rfl hk_71, fun U hU hW9 => gmk hU hW9 hP hK hD hex hE hS hFc⟩ rfl rfl hl.1 rfl (lv_room (Nat.le_of_ble_eq_true rfl)) dX1_shuffle_164 ⟨Nat.le_of_ble_eq_true rfl, Nat.le_of_ble_eq_true rfl⟩) hS (fun q _ h => hFc q h) hFc (fun  ws_72 t9 H1 locs ht9 hvm9 hw9 hB9 hz9 hk9 hS => ?_)
        obtain ⟨E_73, Fr_74, hG, hP1, hD1⟩ := hB9
        have hP : va_P (gD g) cl0 ws_72 H1 := by rw [← ht9]; exact hP1
        have hD : va_D A ws_72 := hD1.weaken (fun _ _ _ h => hFc _ h)
        clear hP1 hD1 hz9 hk9 hvm9 ht9 hw9
        generalize H1 = H at hP hS ⊢
        have o_h0 := E_73.1 _ _ o_h0
        refine lv_aload_n hx hb dX1_shuffle_167 rfl (lv_at hl 1 rfl) ?_
        refine lv_iload_n hx hb dX1_shuffle_168 rfl (lv_at hl 0 rfl) ?_
        have hFc := gfree hD hS hA
        obtain ⟨k_77, fs_77, hk_77⟩ := gC_of o_h0
        refine va_callv (va_runV (As := [.int t_10]) (rest := []) ⟨hx, hb, hml, hown, hts⟩ (m_X1_push l g H.size ws_72 h0 (t_10) hG o_h0) (cwV 1 hts (gd_V kw_526 kw_585 kw_586 kw_392 kw_584) rfl rfl rfl (by decide +kernel) ⟨Nat.le_of_ble_eq_true rfl, Nat.le_of_ble_eq_true rfl⟩) ⟨gblind, va_recv hK hP (ci := 1) (q0 := k_77) rfl hk_77, fun U hU hW9 => gmk hU hW9 hP hK hD hex hE hS hFc⟩ rfl rfl hl.1 rfl (lv_room (Nat.le_of_ble_eq_true rfl)) dX1_shuffle_169 ⟨Nat.le_of_ble_eq_true rfl, Nat.le_of_ble_eq_true rfl⟩) hS (fun q _ h => hFc q h) hFc (fun  ws_78 t9 H1 locs ht9 hvm9 hw9 hB9 hz9 hk9 hS => ?_)
        obtain ⟨E_79, Fr_80, hG, hP1, hD1⟩ := hB9
        have hP : va_P (gD g) cl0 ws_78 H1 := by rw [← ht9]; exact hP1
        have hD : va_D A ws_78 := hD1.weaken (fun _ _ _ h => hFc _ h)
        clear hP1 hD1 hz9 hk9 hvm9 ht9 hw9
        generalize H1 = H at hP hS ⊢
        have o_h0 := E_79.1 _ _ o_h0
        refine lv_goto (tgt := 175) hx hb dX1_shuffle_172 (by decide) ?_
        exact J_175 ws_78 H locs ls ((E_73.tr E_79)) ((gF.tr Fr_74 Fr_80)) hG hP hD hS (lv_sub hl [] rfl)
      rcases Classical.em ((x1 : Int32).toInt < 89 ∨ 95 < (x1 : Int32).toInt) with c9 | c9
      · exact lv_tableOut (tgt := 175) hx hb dX1_shuffle_67 c9 (by decide) K_67_175
      · rcases (show (x1 : Int32).toInt = 89 ∨ (x1 : Int32).toInt = 90 ∨ (x1 : Int32).toInt = 91 ∨ (x1 : Int32).toInt = 92 ∨ (x1 : Int32).toInt = 93 ∨ (x1 : Int32).toInt = 94 ∨ (x1 : Int32).toInt = 95 by omega) with c9 | c9 | c9 | c9 | c9 | c9 | c9
        · exact lv_tableIn (off := 41) (tgt := 108) hx hb dX1_shuffle_67 (by rw [c9]; decide) (by rw [c9]; decide) (by rw [c9]; rfl) (by decide) K_67_108
        · exact lv_tableIn (off := 54) (tgt := 121) hx hb dX1_shuffle_67 (by rw [c9]; decide) (by rw [c9]; decide) (by rw [c9]; rfl) (by decide) K_67_121
        · exact lv_tableIn (off := 108) (tgt := 175) hx hb dX1_shuffle_67 (by rw [c9]; decide) (by rw [c9]; decide) (by rw [c9]; rfl) (by decide) K_67_175
        · exact lv_tableIn (off := 72) (tgt := 139) hx hb dX1_shuffle_67 (by rw [c9]; decide) (by rw [c9]; decide) (by rw [c9]; rfl) (by decide) K_67_139
        · exact lv_tableIn (off := 108) (tgt := 175) hx hb dX1_shuffle_67 (by rw [c9]; decide) (by rw [c9]; decide) (by rw [c9]; rfl) (by decide) K_67_175
        · exact lv_tableIn (off := 108) (tgt := 175) hx hb dX1_shuffle_67 (by rw [c9]; decide) (by rw [c9]; decide) (by rw [c9]; rfl) (by decide) K_67_175
        · exact lv_tableIn (off := 95) (tgt := 162) hx hb dX1_shuffle_67 (by rw [c9]; decide) (by rw [c9]; decide) (by rw [c9]; rfl) (by decide) K_67_162
    have J_57 : ∀  (H : Heap) (locs : List Loc) (ls : Array Slot), va_P (gD g) cl0 ws_5 H → va_D A ws_5 → va_S A s.heap H locs → lv_has ls 4 [(0, .ref h0), (1, .int x1), (2, .int r_4)] → W p l e (headSpec (wt yX1_shuffle cX1_shuffle 4 none) ({ frames := 3, cells := 0, slots := 0, locals := 63 })).room s m ([.ref h0, .int x1] : List Value).toArray below meth c H locs (0) (0) (MQ below (va_Qv (fun (u9 : va_W) => True) (gQ1 g [(1, 5), (1, 6)] [(1, 4)] none A ws) A) ([.ref h0, .int x1] : List Value).toArray s (0) (0) A) (F0 m 57 ls []) := by
      intro  H locs ls  hP hD hS hl
      refine lv_iconst (v := 0) hx hb dX1_shuffle_57 (by decide) ?_
      refine lv_goto (tgt := 65) hx hb dX1_shuffle_58 (by decide) ?_
      exact J_65 (0) ws_5 H locs ls (gE.rf) (gF.rf) hG hP hD hS (lv_sub hl [0, 1, 2] rfl)
    refine lv_icmp_eq (tgt := 57) hx hb dX1_shuffle_48 (by decide) (fun c_85 => ?_) (fun c_85 => ?_)
    · exact J_57  H locs ls  hP hD hS (lv_sub hl [1, 2, 0] rfl)
    · refine lv_iload_n hx hb dX1_shuffle_51 rfl (lv_at hl 2 rfl) ?_
      refine lv_bipush (v := 89) hx hb dX1_shuffle_52 (by decide) ?_
      refine lv_icmp_ne (tgt := 61) hx hb dX1_shuffle_54 (by decide) (fun c_86 => ?_) (fun c_86 => ?_)
      · refine lv_aload_n hx hb dX1_shuffle_61 rfl (lv_at hl 1 rfl) ?_
        have hFc := gfree hD hS hA
        obtain ⟨k_87, fs_87, hk_87⟩ := gC_of o_h0
        refine va_calli (va_runV (As := []) (rest := []) ⟨hx, hb, hml, hown, hts⟩ (m_X1_takeCopy l g H.size ws_5 h0 hG o_h0) (cwV 0 hts (gd_V kw_594 kw_606 kw_607 kw_392 kw_605) rfl rfl rfl (by decide +kernel) ⟨Nat.le_of_ble_eq_true rfl, Nat.le_of_ble_eq_true rfl⟩) ⟨gblind, va_recv hK hP (ci := 1) (q0 := k_87) rfl hk_87, fun U hU hW9 => gmk hU hW9 hP hK hD hex hE hS hFc⟩ rfl rfl hl.1 rfl (lv_room (Nat.le_of_ble_eq_true rfl)) dX1_shuffle_62 ⟨Nat.le_of_ble_eq_true rfl, Nat.le_of_ble_eq_true rfl⟩) hS (fun q _ h => hFc q h) hFc (fun r_88 ws_89 t9 H1 locs ht9 hvm9 hw9 hB9 hz9 hk9 hS => ?_)
        obtain ⟨E_90, Fr_91, hG, hP1, hD1⟩ := hB9
        have hP : va_P (gD g) cl0 ws_89 H1 := by rw [← ht9]; exact hP1
        have hD : va_D A ws_89 := hD1.weaken (fun _ _ _ h => hFc _ h)
        clear hP1 hD1 hz9 hk9 hvm9 ht9 hw9
        generalize H1 = H at hP hS ⊢
        have o_h0 := E_90.1 _ _ o_h0
        exact J_65 (r_88) ws_89 H locs ls (E_90) (Fr_91) hG hP hD hS (lv_sub hl [1, 2, 0] rfl)
      · exact J_57  H locs ls  hP hD hS (lv_sub hl [1, 2, 0] rfl)
  have J_12 : ∀  (H : Heap) (locs : List Loc) (ls : Array Slot), va_P (gD g) cl0 ws H → va_D A ws → va_S A s.heap H locs → lv_has ls 4 [(0, .ref h0), (1, .int x1)] → W p l e (headSpec (wt yX1_shuffle cX1_shuffle 4 none) ({ frames := 3, cells := 0, slots := 0, locals := 63 })).room s m ([.ref h0, .int x1] : List Value).toArray below meth c H locs (0) (0) (MQ below (va_Qv (fun (u9 : va_W) => True) (gQ1 g [(1, 5), (1, 6)] [(1, 4)] none A ws) A) ([.ref h0, .int x1] : List Value).toArray s (0) (0) A) (F0 m 12 ls []) := by
    intro  H locs ls  hP hD hS hl
    refine lv_aload_n hx hb dX1_shuffle_12 rfl (lv_at hl 0 rfl) ?_
    have hFc := gfree hD hS hA
    obtain ⟨k_96, fs_96, hk_96⟩ := gC_of o_h0
    refine va_calli (va_runV (As := []) (rest := []) ⟨hx, hb, hml, hown, hts⟩ (m_X1_hasLong l g H.size ws h0 hG o_h0) (cwV 0 hts (gd_V kw_593 kw_547 kw_548 kw_392 kw_546) rfl rfl rfl (by decide +kernel) ⟨Nat.le_of_ble_eq_true rfl, Nat.le_of_ble_eq_true rfl⟩) ⟨gblind, va_recv hK hP (ci := 1) (q0 := k_96) rfl hk_96, fun U hU hW9 => gmk hU hW9 hP hK hD hex hE hS hFc⟩ rfl rfl hl.1 rfl (lv_room (Nat.le_of_ble_eq_true rfl)) dX1_shuffle_13 ⟨Nat.le_of_ble_eq_true rfl, Nat.le_of_ble_eq_true rfl⟩) hS (fun q _ h => hFc q h) hFc (fun r_97 u9 t9 H1 locs ht9 hvm9 hw9 hB9 hz9 hk9 hS => ?_)
    have hP : va_P (gD g) cl0 ws H1 := by rw [← ht9]; exact hB9.1
    have hz_r_97 : r_97 = 0 ∨ r_97 = 1 := hw9
    clear hB9 hz9 hk9 hvm9 ht9 hw9
    generalize H1 = H at hP hS ⊢
    refine lv_if_eq (tgt := 40) hx hb dX1_shuffle_16 (by decide) (fun c_98 => ?_) (fun c_98 => ?_)
    · exact J_40  H locs ls  hP hD hS (lv_sub hl [0, 1] rfl)
    · refine lv_iload_n hx hb dX1_shuffle_19 rfl (lv_at hl 1 rfl) ?_
      refine lv_bipush (v := 88) hx hb dX1_shuffle_20 (by decide) ?_
      have J_39 : ∀ (ws_99 : va_W) (H : Heap) (locs : List Loc) (ls : Array Slot), gE ws ws_99 → gF [(1, 5), (1, 6)] [(1, 4)] none ws ws_99 → Good g ws_99 → va_P (gD g) cl0 ws_99 H → va_D A ws_99 → va_S A s.heap H locs → lv_has ls 4 [] → W p l e (headSpec (wt yX1_shuffle cX1_shuffle 4 none) ({ frames := 3, cells := 0, slots := 0, locals := 63 })).room s m ([.ref h0, .int x1] : List Value).toArray below meth c H locs (0) (0) (MQ below (va_Qv (fun (u9 : va_W) => True) (gQ1 g [(1, 5), (1, 6)] [(1, 4)] none A ws) A) ([.ref h0, .int x1] : List Value).toArray s (0) (0) A) (F0 m 39 ls []) := by
        intro ws_99 H locs ls  E_100 Fr_101 hG hP hD hS hl
        have o_h0 := E_100.1 _ _ o_h0
        refine W.widen (k := 0) (n := 0) (Nat.le_of_ble_eq_true rfl) (Nat.le_of_ble_eq_true rfl) ?_
        exact W.vret hx hb hr (fun t9 ht9 hW9 => ⟨⟨ws_99, rfl, trivial, ⟨E_100, Fr_101, hG, by rw [ht9]; exact hP, hD⟩⟩, hS.F ht9⟩) hS.2.2 dX1_shuffle_39
      refine lv_icmp_ne (tgt := 34) hx hb dX1_shuffle_22 (by decide) (fun c_102 => ?_) (fun c_102 => ?_)
      · refine lv_aload_n hx hb dX1_shuffle_34 rfl (lv_at hl 0 rfl) ?_
        refine lv_iconst (v := 2) hx hb dX1_shuffle_35 (by decide) ?_
        have hFc := gfree hD hS hA
        obtain ⟨k_103, fs_103, hk_103⟩ := gC_of o_h0
        refine va_callv (va_runV (As := [.int 2]) (rest := []) ⟨hx, hb, hml, hown, hts⟩ (m_X1_give l g H.size ws h0 (2) hG o_h0) (cwV 1 hts (gd_V kw_541 kw_524 kw_525 kw_392 kw_523) rfl rfl rfl (by decide +kernel) ⟨Nat.le_of_ble_eq_true rfl, Nat.le_of_ble_eq_true rfl⟩) ⟨gblind, va_recv hK hP (ci := 1) (q0 := k_103) rfl hk_103, fun U hU hW9 => gmk hU hW9 hP hK hD hex hE hS hFc⟩ rfl rfl hl.1 rfl (lv_room (Nat.le_of_ble_eq_true rfl)) dX1_shuffle_36 ⟨Nat.le_of_ble_eq_true rfl, Nat.le_of_ble_eq_true rfl⟩) hS (fun q _ h => hFc q h) hFc (fun  ws_104 t9 H1 locs ht9 hvm9 hw9 hB9 hz9 hk9 hS => ?_)
        obtain ⟨E_105, Fr_106, hG, hP1, hD1⟩ := hB9
        have hP : va_P (gD g) cl0 ws_104 H1 := by rw [← ht9]; exact hP1
        have hD : va_D A ws_104 := hD1.weaken (fun _ _ _ h => hFc _ h)
        clear hP1 hD1 hz9 hk9 hvm9 ht9 hw9
        generalize H1 = H at hP hS ⊢
        have o_h0 := E_105.1 _ _ o_h0
        exact J_39 ws_104 H locs ls (E_105) ((gF.mo (F' := [(1, 5), (1, 6)]) (C' := [(1, 4)]) (S' := none) Fr_106 (by decide) (fun _ h => h) (Or.inr rfl))) hG hP hD hS (lv_sub hl [] rfl)
      · refine lv_aload_n hx hb dX1_shuffle_25 rfl (lv_at hl 0 rfl) ?_
        refine lv_iconst (v := 2) hx hb dX1_shuffle_26 (by decide) ?_
        have hFc := gfree hD hS hA
        obtain ⟨k_109, fs_109, hk_109⟩ := gC_of o_h0
        refine va_calli (va_runV (As := [.int 2]) (rest := []) ⟨hx, hb, hml, hown, hts⟩ (m_X1_take l g H.size ws h0 (2) hG o_h0) (cwV 1 hts (gd_V kw_539 kw_601 kw_602 kw_392 kw_600) rfl rfl rfl (by decide +kernel) ⟨Nat.le_of_ble_eq_true rfl, Nat.le_of_ble_eq_true rfl⟩) ⟨gblind, va_recv hK hP (ci := 1) (q0 := k_109) rfl hk_109, fun U hU hW9 => gmk hU hW9 hP hK hD hex hE hS hFc⟩ rfl rfl hl.1 rfl (lv_room (Nat.le_of_ble_eq_true rfl)) dX1_shuffle_27 ⟨Nat.le_of_ble_eq_true rfl, Nat.le_of_ble_eq_true rfl⟩) hS (fun q _ h => hFc q h) hFc (fun r_110 ws_111 t9 H1 locs ht9 hvm9 hw9 hB9 hz9 hk9 hS => ?_)
        obtain ⟨E_112, Fr_113, hG, hP1, hD1⟩ := hB9
        have hP : va_P (gD g) cl0 ws_111 H1 := by rw [← ht9]; exact hP1
        have hD : va_D A ws_111 := hD1.weaken (fun _ _ _ h => hFc _ h)
        clear hP1 hD1 hz9 hk9 hvm9 ht9 hw9
        generalize H1 = H at hP hS ⊢
        have o_h0 := E_112.1 _ _ o_h0
        refine lv_pop hx hb dX1_shuffle_30 rfl ?_
        refine lv_goto (tgt := 39) hx hb dX1_shuffle_31 (by decide) ?_
        exact J_39 ws_111 H locs ls (E_112) ((gF.mo (F' := [(1, 5), (1, 6)]) (C' := [(1, 4)]) (S' := none) Fr_113 (fun _ h => h) (fun _ h => absurd h List.not_mem_nil) (Or.inr rfl))) hG hP hD hS (lv_sub hl [] rfl)
  refine lv_icmp_eq (tgt := 12) hx hb dX1_shuffle_3 (by decide) (fun c_116 => ?_) (fun c_116 => ?_)
  · exact J_12  _ _ ls  hP hD hS (lv_sub hl [0, 1] rfl)
  · refine lv_iload_n hx hb dX1_shuffle_6 rfl (lv_at hl 1 rfl) ?_
    refine lv_bipush (v := 92) hx hb dX1_shuffle_7 (by decide) ?_
    refine lv_icmp_ne (tgt := 40) hx hb dX1_shuffle_9 (by decide) (fun c_117 => ?_) (fun c_117 => ?_)
    · exact J_40  _ _ ls  hP hD hS (lv_sub hl [0, 1] rfl)
    · exact J_12  _ _ ls  hP hD hS (lv_sub hl [0, 1] rfl)
set_option maxHeartbeats 1000000 in
set_option maxRecDepth 100000 in
theorem m_X1_comeTo (l : Launch) (g : Gm) (sz : Nat) (ws : va_W) (h0 : Nat) (x1 : Int32) (hG : Good g ws) (o_h0 : gC ws h0 1) (nn_h0_9 : gN ws h0 9) (f2_c : ∀ (k k2 b : Nat) (fs gs : List Value), ows ws k h0 1 fs → fs[9]? = some (.ref b) → ows ws k2 b 7 gs → ∀ c : Int32, gs[2]? = some (.int c) → ∀ (rn n : Nat), fs[2]? = some (.ref rn) → gI ws rn g.cZ n → c.toInt ≤ n) : Met l yX1_comeTo (wt yX1_comeTo cX1_comeTo 6 none) ({ frames := 2, cells := 0, slots := 0, locals := 41 }) (va_Pc [.ref h0, .int x1] (st_G g sz ws)) (va_Qv (fun (u9 : va_W) => True) (gQ1 g [(1, 7)] [(1, 1), (1, 2), (1, 3)] none (va_A ws sz) ws) (va_A ws sz)) (0) (0) (va_A ws sz) := by
  refine Met.ofW (cc := cX1_comeTo) (maxL := 6) (ret := none) (by decide) rfl ?_
  intro p e s m args below meth c s₁ B hml hv
  obtain ⟨rfl, hsz, hP, hK, hD0, hex, hE⟩ := hv
  have hx := B.exec
  have hb := B.bytes
  have hr := B.returns
  have hts0 := atoms_spec (ws := wt yX1_comeTo cX1_comeTo 6 none) B.pre
  have hts : ∀ w ∈ tb, w.before _ s = true := fun w h => hts0 w (List.mem_cons_of_mem _ h)
  have hown : s.vm.findClass RX1 = some m.cls := findClass_of_methodNamed B.named
  subst hsz
  have hD := hD0.self (sz := s.heap.size)
  generalize hAe : va_A ws s.heap.size = A at hD hE ⊢
  have hA : ∀ q : Nat, s.heap.size ≤ q → A q := fun q h => by rw [← hAe]; exact Or.inr h
  have hS : va_S A s.heap s.heap [] := va_S.rf
  have hl := lv_entry ([.ref h0, .int x1]) (n := 6) (Nat.le_of_ble_eq_true rfl)
  rw [lg_entry_eq]
  generalize (lg_sl ([.ref h0, .int x1]) ++ List.replicate (6 - (lg_sl ([.ref h0, .int x1])).length) Slot.unset).toArray = ls at hl ⊢
  have hl : lv_has ls 6 [(0, .ref h0), (1, .int x1)] := hl
  obtain ⟨k_1, fs9, hk_1⟩ := gC_of o_h0
  obtain ⟨r0_1, r1_1, n1_1, r2_1, n2_1, r3_1, n3_1, r4_1, n4_1, c5_1, c6_1, c7_1, v8_1, v9_1, rfl, o_r0_1, a_r1_1, f2_1, a_r2_1, f4_1, a_r3_1, f6_1, a_r4_1, f8_1, hz_c6_1, hz_c7_1, o_v8_1, o_v9_1, f13_1, f14_1, f15_1, f16_1, -⟩ := (hG.1 _ _ _ _ hk_1).hX1 rfl
  obtain ⟨b_2, hn9⟩ := nn_h0_9 _ _ _ hk_1
  have hn9 := fe_qr hn9
  subst hn9
  have o_b_2 := o_v9_1 _ rfl
  obtain ⟨k_3, fs9, hk_3⟩ := gC_of o_b_2
  obtain ⟨r0_3, n0_3, r1_3, n1_3, c2_3, r3_3, n3_3, c4_3, r5_3, n5_3, r6_3, n6_3, r7_3, n7_3, r8_3, n8_3, c9_3, c10_3, c11_3, v12_3, v13_3, v14_3, rfl, a_r0_3, f1_3, a_r1_3, f3_3, a_r3_3, f5_3, a_r5_3, f7_3, a_r6_3, f9_3, a_r7_3, f11_3, a_r8_3, f13_3, o_v12_3, o_v13_3, o_v14_3, f17_3, f18_3, f19_3, f20_3, f21_3, f22_3, f23_3, f24_3, f25_3, f26_3, f27_3, f28_3, f29_3, -⟩ := (hG.1 _ _ _ _ hk_3).hX8 rfl
  have fq2_c := f2_c _ _ _ _ _ hk_1 rfl hk_3 _ rfl _ _ rfl a_r2_1
  refine lv_iload_n hx hb dX1_comeTo_0 rfl (lv_at hl 1 rfl) ?_
  have J_26 : ∀  (H : Heap) (locs : List Loc) (ls : Array Slot), va_P (gD g) cl0 ws H → va_D A ws → va_S A s.heap H locs → lv_has ls 6 [] → W p l e (headSpec (wt yX1_comeTo cX1_comeTo 6 none) ({ frames := 2, cells := 0, slots := 0, locals := 41 })).room s m ([.ref h0, .int x1] : List Value).toArray below meth c H locs (0) (0) (MQ below (va_Qv (fun (u9 : va_W) => True) (gQ1 g [(1, 7)] [(1, 1), (1, 2), (1, 3)] none A ws) A) ([.ref h0, .int x1] : List Value).toArray s (0) (0) A) (F0 m 26 ls []) := by
    intro  H locs ls  hP hD hS hl
    refine W.widen (k := 0) (n := 0) (Nat.le_of_ble_eq_true rfl) (Nat.le_of_ble_eq_true rfl) ?_
    exact W.vret hx hb hr (fun t9 ht9 hW9 => ⟨⟨ws, rfl, trivial, ⟨gE.rf, gF.rf, hG, by rw [ht9]; exact hP, hD⟩⟩, hS.F ht9⟩) hS.2.2 dX1_comeTo_26
  refine lv_if_lt (tgt := 26) hx hb dX1_comeTo_1 (by decide) (fun c_6 => ?_) (fun c_6 => ?_)
  · exact J_26  _ _ ls  hP hD hS (lv_sub hl [] rfl)
  · refine lv_iload_n hx hb dX1_comeTo_4 rfl (lv_at hl 1 rfl) ?_
    refine lv_aload_n hx hb dX1_comeTo_5 rfl (lv_at hl 0 rfl) ?_
    refine va_get (D := gD g) (ci := 1) (v := .ref b_2) (C := RX1) (T := TX1) (N := 10) hx hb hts inX1 hown hK hP k_1 hk_1 rfl 9 (by decide) (hts _ kw_479) (fun _ h9 => h9) rfl dX1_comeTo_6 ?_
    refine va_get (D := gD g) (ci := 7) (v := .int c2_3) (C := RX8) (T := TX8) (N := 15) hx hb hts inX8 hown hK hP k_3 hk_3 rfl 2 (by decide) (hts _ kw_491) (fun _ h9 => h9) rfl dX1_comeTo_9 ?_
    refine lv_icmp_ge (tgt := 26) hx hb dX1_comeTo_12 (by decide) (fun c_7 => ?_) (fun c_7 => ?_)
    · exact J_26  _ _ ls  hP hD hS (lv_sub hl [] rfl)
    · refine lv_aload_n hx hb dX1_comeTo_15 rfl (lv_at hl 0 rfl) ?_
      refine va_get (D := gD g) (ci := 1) (v := .ref r0_1) (C := RX1) (T := TX1) (N := 10) hx hb hts inX1 hown hK hP k_1 hk_1 rfl 0 (by decide) (hts _ kw_492) (fun _ h9 => h9) rfl dX1_comeTo_16 ?_
      refine lv_iload_n hx hb dX1_comeTo_19 rfl (lv_at hl 1 rfl) ?_
      have hFc := gfree hD hS hA
      obtain ⟨k_8, fs_8, hk_8⟩ := gC_of o_r0_1
      refine va_calli (va_runV (As := [.int x1]) (rest := []) ⟨hx, hb, hml, hown, hts⟩ (m_X4_isWrong l g s.heap.size ws r0_1 (x1) hG o_r0_1) (cwV 1 hts (gd_V kw_493 kw_968 kw_969 kw_167 kw_967) rfl rfl rfl (by decide +kernel) ⟨Nat.le_of_ble_eq_true rfl, Nat.le_of_ble_eq_true rfl⟩) ⟨gblind, va_recv hK hP (ci := 4) (q0 := k_8) rfl hk_8, fun U hU hW9 => gmk hU hW9 hP hK hD hex hE hS hFc⟩ rfl rfl hl.1 rfl (lv_room (Nat.le_of_ble_eq_true rfl)) dX1_comeTo_20 ⟨Nat.le_of_ble_eq_true rfl, Nat.le_of_ble_eq_true rfl⟩) hS (fun q _ h => hFc q h) hFc (fun r_9 u9 t9 H1 locs ht9 hvm9 hw9 hB9 hz9 hk9 hS => ?_)
      have hP : va_P (gD g) cl0 ws H1 := by rw [← ht9]; exact hB9.1
      have hz_r_9 : r_9 = 0 ∨ r_9 = 1 := hw9
      clear hB9 hz9 hk9 hvm9 ht9 hw9
      generalize H1 = H at hP hS ⊢
      refine lv_if_eq (tgt := 27) hx hb dX1_comeTo_23 (by decide) (fun c_10 => ?_) (fun c_10 => ?_)
      · refine lv_iload_n hx hb dX1_comeTo_27 rfl (lv_at hl 1 rfl) ?_
        refine lv_bipush (v := 48) hx hb dX1_comeTo_28 (by decide) ?_
        refine lv_imul hx hb dX1_comeTo_30 ?_
        refine lv_topi (fun z_11 ez_11 => ?_)
        refine lv_istore_n (lv' := [(2, .int z_11), (0, .ref h0), (1, .int x1)]) hx hb dX1_comeTo_31 rfl hl (by decide) rfl (fun ls hl => ?_)
        refine lv_aload_n hx hb dX1_comeTo_32 rfl (lv_at hl 1 rfl) ?_
        refine va_get (D := gD g) (ci := 1) (v := .ref r2_1) (C := RX1) (T := TX1) (N := 10) hx hb hts inX1 hown hK hP k_1 hk_1 rfl 2 (by decide) (hts _ kw_494) (fun _ h9 => h9) rfl dX1_comeTo_33 ?_
        refine lv_iload_n hx hb dX1_comeTo_36 rfl (lv_at hl 2 rfl) ?_
        obtain ⟨k_12, f_12, hk_12⟩ := gI_of a_r2_1
        refine va_zald hx hb hK hP k_12 2 hk_12 rfl (i_in2 (by have e0 : (0 : Int32).toInt = 0 := (by decide); have q_f4_1 := f4_1; have q_f14_1 := f14_1; have q_f15_1 := f15_1; have q_f16_1 := f16_1; have q_fq2_c := fq2_c; have q_c_6 := i_nlt c_6; have q_c_7 := i_nle c_7; have q_z_11 := i_mulR (c := 48) (K := 44739242) ez_11 (by decide) (by decide) (by decide) (by decide); have q_f2_1 := f2_1; have q_f6_1 := f6_1; have q_f19_3 := f19_3; have q_f20_3 := f20_3; have q_f1_3 := f1_3; have q_f17_3 := f17_3; have q_f18_3 := f18_3; have g_c2_3 := i_rg c2_3; have g_x1 := i_rg x1; have g_z_11 := i_rg z_11; omega)) dX1_comeTo_37 ?_
        refine lv_topi (fun z_13 ez_13 => ?_)
        have J_46 : ∀ (t_14 : Int32) (H : Heap) (locs : List Loc) (ls : Array Slot), t_14 = 0 ∨ t_14 = 1 → va_P (gD g) cl0 ws H → va_D A ws → va_S A s.heap H locs → lv_has ls 6 [(0, .ref h0), (1, .int x1), (2, .int z_11)] → W p l e (headSpec (wt yX1_comeTo cX1_comeTo 6 none) ({ frames := 2, cells := 0, slots := 0, locals := 41 })).room s m ([.ref h0, .int x1] : List Value).toArray below meth c H locs (0) (0) (MQ below (va_Qv (fun (u9 : va_W) => True) (gQ1 g [(1, 7)] [(1, 1), (1, 2), (1, 3)] none A ws) A) ([.ref h0, .int x1] : List Value).toArray s (0) (0) A) (F0 m 46 ls [.int t_14]) := by
          intro t_14 H locs ls iv_15 hP hD hS hl
          have hz_t_14 := iv_15
          refine lv_istore_n (lv' := [(3, .int t_14), (0, .ref h0), (1, .int x1), (2, .int z_11)]) hx hb dX1_comeTo_46 rfl hl (by decide) rfl (fun ls hl => ?_)
          refine lv_iconst (v := 0) hx hb dX1_comeTo_47 (by decide) ?_
          refine lv_istore (lv' := [(4, .int 0), (3, .int t_14), (0, .ref h0), (1, .int x1), (2, .int z_11)]) hx hb dX1_comeTo_48 hl (by decide) rfl (fun ls hl => ?_)
          have J_50 : ∀ (n9 : Nat) (v4_18 : Int32) (ws_20 : va_W) (H : Heap) (locs : List Loc) (ls : Array Slot), (2147483647 - v4_18.toInt).toNat = n9 → 0 ≤ v4_18.toInt → gE ws ws_20 → gF [(1, 7)] [(1, 1), (1, 3)] none ws ws_20 → Good g ws_20 → va_P (gD g) cl0 ws_20 H → va_D A ws_20 → va_S A s.heap H locs → lv_has ls 6 [(0, .ref h0), (1, .int x1), (2, .int z_11), (3, .int t_14), (4, .int v4_18)] → W p l e (headSpec (wt yX1_comeTo cX1_comeTo 6 none) ({ frames := 2, cells := 0, slots := 0, locals := 41 })).room s m ([.ref h0, .int x1] : List Value).toArray below meth c H locs (0) (0) (MQ below (va_Qv (fun (u9 : va_W) => True) (gQ1 g [(1, 7)] [(1, 1), (1, 2), (1, 3)] none A ws) A) ([.ref h0, .int x1] : List Value).toArray s (0) (0) A) (F0 m 50 ls []) := by
            intro n9
            induction n9 using Nat.strongRecOn with
            | ind n9 ih_50 =>
              intro v4_18 ws_20 H locs ls hm9 iv_19 E_21 Fr_22 hG hP hD hS hl
              subst hm9
              have aa_23 := a_r1_1
              have aa_24 := a_r2_1
              have aa_25 := a_r3_1
              have aa_26 := a_r4_1
              have aa_27 := a_r0_3
              have aa_28 := a_r1_3
              have aa_29 := a_r3_3
              have aa_30 := a_r5_3
              have aa_31 := a_r6_3
              have aa_32 := a_r7_3
              have aa_33 := a_r8_3
              have o_h0 := E_21.1 _ _ o_h0
              refine lv_iload hx hb dX1_comeTo_50 (lv_at hl 4 rfl) ?_
              refine lv_bipush (v := 24) hx hb dX1_comeTo_52 (by decide) ?_
              refine lv_aload_n hx hb dX1_comeTo_54 rfl (lv_at hl 0 rfl) ?_
              obtain ⟨fs9, hk_34, hq_34⟩ := ((gF.a (F' := [(1, 7)]) Fr_22 (fun _ h => h))) _ _ _ hk_1
              obtain ⟨r0_34, r1_34, n1_34, r2_34, n2_34, r3_34, n3_34, r4_34, n4_34, c5_34, c6_34, c7_34, v8_34, v9_34, rfl, o_r0_34, a_r1_34, f2_34, a_r2_34, f4_34, a_r3_34, f6_34, a_r4_34, f8_34, hz_c6_34, hz_c7_34, o_v8_34, o_v9_34, f13_34, f14_34, f15_34, f16_34, -⟩ := (hG.1 _ _ _ _ hk_34).hX1 rfl
              obtain rfl := fe_r (hq_34 0 (by decide))
              have o_r0_1 := o_r0_34
              obtain rfl := fe_r (hq_34 1 (by decide))
              have hn9 := gI_n hD ((E_21).1 _ _ aa_23) a_r1_34
              subst hn9
              have a_r1_1 := a_r1_34
              obtain rfl := fe_r (hq_34 2 (by decide))
              have hn9 := gI_n hD ((E_21).1 _ _ aa_24) a_r2_34
              subst hn9
              have a_r2_1 := a_r2_34
              obtain rfl := fe_r (hq_34 3 (by decide))
              have hn9 := gI_n hD ((E_21).1 _ _ aa_25) a_r3_34
              subst hn9
              have a_r3_1 := a_r3_34
              obtain rfl := fe_r (hq_34 4 (by decide))
              have hn9 := gI_n hD ((E_21).1 _ _ aa_26) a_r4_34
              subst hn9
              have a_r4_1 := a_r4_34
              obtain rfl := fe_i (hq_34 5 (by decide))
              obtain rfl := fe_q (hq_34 8 (by decide))
              have o_v8_1 := o_v8_34
              have hn9 := fe_qr (hq_34 9 (by decide))
              subst hn9
              have o_b_2 := o_v9_34 _ rfl
              refine va_get (D := gD g) (ci := 1) (v := .int c5_1) (C := RX1) (T := TX1) (N := 10) hx hb hts inX1 hown hK hP k_1 hk_34 rfl 5 (by decide) (hts _ kw_486) (fun _ h9 => h9) rfl dX1_comeTo_55 ?_
              refine lv_iadd hx hb dX1_comeTo_58 ?_
              refine lv_topi (fun z_35 ez_35 => ?_)
              have J_152 : ∀  (H : Heap) (locs : List Loc) (ls : Array Slot), va_P (gD g) cl0 ws_20 H → va_D A ws_20 → va_S A s.heap H locs → lv_has ls 6 [(0, .ref h0), (1, .int x1)] → W p l e (headSpec (wt yX1_comeTo cX1_comeTo 6 none) ({ frames := 2, cells := 0, slots := 0, locals := 41 })).room s m ([.ref h0, .int x1] : List Value).toArray below meth c H locs (0) (0) (MQ below (va_Qv (fun (u9 : va_W) => True) (gQ1 g [(1, 7)] [(1, 1), (1, 2), (1, 3)] none A ws) A) ([.ref h0, .int x1] : List Value).toArray s (0) (0) A) (F0 m 152 ls []) := by
                intro  H locs ls  hP hD hS hl
                refine lv_aload_n hx hb dX1_comeTo_152 rfl (lv_at hl 0 rfl) ?_
                refine va_get (D := gD g) (ci := 1) (v := .ref r2_1) (C := RX1) (T := TX1) (N := 10) hx hb hts inX1 hown hK hP k_1 hk_34 rfl 2 (by decide) (hts _ kw_494) (fun _ h9 => h9) rfl dX1_comeTo_153 ?_
                refine lv_iload_n hx hb dX1_comeTo_156 rfl (lv_at hl 1 rfl) ?_
                refine lv_iconst (v := 1) hx hb dX1_comeTo_157 (by decide) ?_
                obtain ⟨k_38, f_38, hk_38⟩ := gI_of a_r2_1
                have hC9 : hol ws_20 r2_1 [(1, 2)] := (hol_u hG.u hk_34 (j := 2) rfl a_r2_1 (by decide))
                have hS9 : holS ws_20 r2_1 none := holS_n
                refine va_zast hx hb hK hP hD hS k_38 2 hk_38 rfl (i_in2 (by have e0 : (0 : Int32).toInt = 0 := (by decide); have q_f4_1 := f4_1; have q_f14_1 := f14_1; have q_f15_1 := f15_1; have q_f16_1 := f16_1; have q_fq2_c := fq2_c; have q_c_6 := i_nlt c_6; have q_c_7 := i_nle c_7; have q_z_11 := i_mulR (c := 48) (K := 44739242) ez_11 (by decide) (by decide) (by decide) (by decide); have q_f2_1 := f2_1; have q_f6_1 := f6_1; have q_f19_3 := f19_3; have q_f20_3 := f20_3; have q_f1_3 := f1_3; have q_f17_3 := f17_3; have q_f18_3 := f18_3; have g_c2_3 := i_rg c2_3; have g_x1 := i_rg x1; have g_z_11 := i_rg z_11; omega)) dX1_comeTo_158 (fun H locs hP hD hS => ?_)
                obtain ⟨ws_39, e_ws_39⟩ : ∃ z, z = ws_20.set k_38 (r2_1, .inl (g.cZ, n2_1, .inl (upd f_38 (x1 : Int32).toNatClampNeg (vp_nar .boolean 1)))) := ⟨_, rfl⟩
                have hP : va_P (gD g) cl0 ws_39 H := by rw [e_ws_39]; exact hP
                have hD : va_D A ws_39 := by rw [e_ws_39]; exact hD
                have E_40 : gE ws_20 ws_39 := gE_ari e_ws_39 hk_38
                have hG : Good g ws_39 := Good_arZ e_ws_39 hk_38 hG
                have Fr_41 : gF [] [(1, 2)] none ws_20 ws_39 := gF_ar e_ws_39 hk_38 rfl hC9 hS9
                have hk_34 := gset_arO e_ws_39 hk_38 hk_34
                have o_h0 := E_40.1 _ _ o_h0
                have o_r0_1 := E_40.1 _ _ o_r0_1
                have a_r1_1 := E_40.1 _ _ a_r1_1
                have a_r2_1 := E_40.1 _ _ a_r2_1
                have a_r3_1 := E_40.1 _ _ a_r3_1
                have a_r4_1 := E_40.1 _ _ a_r4_1
                have o_v8_1 : ∀ b, v8_1 = some b → gC ws_39 b 9 := fun b h => E_40.1 _ _ (o_v8_1 b h)
                have o_b_2 := E_40.1 _ _ o_b_2
                refine W.widen (k := 0) (n := 0) (Nat.le_of_ble_eq_true rfl) (Nat.le_of_ble_eq_true rfl) ?_
                exact W.vret hx hb hr (fun t9 ht9 hW9 => ⟨⟨ws_39, rfl, trivial, ⟨(E_21.tr E_40), (gF.tr (gF.mo (F' := [(1, 7)]) (C' := [(1, 1), (1, 2), (1, 3)]) (S' := none) Fr_22 (fun _ h => h) (by decide) (Or.inr rfl)) (gF.mo (F' := [(1, 7)]) (C' := [(1, 1), (1, 2), (1, 3)]) (S' := none) Fr_41 (fun _ h => absurd h List.not_mem_nil) (by decide) (Or.inr rfl))), hG, by rw [ht9]; exact hP, hD⟩⟩, hS.F ht9⟩) hS.2.2 dX1_comeTo_159
              refine lv_icmp_ge (tgt := 152) hx hb dX1_comeTo_59 (by decide) (fun c_42 => ?_) (fun c_42 => ?_)
              · exact J_152  H locs ls  hP hD hS (lv_sub hl [0, 1] rfl)
              · refine lv_iload hx hb dX1_comeTo_62 (lv_at hl 4 rfl) ?_
                refine lv_bipush (v := 48) hx hb dX1_comeTo_64 (by decide) ?_
                refine lv_icmp_ge (tgt := 152) hx hb dX1_comeTo_66 (by decide) (fun c_43 => ?_) (fun c_43 => ?_)
                · exact J_152  H locs ls  hP hD hS (lv_sub hl [0, 1] rfl)
                · refine lv_iload_n hx hb dX1_comeTo_69 rfl (lv_at hl 3 rfl) ?_
                  have J_102 : ∀ (t_44 : Int32) (H : Heap) (locs : List Loc) (ls : Array Slot), va_P (gD g) cl0 ws_20 H → va_D A ws_20 → va_S A s.heap H locs → lv_has ls 6 [(0, .ref h0), (1, .int x1), (2, .int z_11), (3, .int t_14), (4, .int v4_18)] → W p l e (headSpec (wt yX1_comeTo cX1_comeTo 6 none) ({ frames := 2, cells := 0, slots := 0, locals := 41 })).room s m ([.ref h0, .int x1] : List Value).toArray below meth c H locs (0) (0) (MQ below (va_Qv (fun (u9 : va_W) => True) (gQ1 g [(1, 7)] [(1, 1), (1, 2), (1, 3)] none A ws) A) ([.ref h0, .int x1] : List Value).toArray s (0) (0) A) (F0 m 102 ls [.int t_44]) := by
                    intro t_44 H locs ls  hP hD hS hl
                    refine lv_istore (lv' := [(5, .int t_44), (0, .ref h0), (1, .int x1), (2, .int z_11), (3, .int t_14), (4, .int v4_18)]) hx hb dX1_comeTo_102 hl (by decide) rfl (fun ls hl => ?_)
                    refine lv_iload_n hx hb dX1_comeTo_104 rfl (lv_at hl 4 rfl) ?_
                    have J_146 : ∀ (ws_47 : va_W) (H : Heap) (locs : List Loc) (ls : Array Slot), gE ws_20 ws_47 → gF [(1, 7)] [(1, 1), (1, 3)] none ws_20 ws_47 → Good g ws_47 → va_P (gD g) cl0 ws_47 H → va_D A ws_47 → va_S A s.heap H locs → lv_has ls 6 [(0, .ref h0), (1, .int x1), (2, .int z_11), (3, .int t_14), (4, .int v4_18)] → W p l e (headSpec (wt yX1_comeTo cX1_comeTo 6 none) ({ frames := 2, cells := 0, slots := 0, locals := 41 })).room s m ([.ref h0, .int x1] : List Value).toArray below meth c H locs (0) (0) (MQ below (va_Qv (fun (u9 : va_W) => True) (gQ1 g [(1, 7)] [(1, 1), (1, 2), (1, 3)] none A ws) A) ([.ref h0, .int x1] : List Value).toArray s (0) (0) A) (F0 m 146 ls []) := by
                      intro ws_47 H locs ls  E_48 Fr_49 hG hP hD hS hl
                      have aa_50 := a_r1_1
                      have aa_51 := a_r2_1
                      have aa_52 := a_r3_1
                      have aa_53 := a_r4_1
                      have o_h0 := E_48.1 _ _ o_h0
                      obtain ⟨z_54, ez_54⟩ : ∃ z : Int32, v4_18 + Int32.ofInt 1 = z := ⟨_, rfl⟩
                      refine lv_iinc (v := z_54) (lv' := [(4, .int z_54), (0, .ref h0), (1, .int x1), (2, .int z_11), (3, .int t_14)]) hx hb dX1_comeTo_146 hl (k := 4) rfl ez_54 (by decide) rfl (fun ls hl => ?_)
                      refine lv_goto (tgt := 50) hx hb dX1_comeTo_149 (by decide) ?_
                      exact ih_50 _ (by have e24 : (24 : Int32).toInt = 24 := (by decide); have e48 : (48 : Int32).toInt = 48 := (by decide); obtain ⟨u_z_54, q_z_54⟩ := i_iz ez_54 (by decide) (by decide); have q_iv_19 := iv_19; have q_c_42 := i_nle c_42; have q_c_43 := i_nle c_43; have q_z_35 := i_addD ez_35; have g_c5_1 := i_rg c5_1; have g_v4_18 := i_rg v4_18; have g_z_35 := i_rg z_35; have g_z_54 := i_rg z_54; omega) (z_54) ws_47 H locs ls rfl (by have e24 : (24 : Int32).toInt = 24 := (by decide); have e48 : (48 : Int32).toInt = 48 := (by decide); obtain ⟨u_z_54, q_z_54⟩ := i_iz ez_54 (by decide) (by decide); have q_iv_19 := iv_19; have q_c_42 := i_nle c_42; have q_c_43 := i_nle c_43; have q_z_35 := i_addD ez_35; have g_c5_1 := i_rg c5_1; have g_v4_18 := i_rg v4_18; have g_z_35 := i_rg z_35; have g_z_54 := i_rg z_54; omega) ((E_21.tr E_48)) ((gF.tr Fr_22 Fr_49)) hG hP hD hS (lv_sub hl [1, 2, 3, 4, 0] rfl)
                    have J_122 : ∀  (H : Heap) (locs : List Loc) (ls : Array Slot), va_P (gD g) cl0 ws_20 H → va_D A ws_20 → va_S A s.heap H locs → lv_has ls 6 [(0, .ref h0), (1, .int x1), (2, .int z_11), (3, .int t_14), (4, .int v4_18), (5, .int t_44)] → W p l e (headSpec (wt yX1_comeTo cX1_comeTo 6 none) ({ frames := 2, cells := 0, slots := 0, locals := 41 })).room s m ([.ref h0, .int x1] : List Value).toArray below meth c H locs (0) (0) (MQ below (va_Qv (fun (u9 : va_W) => True) (gQ1 g [(1, 7)] [(1, 1), (1, 2), (1, 3)] none A ws) A) ([.ref h0, .int x1] : List Value).toArray s (0) (0) A) (F0 m 122 ls []) := by
                      intro  H locs ls  hP hD hS hl
                      refine lv_aload_n hx hb dX1_comeTo_122 rfl (lv_at hl 0 rfl) ?_
                      refine va_get (D := gD g) (ci := 1) (v := .ref r1_1) (C := RX1) (T := TX1) (N := 10) hx hb hts inX1 hown hK hP k_1 hk_34 rfl 1 (by decide) (hts _ kw_495) (fun _ h9 => h9) rfl dX1_comeTo_123 ?_
                      refine lv_iload_n hx hb dX1_comeTo_126 rfl (lv_at hl 2 rfl) ?_
                      refine lv_iload hx hb dX1_comeTo_127 (lv_at hl 4 rfl) ?_
                      refine lv_iadd hx hb dX1_comeTo_129 ?_
                      refine lv_topi (fun z_57 ez_57 => ?_)
                      refine lv_iload hx hb dX1_comeTo_130 (lv_at hl 5 rfl) ?_
                      obtain ⟨z_58, ez_58⟩ : ∃ y : Int32, (t_44 : Int32).toInt8.toInt32 = y := ⟨_, rfl⟩
                      refine lv_i2b (v := z_58) hx hb dX1_comeTo_132 ez_58 ?_
                      obtain ⟨k_59, f_59, hk_59⟩ := gI_of a_r1_1
                      have hC9 : hol ws_20 r1_1 [(1, 1)] := (hol_u hG.u hk_34 (j := 1) rfl a_r1_1 (by decide))
                      have hS9 : holS ws_20 r1_1 none := holS_n
                      refine va_bast hx hb hK hP hD hS k_59 0 hk_59 rfl (i_in2 (by have e0 : (0 : Int32).toInt = 0 := (by decide); have e24 : (24 : Int32).toInt = 24 := (by decide); have e48 : (48 : Int32).toInt = 48 := (by decide); have q_f2_1 := f2_1; have q_f15_1 := f15_1; have q_z_57 := i_addD ez_57; have q_f4_1 := f4_1; have q_f14_1 := f14_1; have q_f16_1 := f16_1; have q_fq2_c := fq2_c; have q_z_11 := i_mulR (c := 48) (K := 44739242) ez_11 (by decide) (by decide) (by decide) (by decide); have q_iv_19 := iv_19; have q_c_42 := i_nle c_42; have q_c_43 := i_nle c_43; have q_f6_1 := f6_1; have q_f19_3 := f19_3; have q_f20_3 := f20_3; have q_c_6 := i_nlt c_6; have q_c_7 := i_nle c_7; have q_z_35 := i_addD ez_35; have g_c2_3 := i_rg c2_3; have g_c5_1 := i_rg c5_1; have g_v4_18 := i_rg v4_18; have g_x1 := i_rg x1; have g_z_11 := i_rg z_11; have g_z_35 := i_rg z_35; have g_z_57 := i_rg z_57; omega)) dX1_comeTo_133 (fun H locs hP hD hS => ?_)
                      obtain ⟨ws_60, e_ws_60⟩ : ∃ z, z = ws_20.set k_59 (r1_1, .inl (g.cB, n1_1, .inl (upd f_59 (z_57 : Int32).toNatClampNeg (vp_nar .byte z_58)))) := ⟨_, rfl⟩
                      have hP : va_P (gD g) cl0 ws_60 H := by rw [e_ws_60]; exact hP
                      have hD : va_D A ws_60 := by rw [e_ws_60]; exact hD
                      have E_61 : gE ws_20 ws_60 := gE_ari e_ws_60 hk_59
                      have hG : Good g ws_60 := Good_arB e_ws_60 hk_59 hG
                      have Fr_62 : gF [] [(1, 1)] none ws_20 ws_60 := gF_ar e_ws_60 hk_59 rfl hC9 hS9
                      have hk_34 := gset_arO e_ws_60 hk_59 hk_34
                      have o_h0 := E_61.1 _ _ o_h0
                      have o_r0_1 := E_61.1 _ _ o_r0_1
                      have a_r1_1 := E_61.1 _ _ a_r1_1
                      have a_r2_1 := E_61.1 _ _ a_r2_1
                      have a_r3_1 := E_61.1 _ _ a_r3_1
                      have a_r4_1 := E_61.1 _ _ a_r4_1
                      have o_v8_1 : ∀ b, v8_1 = some b → gC ws_60 b 9 := fun b h => E_61.1 _ _ (o_v8_1 b h)
                      have o_b_2 := E_61.1 _ _ o_b_2
                      refine lv_aload_n hx hb dX1_comeTo_134 rfl (lv_at hl 0 rfl) ?_
                      refine va_get (D := gD g) (ci := 1) (v := .ref r3_1) (C := RX1) (T := TX1) (N := 10) hx hb hts inX1 hown hK hP k_1 hk_34 rfl 3 (by decide) (hts _ kw_497) (fun _ h9 => h9) rfl dX1_comeTo_135 ?_
                      refine lv_iload_n hx hb dX1_comeTo_138 rfl (lv_at hl 1 rfl) ?_
                      refine lv_iconst (v := 1) hx hb dX1_comeTo_139 (by decide) ?_
                      obtain ⟨k_63, f_63, hk_63⟩ := gI_of a_r3_1
                      have hC9 : hol ws_60 r3_1 [(1, 3)] := (hol_u hG.u hk_34 (j := 3) rfl a_r3_1 (by decide))
                      have hS9 : holS ws_60 r3_1 none := holS_n
                      refine va_zast hx hb hK hP hD hS k_63 2 hk_63 rfl (i_in2 (by have e0 : (0 : Int32).toInt = 0 := (by decide); have e48 : (48 : Int32).toInt = 48 := (by decide); have q_f6_1 := f6_1; have q_f14_1 := f14_1; have q_c_6 := i_nlt c_6; have q_c_7 := i_nle c_7; have q_z_11 := i_mulR (c := 48) (K := 44739242) ez_11 (by decide) (by decide) (by decide) (by decide); have q_f4_1 := f4_1; have q_f15_1 := f15_1; have q_f16_1 := f16_1; have q_f19_3 := f19_3; have q_f20_3 := f20_3; have q_fq2_c := fq2_c; have q_z_57 := i_addD ez_57; have q_f2_1 := f2_1; have q_f1_3 := f1_3; have q_f17_3 := f17_3; have q_f18_3 := f18_3; have q_iv_19 := iv_19; have q_c_42 := i_nle c_42; have q_c_43 := i_nle c_43; have g_c2_3 := i_rg c2_3; have g_v4_18 := i_rg v4_18; have g_x1 := i_rg x1; have g_z_11 := i_rg z_11; have g_z_35 := i_rg z_35; have g_z_57 := i_rg z_57; omega)) dX1_comeTo_140 (fun H locs hP hD hS => ?_)
                      obtain ⟨ws_64, e_ws_64⟩ : ∃ z, z = ws_60.set k_63 (r3_1, .inl (g.cZ, n3_1, .inl (upd f_63 (x1 : Int32).toNatClampNeg (vp_nar .boolean 1)))) := ⟨_, rfl⟩
                      have hP : va_P (gD g) cl0 ws_64 H := by rw [e_ws_64]; exact hP
                      have hD : va_D A ws_64 := by rw [e_ws_64]; exact hD
                      have E_65 : gE ws_60 ws_64 := gE_ari e_ws_64 hk_63
                      have hG : Good g ws_64 := Good_arZ e_ws_64 hk_63 hG
                      have Fr_66 : gF [] [(1, 3)] none ws_60 ws_64 := gF_ar e_ws_64 hk_63 rfl hC9 hS9
                      have hk_34 := gset_arO e_ws_64 hk_63 hk_34
                      have o_h0 := E_65.1 _ _ o_h0
                      have o_r0_1 := E_65.1 _ _ o_r0_1
                      have a_r1_1 := E_65.1 _ _ a_r1_1
                      have a_r2_1 := E_65.1 _ _ a_r2_1
                      have a_r3_1 := E_65.1 _ _ a_r3_1
                      have a_r4_1 := E_65.1 _ _ a_r4_1
                      have o_v8_1 : ∀ b, v8_1 = some b → gC ws_64 b 9 := fun b h => E_65.1 _ _ (o_v8_1 b h)
                      have o_b_2 := E_65.1 _ _ o_b_2
                      refine lv_aload_n hx hb dX1_comeTo_141 rfl (lv_at hl 0 rfl) ?_
                      refine lv_iconst (v := 1) hx hb dX1_comeTo_142 (by decide) ?_
                      have hV9 : okv ws_64 1 7 (.int 1) := okv_i
                      refine va_put (D := gD g) (ci := 1) (v := .int 1) (ty := .boolean) (C := RX1) (T := TX1) (N := 10) hx hb hts inX1 tyX1 tyX1_ok nmX1 hown hK hP hD hS k_1 hk_34 rfl 7 (by decide) (hts _ kw_498) (fun _ h9 => h9) rfl (by decide +kernel) rfl rfl (Nat.le_of_ble_eq_true rfl) dX1_comeTo_143 (fun H locs hP hD hS => ?_)
                      have hi_67 : invX1 g ws_64 h0 [.ref r0_1, .ref r1_1, .ref r2_1, .ref r3_1, .ref r4_1, .int c5_1, .int c6_34, .int 1, va_rf v8_1, .ref b_2] := ⟨r0_1, r1_1, (n1_1), r2_1, (n2_1), r3_1, (n3_1), r4_1, (n4_1), (c5_1), (c6_34), (1), v8_1, (some b_2), rfl, o_r0_1, a_r1_1, f2_34, a_r2_1, f4_34, a_r3_1, f6_34, a_r4_1, f8_34, hz_c6_34, (Or.inr rfl), o_v8_1, (fun b h9 => by cases h9; exact o_b_2), f13_34, f14_34, f15_34, f16_34, trivial⟩
                      obtain ⟨ws_68, e_ws_68⟩ : ∃ z, z = ws_64.set k_1 (h0, .inr (1, [.ref r0_1, .ref r1_1, .ref r2_1, .ref r3_1, .ref r4_1, .int c5_1, .int c6_34, .int 1, va_rf v8_1, .ref b_2])) := ⟨_, rfl⟩
                      have hP : va_P (gD g) cl0 ws_68 H := by rw [e_ws_68]; exact hP
                      have hD : va_D A ws_68 := by rw [e_ws_68]; exact hD
                      have E_69 : gE ws_64 ws_68 := gE_set e_ws_68 hk_34 (cw_o (fi := 7) (v := .int 1) rfl (by decide))
                      have hG : Good g ws_68 := Good_set (fi := 7) (v := .int 1) e_ws_68 hk_34 E_69 rfl hV9 hG (ivX1 hi_67)
                      have Fr_70 : gF [(1, 7)] [] (some h0) ws_64 ws_68 := gF_put (fi := 7) (v := .int 1) e_ws_68 hk_34 rfl (by decide)
                      have hkN := gset_self e_ws_68 hk_34
                      have hk_34 := hkN
                      have o_h0 := E_69.1 _ _ o_h0
                      have o_r0_1 := E_69.1 _ _ o_r0_1
                      have a_r1_1 := E_69.1 _ _ a_r1_1
                      have a_r2_1 := E_69.1 _ _ a_r2_1
                      have a_r3_1 := E_69.1 _ _ a_r3_1
                      have a_r4_1 := E_69.1 _ _ a_r4_1
                      have o_v8_1 : ∀ b, v8_1 = some b → gC ws_68 b 9 := fun b h => E_69.1 _ _ (o_v8_1 b h)
                      have o_b_2 := E_69.1 _ _ o_b_2
                      exact J_146 ws_68 H locs ls ((E_61.tr (E_65.tr E_69))) ((gF.tr (gF.mo (F' := [(1, 7)]) (C' := [(1, 1), (1, 3)]) (S' := none) Fr_62 (fun _ h => absurd h List.not_mem_nil) (by decide) (Or.inr rfl)) (gF.tr (gF.mo (F' := [(1, 7)]) (C' := [(1, 1), (1, 3)]) (S' := none) Fr_66 (fun _ h => absurd h List.not_mem_nil) (by decide) (Or.inr rfl)) (gF.mo (F' := [(1, 7)]) (C' := [(1, 1), (1, 3)]) (S' := none) Fr_70 (fun _ h => h) (fun _ h => absurd h List.not_mem_nil) (Or.inl rfl))))) hG hP hD hS (lv_sub hl [0, 1, 2, 3, 4] rfl)
                    refine lv_if_ne (tgt := 122) hx hb dX1_comeTo_105 (by decide) (fun c_71 => ?_) (fun c_71 => ?_)
                    · exact J_122  H locs ls  hP hD hS (lv_sub hl [1, 2, 3, 4, 5, 0] rfl)
                    · refine lv_iload hx hb dX1_comeTo_108 (lv_at hl 0 rfl) ?_
                      refine lv_aload_n hx hb dX1_comeTo_110 rfl (lv_at hl 1 rfl) ?_
                      refine va_get (D := gD g) (ci := 1) (v := .ref r1_1) (C := RX1) (T := TX1) (N := 10) hx hb hts inX1 hown hK hP k_1 hk_34 rfl 1 (by decide) (hts _ kw_495) (fun _ h9 => h9) rfl dX1_comeTo_111 ?_
                      refine lv_iload_n hx hb dX1_comeTo_114 rfl (lv_at hl 3 rfl) ?_
                      refine lv_iload hx hb dX1_comeTo_115 (lv_at hl 5 rfl) ?_
                      refine lv_iadd hx hb dX1_comeTo_117 ?_
                      refine lv_topi (fun z_72 ez_72 => ?_)
                      obtain ⟨k_73, f_73, hk_73⟩ := gI_of a_r1_1
                      refine va_bald hx hb hK hP k_73 0 hk_73 rfl (i_in2 (by have e0 : (0 : Int32).toInt = 0 := (by decide); have e24 : (24 : Int32).toInt = 24 := (by decide); have e48 : (48 : Int32).toInt = 48 := (by decide); have q_f2_1 := f2_1; have q_f15_1 := f15_1; have q_z_72 := i_addD ez_72; have q_f4_1 := f4_1; have q_f14_1 := f14_1; have q_f16_1 := f16_1; have q_fq2_c := fq2_c; have q_z_11 := i_mulR (c := 48) (K := 44739242) ez_11 (by decide) (by decide) (by decide) (by decide); have q_iv_19 := iv_19; have q_c_42 := i_nle c_42; have q_c_43 := i_nle c_43; have q_f6_1 := f6_1; have q_f19_3 := f19_3; have q_f20_3 := f20_3; have q_c_6 := i_nlt c_6; have q_c_7 := i_nle c_7; have q_z_35 := i_addD ez_35; have g_c2_3 := i_rg c2_3; have g_c5_1 := i_rg c5_1; have g_v4_18 := i_rg v4_18; have g_x1 := i_rg x1; have g_z_11 := i_rg z_11; have g_z_35 := i_rg z_35; have g_z_72 := i_rg z_72; omega)) dX1_comeTo_118 ?_
                      refine lv_topi (fun z_74 ez_74 => ?_)
                      refine lv_icmp_eq (tgt := 146) hx hb dX1_comeTo_119 (by decide) (fun c_75 => ?_) (fun c_75 => ?_)
                      · exact J_146 ws_20 H locs ls (gE.rf) (gF.rf) hG hP hD hS (lv_sub hl [1, 2, 3, 4, 5] rfl)
                      · exact J_122  H locs ls  hP hD hS (lv_sub hl [1, 2, 3, 4, 5, 0] rfl)
                  refine lv_if_eq (tgt := 83) hx hb dX1_comeTo_70 (by decide) (fun c_76 => ?_) (fun c_76 => ?_)
                  · refine lv_aload_n hx hb dX1_comeTo_83 rfl (lv_at hl 0 rfl) ?_
                    refine va_get (D := gD g) (ci := 1) (v := .ref r1_1) (C := RX1) (T := TX1) (N := 10) hx hb hts inX1 hown hK hP k_1 hk_34 rfl 1 (by decide) (hts _ kw_495) (fun _ h9 => h9) rfl dX1_comeTo_84 ?_
                    refine lv_iload_n hx hb dX1_comeTo_87 rfl (lv_at hl 2 rfl) ?_
                    refine lv_iload hx hb dX1_comeTo_88 (lv_at hl 4 rfl) ?_
                    refine lv_iadd hx hb dX1_comeTo_90 ?_
                    refine lv_topi (fun z_77 ez_77 => ?_)
                    obtain ⟨k_78, f_78, hk_78⟩ := gI_of a_r1_1
                    refine va_bald hx hb hK hP k_78 0 hk_78 rfl (i_in2 (by have e0 : (0 : Int32).toInt = 0 := (by decide); have e24 : (24 : Int32).toInt = 24 := (by decide); have e48 : (48 : Int32).toInt = 48 := (by decide); have q_f2_1 := f2_1; have q_f15_1 := f15_1; have q_z_77 := i_addD ez_77; have q_f4_1 := f4_1; have q_f14_1 := f14_1; have q_f16_1 := f16_1; have q_fq2_c := fq2_c; have q_z_11 := i_mulR (c := 48) (K := 44739242) ez_11 (by decide) (by decide) (by decide) (by decide); have q_iv_19 := iv_19; have q_c_42 := i_nle c_42; have q_c_43 := i_nle c_43; have q_f6_1 := f6_1; have q_f19_3 := f19_3; have q_f20_3 := f20_3; have q_c_6 := i_nlt c_6; have q_c_7 := i_nle c_7; have q_z_35 := i_addD ez_35; have g_c2_3 := i_rg c2_3; have g_c5_1 := i_rg c5_1; have g_v4_18 := i_rg v4_18; have g_x1 := i_rg x1; have g_z_11 := i_rg z_11; have g_z_35 := i_rg z_35; have g_z_77 := i_rg z_77; omega)) dX1_comeTo_91 ?_
                    refine lv_topi (fun z_79 ez_79 => ?_)
                    refine lv_aload_n hx hb dX1_comeTo_92 rfl (lv_at hl 0 rfl) ?_
                    refine va_get (D := gD g) (ci := 1) (v := .ref r4_1) (C := RX1) (T := TX1) (N := 10) hx hb hts inX1 hown hK hP k_1 hk_34 rfl 4 (by decide) (hts _ kw_477) (fun _ h9 => h9) rfl dX1_comeTo_93 ?_
                    refine lv_iload hx hb dX1_comeTo_96 (lv_at hl 4 rfl) ?_
                    obtain ⟨k_80, f_80, hk_80⟩ := gI_of a_r4_1
                    refine va_bald hx hb hK hP k_80 0 hk_80 rfl (i_in2 (by have e0 : (0 : Int32).toInt = 0 := (by decide); have e24 : (24 : Int32).toInt = 24 := (by decide); have e48 : (48 : Int32).toInt = 48 := (by decide); have q_f8_1 := f8_1; have q_f13_1 := f13_1; have q_iv_19 := iv_19; have q_c_42 := i_nle c_42; have q_c_43 := i_nle c_43; have q_z_77 := i_addD ez_77; have q_z_11 := i_mulR (c := 48) (K := 44739242) ez_11 (by decide) (by decide) (by decide) (by decide); have q_z_35 := i_addD ez_35; have q_c_6 := i_nlt c_6; have q_c_7 := i_nle c_7; have g_c2_3 := i_rg c2_3; have g_c5_1 := i_rg c5_1; have g_v4_18 := i_rg v4_18; have g_x1 := i_rg x1; have g_z_11 := i_rg z_11; have g_z_35 := i_rg z_35; have g_z_77 := i_rg z_77; omega)) dX1_comeTo_98 ?_
                    refine lv_topi (fun z_81 ez_81 => ?_)
                    have hFc := gfree hD hS hA
                    refine va_calli (va_runS (As := [.int z_79, .int z_81]) (rest := []) ⟨hx, hb, hml, hown, hts⟩ (m_X1_join l g H.size ws_20 (z_79) (z_81) hG ) (va_cwS 2 hts (gd_S kw_496 kw_559 kw_392 kw_558) rfl rfl rfl (by decide +kernel) ⟨Nat.le_of_ble_eq_true rfl, Nat.le_of_ble_eq_true rfl⟩) ⟨gblind, fun U hU hW9 => gmk hU hW9 hP hK hD hex hE hS hFc⟩ rfl rfl hl.1 rfl (lv_room (Nat.le_of_ble_eq_true rfl)) dX1_comeTo_99 ⟨Nat.le_of_ble_eq_true rfl, Nat.le_of_ble_eq_true rfl⟩) hS (fun q _ h => hFc q h) hFc (fun r_82 u9 t9 H1 locs ht9 hvm9 hw9 hB9 hz9 hk9 hS => ?_)
                    have hP : va_P (gD g) cl0 ws_20 H1 := by rw [← ht9]; exact hB9.1
                    clear hB9 hz9 hk9 hvm9 ht9 hw9
                    generalize H1 = H at hP hS ⊢
                    exact J_102 (r_82) H locs ls  hP hD hS (lv_sub hl [0, 1, 2, 3, 4] rfl)
                  · refine lv_aload_n hx hb dX1_comeTo_73 rfl (lv_at hl 0 rfl) ?_
                    refine va_get (D := gD g) (ci := 1) (v := .ref r4_1) (C := RX1) (T := TX1) (N := 10) hx hb hts inX1 hown hK hP k_1 hk_34 rfl 4 (by decide) (hts _ kw_477) (fun _ h9 => h9) rfl dX1_comeTo_74 ?_
                    refine lv_iload hx hb dX1_comeTo_77 (lv_at hl 4 rfl) ?_
                    obtain ⟨k_83, f_83, hk_83⟩ := gI_of a_r4_1
                    refine va_bald hx hb hK hP k_83 0 hk_83 rfl (i_in2 (by have e24 : (24 : Int32).toInt = 24 := (by decide); have e48 : (48 : Int32).toInt = 48 := (by decide); have q_f8_1 := f8_1; have q_f13_1 := f13_1; have q_iv_19 := iv_19; have q_c_42 := i_nle c_42; have q_c_43 := i_nle c_43; have q_z_35 := i_addD ez_35; have g_c5_1 := i_rg c5_1; have g_v4_18 := i_rg v4_18; have g_z_35 := i_rg z_35; omega)) dX1_comeTo_79 ?_
                    refine lv_topi (fun z_84 ez_84 => ?_)
                    refine lv_goto (tgt := 102) hx hb dX1_comeTo_80 (by decide) ?_
                    exact J_102 (z_84) H locs ls  hP hD hS (lv_sub hl [0, 1, 2, 3, 4] rfl)
          exact J_50 _ (0) ws H locs ls rfl (by have e0 : (0 : Int32).toInt = 0 := (by decide); omega) (gE.rf) (gF.rf) hG hP hD hS (lv_sub hl [2, 3, 4, 1, 0] rfl)
        refine lv_if_ne (tgt := 45) hx hb dX1_comeTo_38 (by decide) (fun c_85 => ?_) (fun c_85 => ?_)
        · refine lv_iconst (v := 0) hx hb dX1_comeTo_45 (by decide) ?_
          exact J_46 (0) H locs ls (Or.inl rfl) hP hD hS (lv_sub hl [1, 2, 0] rfl)
        · refine lv_iconst (v := 1) hx hb dX1_comeTo_41 (by decide) ?_
          refine lv_goto (tgt := 46) hx hb dX1_comeTo_42 (by decide) ?_
          exact J_46 (1) H locs ls (Or.inr rfl) hP hD hS (lv_sub hl [1, 2, 0] rfl)
      · exact J_26  H locs ls  hP hD hS (lv_sub hl [] rfl)
set_option maxHeartbeats 1000000 in
set_option maxRecDepth 100000 in
theorem m_X1_goThrough (l : Launch) (g : Gm) (sz : Nat) (ws : va_W) (h0 : Nat) (x1 : Int32) (hG : Good g ws) (o_h0 : gC ws h0 1) (nn_h0_8 : gN ws h0 8) (nn_h0_9 : gN ws h0 9) : Met l yX1_goThrough (wt yX1_goThrough cX1_goThrough 5 none) ({ frames := 4, cells := 0, slots := 0, locals := 86 }) (va_Pc [.ref h0, .int x1] (st_G g sz ws)) (va_Qv (fun (u9 : va_W) => True) (gQ1 g [(1, 5), (1, 6)] [(1, 4)] none (va_A ws sz) ws) (va_A ws sz)) (0) (0) (va_A ws sz) := by
  refine Met.ofW (cc := cX1_goThrough) (maxL := 5) (ret := none) (by decide) rfl ?_
  intro p e s m args below meth c s₁ B hml hv
  obtain ⟨rfl, hsz, hP, hK, hD0, hex, hE⟩ := hv
  have hx := B.exec
  have hb := B.bytes
  have hr := B.returns
  have hts0 := atoms_spec (ws := wt yX1_goThrough cX1_goThrough 5 none) B.pre
  have hts : ∀ w ∈ tb, w.before _ s = true := fun w h => hts0 w (List.mem_cons_of_mem _ h)
  have hown : s.vm.findClass RX1 = some m.cls := findClass_of_methodNamed B.named
  subst hsz
  have hD := hD0.self (sz := s.heap.size)
  generalize hAe : va_A ws s.heap.size = A at hD hE ⊢
  have hA : ∀ q : Nat, s.heap.size ≤ q → A q := fun q h => by rw [← hAe]; exact Or.inr h
  have hS : va_S A s.heap s.heap [] := va_S.rf
  have hl := lv_entry ([.ref h0, .int x1]) (n := 5) (Nat.le_of_ble_eq_true rfl)
  rw [lg_entry_eq]
  generalize (lg_sl ([.ref h0, .int x1]) ++ List.replicate (5 - (lg_sl ([.ref h0, .int x1])).length) Slot.unset).toArray = ls at hl ⊢
  have hl : lv_has ls 5 [(0, .ref h0), (1, .int x1)] := hl
  obtain ⟨k_1, fs9, hk_1⟩ := gC_of o_h0
  obtain ⟨r0_1, r1_1, n1_1, r2_1, n2_1, r3_1, n3_1, r4_1, n4_1, c5_1, c6_1, c7_1, v8_1, v9_1, rfl, o_r0_1, a_r1_1, f2_1, a_r2_1, f4_1, a_r3_1, f6_1, a_r4_1, f8_1, hz_c6_1, hz_c7_1, o_v8_1, o_v9_1, f13_1, f14_1, f15_1, f16_1, -⟩ := (hG.1 _ _ _ _ hk_1).hX1 rfl
  obtain ⟨b_2, hn9⟩ := nn_h0_8 _ _ _ hk_1
  have hn9 := fe_qr hn9
  subst hn9
  have o_b_2 := o_v8_1 _ rfl
  obtain ⟨b_3, hn9⟩ := nn_h0_9 _ _ _ hk_1
  have hn9 := fe_qr hn9
  subst hn9
  have o_b_3 := o_v9_1 _ rfl
  refine lv_aload_n hx hb dX1_goThrough_0 rfl (lv_at hl 0 rfl) ?_
  refine va_get (D := gD g) (ci := 1) (v := .ref b_3) (C := RX1) (T := TX1) (N := 10) hx hb hts inX1 hown hK hP k_1 hk_1 rfl 9 (by decide) (hts _ kw_479) (fun _ h9 => h9) rfl dX1_goThrough_1 ?_
  refine lv_iload_n hx hb dX1_goThrough_4 rfl (lv_at hl 1 rfl) ?_
  have hFc := gfree hD hS hA
  obtain ⟨k_4, fs_4, hk_4⟩ := gC_of o_b_3
  refine va_calli (va_runV (As := [.int x1]) (rest := []) ⟨hx, hb, hml, hown, hts⟩ (m_X8_opAt l g s.heap.size ws b_3 (x1) hG o_b_3) (cwV 1 hts (gd_V kw_519 kw_1513 kw_1514 kw_782 kw_1512) rfl rfl rfl (by decide +kernel) ⟨Nat.le_of_ble_eq_true rfl, Nat.le_of_ble_eq_true rfl⟩) ⟨gblind, va_recv hK hP (ci := 7) (q0 := k_4) rfl hk_4, fun U hU hW9 => gmk hU hW9 hP hK hD hex hE hS hFc⟩ rfl rfl hl.1 rfl (lv_room (Nat.le_of_ble_eq_true rfl)) dX1_goThrough_5 ⟨Nat.le_of_ble_eq_true rfl, Nat.le_of_ble_eq_true rfl⟩) hS (fun q _ h => hFc q h) hFc (fun r_5 u9 t9 H1 locs ht9 hvm9 hw9 hB9 hz9 hk9 hS => ?_)
  have hP : va_P (gD g) cl0 ws H1 := by rw [← ht9]; exact hB9.1
  clear hB9 hz9 hk9 hvm9 ht9 hw9
  generalize H1 = H at hP hS ⊢
  refine lv_istore_n (lv' := [(2, .int r_5), (0, .ref h0), (1, .int x1)]) hx hb dX1_goThrough_8 rfl hl (by decide) rfl (fun ls hl => ?_)
  refine lv_iload_n hx hb dX1_goThrough_9 rfl (lv_at hl 0 rfl) ?_
  refine lv_bipush (v := 87) hx hb dX1_goThrough_10 (by decide) ?_
  have J_217 : ∀ (ws_6 : va_W) (H : Heap) (locs : List Loc) (ls : Array Slot), gE ws ws_6 → gF [(1, 5), (1, 6)] [(1, 4)] none ws ws_6 → Good g ws_6 → va_P (gD g) cl0 ws_6 H → va_D A ws_6 → va_S A s.heap H locs → lv_has ls 5 [] → W p l e (headSpec (wt yX1_goThrough cX1_goThrough 5 none) ({ frames := 4, cells := 0, slots := 0, locals := 86 })).room s m ([.ref h0, .int x1] : List Value).toArray below meth c H locs (0) (0) (MQ below (va_Qv (fun (u9 : va_W) => True) (gQ1 g [(1, 5), (1, 6)] [(1, 4)] none A ws) A) ([.ref h0, .int x1] : List Value).toArray s (0) (0) A) (F0 m 217 ls []) := by
    intro ws_6 H locs ls  E_7 Fr_8 hG hP hD hS hl
    have aa_9 := a_r1_1
    have aa_10 := a_r2_1
    have aa_11 := a_r3_1
    have aa_12 := a_r4_1
    have o_h0 := E_7.1 _ _ o_h0
    refine W.widen (k := 0) (n := 0) (Nat.le_of_ble_eq_true rfl) (Nat.le_of_ble_eq_true rfl) ?_
    exact W.vret hx hb hr (fun t9 ht9 hW9 => ⟨⟨ws_6, rfl, trivial, ⟨E_7, Fr_8, hG, by rw [ht9]; exact hP, hD⟩⟩, hS.F ht9⟩) hS.2.2 dX1_goThrough_217
  have J_29 : ∀  (H : Heap) (locs : List Loc) (ls : Array Slot), va_P (gD g) cl0 ws H → va_D A ws → va_S A s.heap H locs → lv_has ls 5 [(0, .ref h0), (1, .int x1), (2, .int r_5)] → W p l e (headSpec (wt yX1_goThrough cX1_goThrough 5 none) ({ frames := 4, cells := 0, slots := 0, locals := 86 })).room s m ([.ref h0, .int x1] : List Value).toArray below meth c H locs (0) (0) (MQ below (va_Qv (fun (u9 : va_W) => True) (gQ1 g [(1, 5), (1, 6)] [(1, 4)] none A ws) A) ([.ref h0, .int x1] : List Value).toArray s (0) (0) A) (F0 m 29 ls []) := by
    intro  H locs ls  hP hD hS hl
    refine lv_iload_n hx hb dX1_goThrough_29 rfl (lv_at hl 2 rfl) ?_
    have hFc := gfree hD hS hA
    refine va_calli (va_runS (As := [.int r_5]) (rest := []) ⟨hx, hb, hml, hown, hts⟩ (m_X6_isLoad l g H.size ws (r_5) hG ) (va_cwS 1 hts (gd_S kw_531 kw_1227 kw_1207 kw_1226) rfl rfl rfl (by decide +kernel) ⟨Nat.le_of_ble_eq_true rfl, Nat.le_of_ble_eq_true rfl⟩) ⟨gblind, fun U hU hW9 => gmk hU hW9 hP hK hD hex hE hS hFc⟩ rfl rfl hl.1 rfl (lv_room (Nat.le_of_ble_eq_true rfl)) dX1_goThrough_30 ⟨Nat.le_of_ble_eq_true rfl, Nat.le_of_ble_eq_true rfl⟩) hS (fun q _ h => hFc q h) hFc (fun r_15 u9 t9 H1 locs ht9 hvm9 hw9 hB9 hz9 hk9 hS => ?_)
    have hP : va_P (gD g) cl0 ws H1 := by rw [← ht9]; exact hB9.1
    have hz_r_15 : r_15 = 0 ∨ r_15 = 1 := hw9
    clear hB9 hz9 hk9 hvm9 ht9 hw9
    generalize H1 = H at hP hS ⊢
    refine lv_if_eq (tgt := 52) hx hb dX1_goThrough_33 (by decide) (fun c_16 => ?_) (fun c_16 => ?_)
    · refine lv_iload_n hx hb dX1_goThrough_52 rfl (lv_at hl 2 rfl) ?_
      have hFc := gfree hD hS hA
      refine va_calli (va_runS (As := [.int r_5]) (rest := []) ⟨hx, hb, hml, hown, hts⟩ (m_X6_isStore l g H.size ws (r_5) hG ) (va_cwS 1 hts (gd_S kw_534 kw_1231 kw_1207 kw_1230) rfl rfl rfl (by decide +kernel) ⟨Nat.le_of_ble_eq_true rfl, Nat.le_of_ble_eq_true rfl⟩) ⟨gblind, fun U hU hW9 => gmk hU hW9 hP hK hD hex hE hS hFc⟩ rfl rfl hl.1 rfl (lv_room (Nat.le_of_ble_eq_true rfl)) dX1_goThrough_53 ⟨Nat.le_of_ble_eq_true rfl, Nat.le_of_ble_eq_true rfl⟩) hS (fun q _ h => hFc q h) hFc (fun r_17 u9 t9 H1 locs ht9 hvm9 hw9 hB9 hz9 hk9 hS => ?_)
      have hP : va_P (gD g) cl0 ws H1 := by rw [← ht9]; exact hB9.1
      have hz_r_17 : r_17 = 0 ∨ r_17 = 1 := hw9
      clear hB9 hz9 hk9 hvm9 ht9 hw9
      generalize H1 = H at hP hS ⊢
      refine lv_if_eq (tgt := 75) hx hb dX1_goThrough_56 (by decide) (fun c_18 => ?_) (fun c_18 => ?_)
      · refine lv_iload_n hx hb dX1_goThrough_75 rfl (lv_at hl 2 rfl) ?_
        refine lv_sipush (v := 132) hx hb dX1_goThrough_76 (by decide) ?_
        refine lv_icmp_ne (tgt := 115) hx hb dX1_goThrough_79 (by decide) (fun c_19 => ?_) (fun c_19 => ?_)
        · refine lv_aload_n hx hb dX1_goThrough_115 rfl (lv_at hl 0 rfl) ?_
          refine va_get (D := gD g) (ci := 1) (v := .ref b_2) (C := RX1) (T := TX1) (N := 10) hx hb hts inX1 hown hK hP k_1 hk_1 rfl 8 (by decide) (hts _ kw_478) (fun _ h9 => h9) rfl dX1_goThrough_116 ?_
          refine lv_aload_n hx hb dX1_goThrough_119 rfl (lv_at hl 0 rfl) ?_
          refine va_get (D := gD g) (ci := 1) (v := .ref b_3) (C := RX1) (T := TX1) (N := 10) hx hb hts inX1 hown hK hP k_1 hk_1 rfl 9 (by decide) (hts _ kw_479) (fun _ h9 => h9) rfl dX1_goThrough_120 ?_
          refine lv_iload_n hx hb dX1_goThrough_123 rfl (lv_at hl 1 rfl) ?_
          have hFc := gfree hD hS hA
          obtain ⟨k_20, fs_20, hk_20⟩ := gC_of o_b_2
          refine va_calli (va_runV (As := [.ref b_3, .int x1]) (rest := []) ⟨hx, hb, hml, hown, hts⟩ (m_X10_takes l g H.size ws b_2 b_3 (x1) hG o_b_2 o_b_3) (cwV 2 hts (gd_V kw_538 kw_73 kw_74 kw_34 kw_72) rfl rfl rfl (by decide +kernel) ⟨Nat.le_of_ble_eq_true rfl, Nat.le_of_ble_eq_true rfl⟩) ⟨gblind, va_recv hK hP (ci := 9) (q0 := k_20) rfl hk_20, fun U hU hW9 => gmk hU hW9 hP hK hD hex hE hS hFc⟩ rfl rfl hl.1 rfl (lv_room (Nat.le_of_ble_eq_true rfl)) dX1_goThrough_124 ⟨Nat.le_of_ble_eq_true rfl, Nat.le_of_ble_eq_true rfl⟩) hS (fun q _ h => hFc q h) hFc (fun r_21 u9 t9 H1 locs ht9 hvm9 hw9 hB9 hz9 hk9 hS => ?_)
          have hP : va_P (gD g) cl0 ws H1 := by rw [← ht9]; exact hB9.1
          clear hB9 hz9 hk9 hvm9 ht9 hw9
          generalize H1 = H at hP hS ⊢
          refine lv_istore_n (lv' := [(3, .int r_21), (0, .ref h0), (1, .int x1), (2, .int r_5)]) hx hb dX1_goThrough_127 rfl hl (by decide) rfl (fun ls hl => ?_)
          refine lv_iload_n hx hb dX1_goThrough_128 rfl (lv_at hl 0 rfl) ?_
          refine lv_istore (lv' := [(4, .int r_21), (3, .int r_21), (0, .ref h0), (1, .int x1), (2, .int r_5)]) hx hb dX1_goThrough_129 hl (by decide) rfl (fun ls hl => ?_)
          have J_131 : ∀ (n9 : Nat) (v4_22 : Int32) (ws_23 : va_W) (H : Heap) (locs : List Loc) (ls : Array Slot), v4_22.toInt.toNat = n9 → gE ws ws_23 → gF [(1, 5), (1, 6)] [] none ws ws_23 → Good g ws_23 → va_P (gD g) cl0 ws_23 H → va_D A ws_23 → va_S A s.heap H locs → lv_has ls 5 [(0, .ref h0), (1, .int x1), (2, .int r_5), (3, .int r_21), (4, .int v4_22)] → W p l e (headSpec (wt yX1_goThrough cX1_goThrough 5 none) ({ frames := 4, cells := 0, slots := 0, locals := 86 })).room s m ([.ref h0, .int x1] : List Value).toArray below meth c H locs (0) (0) (MQ below (va_Qv (fun (u9 : va_W) => True) (gQ1 g [(1, 5), (1, 6)] [(1, 4)] none A ws) A) ([.ref h0, .int x1] : List Value).toArray s (0) (0) A) (F0 m 131 ls []) := by
            intro n9
            induction n9 using Nat.strongRecOn with
            | ind n9 ih_131 =>
              intro v4_22 ws_23 H locs ls hm9  E_24 Fr_25 hG hP hD hS hl
              subst hm9
              have aa_26 := a_r1_1
              have aa_27 := a_r2_1
              have aa_28 := a_r3_1
              have aa_29 := a_r4_1
              have o_h0 := E_24.1 _ _ o_h0
              refine lv_iload hx hb dX1_goThrough_131 (lv_at hl 4 rfl) ?_
              refine lv_if_le (tgt := 155) hx hb dX1_goThrough_133 (by decide) (fun c_30 => ?_) (fun c_30 => ?_)
              · refine lv_aload_n hx hb dX1_goThrough_155 rfl (lv_at hl 0 rfl) ?_
                refine lv_aload_n hx hb dX1_goThrough_156 rfl (lv_at hl 0 rfl) ?_
                obtain ⟨fs9, hk_31, hq_31⟩ := ((gF.a (F' := [(1, 5), (1, 6)]) Fr_25 (fun _ h => h))) _ _ _ hk_1
                obtain ⟨r0_31, r1_31, n1_31, r2_31, n2_31, r3_31, n3_31, r4_31, n4_31, c5_31, c6_31, c7_31, v8_31, v9_31, rfl, o_r0_31, a_r1_31, f2_31, a_r2_31, f4_31, a_r3_31, f6_31, a_r4_31, f8_31, hz_c6_31, hz_c7_31, o_v8_31, o_v9_31, f13_31, f14_31, f15_31, f16_31, -⟩ := (hG.1 _ _ _ _ hk_31).hX1 rfl
                obtain rfl := fe_r (hq_31 2 (by decide))
                have hn9 := gI_n hD ((E_24).1 _ _ aa_27) a_r2_31
                subst hn9
                have a_r2_1 := a_r2_31
                have hn9 := fe_qr (hq_31 8 (by decide))
                subst hn9
                have o_b_2 := o_v8_31 _ rfl
                have hn9 := fe_qr (hq_31 9 (by decide))
                subst hn9
                have o_b_3 := o_v9_31 _ rfl
                refine va_get (D := gD g) (ci := 1) (v := .ref b_2) (C := RX1) (T := TX1) (N := 10) hx hb hts inX1 hown hK hP k_1 hk_31 rfl 8 (by decide) (hts _ kw_478) (fun _ h9 => h9) rfl dX1_goThrough_157 ?_
                refine lv_aload_n hx hb dX1_goThrough_160 rfl (lv_at hl 0 rfl) ?_
                refine va_get (D := gD g) (ci := 1) (v := .ref b_3) (C := RX1) (T := TX1) (N := 10) hx hb hts inX1 hown hK hP k_1 hk_31 rfl 9 (by decide) (hts _ kw_479) (fun _ h9 => h9) rfl dX1_goThrough_161 ?_
                refine lv_iload_n hx hb dX1_goThrough_164 rfl (lv_at hl 1 rfl) ?_
                have hFc := gfree hD hS hA
                obtain ⟨k_32, fs_32, hk_32⟩ := gC_of o_b_2
                refine va_calli (va_runV (As := [.ref b_3, .int x1]) (rest := [.ref h0]) ⟨hx, hb, hml, hown, hts⟩ (m_X10_gives l g H.size ws_23 b_2 b_3 (x1) hG o_b_2 o_b_3) (cwV 2 hts (gd_V kw_540 kw_32 kw_33 kw_34 kw_31) rfl rfl rfl (by decide +kernel) ⟨Nat.le_of_ble_eq_true rfl, Nat.le_of_ble_eq_true rfl⟩) ⟨gblind, va_recv hK hP (ci := 9) (q0 := k_32) rfl hk_32, fun U hU hW9 => gmk hU hW9 hP hK hD hex hE hS hFc⟩ rfl rfl hl.1 rfl (lv_room (Nat.le_of_ble_eq_true rfl)) dX1_goThrough_165 ⟨Nat.le_of_ble_eq_true rfl, Nat.le_of_ble_eq_true rfl⟩) hS (fun q _ h => hFc q h) hFc (fun r_33 u9 t9 H1 locs ht9 hvm9 hw9 hB9 hz9 hk9 hS => ?_)
                have hP : va_P (gD g) cl0 ws_23 H1 := by rw [← ht9]; exact hB9.1
                clear hB9 hz9 hk9 hvm9 ht9 hw9
                generalize H1 = H at hP hS ⊢
                have hFc := gfree hD hS hA
                refine va_callv (va_runV (As := [.int r_33]) (rest := []) ⟨hx, hb, hml, hown, hts⟩ (m_X1_give l g H.size ws_23 h0 (r_33) hG o_h0) (cwV 1 hts (gd_V kw_541 kw_524 kw_525 kw_392 kw_523) rfl rfl rfl (by decide +kernel) ⟨Nat.le_of_ble_eq_true rfl, Nat.le_of_ble_eq_true rfl⟩) ⟨gblind, va_recv hK hP (ci := 1) (q0 := k_1) rfl hk_31, fun U hU hW9 => gmk hU hW9 hP hK hD hex hE hS hFc⟩ rfl rfl hl.1 rfl (lv_room (Nat.le_of_ble_eq_true rfl)) dX1_goThrough_168 ⟨Nat.le_of_ble_eq_true rfl, Nat.le_of_ble_eq_true rfl⟩) hS (fun q _ h => hFc q h) hFc (fun  ws_34 t9 H1 locs ht9 hvm9 hw9 hB9 hz9 hk9 hS => ?_)
                obtain ⟨E_35, Fr_36, hG, hP1, hD1⟩ := hB9
                have hP : va_P (gD g) cl0 ws_34 H1 := by rw [← ht9]; exact hP1
                have hD : va_D A ws_34 := hD1.weaken (fun _ _ _ h => hFc _ h)
                clear hP1 hD1 hz9 hk9 hvm9 ht9 hw9
                generalize H1 = H at hP hS ⊢
                have aa_39 := a_r1_31
                have aa_40 := a_r2_1
                have aa_41 := a_r3_31
                have aa_42 := a_r4_31
                have o_h0 := E_35.1 _ _ o_h0
                refine lv_aload_n hx hb dX1_goThrough_171 rfl (lv_at hl 0 rfl) ?_
                refine lv_dup hx hb dX1_goThrough_172 rfl ?_
                obtain ⟨fs9, hk_43, hq_43⟩ := ((gF.a (F' := [(1, 5)]) Fr_36 (fun _ h => h))) _ _ _ hk_31
                obtain ⟨r0_43, r1_43, n1_43, r2_43, n2_43, r3_43, n3_43, r4_43, n4_43, c5_43, c6_43, c7_43, v8_43, v9_43, rfl, o_r0_43, a_r1_43, f2_43, a_r2_43, f4_43, a_r3_43, f6_43, a_r4_43, f8_43, hz_c6_43, hz_c7_43, o_v8_43, o_v9_43, f13_43, f14_43, f15_43, f16_43, -⟩ := (hG.1 _ _ _ _ hk_43).hX1 rfl
                obtain rfl := fe_r (hq_43 2 (by decide))
                have hn9 := gI_n hD ((E_35).1 _ _ aa_40) a_r2_43
                subst hn9
                have a_r2_1 := a_r2_43
                obtain rfl := fe_i (hq_43 6 (by decide))
                have hz_c6_31 := hz_c6_43
                have hn9 := fe_qr (hq_43 8 (by decide))
                subst hn9
                have o_b_2 := o_v8_43 _ rfl
                have hn9 := fe_qr (hq_43 9 (by decide))
                subst hn9
                have o_b_3 := o_v9_43 _ rfl
                refine va_get (D := gD g) (ci := 1) (v := .int c6_31) (C := RX1) (T := TX1) (N := 10) hx hb hts inX1 hown hK hP k_1 hk_43 rfl 6 (by decide) (hts _ kw_536) (fun _ h9 => h9) rfl dX1_goThrough_173 ?_
                refine lv_iload_n hx hb dX1_goThrough_176 rfl (lv_at hl 2 rfl) ?_
                refine lv_sipush (v := 172) hx hb dX1_goThrough_177 (by decide) ?_
                have J_213 : ∀ (t_44 : Int32) (H : Heap) (locs : List Loc) (ls : Array Slot), t_44 = 0 ∨ t_44 = 1 → va_P (gD g) cl0 ws_34 H → va_D A ws_34 → va_S A s.heap H locs → lv_has ls 5 [] → W p l e (headSpec (wt yX1_goThrough cX1_goThrough 5 none) ({ frames := 4, cells := 0, slots := 0, locals := 86 })).room s m ([.ref h0, .int x1] : List Value).toArray below meth c H locs (0) (0) (MQ below (va_Qv (fun (u9 : va_W) => True) (gQ1 g [(1, 5), (1, 6)] [(1, 4)] none A ws) A) ([.ref h0, .int x1] : List Value).toArray s (0) (0) A) (F0 m 213 ls [.int t_44, .int c6_31, .ref h0]) := by
                  intro t_44 H locs ls iv_45 hP hD hS hl
                  have hz_t_44 := iv_45
                  refine lv_ior hx hb dX1_goThrough_213 ?_
                  refine lv_topi (fun z_48 ez_48 => ?_)
                  have hz_z_48 := bit_or ez_48 hz_c6_31 hz_t_44
                  have hV9 : okv ws_34 1 6 (.int z_48) := okv_i
                  refine va_put (D := gD g) (ci := 1) (v := .int z_48) (ty := .boolean) (C := RX1) (T := TX1) (N := 10) hx hb hts inX1 tyX1 tyX1_ok nmX1 hown hK hP hD hS k_1 hk_43 rfl 6 (by decide) (hts _ kw_536) (fun _ h9 => h9) rfl (by decide +kernel) (nz hz_z_48) (fz hz_z_48) (Nat.le_of_ble_eq_true rfl) dX1_goThrough_214 (fun H locs hP hD hS => ?_)
                  have hi_49 : invX1 g ws_34 h0 [.ref r0_43, .ref r1_43, .ref r2_1, .ref r3_43, .ref r4_43, .int c5_43, .int z_48, .int c7_43, .ref b_2, .ref b_3] := ⟨r0_43, r1_43, (n1_43), r2_1, (n2_1), r3_43, (n3_43), r4_43, (n4_43), (c5_43), (z_48), (c7_43), (some b_2), (some b_3), rfl, o_r0_43, a_r1_43, f2_43, a_r2_1, f4_43, a_r3_43, f6_43, a_r4_43, f8_43, hz_z_48, hz_c7_43, (fun b h9 => by cases h9; exact o_b_2), (fun b h9 => by cases h9; exact o_b_3), f13_43, f14_43, f15_43, f16_43, trivial⟩
                  obtain ⟨ws_50, e_ws_50⟩ : ∃ z, z = ws_34.set k_1 (h0, .inr (1, [.ref r0_43, .ref r1_43, .ref r2_1, .ref r3_43, .ref r4_43, .int c5_43, .int z_48, .int c7_43, .ref b_2, .ref b_3])) := ⟨_, rfl⟩
                  have hP : va_P (gD g) cl0 ws_50 H := by rw [e_ws_50]; exact hP
                  have hD : va_D A ws_50 := by rw [e_ws_50]; exact hD
                  have E_51 : gE ws_34 ws_50 := gE_set e_ws_50 hk_43 (cw_o (fi := 6) (v := .int z_48) rfl (by decide))
                  have hG : Good g ws_50 := Good_set (fi := 6) (v := .int z_48) e_ws_50 hk_43 E_51 rfl hV9 hG (ivX1 hi_49)
                  have Fr_52 : gF [(1, 6)] [] (some h0) ws_34 ws_50 := gF_put (fi := 6) (v := .int z_48) e_ws_50 hk_43 rfl (by decide)
                  have hkN := gset_self e_ws_50 hk_43
                  have hk_43 := hkN
                  have o_h0 := E_51.1 _ _ o_h0
                  have o_r0_43 := E_51.1 _ _ o_r0_43
                  have a_r1_43 := E_51.1 _ _ a_r1_43
                  have a_r3_43 := E_51.1 _ _ a_r3_43
                  have a_r4_43 := E_51.1 _ _ a_r4_43
                  have a_r2_1 := E_51.1 _ _ a_r2_1
                  have o_b_2 := E_51.1 _ _ o_b_2
                  have o_b_3 := E_51.1 _ _ o_b_3
                  exact J_217 ws_50 H locs ls ((E_24.tr (E_35.tr E_51))) ((gF.tr (gF.mo (F' := [(1, 5), (1, 6)]) (C' := [(1, 4)]) (S' := none) Fr_25 (fun _ h => h) (fun _ h => absurd h List.not_mem_nil) (Or.inr rfl)) (gF.tr (gF.mo (F' := [(1, 5), (1, 6)]) (C' := [(1, 4)]) (S' := none) Fr_36 (by decide) (fun _ h => h) (Or.inr rfl)) (gF.mo (F' := [(1, 5), (1, 6)]) (C' := [(1, 4)]) (S' := none) Fr_52 (by decide) (fun _ h => absurd h List.not_mem_nil) (Or.inl rfl))))) hG hP hD hS (lv_sub hl [] rfl)
                have J_212 : ∀  (H : Heap) (locs : List Loc) (ls : Array Slot), va_P (gD g) cl0 ws_34 H → va_D A ws_34 → va_S A s.heap H locs → lv_has ls 5 [] → W p l e (headSpec (wt yX1_goThrough cX1_goThrough 5 none) ({ frames := 4, cells := 0, slots := 0, locals := 86 })).room s m ([.ref h0, .int x1] : List Value).toArray below meth c H locs (0) (0) (MQ below (va_Qv (fun (u9 : va_W) => True) (gQ1 g [(1, 5), (1, 6)] [(1, 4)] none A ws) A) ([.ref h0, .int x1] : List Value).toArray s (0) (0) A) (F0 m 212 ls [.int c6_31, .ref h0]) := by
                  intro  H locs ls  hP hD hS hl
                  refine lv_iconst (v := 0) hx hb dX1_goThrough_212 (by decide) ?_
                  exact J_213 (0) H locs ls (Or.inl rfl) hP hD hS (lv_sub hl [] rfl)
                refine lv_icmp_lt (tgt := 212) hx hb dX1_goThrough_180 (by decide) (fun c_55 => ?_) (fun c_55 => ?_)
                · exact J_212  H locs ls  hP hD hS (lv_sub hl [] rfl)
                · refine lv_iload_n hx hb dX1_goThrough_183 rfl (lv_at hl 2 rfl) ?_
                  refine lv_sipush (v := 177) hx hb dX1_goThrough_184 (by decide) ?_
                  refine lv_icmp_gt (tgt := 212) hx hb dX1_goThrough_187 (by decide) (fun c_56 => ?_) (fun c_56 => ?_)
                  · exact J_212  H locs ls  hP hD hS (lv_sub hl [] rfl)
                  · refine lv_iload_n hx hb dX1_goThrough_190 rfl (lv_at hl 3 rfl) ?_
                    refine lv_aload_n hx hb dX1_goThrough_191 rfl (lv_at hl 0 rfl) ?_
                    refine va_get (D := gD g) (ci := 1) (v := .ref b_2) (C := RX1) (T := TX1) (N := 10) hx hb hts inX1 hown hK hP k_1 hk_43 rfl 8 (by decide) (hts _ kw_478) (fun _ h9 => h9) rfl dX1_goThrough_192 ?_
                    refine lv_aload_n hx hb dX1_goThrough_195 rfl (lv_at hl 0 rfl) ?_
                    refine va_get (D := gD g) (ci := 1) (v := .ref b_3) (C := RX1) (T := TX1) (N := 10) hx hb hts inX1 hown hK hP k_1 hk_43 rfl 9 (by decide) (hts _ kw_479) (fun _ h9 => h9) rfl dX1_goThrough_196 ?_
                    obtain ⟨k_57, fs9, hk_57⟩ := gC_of o_b_3
                    obtain ⟨r0_57, n0_57, r1_57, n1_57, c2_57, r3_57, n3_57, c4_57, r5_57, n5_57, r6_57, n6_57, r7_57, n7_57, r8_57, n8_57, c9_57, c10_57, c11_57, v12_57, v13_57, v14_57, rfl, a_r0_57, f1_57, a_r1_57, f3_57, a_r3_57, f5_57, a_r5_57, f7_57, a_r6_57, f9_57, a_r7_57, f11_57, a_r8_57, f13_57, o_v12_57, o_v13_57, o_v14_57, f17_57, f18_57, f19_57, f20_57, f21_57, f22_57, f23_57, f24_57, f25_57, f26_57, f27_57, f28_57, f29_57, -⟩ := (hG.1 _ _ _ _ hk_57).hX8 rfl
                    refine va_get (D := gD g) (ci := 7) (v := .int c11_57) (C := RX8) (T := TX8) (N := 15) hx hb hts inX8 hown hK hP k_57 hk_57 rfl 11 (by decide) (hts _ kw_480) (fun _ h9 => h9) rfl dX1_goThrough_199 ?_
                    have hFc := gfree hD hS hA
                    obtain ⟨k_58, fs_58, hk_58⟩ := gC_of o_b_2
                    refine va_calli (va_runV (As := [.int c11_57]) (rest := [.int r_21, .int c6_31, .ref h0]) ⟨hx, hb, hml, hown, hts⟩ (m_X10_givesOfMethod l g H.size ws_34 b_2 (c11_57) hG o_b_2) (cwV 1 hts (gd_V kw_542 kw_41 kw_42 kw_34 kw_40) rfl rfl rfl (by decide +kernel) ⟨Nat.le_of_ble_eq_true rfl, Nat.le_of_ble_eq_true rfl⟩) ⟨gblind, va_recv hK hP (ci := 9) (q0 := k_58) rfl hk_58, fun U hU hW9 => gmk hU hW9 hP hK hD hex hE hS hFc⟩ rfl rfl hl.1 rfl (lv_room (Nat.le_of_ble_eq_true rfl)) dX1_goThrough_202 ⟨Nat.le_of_ble_eq_true rfl, Nat.le_of_ble_eq_true rfl⟩) hS (fun q _ h => hFc q h) hFc (fun r_59 u9 t9 H1 locs ht9 hvm9 hw9 hB9 hz9 hk9 hS => ?_)
                    have hP : va_P (gD g) cl0 ws_34 H1 := by rw [← ht9]; exact hB9.1
                    clear hB9 hz9 hk9 hvm9 ht9 hw9
                    generalize H1 = H at hP hS ⊢
                    refine lv_icmp_eq (tgt := 212) hx hb dX1_goThrough_205 (by decide) (fun c_60 => ?_) (fun c_60 => ?_)
                    · exact J_212  H locs ls  hP hD hS (lv_sub hl [] rfl)
                    · refine lv_iconst (v := 1) hx hb dX1_goThrough_208 (by decide) ?_
                      refine lv_goto (tgt := 213) hx hb dX1_goThrough_209 (by decide) ?_
                      exact J_213 (1) H locs ls (Or.inr rfl) hP hD hS (lv_sub hl [] rfl)
              · refine lv_aload_n hx hb dX1_goThrough_136 rfl (lv_at hl 0 rfl) ?_
                refine lv_iload hx hb dX1_goThrough_137 (lv_at hl 4 rfl) ?_
                refine lv_bipush (v := 15) hx hb dX1_goThrough_139 (by decide) ?_
                refine lv_iand hx hb dX1_goThrough_141 ?_
                refine lv_topi (fun z_61 ez_61 => ?_)
                have hFc := gfree hD hS hA
                obtain ⟨k_62, fs_62, hk_62⟩ := gC_of o_h0
                refine va_calli (va_runV (As := [.int z_61]) (rest := []) ⟨hx, hb, hml, hown, hts⟩ (m_X1_take l g H.size ws_23 h0 (z_61) hG o_h0) (cwV 1 hts (gd_V kw_539 kw_601 kw_602 kw_392 kw_600) rfl rfl rfl (by decide +kernel) ⟨Nat.le_of_ble_eq_true rfl, Nat.le_of_ble_eq_true rfl⟩) ⟨gblind, va_recv hK hP (ci := 1) (q0 := k_62) rfl hk_62, fun U hU hW9 => gmk hU hW9 hP hK hD hex hE hS hFc⟩ rfl rfl hl.1 rfl (lv_room (Nat.le_of_ble_eq_true rfl)) dX1_goThrough_142 ⟨Nat.le_of_ble_eq_true rfl, Nat.le_of_ble_eq_true rfl⟩) hS (fun q _ h => hFc q h) hFc (fun r_63 ws_64 t9 H1 locs ht9 hvm9 hw9 hB9 hz9 hk9 hS => ?_)
                obtain ⟨E_65, Fr_66, hG, hP1, hD1⟩ := hB9
                have hP : va_P (gD g) cl0 ws_64 H1 := by rw [← ht9]; exact hP1
                have hD : va_D A ws_64 := hD1.weaken (fun _ _ _ h => hFc _ h)
                clear hP1 hD1 hz9 hk9 hvm9 ht9 hw9
                generalize H1 = H at hP hS ⊢
                have o_h0 := E_65.1 _ _ o_h0
                refine lv_pop hx hb dX1_goThrough_145 rfl ?_
                refine lv_iload hx hb dX1_goThrough_146 (lv_at hl 4 rfl) ?_
                refine lv_iconst (v := 4) hx hb dX1_goThrough_148 (by decide) ?_
                refine lv_ishr hx hb dX1_goThrough_149 ?_
                refine lv_topi (fun z_69 ez_69 => ?_)
                refine lv_istore (lv' := [(4, .int z_69), (0, .ref h0), (1, .int x1), (2, .int r_5), (3, .int r_21)]) hx hb dX1_goThrough_150 hl (by decide) rfl (fun ls hl => ?_)
                refine lv_goto (tgt := 131) hx hb dX1_goThrough_152 (by decide) ?_
                exact ih_131 _ (by have e0 : (0 : Int32).toInt = 0 := (by decide); have q_z_69 := i_shr (k := 4) (b := 16) ez_69 (by decide) (by decide); have q_c_30 := i_nle c_30; have q_z_61 := i_and (k := 4) (b := 16) ez_61 (by decide) (by decide) (by decide); have g_v4_22 := i_rg v4_22; have g_z_61 := i_rg z_61; have g_z_69 := i_rg z_69; omega) (z_69) ws_64 H locs ls rfl ((E_24.tr E_65)) ((gF.tr Fr_25 Fr_66)) hG hP hD hS (lv_sub hl [1, 2, 3, 4, 0] rfl)
          exact J_131 _ (r_21) ws H locs ls rfl (gE.rf) (gF.rf) hG hP hD hS (lv_sub hl [2, 3, 4, 1, 0] rfl)
        · refine lv_aload_n hx hb dX1_goThrough_82 rfl (lv_at hl 0 rfl) ?_
          refine lv_dup hx hb dX1_goThrough_83 rfl ?_
          refine va_get (D := gD g) (ci := 1) (v := .int c6_1) (C := RX1) (T := TX1) (N := 10) hx hb hts inX1 hown hK hP k_1 hk_1 rfl 6 (by decide) (hts _ kw_536) (fun _ h9 => h9) rfl dX1_goThrough_84 ?_
          refine lv_aload_n hx hb dX1_goThrough_87 rfl (lv_at hl 0 rfl) ?_
          refine lv_aload_n hx hb dX1_goThrough_88 rfl (lv_at hl 0 rfl) ?_
          refine va_get (D := gD g) (ci := 1) (v := .ref b_3) (C := RX1) (T := TX1) (N := 10) hx hb hts inX1 hown hK hP k_1 hk_1 rfl 9 (by decide) (hts _ kw_479) (fun _ h9 => h9) rfl dX1_goThrough_89 ?_
          refine lv_iload_n hx hb dX1_goThrough_92 rfl (lv_at hl 1 rfl) ?_
          have hFc := gfree hD hS hA
          obtain ⟨k_70, fs_70, hk_70⟩ := gC_of o_b_3
          refine va_calli (va_runV (As := [.int x1]) (rest := [.ref h0, .int c6_1, .ref h0]) ⟨hx, hb, hml, hown, hts⟩ (m_X8_localOf l g H.size ws b_3 (x1) hG o_b_3) (cwV 1 hts (gd_V kw_532 kw_1509 kw_1510 kw_782 kw_1508) rfl rfl rfl (by decide +kernel) ⟨Nat.le_of_ble_eq_true rfl, Nat.le_of_ble_eq_true rfl⟩) ⟨gblind, va_recv hK hP (ci := 7) (q0 := k_70) rfl hk_70, fun U hU hW9 => gmk hU hW9 hP hK hD hex hE hS hFc⟩ rfl rfl hl.1 rfl (lv_room (Nat.le_of_ble_eq_true rfl)) dX1_goThrough_93 ⟨Nat.le_of_ble_eq_true rfl, Nat.le_of_ble_eq_true rfl⟩) hS (fun q _ h => hFc q h) hFc (fun r_71 u9 t9 H1 locs ht9 hvm9 hw9 hB9 hz9 hk9 hS => ?_)
          have hP : va_P (gD g) cl0 ws H1 := by rw [← ht9]; exact hB9.1
          clear hB9 hz9 hk9 hvm9 ht9 hw9
          generalize H1 = H at hP hS ⊢
          have hFc := gfree hD hS hA
          refine va_calli (va_runV (As := [.int r_71]) (rest := [.int c6_1, .ref h0]) ⟨hx, hb, hml, hown, hts⟩ (m_X1_placeAt l g H.size ws h0 (r_71) hG o_h0) (cwV 1 hts (gd_V kw_537 kw_579 kw_580 kw_392 kw_578) rfl rfl rfl (by decide +kernel) ⟨Nat.le_of_ble_eq_true rfl, Nat.le_of_ble_eq_true rfl⟩) ⟨gblind, va_recv hK hP (ci := 1) (q0 := k_1) rfl hk_1, fun U hU hW9 => gmk hU hW9 hP hK hD hex hE hS hFc⟩ rfl rfl hl.1 rfl (lv_room (Nat.le_of_ble_eq_true rfl)) dX1_goThrough_96 ⟨Nat.le_of_ble_eq_true rfl, Nat.le_of_ble_eq_true rfl⟩) hS (fun q _ h => hFc q h) hFc (fun r_72 u9 t9 H1 locs ht9 hvm9 hw9 hB9 hz9 hk9 hS => ?_)
          have hP : va_P (gD g) cl0 ws H1 := by rw [← ht9]; exact hB9.1
          clear hB9 hz9 hk9 hvm9 ht9 hw9
          generalize H1 = H at hP hS ⊢
          refine lv_iconst (v := 1) hx hb dX1_goThrough_99 (by decide) ?_
          have J_108 : ∀ (t_73 : Int32) (H : Heap) (locs : List Loc) (ls : Array Slot), t_73 = 0 ∨ t_73 = 1 → va_P (gD g) cl0 ws H → va_D A ws → va_S A s.heap H locs → lv_has ls 5 [] → W p l e (headSpec (wt yX1_goThrough cX1_goThrough 5 none) ({ frames := 4, cells := 0, slots := 0, locals := 86 })).room s m ([.ref h0, .int x1] : List Value).toArray below meth c H locs (0) (0) (MQ below (va_Qv (fun (u9 : va_W) => True) (gQ1 g [(1, 5), (1, 6)] [(1, 4)] none A ws) A) ([.ref h0, .int x1] : List Value).toArray s (0) (0) A) (F0 m 108 ls [.int t_73, .int c6_1, .ref h0]) := by
            intro t_73 H locs ls iv_74 hP hD hS hl
            have hz_t_73 := iv_74
            refine lv_ior hx hb dX1_goThrough_108 ?_
            refine lv_topi (fun z_77 ez_77 => ?_)
            have hz_z_77 := bit_or ez_77 hz_c6_1 hz_t_73
            have hV9 : okv ws 1 6 (.int z_77) := okv_i
            refine va_put (D := gD g) (ci := 1) (v := .int z_77) (ty := .boolean) (C := RX1) (T := TX1) (N := 10) hx hb hts inX1 tyX1 tyX1_ok nmX1 hown hK hP hD hS k_1 hk_1 rfl 6 (by decide) (hts _ kw_536) (fun _ h9 => h9) rfl (by decide +kernel) (nz hz_z_77) (fz hz_z_77) (Nat.le_of_ble_eq_true rfl) dX1_goThrough_109 (fun H locs hP hD hS => ?_)
            have hi_78 : invX1 g ws h0 [.ref r0_1, .ref r1_1, .ref r2_1, .ref r3_1, .ref r4_1, .int c5_1, .int z_77, .int c7_1, .ref b_2, .ref b_3] := ⟨r0_1, r1_1, (n1_1), r2_1, (n2_1), r3_1, (n3_1), r4_1, (n4_1), (c5_1), (z_77), (c7_1), (some b_2), (some b_3), rfl, o_r0_1, a_r1_1, f2_1, a_r2_1, f4_1, a_r3_1, f6_1, a_r4_1, f8_1, hz_z_77, hz_c7_1, (fun b h9 => by cases h9; exact o_b_2), (fun b h9 => by cases h9; exact o_b_3), f13_1, f14_1, f15_1, f16_1, trivial⟩
            obtain ⟨ws_79, e_ws_79⟩ : ∃ z, z = ws.set k_1 (h0, .inr (1, [.ref r0_1, .ref r1_1, .ref r2_1, .ref r3_1, .ref r4_1, .int c5_1, .int z_77, .int c7_1, .ref b_2, .ref b_3])) := ⟨_, rfl⟩
            have hP : va_P (gD g) cl0 ws_79 H := by rw [e_ws_79]; exact hP
            have hD : va_D A ws_79 := by rw [e_ws_79]; exact hD
            have E_80 : gE ws ws_79 := gE_set e_ws_79 hk_1 (cw_o (fi := 6) (v := .int z_77) rfl (by decide))
            have hG : Good g ws_79 := Good_set (fi := 6) (v := .int z_77) e_ws_79 hk_1 E_80 rfl hV9 hG (ivX1 hi_78)
            have Fr_81 : gF [(1, 6)] [] (some h0) ws ws_79 := gF_put (fi := 6) (v := .int z_77) e_ws_79 hk_1 rfl (by decide)
            have hkN := gset_self e_ws_79 hk_1
            have hk_1 := hkN
            have o_h0 := E_80.1 _ _ o_h0
            have o_r0_1 := E_80.1 _ _ o_r0_1
            have a_r1_1 := E_80.1 _ _ a_r1_1
            have a_r2_1 := E_80.1 _ _ a_r2_1
            have a_r3_1 := E_80.1 _ _ a_r3_1
            have a_r4_1 := E_80.1 _ _ a_r4_1
            have o_b_2 := E_80.1 _ _ o_b_2
            have o_b_3 := E_80.1 _ _ o_b_3
            refine lv_goto (tgt := 217) hx hb dX1_goThrough_112 (by decide) ?_
            exact J_217 ws_79 H locs ls (E_80) ((gF.mo (F' := [(1, 5), (1, 6)]) (C' := [(1, 4)]) (S' := none) Fr_81 (by decide) (fun _ h => absurd h List.not_mem_nil) (Or.inl rfl))) hG hP hD hS (lv_sub hl [] rfl)
          refine lv_icmp_eq (tgt := 107) hx hb dX1_goThrough_100 (by decide) (fun c_82 => ?_) (fun c_82 => ?_)
          · refine lv_iconst (v := 0) hx hb dX1_goThrough_107 (by decide) ?_
            exact J_108 (0) H locs ls (Or.inl rfl) hP hD hS (lv_sub hl [] rfl)
          · refine lv_iconst (v := 1) hx hb dX1_goThrough_103 (by decide) ?_
            refine lv_goto (tgt := 108) hx hb dX1_goThrough_104 (by decide) ?_
            exact J_108 (1) H locs ls (Or.inr rfl) hP hD hS (lv_sub hl [] rfl)
      · refine lv_aload_n hx hb dX1_goThrough_59 rfl (lv_at hl 0 rfl) ?_
        refine lv_iload_n hx hb dX1_goThrough_60 rfl (lv_at hl 2 rfl) ?_
        refine lv_aload_n hx hb dX1_goThrough_61 rfl (lv_at hl 0 rfl) ?_
        refine va_get (D := gD g) (ci := 1) (v := .ref b_3) (C := RX1) (T := TX1) (N := 10) hx hb hts inX1 hown hK hP k_1 hk_1 rfl 9 (by decide) (hts _ kw_479) (fun _ h9 => h9) rfl dX1_goThrough_62 ?_
        refine lv_iload_n hx hb dX1_goThrough_65 rfl (lv_at hl 1 rfl) ?_
        have hFc := gfree hD hS hA
        obtain ⟨k_83, fs_83, hk_83⟩ := gC_of o_b_3
        refine va_calli (va_runV (As := [.int x1]) (rest := [.int r_5, .ref h0]) ⟨hx, hb, hml, hown, hts⟩ (m_X8_localOf l g H.size ws b_3 (x1) hG o_b_3) (cwV 1 hts (gd_V kw_532 kw_1509 kw_1510 kw_782 kw_1508) rfl rfl rfl (by decide +kernel) ⟨Nat.le_of_ble_eq_true rfl, Nat.le_of_ble_eq_true rfl⟩) ⟨gblind, va_recv hK hP (ci := 7) (q0 := k_83) rfl hk_83, fun U hU hW9 => gmk hU hW9 hP hK hD hex hE hS hFc⟩ rfl rfl hl.1 rfl (lv_room (Nat.le_of_ble_eq_true rfl)) dX1_goThrough_66 ⟨Nat.le_of_ble_eq_true rfl, Nat.le_of_ble_eq_true rfl⟩) hS (fun q _ h => hFc q h) hFc (fun r_84 u9 t9 H1 locs ht9 hvm9 hw9 hB9 hz9 hk9 hS => ?_)
        have hP : va_P (gD g) cl0 ws H1 := by rw [← ht9]; exact hB9.1
        clear hB9 hz9 hk9 hvm9 ht9 hw9
        generalize H1 = H at hP hS ⊢
        have hFc := gfree hD hS hA
        refine va_callv (va_runV (As := [.int r_5, .int r_84]) (rest := []) ⟨hx, hb, hml, hown, hts⟩ (m_X1_store l g H.size ws h0 (r_5) (r_84) hG o_h0) (cwV 2 hts (gd_V kw_535 kw_596 kw_597 kw_392 kw_595) rfl rfl rfl (by decide +kernel) ⟨Nat.le_of_ble_eq_true rfl, Nat.le_of_ble_eq_true rfl⟩) ⟨gblind, va_recv hK hP (ci := 1) (q0 := k_1) rfl hk_1, fun U hU hW9 => gmk hU hW9 hP hK hD hex hE hS hFc⟩ rfl rfl hl.1 rfl (lv_room (Nat.le_of_ble_eq_true rfl)) dX1_goThrough_69 ⟨Nat.le_of_ble_eq_true rfl, Nat.le_of_ble_eq_true rfl⟩) hS (fun q _ h => hFc q h) hFc (fun  ws_85 t9 H1 locs ht9 hvm9 hw9 hB9 hz9 hk9 hS => ?_)
        obtain ⟨E_86, Fr_87, hG, hP1, hD1⟩ := hB9
        have hP : va_P (gD g) cl0 ws_85 H1 := by rw [← ht9]; exact hP1
        have hD : va_D A ws_85 := hD1.weaken (fun _ _ _ h => hFc _ h)
        clear hP1 hD1 hz9 hk9 hvm9 ht9 hw9
        generalize H1 = H at hP hS ⊢
        have aa_90 := a_r1_1
        have aa_91 := a_r2_1
        have aa_92 := a_r3_1
        have aa_93 := a_r4_1
        have o_h0 := E_86.1 _ _ o_h0
        refine lv_goto (tgt := 217) hx hb dX1_goThrough_72 (by decide) ?_
        exact J_217 ws_85 H locs ls (E_86) (Fr_87) hG hP hD hS (lv_sub hl [] rfl)
    · refine lv_aload_n hx hb dX1_goThrough_36 rfl (lv_at hl 0 rfl) ?_
      refine lv_iload_n hx hb dX1_goThrough_37 rfl (lv_at hl 2 rfl) ?_
      refine lv_aload_n hx hb dX1_goThrough_38 rfl (lv_at hl 0 rfl) ?_
      refine va_get (D := gD g) (ci := 1) (v := .ref b_3) (C := RX1) (T := TX1) (N := 10) hx hb hts inX1 hown hK hP k_1 hk_1 rfl 9 (by decide) (hts _ kw_479) (fun _ h9 => h9) rfl dX1_goThrough_39 ?_
      refine lv_iload_n hx hb dX1_goThrough_42 rfl (lv_at hl 1 rfl) ?_
      have hFc := gfree hD hS hA
      obtain ⟨k_94, fs_94, hk_94⟩ := gC_of o_b_3
      refine va_calli (va_runV (As := [.int x1]) (rest := [.int r_5, .ref h0]) ⟨hx, hb, hml, hown, hts⟩ (m_X8_localOf l g H.size ws b_3 (x1) hG o_b_3) (cwV 1 hts (gd_V kw_532 kw_1509 kw_1510 kw_782 kw_1508) rfl rfl rfl (by decide +kernel) ⟨Nat.le_of_ble_eq_true rfl, Nat.le_of_ble_eq_true rfl⟩) ⟨gblind, va_recv hK hP (ci := 7) (q0 := k_94) rfl hk_94, fun U hU hW9 => gmk hU hW9 hP hK hD hex hE hS hFc⟩ rfl rfl hl.1 rfl (lv_room (Nat.le_of_ble_eq_true rfl)) dX1_goThrough_43 ⟨Nat.le_of_ble_eq_true rfl, Nat.le_of_ble_eq_true rfl⟩) hS (fun q _ h => hFc q h) hFc (fun r_95 u9 t9 H1 locs ht9 hvm9 hw9 hB9 hz9 hk9 hS => ?_)
      have hP : va_P (gD g) cl0 ws H1 := by rw [← ht9]; exact hB9.1
      clear hB9 hz9 hk9 hvm9 ht9 hw9
      generalize H1 = H at hP hS ⊢
      have hFc := gfree hD hS hA
      refine va_callv (va_runV (As := [.int r_5, .int r_95]) (rest := []) ⟨hx, hb, hml, hown, hts⟩ (m_X1_load l g H.size ws h0 (r_5) (r_95) hG o_h0) (cwV 2 hts (gd_V kw_533 kw_569 kw_570 kw_392 kw_568) rfl rfl rfl (by decide +kernel) ⟨Nat.le_of_ble_eq_true rfl, Nat.le_of_ble_eq_true rfl⟩) ⟨gblind, va_recv hK hP (ci := 1) (q0 := k_1) rfl hk_1, fun U hU hW9 => gmk hU hW9 hP hK hD hex hE hS hFc⟩ rfl rfl hl.1 rfl (lv_room (Nat.le_of_ble_eq_true rfl)) dX1_goThrough_46 ⟨Nat.le_of_ble_eq_true rfl, Nat.le_of_ble_eq_true rfl⟩) hS (fun q _ h => hFc q h) hFc (fun  ws_96 t9 H1 locs ht9 hvm9 hw9 hB9 hz9 hk9 hS => ?_)
      obtain ⟨E_97, Fr_98, hG, hP1, hD1⟩ := hB9
      have hP : va_P (gD g) cl0 ws_96 H1 := by rw [← ht9]; exact hP1
      have hD : va_D A ws_96 := hD1.weaken (fun _ _ _ h => hFc _ h)
      clear hP1 hD1 hz9 hk9 hvm9 ht9 hw9
      generalize H1 = H at hP hS ⊢
      have aa_101 := a_r1_1
      have aa_102 := a_r2_1
      have aa_103 := a_r3_1
      have aa_104 := a_r4_1
      have o_h0 := E_97.1 _ _ o_h0
      refine lv_goto (tgt := 217) hx hb dX1_goThrough_49 (by decide) ?_
      exact J_217 ws_96 H locs ls (E_97) (Fr_98) hG hP hD hS (lv_sub hl [] rfl)
  refine lv_icmp_lt (tgt := 29) hx hb dX1_goThrough_12 (by decide) (fun c_105 => ?_) (fun c_105 => ?_)
  · exact J_29  H locs ls  hP hD hS (lv_sub hl [1, 2, 0] rfl)
  · refine lv_iload_n hx hb dX1_goThrough_15 rfl (lv_at hl 0 rfl) ?_
    refine lv_bipush (v := 95) hx hb dX1_goThrough_16 (by decide) ?_
    refine lv_icmp_gt (tgt := 29) hx hb dX1_goThrough_18 (by decide) (fun c_106 => ?_) (fun c_106 => ?_)
    · exact J_29  H locs ls  hP hD hS (lv_sub hl [1, 2, 0] rfl)
    · refine lv_aload_n hx hb dX1_goThrough_21 rfl (lv_at hl 1 rfl) ?_
      refine lv_iload_n hx hb dX1_goThrough_22 rfl (lv_at hl 0 rfl) ?_
      have hFc := gfree hD hS hA
      refine va_callv (va_runV (As := [.int r_5]) (rest := []) ⟨hx, hb, hml, hown, hts⟩ (m_X1_shuffle l g H.size ws h0 (r_5) hG o_h0) (cwV 1 hts (gd_V kw_530 kw_591 kw_592 kw_392 kw_590) rfl rfl rfl (by decide +kernel) ⟨Nat.le_of_ble_eq_true rfl, Nat.le_of_ble_eq_true rfl⟩) ⟨gblind, va_recv hK hP (ci := 1) (q0 := k_1) rfl hk_1, fun U hU hW9 => gmk hU hW9 hP hK hD hex hE hS hFc⟩ rfl rfl hl.1 rfl (lv_room (Nat.le_of_ble_eq_true rfl)) dX1_goThrough_23 ⟨Nat.le_of_ble_eq_true rfl, Nat.le_of_ble_eq_true rfl⟩) hS (fun q _ h => hFc q h) hFc (fun  ws_107 t9 H1 locs ht9 hvm9 hw9 hB9 hz9 hk9 hS => ?_)
      obtain ⟨E_108, Fr_109, hG, hP1, hD1⟩ := hB9
      have hP : va_P (gD g) cl0 ws_107 H1 := by rw [← ht9]; exact hP1
      have hD : va_D A ws_107 := hD1.weaken (fun _ _ _ h => hFc _ h)
      clear hP1 hD1 hz9 hk9 hvm9 ht9 hw9
      generalize H1 = H at hP hS ⊢
      have aa_112 := a_r1_1
      have aa_113 := a_r2_1
      have aa_114 := a_r3_1
      have aa_115 := a_r4_1
      have o_h0 := E_108.1 _ _ o_h0
      refine lv_goto (tgt := 217) hx hb dX1_goThrough_26 (by decide) ?_
      exact J_217 ws_107 H locs ls (E_108) (Fr_109) hG hP hD hS (lv_sub hl [] rfl)
set_option maxHeartbeats 1000000 in
set_option maxRecDepth 100000 in
theorem m_X1_beginBody (l : Launch) (g : Gm) (sz : Nat) (ws : va_W) (h0 : Nat) (hG : Good g ws) (o_h0 : gC ws h0 1) (nn_h0_8 : gN ws h0 8) (nn_h0_9 : gN ws h0 9) (f2_c : ∀ (k k2 b : Nat) (fs gs : List Value), ows ws k h0 1 fs → fs[9]? = some (.ref b) → ows ws k2 b 7 gs → ∀ c : Int32, gs[2]? = some (.int c) → ∀ (rn n : Nat), fs[2]? = some (.ref rn) → gI ws rn g.cZ n → c.toInt ≤ n) : Met l yX1_beginBody (wt yX1_beginBody cX1_beginBody 6 none) ({ frames := 3, cells := 0, slots := 0, locals := 66 }) (va_Pc [.ref h0] (st_G g sz ws)) (va_Qv (fun (u9 : va_W) => True) (gQ1 g [(1, 5), (1, 7)] [(1, 1), (1, 2), (1, 3), (1, 4)] none (va_A ws sz) ws) (va_A ws sz)) (0) (0) (va_A ws sz) := by
  refine Met.ofW (cc := cX1_beginBody) (maxL := 6) (ret := none) (by decide) rfl ?_
  intro p e s m args below meth c s₁ B hml hv
  obtain ⟨rfl, hsz, hP, hK, hD0, hex, hE⟩ := hv
  have hx := B.exec
  have hb := B.bytes
  have hr := B.returns
  have hts0 := atoms_spec (ws := wt yX1_beginBody cX1_beginBody 6 none) B.pre
  have hts : ∀ w ∈ tb, w.before _ s = true := fun w h => hts0 w (List.mem_cons_of_mem _ h)
  have hown : s.vm.findClass RX1 = some m.cls := findClass_of_methodNamed B.named
  subst hsz
  have hD := hD0.self (sz := s.heap.size)
  generalize hAe : va_A ws s.heap.size = A at hD hE ⊢
  have hA : ∀ q : Nat, s.heap.size ≤ q → A q := fun q h => by rw [← hAe]; exact Or.inr h
  have hS : va_S A s.heap s.heap [] := va_S.rf
  have hl := lv_entry ([.ref h0]) (n := 6) (Nat.le_of_ble_eq_true rfl)
  rw [lg_entry_eq]
  generalize (lg_sl ([.ref h0]) ++ List.replicate (6 - (lg_sl ([.ref h0])).length) Slot.unset).toArray = ls at hl ⊢
  have hl : lv_has ls 6 [(0, .ref h0)] := hl
  obtain ⟨k_1, fs9, hk_1⟩ := gC_of o_h0
  obtain ⟨r0_1, r1_1, n1_1, r2_1, n2_1, r3_1, n3_1, r4_1, n4_1, c5_1, c6_1, c7_1, v8_1, v9_1, rfl, o_r0_1, a_r1_1, f2_1, a_r2_1, f4_1, a_r3_1, f6_1, a_r4_1, f8_1, hz_c6_1, hz_c7_1, o_v8_1, o_v9_1, f13_1, f14_1, f15_1, f16_1, -⟩ := (hG.1 _ _ _ _ hk_1).hX1 rfl
  obtain ⟨b_2, hn9⟩ := nn_h0_8 _ _ _ hk_1
  have hn9 := fe_qr hn9
  subst hn9
  have o_b_2 := o_v8_1 _ rfl
  obtain ⟨b_3, hn9⟩ := nn_h0_9 _ _ _ hk_1
  have hn9 := fe_qr hn9
  subst hn9
  have o_b_3 := o_v9_1 _ rfl
  obtain ⟨k_4, fs9, hk_4⟩ := gC_of o_b_3
  obtain ⟨r0_4, n0_4, r1_4, n1_4, c2_4, r3_4, n3_4, c4_4, r5_4, n5_4, r6_4, n6_4, r7_4, n7_4, r8_4, n8_4, c9_4, c10_4, c11_4, v12_4, v13_4, v14_4, rfl, a_r0_4, f1_4, a_r1_4, f3_4, a_r3_4, f5_4, a_r5_4, f7_4, a_r6_4, f9_4, a_r7_4, f11_4, a_r8_4, f13_4, o_v12_4, o_v13_4, o_v14_4, f17_4, f18_4, f19_4, f20_4, f21_4, f22_4, f23_4, f24_4, f25_4, f26_4, f27_4, f28_4, f29_4, -⟩ := (hG.1 _ _ _ _ hk_4).hX8 rfl
  have fq2_c := f2_c _ _ _ _ _ hk_1 rfl hk_4 _ rfl _ _ rfl a_r2_1
  refine lv_iconst (v := 0) hx hb dX1_beginBody_0 (by decide) ?_
  refine lv_istore_n (lv' := [(1, .int 0), (0, .ref h0)]) hx hb dX1_beginBody_1 rfl hl (by decide) rfl (fun ls hl => ?_)
  have J_2 : ∀ (n9 : Nat) (v1_5 : Int32) (ws_7 : va_W) (H : Heap) (locs : List Loc) (ls : Array Slot), (2147483647 - v1_5.toInt).toNat = n9 → 0 ≤ v1_5.toInt → gE ws ws_7 → gF [] [(1, 4)] none ws ws_7 → Good g ws_7 → va_P (gD g) cl0 ws_7 H → va_D A ws_7 → va_S A s.heap H locs → lv_has ls 6 [(0, .ref h0), (1, .int v1_5)] → W p l e (headSpec (wt yX1_beginBody cX1_beginBody 6 none) ({ frames := 3, cells := 0, slots := 0, locals := 66 })).room s m ([.ref h0] : List Value).toArray below meth c H locs (0) (0) (MQ below (va_Qv (fun (u9 : va_W) => True) (gQ1 g [(1, 5), (1, 7)] [(1, 1), (1, 2), (1, 3), (1, 4)] none A ws) A) ([.ref h0] : List Value).toArray s (0) (0) A) (F0 m 2 ls []) := by
    intro n9
    induction n9 using Nat.strongRecOn with
    | ind n9 ih_2 =>
      intro v1_5 ws_7 H locs ls hm9 iv_6 E_8 Fr_9 hG hP hD hS hl
      subst hm9
      have aa_10 := a_r1_1
      have aa_11 := a_r2_1
      have aa_12 := a_r3_1
      have aa_13 := a_r4_1
      have aa_14 := a_r0_4
      have aa_15 := a_r1_4
      have aa_16 := a_r3_4
      have aa_17 := a_r5_4
      have aa_18 := a_r6_4
      have aa_19 := a_r7_4
      have aa_20 := a_r8_4
      have o_h0 := E_8.1 _ _ o_h0
      refine lv_iload_n hx hb dX1_beginBody_2 rfl (lv_at hl 1 rfl) ?_
      refine lv_bipush (v := 48) hx hb dX1_beginBody_3 (by decide) ?_
      refine lv_icmp_ge (tgt := 21) hx hb dX1_beginBody_5 (by decide) (fun c_21 => ?_) (fun c_21 => ?_)
      · refine lv_aload_n hx hb dX1_beginBody_21 rfl (lv_at hl 0 rfl) ?_
        obtain ⟨fs9, hk_22, hq_22⟩ := ((gF.a (F' := []) Fr_9 (fun _ h => h))) _ _ _ hk_1
        obtain ⟨r0_22, r1_22, n1_22, r2_22, n2_22, r3_22, n3_22, r4_22, n4_22, c5_22, c6_22, c7_22, v8_22, v9_22, rfl, o_r0_22, a_r1_22, f2_22, a_r2_22, f4_22, a_r3_22, f6_22, a_r4_22, f8_22, hz_c6_22, hz_c7_22, o_v8_22, o_v9_22, f13_22, f14_22, f15_22, f16_22, -⟩ := (hG.1 _ _ _ _ hk_22).hX1 rfl
        obtain rfl := fe_r (hq_22 2 (by decide))
        have hn9 := gI_n hD ((E_8).1 _ _ aa_11) a_r2_22
        subst hn9
        have a_r2_1 := a_r2_22
        obtain rfl := fe_r (hq_22 4 (by decide))
        have hn9 := gI_n hD ((E_8).1 _ _ aa_13) a_r4_22
        subst hn9
        have a_r4_1 := a_r4_22
        have hn9 := fe_qr (hq_22 8 (by decide))
        subst hn9
        have o_b_2 := o_v8_22 _ rfl
        have hn9 := fe_qr (hq_22 9 (by decide))
        subst hn9
        have o_b_3 := o_v9_22 _ rfl
        refine va_get (D := gD g) (ci := 1) (v := .ref b_2) (C := RX1) (T := TX1) (N := 10) hx hb hts inX1 hown hK hP k_1 hk_22 rfl 8 (by decide) (hts _ kw_478) (fun _ h9 => h9) rfl dX1_beginBody_22 ?_
        refine lv_aload_n hx hb dX1_beginBody_25 rfl (lv_at hl 0 rfl) ?_
        refine va_get (D := gD g) (ci := 1) (v := .ref b_3) (C := RX1) (T := TX1) (N := 10) hx hb hts inX1 hown hK hP k_1 hk_22 rfl 9 (by decide) (hts _ kw_479) (fun _ h9 => h9) rfl dX1_beginBody_26 ?_
        obtain ⟨fs9, hk_23, hq_23⟩ := ((gF.a (F' := []) Fr_9 (fun _ h => h))) _ _ _ hk_4
        obtain ⟨r0_23, n0_23, r1_23, n1_23, c2_23, r3_23, n3_23, c4_23, r5_23, n5_23, r6_23, n6_23, r7_23, n7_23, r8_23, n8_23, c9_23, c10_23, c11_23, v12_23, v13_23, v14_23, rfl, a_r0_23, f1_23, a_r1_23, f3_23, a_r3_23, f5_23, a_r5_23, f7_23, a_r6_23, f9_23, a_r7_23, f11_23, a_r8_23, f13_23, o_v12_23, o_v13_23, o_v14_23, f17_23, f18_23, f19_23, f20_23, f21_23, f22_23, f23_23, f24_23, f25_23, f26_23, f27_23, f28_23, f29_23, -⟩ := (hG.1 _ _ _ _ hk_23).hX8 rfl
        obtain rfl := fe_i (hq_23 2 (by decide))
        obtain rfl := fe_i (hq_23 11 (by decide))
        refine va_get (D := gD g) (ci := 7) (v := .int c11_4) (C := RX8) (T := TX8) (N := 15) hx hb hts inX8 hown hK hP k_4 hk_23 rfl 11 (by decide) (hts _ kw_480) (fun _ h9 => h9) rfl dX1_beginBody_29 ?_
        have hFc := gfree hD hS hA
        obtain ⟨k_24, fs_24, hk_24⟩ := gC_of o_b_2
        refine va_calli (va_runV (As := [.int c11_4]) (rest := []) ⟨hx, hb, hml, hown, hts⟩ (m_X10_takesOfMethod l g H.size ws_7 b_2 (c11_4) hG o_b_2) (cwV 1 hts (gd_V kw_481 kw_78 kw_79 kw_34 kw_77) rfl rfl rfl (by decide +kernel) ⟨Nat.le_of_ble_eq_true rfl, Nat.le_of_ble_eq_true rfl⟩) ⟨gblind, va_recv hK hP (ci := 9) (q0 := k_24) rfl hk_24, fun U hU hW9 => gmk hU hW9 hP hK hD hex hE hS hFc⟩ rfl rfl hl.1 rfl (lv_room (Nat.le_of_ble_eq_true rfl)) dX1_beginBody_32 ⟨Nat.le_of_ble_eq_true rfl, Nat.le_of_ble_eq_true rfl⟩) hS (fun q _ h => hFc q h) hFc (fun r_25 u9 t9 H1 locs ht9 hvm9 hw9 hB9 hz9 hk9 hS => ?_)
        have hP : va_P (gD g) cl0 ws_7 H1 := by rw [← ht9]; exact hB9.1
        clear hB9 hz9 hk9 hvm9 ht9 hw9
        generalize H1 = H at hP hS ⊢
        refine lv_istore_n (lv' := [(1, .int r_25), (0, .ref h0)]) hx hb dX1_beginBody_35 rfl hl (by decide) rfl (fun ls hl => ?_)
        refine lv_iload_n hx hb dX1_beginBody_36 rfl (lv_at hl 0 rfl) ?_
        have hFc := gfree hD hS hA
        refine va_calli (va_runS (As := [.int r_25]) (rest := []) ⟨hx, hb, hml, hown, hts⟩ (m_X6_kindCount l g H.size ws_7 (r_25) hG ) (va_cwS 1 hts (gd_S kw_482 kw_1242 kw_1207 kw_1241) rfl rfl rfl (by decide +kernel) ⟨Nat.le_of_ble_eq_true rfl, Nat.le_of_ble_eq_true rfl⟩) ⟨gblind, fun U hU hW9 => gmk hU hW9 hP hK hD hex hE hS hFc⟩ rfl rfl hl.1 rfl (lv_room (Nat.le_of_ble_eq_true rfl)) dX1_beginBody_37 ⟨Nat.le_of_ble_eq_true rfl, Nat.le_of_ble_eq_true rfl⟩) hS (fun q _ h => hFc q h) hFc (fun r_26 u9 t9 H1 locs ht9 hvm9 hw9 hB9 hz9 hk9 hS => ?_)
        have hP : va_P (gD g) cl0 ws_7 H1 := by rw [← ht9]; exact hB9.1
        have h_r_26 := hw9
        clear hB9 hz9 hk9 hvm9 ht9 hw9
        generalize H1 = H at hP hS ⊢
        refine lv_istore_n (lv' := [(2, .int r_26), (1, .int r_25), (0, .ref h0)]) hx hb dX1_beginBody_40 rfl hl (by decide) rfl (fun ls hl => ?_)
        refine lv_iconst (v := 0) hx hb dX1_beginBody_41 (by decide) ?_
        refine lv_istore_n (lv' := [(3, .int 0), (2, .int r_26), (1, .int r_25), (0, .ref h0)]) hx hb dX1_beginBody_42 rfl hl (by decide) rfl (fun ls hl => ?_)
        refine lv_iconst (v := 0) hx hb dX1_beginBody_43 (by decide) ?_
        refine lv_istore (lv' := [(4, .int 0), (3, .int 0), (2, .int r_26), (1, .int r_25), (0, .ref h0)]) hx hb dX1_beginBody_44 hl (by decide) rfl (fun ls hl => ?_)
        have J_46 : ∀ (n9 : Nat) (v3_27 : Int32) (v4_28 : Int32) (ws_30 : va_W) (H : Heap) (locs : List Loc) (ls : Array Slot), (2147483647 - v4_28.toInt).toNat = n9 → 0 ≤ v4_28.toInt → gE ws_7 ws_30 → gF [] [(1, 4)] none ws_7 ws_30 → Good g ws_30 → va_P (gD g) cl0 ws_30 H → va_D A ws_30 → va_S A s.heap H locs → lv_has ls 6 [(0, .ref h0), (1, .int r_25), (2, .int r_26), (3, .int v3_27), (4, .int v4_28)] → W p l e (headSpec (wt yX1_beginBody cX1_beginBody 6 none) ({ frames := 3, cells := 0, slots := 0, locals := 66 })).room s m ([.ref h0] : List Value).toArray below meth c H locs (0) (0) (MQ below (va_Qv (fun (u9 : va_W) => True) (gQ1 g [(1, 5), (1, 7)] [(1, 1), (1, 2), (1, 3), (1, 4)] none A ws) A) ([.ref h0] : List Value).toArray s (0) (0) A) (F0 m 46 ls []) := by
          intro n9
          induction n9 using Nat.strongRecOn with
          | ind n9 ih_46 =>
            intro v3_27 v4_28 ws_30 H locs ls hm9 iv_29 E_31 Fr_32 hG hP hD hS hl
            subst hm9
            have aa_33 := a_r1_22
            have aa_34 := a_r2_1
            have aa_35 := a_r3_22
            have aa_36 := a_r4_1
            have aa_37 := a_r0_23
            have aa_38 := a_r1_23
            have aa_39 := a_r3_23
            have aa_40 := a_r5_23
            have aa_41 := a_r6_23
            have aa_42 := a_r7_23
            have aa_43 := a_r8_23
            have o_h0 := E_31.1 _ _ o_h0
            refine lv_iload hx hb dX1_beginBody_46 (lv_at hl 4 rfl) ?_
            refine lv_iload_n hx hb dX1_beginBody_48 rfl (lv_at hl 2 rfl) ?_
            refine lv_icmp_ge (tgt := 104) hx hb dX1_beginBody_49 (by decide) (fun c_44 => ?_) (fun c_44 => ?_)
            · refine lv_aload_n hx hb dX1_beginBody_104 rfl (lv_at hl 0 rfl) ?_
              refine lv_iconst (v := 0) hx hb dX1_beginBody_105 (by decide) ?_
              obtain ⟨fs9, hk_45, hq_45⟩ := ((gF.a (F' := []) Fr_32 (fun _ h => h))) _ _ _ hk_22
              obtain ⟨r0_45, r1_45, n1_45, r2_45, n2_45, r3_45, n3_45, r4_45, n4_45, c5_45, c6_45, c7_45, v8_45, v9_45, rfl, o_r0_45, a_r1_45, f2_45, a_r2_45, f4_45, a_r3_45, f6_45, a_r4_45, f8_45, hz_c6_45, hz_c7_45, o_v8_45, o_v9_45, f13_45, f14_45, f15_45, f16_45, -⟩ := (hG.1 _ _ _ _ hk_45).hX1 rfl
              obtain rfl := fe_r (hq_45 2 (by decide))
              have hn9 := gI_n hD ((E_31).1 _ _ aa_34) a_r2_45
              subst hn9
              have a_r2_1 := a_r2_45
              obtain rfl := fe_r (hq_45 4 (by decide))
              have hn9 := gI_n hD ((E_31).1 _ _ aa_36) a_r4_45
              subst hn9
              have a_r4_1 := a_r4_45
              have hn9 := fe_qr (hq_45 8 (by decide))
              subst hn9
              have o_b_2 := o_v8_45 _ rfl
              have hn9 := fe_qr (hq_45 9 (by decide))
              subst hn9
              have o_b_3 := o_v9_45 _ rfl
              have hV9 : okv ws_30 1 5 (.int 0) := okv_i
              refine va_put (D := gD g) (ci := 1) (v := .int 0) (ty := .int) (C := RX1) (T := TX1) (N := 10) hx hb hts inX1 tyX1 tyX1_ok nmX1 hown hK hP hD hS k_1 hk_45 rfl 5 (by decide) (hts _ kw_486) (fun _ h9 => h9) rfl (by decide +kernel) rfl rfl (Nat.le_of_ble_eq_true rfl) dX1_beginBody_106 (fun H locs hP hD hS => ?_)
              have hi_46 : invX1 g ws_30 h0 [.ref r0_45, .ref r1_45, .ref r2_1, .ref r3_45, .ref r4_1, .int 0, .int c6_45, .int c7_45, .ref b_2, .ref b_3] := ⟨r0_45, r1_45, (n1_45), r2_1, (n2_1), r3_45, (n3_45), r4_1, (n4_1), (0), (c6_45), (c7_45), (some b_2), (some b_3), rfl, o_r0_45, a_r1_45, f2_45, a_r2_1, f4_45, a_r3_45, f6_45, a_r4_1, f8_45, hz_c6_45, hz_c7_45, (fun b h9 => by cases h9; exact o_b_2), (fun b h9 => by cases h9; exact o_b_3), f13_45, f14_45, f15_45, f16_45, trivial⟩
              obtain ⟨ws_47, e_ws_47⟩ : ∃ z, z = ws_30.set k_1 (h0, .inr (1, [.ref r0_45, .ref r1_45, .ref r2_1, .ref r3_45, .ref r4_1, .int 0, .int c6_45, .int c7_45, .ref b_2, .ref b_3])) := ⟨_, rfl⟩
              have hP : va_P (gD g) cl0 ws_47 H := by rw [e_ws_47]; exact hP
              have hD : va_D A ws_47 := by rw [e_ws_47]; exact hD
              have E_48 : gE ws_30 ws_47 := gE_set e_ws_47 hk_45 (cw_o (fi := 5) (v := .int 0) rfl (by decide))
              have hG : Good g ws_47 := Good_set (fi := 5) (v := .int 0) e_ws_47 hk_45 E_48 rfl hV9 hG (ivX1 hi_46)
              have Fr_49 : gF [(1, 5)] [] (some h0) ws_30 ws_47 := gF_put (fi := 5) (v := .int 0) e_ws_47 hk_45 rfl (by decide)
              have hkN := gset_self e_ws_47 hk_45
              have hk_45 := hkN
              have o_h0 := E_48.1 _ _ o_h0
              have o_r0_45 := E_48.1 _ _ o_r0_45
              have a_r1_45 := E_48.1 _ _ a_r1_45
              have a_r3_45 := E_48.1 _ _ a_r3_45
              have a_r2_1 := E_48.1 _ _ a_r2_1
              have a_r4_1 := E_48.1 _ _ a_r4_1
              have o_b_2 := E_48.1 _ _ o_b_2
              have o_b_3 := E_48.1 _ _ o_b_3
              refine lv_aload_n hx hb dX1_beginBody_109 rfl (lv_at hl 0 rfl) ?_
              refine lv_iconst (v := 0) hx hb dX1_beginBody_110 (by decide) ?_
              obtain ⟨fs9, hk_50, hq_50⟩ := ((gA.tr (gF.a (F' := [(1, 5)]) Fr_32 (fun _ h => absurd h List.not_mem_nil)) (gF.a (F' := [(1, 5)]) Fr_49 (fun _ h => h)))) _ _ _ hk_23
              obtain ⟨r0_50, n0_50, r1_50, n1_50, c2_50, r3_50, n3_50, c4_50, r5_50, n5_50, r6_50, n6_50, r7_50, n7_50, r8_50, n8_50, c9_50, c10_50, c11_50, v12_50, v13_50, v14_50, rfl, a_r0_50, f1_50, a_r1_50, f3_50, a_r3_50, f5_50, a_r5_50, f7_50, a_r6_50, f9_50, a_r7_50, f11_50, a_r8_50, f13_50, o_v12_50, o_v13_50, o_v14_50, f17_50, f18_50, f19_50, f20_50, f21_50, f22_50, f23_50, f24_50, f25_50, f26_50, f27_50, f28_50, f29_50, -⟩ := (hG.1 _ _ _ _ hk_50).hX8 rfl
              obtain rfl := fe_i (hq_50 2 (by decide))
              obtain rfl := fe_i (hq_50 11 (by decide))
              have hFc := gfree hD hS hA
              refine va_callv (va_runV (As := [.int 0]) (rest := []) ⟨hx, hb, hml, hown, hts⟩ (m_X1_comeTo l g H.size ws_47 h0 (0) hG o_h0 (gN_of hD hk_45 (j := 9) rfl) (fun k9 k8 b9 fs gs e1 e2 e3 q0 e40 p90 m90 e50 g90 => by obtain rfl := gO_un hD hk_45 e1; cases e2; obtain rfl := gO_un hD hk_50 e3; cases e40; cases e50; have z90 := gI_n hD a_r2_1 g90; subst z90; exact (by have q_f4_1 := f4_1; have q_f14_1 := f14_1; have q_f15_1 := f15_1; have q_f16_1 := f16_1; have q_f19_4 := f19_4; have q_f20_4 := f20_4; have q_fq2_c := fq2_c; have q_f14_22 := f14_22; have q_f15_22 := f15_22; have q_f20_23 := f20_23; have q_f14_45 := f14_45; have q_f15_45 := f15_45; have q_f20_50 := f20_50; have q_f2_1 := f2_1; have q_f6_1 := f6_1; have q_f1_4 := f1_4; have q_f17_4 := f17_4; have q_f18_4 := f18_4; have q_f2_22 := f2_22; have q_f6_22 := f6_22; have q_f1_23 := f1_23; have q_f17_23 := f17_23; have q_f18_23 := f18_23; have q_f2_45 := f2_45; have q_f6_45 := f6_45; have q_f1_50 := f1_50; have q_f17_50 := f17_50; have q_f18_50 := f18_50; have g_c2_4 := i_rg c2_4; omega))) (cwV 1 hts (gd_V kw_487 kw_489 kw_490 kw_392 kw_488) rfl rfl rfl (by decide +kernel) ⟨Nat.le_of_ble_eq_true rfl, Nat.le_of_ble_eq_true rfl⟩) ⟨gblind, va_recv hK hP (ci := 1) (q0 := k_1) rfl hk_45, fun U hU hW9 => gmk hU hW9 hP hK hD hex hE hS hFc⟩ rfl rfl hl.1 rfl (lv_room (Nat.le_of_ble_eq_true rfl)) dX1_beginBody_111 ⟨Nat.le_of_ble_eq_true rfl, Nat.le_of_ble_eq_true rfl⟩) hS (fun q _ h => hFc q h) hFc (fun  ws_51 t9 H1 locs ht9 hvm9 hw9 hB9 hz9 hk9 hS => ?_)
              obtain ⟨E_52, Fr_53, hG, hP1, hD1⟩ := hB9
              have hP : va_P (gD g) cl0 ws_51 H1 := by rw [← ht9]; exact hP1
              have hD : va_D A ws_51 := hD1.weaken (fun _ _ _ h => hFc _ h)
              clear hP1 hD1 hz9 hk9 hvm9 ht9 hw9
              generalize H1 = H at hP hS ⊢
              have aa_56 := a_r1_45
              have aa_57 := a_r2_1
              have aa_58 := a_r3_45
              have aa_59 := a_r4_1
              have aa_60 := a_r0_50
              have aa_61 := a_r1_50
              have aa_62 := a_r3_50
              have aa_63 := a_r5_50
              have aa_64 := a_r6_50
              have aa_65 := a_r7_50
              have aa_66 := a_r8_50
              have o_h0 := E_52.1 _ _ o_h0
              refine W.widen (k := 0) (n := 0) (Nat.le_of_ble_eq_true rfl) (Nat.le_of_ble_eq_true rfl) ?_
              exact W.vret hx hb hr (fun t9 ht9 hW9 => ⟨⟨ws_51, rfl, trivial, ⟨(E_8.tr (E_31.tr (E_48.tr E_52))), (gF.tr (gF.mo (F' := [(1, 5), (1, 7)]) (C' := [(1, 1), (1, 2), (1, 3), (1, 4)]) (S' := none) Fr_9 (fun _ h => absurd h List.not_mem_nil) (by decide) (Or.inr rfl)) (gF.tr (gF.mo (F' := [(1, 5), (1, 7)]) (C' := [(1, 1), (1, 2), (1, 3), (1, 4)]) (S' := none) Fr_32 (fun _ h => absurd h List.not_mem_nil) (by decide) (Or.inr rfl)) (gF.tr (gF.mo (F' := [(1, 5), (1, 7)]) (C' := [(1, 1), (1, 2), (1, 3), (1, 4)]) (S' := none) Fr_49 (by decide) (fun _ h => absurd h List.not_mem_nil) (Or.inl rfl)) (gF.mo (F' := [(1, 5), (1, 7)]) (C' := [(1, 1), (1, 2), (1, 3), (1, 4)]) (S' := none) Fr_53 (by decide) (by decide) (Or.inr rfl))))), hG, by rw [ht9]; exact hP, hD⟩⟩, hS.F ht9⟩) hS.2.2 dX1_beginBody_114
            · refine lv_iload_n hx hb dX1_beginBody_52 rfl (lv_at hl 1 rfl) ?_
              refine lv_iload hx hb dX1_beginBody_53 (lv_at hl 4 rfl) ?_
              have hFc := gfree hD hS hA
              refine va_calli (va_runS (As := [.int r_25, .int v4_28]) (rest := []) ⟨hx, hb, hml, hown, hts⟩ (m_X6_kindAt l g H.size ws_30 (r_25) (v4_28) hG ) (va_cwS 2 hts (gd_S kw_483 kw_1239 kw_1207 kw_1238) rfl rfl rfl (by decide +kernel) ⟨Nat.le_of_ble_eq_true rfl, Nat.le_of_ble_eq_true rfl⟩) ⟨gblind, fun U hU hW9 => gmk hU hW9 hP hK hD hex hE hS hFc⟩ rfl rfl hl.1 rfl (lv_room (Nat.le_of_ble_eq_true rfl)) dX1_beginBody_55 ⟨Nat.le_of_ble_eq_true rfl, Nat.le_of_ble_eq_true rfl⟩) hS (fun q _ h => hFc q h) hFc (fun r_67 u9 t9 H1 locs ht9 hvm9 hw9 hB9 hz9 hk9 hS => ?_)
              have hP : va_P (gD g) cl0 ws_30 H1 := by rw [← ht9]; exact hB9.1
              clear hB9 hz9 hk9 hvm9 ht9 hw9
              generalize H1 = H at hP hS ⊢
              refine lv_istore (lv' := [(5, .int r_67), (0, .ref h0), (1, .int r_25), (2, .int r_26), (3, .int v3_27), (4, .int v4_28)]) hx hb dX1_beginBody_58 hl (by decide) rfl (fun ls hl => ?_)
              refine lv_aload_n hx hb dX1_beginBody_60 rfl (lv_at hl 1 rfl) ?_
              refine lv_iload_n hx hb dX1_beginBody_61 rfl (lv_at hl 4 rfl) ?_
              refine lv_iload hx hb dX1_beginBody_62 (lv_at hl 0 rfl) ?_
              have hFc := gfree hD hS hA
              refine va_calli (va_runS (As := [.int r_67]) (rest := [.int v3_27, .ref h0]) ⟨hx, hb, hml, hown, hts⟩ (m_X1_lowerType l g H.size ws_30 (r_67) hG ) (va_cwS 1 hts (gd_S kw_484 kw_574 kw_392 kw_573) rfl rfl rfl (by decide +kernel) ⟨Nat.le_of_ble_eq_true rfl, Nat.le_of_ble_eq_true rfl⟩) ⟨gblind, fun U hU hW9 => gmk hU hW9 hP hK hD hex hE hS hFc⟩ rfl rfl hl.1 rfl (lv_room (Nat.le_of_ble_eq_true rfl)) dX1_beginBody_64 ⟨Nat.le_of_ble_eq_true rfl, Nat.le_of_ble_eq_true rfl⟩) hS (fun q _ h => hFc q h) hFc (fun r_68 u9 t9 H1 locs ht9 hvm9 hw9 hB9 hz9 hk9 hS => ?_)
              have hP : va_P (gD g) cl0 ws_30 H1 := by rw [← ht9]; exact hB9.1
              clear hB9 hz9 hk9 hvm9 ht9 hw9
              generalize H1 = H at hP hS ⊢
              have hFc := gfree hD hS hA
              obtain ⟨k_69, fs_69, hk_69⟩ := gC_of o_h0
              refine va_callv (va_runV (As := [.int v3_27, .int r_68]) (rest := []) ⟨hx, hb, hml, hown, hts⟩ (m_X1_setPlace l g H.size ws_30 h0 (v3_27) (r_68) hG o_h0) (cwV 2 hts (gd_V kw_485 kw_588 kw_589 kw_392 kw_587) rfl rfl rfl (by decide +kernel) ⟨Nat.le_of_ble_eq_true rfl, Nat.le_of_ble_eq_true rfl⟩) ⟨gblind, va_recv hK hP (ci := 1) (q0 := k_69) rfl hk_69, fun U hU hW9 => gmk hU hW9 hP hK hD hex hE hS hFc⟩ rfl rfl hl.1 rfl (lv_room (Nat.le_of_ble_eq_true rfl)) dX1_beginBody_67 ⟨Nat.le_of_ble_eq_true rfl, Nat.le_of_ble_eq_true rfl⟩) hS (fun q _ h => hFc q h) hFc (fun  ws_70 t9 H1 locs ht9 hvm9 hw9 hB9 hz9 hk9 hS => ?_)
              obtain ⟨E_71, Fr_72, hG, hP1, hD1⟩ := hB9
              have hP : va_P (gD g) cl0 ws_70 H1 := by rw [← ht9]; exact hP1
              have hD : va_D A ws_70 := hD1.weaken (fun _ _ _ h => hFc _ h)
              clear hP1 hD1 hz9 hk9 hvm9 ht9 hw9
              generalize H1 = H at hP hS ⊢
              have o_h0 := E_71.1 _ _ o_h0
              refine lv_iload hx hb dX1_beginBody_70 (lv_at hl 0 rfl) ?_
              refine lv_iconst (v := 2) hx hb dX1_beginBody_72 (by decide) ?_
              have J_84 : ∀ (ws_75 : va_W) (H : Heap) (locs : List Loc) (ls : Array Slot), gE ws_70 ws_75 → gF [] [(1, 4)] none ws_70 ws_75 → Good g ws_75 → va_P (gD g) cl0 ws_75 H → va_D A ws_75 → va_S A s.heap H locs → lv_has ls 6 [(0, .ref h0), (1, .int r_25), (2, .int r_26), (3, .int v3_27), (4, .int v4_28), (5, .int r_67)] → W p l e (headSpec (wt yX1_beginBody cX1_beginBody 6 none) ({ frames := 3, cells := 0, slots := 0, locals := 66 })).room s m ([.ref h0] : List Value).toArray below meth c H locs (0) (0) (MQ below (va_Qv (fun (u9 : va_W) => True) (gQ1 g [(1, 5), (1, 7)] [(1, 1), (1, 2), (1, 3), (1, 4)] none A ws) A) ([.ref h0] : List Value).toArray s (0) (0) A) (F0 m 84 ls []) := by
                intro ws_75 H locs ls  E_76 Fr_77 hG hP hD hS hl
                have o_h0 := E_76.1 _ _ o_h0
                refine lv_iload_n hx hb dX1_beginBody_84 rfl (lv_at hl 3 rfl) ?_
                refine lv_iload hx hb dX1_beginBody_85 (lv_at hl 5 rfl) ?_
                refine lv_iconst (v := 2) hx hb dX1_beginBody_87 (by decide) ?_
                have J_96 : ∀ (t_78 : Int32) (H : Heap) (locs : List Loc) (ls : Array Slot), 1 ≤ t_78.toInt ∧ t_78.toInt ≤ 2 → va_P (gD g) cl0 ws_75 H → va_D A ws_75 → va_S A s.heap H locs → lv_has ls 6 [(0, .ref h0), (1, .int r_25), (2, .int r_26), (4, .int v4_28)] → W p l e (headSpec (wt yX1_beginBody cX1_beginBody 6 none) ({ frames := 3, cells := 0, slots := 0, locals := 66 })).room s m ([.ref h0] : List Value).toArray below meth c H locs (0) (0) (MQ below (va_Qv (fun (u9 : va_W) => True) (gQ1 g [(1, 5), (1, 7)] [(1, 1), (1, 2), (1, 3), (1, 4)] none A ws) A) ([.ref h0] : List Value).toArray s (0) (0) A) (F0 m 96 ls [.int t_78, .int v3_27]) := by
                  intro t_78 H locs ls iv_79 hP hD hS hl
                  refine lv_iadd hx hb dX1_beginBody_96 ?_
                  refine lv_topi (fun z_82 ez_82 => ?_)
                  refine lv_istore_n (lv' := [(3, .int z_82), (0, .ref h0), (1, .int r_25), (2, .int r_26), (4, .int v4_28)]) hx hb dX1_beginBody_97 rfl hl (by decide) rfl (fun ls hl => ?_)
                  obtain ⟨z_83, ez_83⟩ : ∃ z : Int32, v4_28 + Int32.ofInt 1 = z := ⟨_, rfl⟩
                  refine lv_iinc (v := z_83) (lv' := [(4, .int z_83), (3, .int z_82), (0, .ref h0), (1, .int r_25), (2, .int r_26)]) hx hb dX1_beginBody_98 hl (k := 4) rfl ez_83 (by decide) rfl (fun ls hl => ?_)
                  refine lv_goto (tgt := 46) hx hb dX1_beginBody_101 (by decide) ?_
                  exact ih_46 _ (by obtain ⟨u_z_82, q_z_82⟩ := i_add ez_82; obtain ⟨u_z_83, q_z_83⟩ := i_iz ez_83 (by decide) (by decide); have q_iv_29 := iv_29; have q_c_44 := i_nle c_44; have q_iv_79 := iv_79; have g_r_26 := i_rg r_26; have g_t_78 := i_rg t_78; have g_v3_27 := i_rg v3_27; have g_v4_28 := i_rg v4_28; have g_z_82 := i_rg z_82; have g_z_83 := i_rg z_83; omega) (z_82) (z_83) ws_75 H locs ls rfl (by obtain ⟨u_z_83, q_z_83⟩ := i_iz ez_83 (by decide) (by decide); have q_iv_29 := iv_29; have q_c_44 := i_nle c_44; have g_r_26 := i_rg r_26; have g_v4_28 := i_rg v4_28; have g_z_83 := i_rg z_83; omega) ((E_31.tr (E_71.tr E_76))) ((gF.tr Fr_32 (gF.tr Fr_72 Fr_77))) hG hP hD hS (lv_sub hl [2, 3, 4, 1, 0] rfl)
                refine lv_icmp_ne (tgt := 95) hx hb dX1_beginBody_88 (by decide) (fun c_84 => ?_) (fun c_84 => ?_)
                · refine lv_iconst (v := 1) hx hb dX1_beginBody_95 (by decide) ?_
                  exact J_96 (1) H locs ls (by have e1 : (1 : Int32).toInt = 1 := (by decide); omega) hP hD hS (lv_sub hl [0, 1, 2, 4] rfl)
                · refine lv_iconst (v := 2) hx hb dX1_beginBody_91 (by decide) ?_
                  refine lv_goto (tgt := 96) hx hb dX1_beginBody_92 (by decide) ?_
                  exact J_96 (2) H locs ls (by have e2 : (2 : Int32).toInt = 2 := (by decide); omega) hP hD hS (lv_sub hl [0, 1, 2, 4] rfl)
              refine lv_icmp_ne (tgt := 84) hx hb dX1_beginBody_73 (by decide) (fun c_85 => ?_) (fun c_85 => ?_)
              · exact J_84 ws_70 H locs ls (gE.rf) (gF.rf) hG hP hD hS (lv_sub hl [1, 2, 3, 4, 5, 0] rfl)
              · refine lv_aload_n hx hb dX1_beginBody_76 rfl (lv_at hl 1 rfl) ?_
                refine lv_iload_n hx hb dX1_beginBody_77 rfl (lv_at hl 4 rfl) ?_
                refine lv_iconst (v := 1) hx hb dX1_beginBody_78 (by decide) ?_
                refine lv_iadd hx hb dX1_beginBody_79 ?_
                refine lv_topi (fun z_86 ez_86 => ?_)
                refine lv_iconst (v := 3) hx hb dX1_beginBody_80 (by decide) ?_
                have hFc := gfree hD hS hA
                obtain ⟨k_87, fs_87, hk_87⟩ := gC_of o_h0
                refine va_callv (va_runV (As := [.int z_86, .int 3]) (rest := []) ⟨hx, hb, hml, hown, hts⟩ (m_X1_setPlace l g H.size ws_70 h0 (z_86) (3) hG o_h0) (cwV 2 hts (gd_V kw_485 kw_588 kw_589 kw_392 kw_587) rfl rfl rfl (by decide +kernel) ⟨Nat.le_of_ble_eq_true rfl, Nat.le_of_ble_eq_true rfl⟩) ⟨gblind, va_recv hK hP (ci := 1) (q0 := k_87) rfl hk_87, fun U hU hW9 => gmk hU hW9 hP hK hD hex hE hS hFc⟩ rfl rfl hl.1 rfl (lv_room (Nat.le_of_ble_eq_true rfl)) dX1_beginBody_81 ⟨Nat.le_of_ble_eq_true rfl, Nat.le_of_ble_eq_true rfl⟩) hS (fun q _ h => hFc q h) hFc (fun  ws_88 t9 H1 locs ht9 hvm9 hw9 hB9 hz9 hk9 hS => ?_)
                obtain ⟨E_89, Fr_90, hG, hP1, hD1⟩ := hB9
                have hP : va_P (gD g) cl0 ws_88 H1 := by rw [← ht9]; exact hP1
                have hD : va_D A ws_88 := hD1.weaken (fun _ _ _ h => hFc _ h)
                clear hP1 hD1 hz9 hk9 hvm9 ht9 hw9
                generalize H1 = H at hP hS ⊢
                have o_h0 := E_89.1 _ _ o_h0
                exact J_84 ws_88 H locs ls (E_89) (Fr_90) hG hP hD hS (lv_sub hl [1, 2, 3, 4, 5, 0] rfl)
        exact J_46 _ (0) (0) ws_7 H locs ls rfl (by have e0 : (0 : Int32).toInt = 0 := (by decide); omega) (gE.rf) (gF.rf) hG hP hD hS (lv_sub hl [4, 3, 2, 1, 0] rfl)
      · refine lv_aload_n hx hb dX1_beginBody_8 rfl (lv_at hl 0 rfl) ?_
        obtain ⟨fs9, hk_93, hq_93⟩ := ((gF.a (F' := []) Fr_9 (fun _ h => h))) _ _ _ hk_1
        obtain ⟨r0_93, r1_93, n1_93, r2_93, n2_93, r3_93, n3_93, r4_93, n4_93, c5_93, c6_93, c7_93, v8_93, v9_93, rfl, o_r0_93, a_r1_93, f2_93, a_r2_93, f4_93, a_r3_93, f6_93, a_r4_93, f8_93, hz_c6_93, hz_c7_93, o_v8_93, o_v9_93, f13_93, f14_93, f15_93, f16_93, -⟩ := (hG.1 _ _ _ _ hk_93).hX1 rfl
        obtain rfl := fe_r (hq_93 2 (by decide))
        have hn9 := gI_n hD ((E_8).1 _ _ aa_11) a_r2_93
        subst hn9
        have a_r2_1 := a_r2_93
        obtain rfl := fe_r (hq_93 4 (by decide))
        have hn9 := gI_n hD ((E_8).1 _ _ aa_13) a_r4_93
        subst hn9
        have a_r4_1 := a_r4_93
        have hn9 := fe_qr (hq_93 8 (by decide))
        subst hn9
        have o_b_2 := o_v8_93 _ rfl
        have hn9 := fe_qr (hq_93 9 (by decide))
        subst hn9
        have o_b_3 := o_v9_93 _ rfl
        refine va_get (D := gD g) (ci := 1) (v := .ref r4_1) (C := RX1) (T := TX1) (N := 10) hx hb hts inX1 hown hK hP k_1 hk_93 rfl 4 (by decide) (hts _ kw_477) (fun _ h9 => h9) rfl dX1_beginBody_9 ?_
        refine lv_iload_n hx hb dX1_beginBody_12 rfl (lv_at hl 1 rfl) ?_
        refine lv_iconst (v := 0) hx hb dX1_beginBody_13 (by decide) ?_
        obtain ⟨k_94, f_94, hk_94⟩ := gI_of a_r4_1
        have hC9 : hol ws_7 r4_1 [(1, 4)] := (hol_u hG.u hk_93 (j := 4) rfl a_r4_1 (by decide))
        have hS9 : holS ws_7 r4_1 none := holS_n
        refine va_bast hx hb hK hP hD hS k_94 0 hk_94 rfl (i_in2 (by have e48 : (48 : Int32).toInt = 48 := (by decide); have q_f8_1 := f8_1; have q_f13_1 := f13_1; have q_iv_6 := iv_6; have q_c_21 := i_nle c_21; have g_v1_5 := i_rg v1_5; omega)) dX1_beginBody_14 (fun H locs hP hD hS => ?_)
        obtain ⟨ws_95, e_ws_95⟩ : ∃ z, z = ws_7.set k_94 (r4_1, .inl (g.cB, n4_1, .inl (upd f_94 (v1_5 : Int32).toNatClampNeg (vp_nar .byte 0)))) := ⟨_, rfl⟩
        have hP : va_P (gD g) cl0 ws_95 H := by rw [e_ws_95]; exact hP
        have hD : va_D A ws_95 := by rw [e_ws_95]; exact hD
        have E_96 : gE ws_7 ws_95 := gE_ari e_ws_95 hk_94
        have hG : Good g ws_95 := Good_arB e_ws_95 hk_94 hG
        have Fr_97 : gF [] [(1, 4)] none ws_7 ws_95 := gF_ar e_ws_95 hk_94 rfl hC9 hS9
        have hk_93 := gset_arO e_ws_95 hk_94 hk_93
        have o_h0 := E_96.1 _ _ o_h0
        have o_r0_93 := E_96.1 _ _ o_r0_93
        have a_r1_93 := E_96.1 _ _ a_r1_93
        have a_r3_93 := E_96.1 _ _ a_r3_93
        have a_r2_1 := E_96.1 _ _ a_r2_1
        have a_r4_1 := E_96.1 _ _ a_r4_1
        have o_b_2 := E_96.1 _ _ o_b_2
        have o_b_3 := E_96.1 _ _ o_b_3
        obtain ⟨z_98, ez_98⟩ : ∃ z : Int32, v1_5 + Int32.ofInt 1 = z := ⟨_, rfl⟩
        refine lv_iinc (v := z_98) (lv' := [(1, .int z_98), (0, .ref h0)]) hx hb dX1_beginBody_15 hl (k := 1) rfl ez_98 (by decide) rfl (fun ls hl => ?_)
        refine lv_goto (tgt := 2) hx hb dX1_beginBody_18 (by decide) ?_
        exact ih_2 _ (by have e48 : (48 : Int32).toInt = 48 := (by decide); obtain ⟨u_z_98, q_z_98⟩ := i_iz ez_98 (by decide) (by decide); have q_iv_6 := iv_6; have q_c_21 := i_nle c_21; have g_v1_5 := i_rg v1_5; have g_z_98 := i_rg z_98; omega) (z_98) ws_95 H locs ls rfl (by have e48 : (48 : Int32).toInt = 48 := (by decide); obtain ⟨u_z_98, q_z_98⟩ := i_iz ez_98 (by decide) (by decide); have q_iv_6 := iv_6; have q_c_21 := i_nle c_21; have g_v1_5 := i_rg v1_5; have g_z_98 := i_rg z_98; omega) ((E_8.tr E_96)) ((gF.tr Fr_9 Fr_97)) hG hP hD hS (lv_sub hl [1, 0] rfl)
  exact J_2 _ (0) ws _ _ ls rfl (by have e0 : (0 : Int32).toInt = 0 := (by decide); omega) (gE.rf) (gF.rf) hG hP hD hS (lv_sub hl [1, 0] rfl)
set_option maxHeartbeats 1000000 in
set_option maxRecDepth 100000 in
theorem m_X1_flowFrom (l : Launch) (g : Gm) (sz : Nat) (ws : va_W) (h0 : Nat) (x1 : Int32) (hG : Good g ws) (o_h0 : gC ws h0 1) (nn_h0_8 : gN ws h0 8) (nn_h0_9 : gN ws h0 9) (fp_k : gP ws h0 (fun fs => ∀ (rn n : Nat), fs[2]? = some (.ref rn) → gI ws rn g.cZ n → x1.toInt < n)) (f2_c : ∀ (k k2 b : Nat) (fs gs : List Value), ows ws k h0 1 fs → fs[9]? = some (.ref b) → ows ws k2 b 7 gs → ∀ c : Int32, gs[2]? = some (.int c) → ∀ (rn n : Nat), fs[2]? = some (.ref rn) → gI ws rn g.cZ n → c.toInt ≤ n) (p0 : 0 ≤ x1.toInt) : Met l yX1_flowFrom (wt yX1_flowFrom cX1_flowFrom 4 none) ({ frames := 5, cells := 0, slots := 0, locals := 110 }) (va_Pc [.ref h0, .int x1] (st_G g sz ws)) (va_Qv (fun (u9 : va_W) => True) (gQ1 g [(1, 5), (1, 6), (1, 7)] [(1, 1), (1, 2), (1, 3), (1, 4)] none (va_A ws sz) ws) (va_A ws sz)) (0) (0) (va_A ws sz) := by
  refine Met.ofW (cc := cX1_flowFrom) (maxL := 4) (ret := none) (by decide) rfl ?_
  intro p e s m args below meth c s₁ B hml hv
  obtain ⟨rfl, hsz, hP, hK, hD0, hex, hE⟩ := hv
  have hx := B.exec
  have hb := B.bytes
  have hr := B.returns
  have hts0 := atoms_spec (ws := wt yX1_flowFrom cX1_flowFrom 4 none) B.pre
  have hts : ∀ w ∈ tb, w.before _ s = true := fun w h => hts0 w (List.mem_cons_of_mem _ h)
  have hown : s.vm.findClass RX1 = some m.cls := findClass_of_methodNamed B.named
  subst hsz
  have hD := hD0.self (sz := s.heap.size)
  generalize hAe : va_A ws s.heap.size = A at hD hE ⊢
  have hA : ∀ q : Nat, s.heap.size ≤ q → A q := fun q h => by rw [← hAe]; exact Or.inr h
  have hS : va_S A s.heap s.heap [] := va_S.rf
  have hl := lv_entry ([.ref h0, .int x1]) (n := 4) (Nat.le_of_ble_eq_true rfl)
  rw [lg_entry_eq]
  generalize (lg_sl ([.ref h0, .int x1]) ++ List.replicate (4 - (lg_sl ([.ref h0, .int x1])).length) Slot.unset).toArray = ls at hl ⊢
  have hl : lv_has ls 4 [(0, .ref h0), (1, .int x1)] := hl
  obtain ⟨k_1, fs9, hk_1⟩ := gC_of o_h0
  obtain ⟨r0_1, r1_1, n1_1, r2_1, n2_1, r3_1, n3_1, r4_1, n4_1, c5_1, c6_1, c7_1, v8_1, v9_1, rfl, o_r0_1, a_r1_1, f2_1, a_r2_1, f4_1, a_r3_1, f6_1, a_r4_1, f8_1, hz_c6_1, hz_c7_1, o_v8_1, o_v9_1, f13_1, f14_1, f15_1, f16_1, -⟩ := (hG.1 _ _ _ _ hk_1).hX1 rfl
  have fq_k := fp_k _ _ _ hk_1 _ _ rfl a_r2_1
  obtain ⟨b_2, hn9⟩ := nn_h0_8 _ _ _ hk_1
  have hn9 := fe_qr hn9
  subst hn9
  have o_b_2 := o_v8_1 _ rfl
  obtain ⟨b_3, hn9⟩ := nn_h0_9 _ _ _ hk_1
  have hn9 := fe_qr hn9
  subst hn9
  have o_b_3 := o_v9_1 _ rfl
  obtain ⟨k_4, fs9, hk_4⟩ := gC_of o_b_3
  obtain ⟨r0_4, n0_4, r1_4, n1_4, c2_4, r3_4, n3_4, c4_4, r5_4, n5_4, r6_4, n6_4, r7_4, n7_4, r8_4, n8_4, c9_4, c10_4, c11_4, v12_4, v13_4, v14_4, rfl, a_r0_4, f1_4, a_r1_4, f3_4, a_r3_4, f5_4, a_r5_4, f7_4, a_r6_4, f9_4, a_r7_4, f11_4, a_r8_4, f13_4, o_v12_4, o_v13_4, o_v14_4, f17_4, f18_4, f19_4, f20_4, f21_4, f22_4, f23_4, f24_4, f25_4, f26_4, f27_4, f28_4, f29_4, -⟩ := (hG.1 _ _ _ _ hk_4).hX8 rfl
  have fq2_c := f2_c _ _ _ _ _ hk_1 rfl hk_4 _ rfl _ _ rfl a_r2_1
  refine lv_aload_n hx hb dX1_flowFrom_0 rfl (lv_at hl 0 rfl) ?_
  refine va_get (D := gD g) (ci := 1) (v := .ref b_3) (C := RX1) (T := TX1) (N := 10) hx hb hts inX1 hown hK hP k_1 hk_1 rfl 9 (by decide) (hts _ kw_479) (fun _ h9 => h9) rfl dX1_flowFrom_1 ?_
  refine lv_iload_n hx hb dX1_flowFrom_4 rfl (lv_at hl 1 rfl) ?_
  have hFc := gfree hD hS hA
  refine va_calli (va_runV (As := [.int x1]) (rest := []) ⟨hx, hb, hml, hown, hts⟩ (m_X8_isCaught l g s.heap.size ws b_3 (x1) hG o_b_3) (cwV 1 hts (gd_V kw_513 kw_1500 kw_1501 kw_782 kw_1499) rfl rfl rfl (by decide +kernel) ⟨Nat.le_of_ble_eq_true rfl, Nat.le_of_ble_eq_true rfl⟩) ⟨gblind, va_recv hK hP (ci := 7) (q0 := k_4) rfl hk_4, fun U hU hW9 => gmk hU hW9 hP hK hD hex hE hS hFc⟩ rfl rfl hl.1 rfl (lv_room (Nat.le_of_ble_eq_true rfl)) dX1_flowFrom_5 ⟨Nat.le_of_ble_eq_true rfl, Nat.le_of_ble_eq_true rfl⟩) hS (fun q _ h => hFc q h) hFc (fun r_5 u9 t9 H1 locs ht9 hvm9 hw9 hB9 hz9 hk9 hS => ?_)
  have hP : va_P (gD g) cl0 ws H1 := by rw [← ht9]; exact hB9.1
  have hz_r_5 : r_5 = 0 ∨ r_5 = 1 := hw9
  clear hB9 hz9 hk9 hvm9 ht9 hw9
  generalize H1 = H at hP hS ⊢
  have J_72 : ∀ (ws_6 : va_W) (H : Heap) (locs : List Loc) (ls : Array Slot), gE ws ws_6 → gF [(1, 5), (1, 7)] [(1, 1), (1, 2), (1, 3), (1, 4)] none ws ws_6 → Good g ws_6 → va_P (gD g) cl0 ws_6 H → va_D A ws_6 → va_S A s.heap H locs → lv_has ls 4 [(0, .ref h0), (1, .int x1)] → W p l e (headSpec (wt yX1_flowFrom cX1_flowFrom 4 none) ({ frames := 5, cells := 0, slots := 0, locals := 110 })).room s m ([.ref h0, .int x1] : List Value).toArray below meth c H locs (0) (0) (MQ below (va_Qv (fun (u9 : va_W) => True) (gQ1 g [(1, 5), (1, 6), (1, 7)] [(1, 1), (1, 2), (1, 3), (1, 4)] none A ws) A) ([.ref h0, .int x1] : List Value).toArray s (0) (0) A) (F0 m 72 ls []) := by
    intro ws_6 H locs ls  E_7 Fr_8 hG hP hD hS hl
    have aa_9 := a_r1_1
    have aa_10 := a_r2_1
    have aa_11 := a_r3_1
    have aa_12 := a_r4_1
    have aa_13 := a_r0_4
    have aa_14 := a_r1_4
    have aa_15 := a_r3_4
    have aa_16 := a_r5_4
    have aa_17 := a_r6_4
    have aa_18 := a_r7_4
    have aa_19 := a_r8_4
    have o_h0 := E_7.1 _ _ o_h0
    refine lv_aload_n hx hb dX1_flowFrom_72 rfl (lv_at hl 0 rfl) ?_
    refine lv_iload_n hx hb dX1_flowFrom_73 rfl (lv_at hl 1 rfl) ?_
    obtain ⟨fs9, hk_20, hq_20⟩ := ((gF.a (F' := [(1, 5), (1, 7)]) Fr_8 (fun _ h => h))) _ _ _ hk_1
    obtain ⟨r0_20, r1_20, n1_20, r2_20, n2_20, r3_20, n3_20, r4_20, n4_20, c5_20, c6_20, c7_20, v8_20, v9_20, rfl, o_r0_20, a_r1_20, f2_20, a_r2_20, f4_20, a_r3_20, f6_20, a_r4_20, f8_20, hz_c6_20, hz_c7_20, o_v8_20, o_v9_20, f13_20, f14_20, f15_20, f16_20, -⟩ := (hG.1 _ _ _ _ hk_20).hX1 rfl
    obtain rfl := fe_r (hq_20 2 (by decide))
    have hn9 := gI_n hD ((E_7).1 _ _ aa_10) a_r2_20
    subst hn9
    have a_r2_1 := a_r2_20
    have hn9 := fe_qr (hq_20 8 (by decide))
    subst hn9
    have o_b_2 := o_v8_20 _ rfl
    have hn9 := fe_qr (hq_20 9 (by decide))
    subst hn9
    have o_b_3 := o_v9_20 _ rfl
    have hFc := gfree hD hS hA
    refine va_callv (va_runV (As := [.int x1]) (rest := []) ⟨hx, hb, hml, hown, hts⟩ (m_X1_takeUp l g H.size ws_6 h0 (x1) hG o_h0 (gP_of hD hk_20 (fun p90 q90 e90 g90 => by cases e90; have z90 := gI_n hD a_r2_1 g90; subst z90; exact (by have q_p0 := p0; have q_f4_1 := f4_1; have q_f14_1 := f14_1; have q_f15_1 := f15_1; have q_f16_1 := f16_1; have q_fq_k := fq_k; have q_fq2_c := fq2_c; have q_f14_20 := f14_20; have q_f15_20 := f15_20; have q_f2_1 := f2_1; have q_f6_1 := f6_1; have q_f19_4 := f19_4; have q_f20_4 := f20_4; have q_f2_20 := f2_20; have q_f6_20 := f6_20; have g_c2_4 := i_rg c2_4; have g_x1 := i_rg x1; omega)))) (cwV 1 hts (gd_V kw_514 kw_609 kw_610 kw_392 kw_608) rfl rfl rfl (by decide +kernel) ⟨Nat.le_of_ble_eq_true rfl, Nat.le_of_ble_eq_true rfl⟩) ⟨gblind, va_recv hK hP (ci := 1) (q0 := k_1) rfl hk_20, fun U hU hW9 => gmk hU hW9 hP hK hD hex hE hS hFc⟩ rfl rfl hl.1 rfl (lv_room (Nat.le_of_ble_eq_true rfl)) dX1_flowFrom_74 ⟨Nat.le_of_ble_eq_true rfl, Nat.le_of_ble_eq_true rfl⟩) hS (fun q _ h => hFc q h) hFc (fun  ws_21 t9 H1 locs ht9 hvm9 hw9 hB9 hz9 hk9 hS => ?_)
    obtain ⟨E_22, Fr_23, hG, hP1, hD1⟩ := hB9
    have hP : va_P (gD g) cl0 ws_21 H1 := by rw [← ht9]; exact hP1
    have hD : va_D A ws_21 := hD1.weaken (fun _ _ _ h => hFc _ h)
    clear hP1 hD1 hz9 hk9 hvm9 ht9 hw9
    generalize H1 = H at hP hS ⊢
    have aa_26 := a_r1_20
    have aa_27 := a_r2_1
    have aa_28 := a_r3_20
    have aa_29 := a_r4_20
    have o_h0 := E_22.1 _ _ o_h0
    refine lv_aload_n hx hb dX1_flowFrom_77 rfl (lv_at hl 0 rfl) ?_
    refine lv_iload_n hx hb dX1_flowFrom_78 rfl (lv_at hl 1 rfl) ?_
    obtain ⟨fs9, hk_30, hq_30⟩ := ((gF.a (F' := [(1, 5)]) Fr_23 (fun _ h => h))) _ _ _ hk_20
    obtain ⟨r0_30, r1_30, n1_30, r2_30, n2_30, r3_30, n3_30, r4_30, n4_30, c5_30, c6_30, c7_30, v8_30, v9_30, rfl, o_r0_30, a_r1_30, f2_30, a_r2_30, f4_30, a_r3_30, f6_30, a_r4_30, f8_30, hz_c6_30, hz_c7_30, o_v8_30, o_v9_30, f13_30, f14_30, f15_30, f16_30, -⟩ := (hG.1 _ _ _ _ hk_30).hX1 rfl
    obtain rfl := fe_r (hq_30 2 (by decide))
    have hn9 := gI_n hD ((E_22).1 _ _ aa_27) a_r2_30
    subst hn9
    have a_r2_1 := a_r2_30
    have hn9 := fe_qr (hq_30 8 (by decide))
    subst hn9
    have o_b_2 := o_v8_30 _ rfl
    have hn9 := fe_qr (hq_30 9 (by decide))
    subst hn9
    have o_b_3 := o_v9_30 _ rfl
    have hFc := gfree hD hS hA
    refine va_callv (va_runV (As := [.int x1]) (rest := []) ⟨hx, hb, hml, hown, hts⟩ (m_X1_goThrough l g H.size ws_21 h0 (x1) hG o_h0 (gN_of hD hk_30 (j := 8) rfl) (gN_of hD hk_30 (j := 9) rfl)) (cwV 1 hts (gd_V kw_518 kw_528 kw_529 kw_392 kw_527) rfl rfl rfl (by decide +kernel) ⟨Nat.le_of_ble_eq_true rfl, Nat.le_of_ble_eq_true rfl⟩) ⟨gblind, va_recv hK hP (ci := 1) (q0 := k_1) rfl hk_30, fun U hU hW9 => gmk hU hW9 hP hK hD hex hE hS hFc⟩ rfl rfl hl.1 rfl (lv_room (Nat.le_of_ble_eq_true rfl)) dX1_flowFrom_79 ⟨Nat.le_of_ble_eq_true rfl, Nat.le_of_ble_eq_true rfl⟩) hS (fun q _ h => hFc q h) hFc (fun  ws_31 t9 H1 locs ht9 hvm9 hw9 hB9 hz9 hk9 hS => ?_)
    obtain ⟨E_32, Fr_33, hG, hP1, hD1⟩ := hB9
    have hP : va_P (gD g) cl0 ws_31 H1 := by rw [← ht9]; exact hP1
    have hD : va_D A ws_31 := hD1.weaken (fun _ _ _ h => hFc _ h)
    clear hP1 hD1 hz9 hk9 hvm9 ht9 hw9
    generalize H1 = H at hP hS ⊢
    have aa_36 := a_r1_30
    have aa_37 := a_r2_1
    have aa_38 := a_r3_30
    have aa_39 := a_r4_30
    have o_h0 := E_32.1 _ _ o_h0
    refine lv_aload_n hx hb dX1_flowFrom_82 rfl (lv_at hl 0 rfl) ?_
    obtain ⟨fs9, hk_40, hq_40⟩ := ((gF.a (F' := [(1, 5), (1, 6)]) Fr_33 (fun _ h => h))) _ _ _ hk_30
    obtain ⟨r0_40, r1_40, n1_40, r2_40, n2_40, r3_40, n3_40, r4_40, n4_40, c5_40, c6_40, c7_40, v8_40, v9_40, rfl, o_r0_40, a_r1_40, f2_40, a_r2_40, f4_40, a_r3_40, f6_40, a_r4_40, f8_40, hz_c6_40, hz_c7_40, o_v8_40, o_v9_40, f13_40, f14_40, f15_40, f16_40, -⟩ := (hG.1 _ _ _ _ hk_40).hX1 rfl
    obtain rfl := fe_r (hq_40 2 (by decide))
    have hn9 := gI_n hD ((E_32).1 _ _ aa_37) a_r2_40
    subst hn9
    have a_r2_1 := a_r2_40
    have hn9 := fe_qr (hq_40 8 (by decide))
    subst hn9
    have o_b_2 := o_v8_40 _ rfl
    have hn9 := fe_qr (hq_40 9 (by decide))
    subst hn9
    have o_b_3 := o_v9_40 _ rfl
    refine va_get (D := gD g) (ci := 1) (v := .ref b_3) (C := RX1) (T := TX1) (N := 10) hx hb hts inX1 hown hK hP k_1 hk_40 rfl 9 (by decide) (hts _ kw_479) (fun _ h9 => h9) rfl dX1_flowFrom_83 ?_
    refine lv_iload_n hx hb dX1_flowFrom_86 rfl (lv_at hl 1 rfl) ?_
    have hFc := gfree hD hS hA
    obtain ⟨k_41, fs_41, hk_41⟩ := gC_of o_b_3
    refine va_calli (va_runV (As := [.int x1]) (rest := []) ⟨hx, hb, hml, hown, hts⟩ (m_X8_opAt l g H.size ws_31 b_3 (x1) hG o_b_3) (cwV 1 hts (gd_V kw_519 kw_1513 kw_1514 kw_782 kw_1512) rfl rfl rfl (by decide +kernel) ⟨Nat.le_of_ble_eq_true rfl, Nat.le_of_ble_eq_true rfl⟩) ⟨gblind, va_recv hK hP (ci := 7) (q0 := k_41) rfl hk_41, fun U hU hW9 => gmk hU hW9 hP hK hD hex hE hS hFc⟩ rfl rfl hl.1 rfl (lv_room (Nat.le_of_ble_eq_true rfl)) dX1_flowFrom_87 ⟨Nat.le_of_ble_eq_true rfl, Nat.le_of_ble_eq_true rfl⟩) hS (fun q _ h => hFc q h) hFc (fun r_42 u9 t9 H1 locs ht9 hvm9 hw9 hB9 hz9 hk9 hS => ?_)
    have hP : va_P (gD g) cl0 ws_31 H1 := by rw [← ht9]; exact hB9.1
    clear hB9 hz9 hk9 hvm9 ht9 hw9
    generalize H1 = H at hP hS ⊢
    have hFc := gfree hD hS hA
    refine va_calli (va_runS (As := [.int r_42]) (rest := []) ⟨hx, hb, hml, hown, hts⟩ (m_X6_goesOn l g H.size ws_31 (r_42) hG ) (va_cwS 1 hts (gd_S kw_520 kw_1219 kw_1207 kw_1218) rfl rfl rfl (by decide +kernel) ⟨Nat.le_of_ble_eq_true rfl, Nat.le_of_ble_eq_true rfl⟩) ⟨gblind, fun U hU hW9 => gmk hU hW9 hP hK hD hex hE hS hFc⟩ rfl rfl hl.1 rfl (lv_room (Nat.le_of_ble_eq_true rfl)) dX1_flowFrom_90 ⟨Nat.le_of_ble_eq_true rfl, Nat.le_of_ble_eq_true rfl⟩) hS (fun q _ h => hFc q h) hFc (fun r_43 u9 t9 H1 locs ht9 hvm9 hw9 hB9 hz9 hk9 hS => ?_)
    have hP : va_P (gD g) cl0 ws_31 H1 := by rw [← ht9]; exact hB9.1
    have hz_r_43 : r_43 = 0 ∨ r_43 = 1 := hw9
    clear hB9 hz9 hk9 hvm9 ht9 hw9
    generalize H1 = H at hP hS ⊢
    have J_103 : ∀ (ws_44 : va_W) (H : Heap) (locs : List Loc) (ls : Array Slot), gE ws_31 ws_44 → gF [(1, 7)] [(1, 1), (1, 2), (1, 3)] none ws_31 ws_44 → Good g ws_44 → va_P (gD g) cl0 ws_44 H → va_D A ws_44 → va_S A s.heap H locs → lv_has ls 4 [(0, .ref h0), (1, .int x1)] → W p l e (headSpec (wt yX1_flowFrom cX1_flowFrom 4 none) ({ frames := 5, cells := 0, slots := 0, locals := 110 })).room s m ([.ref h0, .int x1] : List Value).toArray below meth c H locs (0) (0) (MQ below (va_Qv (fun (u9 : va_W) => True) (gQ1 g [(1, 5), (1, 6), (1, 7)] [(1, 1), (1, 2), (1, 3), (1, 4)] none A ws) A) ([.ref h0, .int x1] : List Value).toArray s (0) (0) A) (F0 m 103 ls []) := by
      intro ws_44 H locs ls  E_45 Fr_46 hG hP hD hS hl
      have aa_47 := a_r1_40
      have aa_48 := a_r2_1
      have aa_49 := a_r3_40
      have aa_50 := a_r4_40
      have o_h0 := E_45.1 _ _ o_h0
      refine lv_aload_n hx hb dX1_flowFrom_103 rfl (lv_at hl 0 rfl) ?_
      obtain ⟨fs9, hk_51, hq_51⟩ := ((gF.a (F' := [(1, 7)]) Fr_46 (fun _ h => h))) _ _ _ hk_40
      obtain ⟨r0_51, r1_51, n1_51, r2_51, n2_51, r3_51, n3_51, r4_51, n4_51, c5_51, c6_51, c7_51, v8_51, v9_51, rfl, o_r0_51, a_r1_51, f2_51, a_r2_51, f4_51, a_r3_51, f6_51, a_r4_51, f8_51, hz_c6_51, hz_c7_51, o_v8_51, o_v9_51, f13_51, f14_51, f15_51, f16_51, -⟩ := (hG.1 _ _ _ _ hk_51).hX1 rfl
      obtain rfl := fe_r (hq_51 2 (by decide))
      have hn9 := gI_n hD ((E_45).1 _ _ aa_48) a_r2_51
      subst hn9
      have a_r2_1 := a_r2_51
      have hn9 := fe_qr (hq_51 8 (by decide))
      subst hn9
      have o_b_2 := o_v8_51 _ rfl
      have hn9 := fe_qr (hq_51 9 (by decide))
      subst hn9
      have o_b_3 := o_v9_51 _ rfl
      refine va_get (D := gD g) (ci := 1) (v := .ref b_3) (C := RX1) (T := TX1) (N := 10) hx hb hts inX1 hown hK hP k_1 hk_51 rfl 9 (by decide) (hts _ kw_479) (fun _ h9 => h9) rfl dX1_flowFrom_104 ?_
      refine lv_iload_n hx hb dX1_flowFrom_107 rfl (lv_at hl 1 rfl) ?_
      have hFc := gfree hD hS hA
      obtain ⟨k_52, fs_52, hk_52⟩ := gC_of o_b_3
      refine va_calli (va_runV (As := [.int x1]) (rest := []) ⟨hx, hb, hml, hown, hts⟩ (m_X8_targetCount l g H.size ws_44 b_3 (x1) hG o_b_3) (cwV 1 hts (gd_V kw_521 kw_1541 kw_1542 kw_782 kw_1540) rfl rfl rfl (by decide +kernel) ⟨Nat.le_of_ble_eq_true rfl, Nat.le_of_ble_eq_true rfl⟩) ⟨gblind, va_recv hK hP (ci := 7) (q0 := k_52) rfl hk_52, fun U hU hW9 => gmk hU hW9 hP hK hD hex hE hS hFc⟩ rfl rfl hl.1 rfl (lv_room (Nat.le_of_ble_eq_true rfl)) dX1_flowFrom_108 ⟨Nat.le_of_ble_eq_true rfl, Nat.le_of_ble_eq_true rfl⟩) hS (fun q _ h => hFc q h) hFc (fun r_53 u9 t9 H1 locs ht9 hvm9 hw9 hB9 hz9 hk9 hS => ?_)
      have hP : va_P (gD g) cl0 ws_44 H1 := by rw [← ht9]; exact hB9.1
      clear hB9 hz9 hk9 hvm9 ht9 hw9
      generalize H1 = H at hP hS ⊢
      refine lv_istore_n (lv' := [(2, .int r_53), (0, .ref h0), (1, .int x1)]) hx hb dX1_flowFrom_111 rfl hl (by decide) rfl (fun ls hl => ?_)
      refine lv_iconst (v := 0) hx hb dX1_flowFrom_112 (by decide) ?_
      refine lv_istore_n (lv' := [(3, .int 0), (2, .int r_53), (0, .ref h0), (1, .int x1)]) hx hb dX1_flowFrom_113 rfl hl (by decide) rfl (fun ls hl => ?_)
      have J_114 : ∀ (n9 : Nat) (v3_54 : Int32) (ws_56 : va_W) (H : Heap) (locs : List Loc) (ls : Array Slot), (2147483647 - v3_54.toInt).toNat = n9 → 0 ≤ v3_54.toInt → gE ws_44 ws_56 → gF [(1, 7)] [(1, 1), (1, 2), (1, 3)] none ws_44 ws_56 → Good g ws_56 → va_P (gD g) cl0 ws_56 H → va_D A ws_56 → va_S A s.heap H locs → lv_has ls 4 [(0, .ref h0), (1, .int x1), (2, .int r_53), (3, .int v3_54)] → W p l e (headSpec (wt yX1_flowFrom cX1_flowFrom 4 none) ({ frames := 5, cells := 0, slots := 0, locals := 110 })).room s m ([.ref h0, .int x1] : List Value).toArray below meth c H locs (0) (0) (MQ below (va_Qv (fun (u9 : va_W) => True) (gQ1 g [(1, 5), (1, 6), (1, 7)] [(1, 1), (1, 2), (1, 3), (1, 4)] none A ws) A) ([.ref h0, .int x1] : List Value).toArray s (0) (0) A) (F0 m 114 ls []) := by
        intro n9
        induction n9 using Nat.strongRecOn with
        | ind n9 ih_114 =>
          intro v3_54 ws_56 H locs ls hm9 iv_55 E_57 Fr_58 hG hP hD hS hl
          subst hm9
          have aa_59 := a_r1_51
          have aa_60 := a_r2_1
          have aa_61 := a_r3_51
          have aa_62 := a_r4_51
          have o_h0 := E_57.1 _ _ o_h0
          refine lv_iload_n hx hb dX1_flowFrom_114 rfl (lv_at hl 3 rfl) ?_
          refine lv_iload_n hx hb dX1_flowFrom_115 rfl (lv_at hl 2 rfl) ?_
          refine lv_icmp_ge (tgt := 138) hx hb dX1_flowFrom_116 (by decide) (fun c_63 => ?_) (fun c_63 => ?_)
          · refine W.widen (k := 0) (n := 0) (Nat.le_of_ble_eq_true rfl) (Nat.le_of_ble_eq_true rfl) ?_
            exact W.vret hx hb hr (fun t9 ht9 hW9 => ⟨⟨ws_56, rfl, trivial, ⟨(E_7.tr (E_22.tr (E_32.tr (E_45.tr E_57)))), (gF.tr (gF.mo (F' := [(1, 5), (1, 6), (1, 7)]) (C' := [(1, 1), (1, 2), (1, 3), (1, 4)]) (S' := none) Fr_8 (by decide) (fun _ h => h) (Or.inr rfl)) (gF.tr (gF.mo (F' := [(1, 5), (1, 6), (1, 7)]) (C' := [(1, 1), (1, 2), (1, 3), (1, 4)]) (S' := none) Fr_23 (by decide) (by decide) (Or.inr rfl)) (gF.tr (gF.mo (F' := [(1, 5), (1, 6), (1, 7)]) (C' := [(1, 1), (1, 2), (1, 3), (1, 4)]) (S' := none) Fr_33 (by decide) (by decide) (Or.inr rfl)) (gF.tr (gF.mo (F' := [(1, 5), (1, 6), (1, 7)]) (C' := [(1, 1), (1, 2), (1, 3), (1, 4)]) (S' := none) Fr_46 (by decide) (by decide) (Or.inr rfl)) (gF.mo (F' := [(1, 5), (1, 6), (1, 7)]) (C' := [(1, 1), (1, 2), (1, 3), (1, 4)]) (S' := none) Fr_58 (by decide) (by decide) (Or.inr rfl)))))), hG, by rw [ht9]; exact hP, hD⟩⟩, hS.F ht9⟩) hS.2.2 dX1_flowFrom_138
          · refine lv_aload_n hx hb dX1_flowFrom_119 rfl (lv_at hl 0 rfl) ?_
            refine lv_aload_n hx hb dX1_flowFrom_120 rfl (lv_at hl 0 rfl) ?_
            obtain ⟨fs9, hk_64, hq_64⟩ := ((gF.a (F' := [(1, 7)]) Fr_58 (fun _ h => h))) _ _ _ hk_51
            obtain ⟨r0_64, r1_64, n1_64, r2_64, n2_64, r3_64, n3_64, r4_64, n4_64, c5_64, c6_64, c7_64, v8_64, v9_64, rfl, o_r0_64, a_r1_64, f2_64, a_r2_64, f4_64, a_r3_64, f6_64, a_r4_64, f8_64, hz_c6_64, hz_c7_64, o_v8_64, o_v9_64, f13_64, f14_64, f15_64, f16_64, -⟩ := (hG.1 _ _ _ _ hk_64).hX1 rfl
            obtain rfl := fe_r (hq_64 2 (by decide))
            have hn9 := gI_n hD ((E_57).1 _ _ aa_60) a_r2_64
            subst hn9
            have a_r2_1 := a_r2_64
            have hn9 := fe_qr (hq_64 8 (by decide))
            subst hn9
            have o_b_2 := o_v8_64 _ rfl
            have hn9 := fe_qr (hq_64 9 (by decide))
            subst hn9
            have o_b_3 := o_v9_64 _ rfl
            refine va_get (D := gD g) (ci := 1) (v := .ref b_3) (C := RX1) (T := TX1) (N := 10) hx hb hts inX1 hown hK hP k_1 hk_64 rfl 9 (by decide) (hts _ kw_479) (fun _ h9 => h9) rfl dX1_flowFrom_121 ?_
            refine lv_iload_n hx hb dX1_flowFrom_124 rfl (lv_at hl 1 rfl) ?_
            refine lv_iload_n hx hb dX1_flowFrom_125 rfl (lv_at hl 3 rfl) ?_
            have hFc := gfree hD hS hA
            obtain ⟨k_65, fs_65, hk_65⟩ := gC_of o_b_3
            refine va_calli (va_runV (As := [.int x1, .int v3_54]) (rest := [.ref h0]) ⟨hx, hb, hml, hown, hts⟩ (m_X8_targetAt l g H.size ws_56 b_3 (x1) (v3_54) hG o_b_3) (cwV 2 hts (gd_V kw_522 kw_1537 kw_1538 kw_782 kw_1536) rfl rfl rfl (by decide +kernel) ⟨Nat.le_of_ble_eq_true rfl, Nat.le_of_ble_eq_true rfl⟩) ⟨gblind, va_recv hK hP (ci := 7) (q0 := k_65) rfl hk_65, fun U hU hW9 => gmk hU hW9 hP hK hD hex hE hS hFc⟩ rfl rfl hl.1 rfl (lv_room (Nat.le_of_ble_eq_true rfl)) dX1_flowFrom_126 ⟨Nat.le_of_ble_eq_true rfl, Nat.le_of_ble_eq_true rfl⟩) hS (fun q _ h => hFc q h) hFc (fun r_66 u9 t9 H1 locs ht9 hvm9 hw9 hB9 hz9 hk9 hS => ?_)
            have hP : va_P (gD g) cl0 ws_56 H1 := by rw [← ht9]; exact hB9.1
            clear hB9 hz9 hk9 hvm9 ht9 hw9
            generalize H1 = H at hP hS ⊢
            obtain ⟨fs9, hk_67, hq_67⟩ := ((gA.tr (gF.a (F' := [(1, 5), (1, 6), (1, 7)]) Fr_8 (by decide)) (gA.tr (gF.a (F' := [(1, 5), (1, 6), (1, 7)]) Fr_23 (by decide)) (gA.tr (gF.a (F' := [(1, 5), (1, 6), (1, 7)]) Fr_33 (by decide)) (gA.tr (gF.a (F' := [(1, 5), (1, 6), (1, 7)]) Fr_46 (by decide)) (gF.a (F' := [(1, 5), (1, 6), (1, 7)]) Fr_58 (by decide))))))) _ _ _ hk_4
            obtain ⟨r0_67, n0_67, r1_67, n1_67, c2_67, r3_67, n3_67, c4_67, r5_67, n5_67, r6_67, n6_67, r7_67, n7_67, r8_67, n8_67, c9_67, c10_67, c11_67, v12_67, v13_67, v14_67, rfl, a_r0_67, f1_67, a_r1_67, f3_67, a_r3_67, f5_67, a_r5_67, f7_67, a_r6_67, f9_67, a_r7_67, f11_67, a_r8_67, f13_67, o_v12_67, o_v13_67, o_v14_67, f17_67, f18_67, f19_67, f20_67, f21_67, f22_67, f23_67, f24_67, f25_67, f26_67, f27_67, f28_67, f29_67, -⟩ := (hG.1 _ _ _ _ hk_67).hX8 rfl
            obtain rfl := fe_i (hq_67 2 (by decide))
            obtain rfl := fe_r (hq_67 7 (by decide))
            have hn9 := gI_n hD (((E_7.tr (E_22.tr (E_32.tr (E_45.tr E_57))))).1 _ _ aa_18) a_r7_67
            subst hn9
            have a_r7_4 := a_r7_67
            obtain rfl := fe_i (hq_67 9 (by decide))
            have hFc := gfree hD hS hA
            refine va_callv (va_runV (As := [.int r_66]) (rest := []) ⟨hx, hb, hml, hown, hts⟩ (m_X1_comeTo l g H.size ws_56 h0 (r_66) hG o_h0 (gN_of hD hk_64 (j := 9) rfl) (fun k9 k8 b9 fs gs e1 e2 e3 q0 e40 p90 m90 e50 g90 => by obtain rfl := gO_un hD hk_64 e1; cases e2; obtain rfl := gO_un hD hk_67 e3; cases e40; cases e50; have z90 := gI_n hD a_r2_1 g90; subst z90; exact (by have q_f4_1 := f4_1; have q_f14_1 := f14_1; have q_f15_1 := f15_1; have q_f16_1 := f16_1; have q_fq_k := fq_k; have q_f19_4 := f19_4; have q_f20_4 := f20_4; have q_fq2_c := fq2_c; have q_f14_20 := f14_20; have q_f15_20 := f15_20; have q_f14_30 := f14_30; have q_f15_30 := f15_30; have q_f14_40 := f14_40; have q_f15_40 := f15_40; have q_f14_51 := f14_51; have q_f15_51 := f15_51; have q_f14_64 := f14_64; have q_f15_64 := f15_64; have q_f20_67 := f20_67; have q_p0 := p0; have q_f2_1 := f2_1; have q_f6_1 := f6_1; have q_f1_4 := f1_4; have q_f17_4 := f17_4; have q_f18_4 := f18_4; have q_f2_20 := f2_20; have q_f6_20 := f6_20; have q_f2_30 := f2_30; have q_f6_30 := f6_30; have q_f2_40 := f2_40; have q_f6_40 := f6_40; have q_f2_51 := f2_51; have q_f6_51 := f6_51; have q_f2_64 := f2_64; have q_f6_64 := f6_64; have q_f1_67 := f1_67; have q_f17_67 := f17_67; have q_f18_67 := f18_67; have g_c2_4 := i_rg c2_4; have g_x1 := i_rg x1; omega))) (cwV 1 hts (gd_V kw_487 kw_489 kw_490 kw_392 kw_488) rfl rfl rfl (by decide +kernel) ⟨Nat.le_of_ble_eq_true rfl, Nat.le_of_ble_eq_true rfl⟩) ⟨gblind, va_recv hK hP (ci := 1) (q0 := k_1) rfl hk_64, fun U hU hW9 => gmk hU hW9 hP hK hD hex hE hS hFc⟩ rfl rfl hl.1 rfl (lv_room (Nat.le_of_ble_eq_true rfl)) dX1_flowFrom_129 ⟨Nat.le_of_ble_eq_true rfl, Nat.le_of_ble_eq_true rfl⟩) hS (fun q _ h => hFc q h) hFc (fun  ws_68 t9 H1 locs ht9 hvm9 hw9 hB9 hz9 hk9 hS => ?_)
            obtain ⟨E_69, Fr_70, hG, hP1, hD1⟩ := hB9
            have hP : va_P (gD g) cl0 ws_68 H1 := by rw [← ht9]; exact hP1
            have hD : va_D A ws_68 := hD1.weaken (fun _ _ _ h => hFc _ h)
            clear hP1 hD1 hz9 hk9 hvm9 ht9 hw9
            generalize H1 = H at hP hS ⊢
            have aa_73 := a_r1_64
            have aa_74 := a_r2_1
            have aa_75 := a_r3_64
            have aa_76 := a_r4_64
            have aa_77 := a_r0_67
            have aa_78 := a_r1_67
            have aa_79 := a_r3_67
            have aa_80 := a_r5_67
            have aa_81 := a_r6_67
            have aa_82 := a_r7_4
            have aa_83 := a_r8_67
            have o_h0 := E_69.1 _ _ o_h0
            obtain ⟨z_84, ez_84⟩ : ∃ z : Int32, v3_54 + Int32.ofInt 1 = z := ⟨_, rfl⟩
            refine lv_iinc (v := z_84) (lv' := [(3, .int z_84), (0, .ref h0), (1, .int x1), (2, .int r_53)]) hx hb dX1_flowFrom_132 hl (k := 3) rfl ez_84 (by decide) rfl (fun ls hl => ?_)
            refine lv_goto (tgt := 114) hx hb dX1_flowFrom_135 (by decide) ?_
            exact ih_114 _ (by obtain ⟨u_z_84, q_z_84⟩ := i_iz ez_84 (by decide) (by decide); have q_iv_55 := iv_55; have q_c_63 := i_nle c_63; have g_r_53 := i_rg r_53; have g_v3_54 := i_rg v3_54; have g_z_84 := i_rg z_84; omega) (z_84) ws_68 H locs ls rfl (by obtain ⟨u_z_84, q_z_84⟩ := i_iz ez_84 (by decide) (by decide); have q_iv_55 := iv_55; have q_c_63 := i_nle c_63; have g_r_53 := i_rg r_53; have g_v3_54 := i_rg v3_54; have g_z_84 := i_rg z_84; omega) ((E_57.tr E_69)) ((gF.tr Fr_58 Fr_70)) hG hP hD hS (lv_sub hl [1, 2, 3, 0] rfl)
      exact J_114 _ (0) ws_44 H locs ls rfl (by have e0 : (0 : Int32).toInt = 0 := (by decide); omega) (gE.rf) (gF.rf) hG hP hD hS (lv_sub hl [2, 3, 1, 0] rfl)
    refine lv_if_eq (tgt := 103) hx hb dX1_flowFrom_93 (by decide) (fun c_85 => ?_) (fun c_85 => ?_)
    · exact J_103 ws_31 H locs ls (gE.rf) (gF.rf) hG hP hD hS (lv_sub hl [0, 1] rfl)
    · refine lv_aload_n hx hb dX1_flowFrom_96 rfl (lv_at hl 0 rfl) ?_
      refine lv_iload_n hx hb dX1_flowFrom_97 rfl (lv_at hl 1 rfl) ?_
      refine lv_iconst (v := 1) hx hb dX1_flowFrom_98 (by decide) ?_
      refine lv_iadd hx hb dX1_flowFrom_99 ?_
      refine lv_topi (fun z_86 ez_86 => ?_)
      obtain ⟨fs9, hk_87, hq_87⟩ := ((gA.tr (gF.a (F' := [(1, 5), (1, 6), (1, 7)]) Fr_8 (by decide)) (gA.tr (gF.a (F' := [(1, 5), (1, 6), (1, 7)]) Fr_23 (by decide)) (gF.a (F' := [(1, 5), (1, 6), (1, 7)]) Fr_33 (by decide))))) _ _ _ hk_4
      obtain ⟨r0_87, n0_87, r1_87, n1_87, c2_87, r3_87, n3_87, c4_87, r5_87, n5_87, r6_87, n6_87, r7_87, n7_87, r8_87, n8_87, c9_87, c10_87, c11_87, v12_87, v13_87, v14_87, rfl, a_r0_87, f1_87, a_r1_87, f3_87, a_r3_87, f5_87, a_r5_87, f7_87, a_r6_87, f9_87, a_r7_87, f11_87, a_r8_87, f13_87, o_v12_87, o_v13_87, o_v14_87, f17_87, f18_87, f19_87, f20_87, f21_87, f22_87, f23_87, f24_87, f25_87, f26_87, f27_87, f28_87, f29_87, -⟩ := (hG.1 _ _ _ _ hk_87).hX8 rfl
      obtain rfl := fe_i (hq_87 2 (by decide))
      obtain rfl := fe_r (hq_87 7 (by decide))
      have hn9 := gI_n hD (((E_7.tr (E_22.tr E_32))).1 _ _ aa_18) a_r7_87
      subst hn9
      have a_r7_4 := a_r7_87
      obtain rfl := fe_i (hq_87 9 (by decide))
      have hFc := gfree hD hS hA
      refine va_callv (va_runV (As := [.int z_86]) (rest := []) ⟨hx, hb, hml, hown, hts⟩ (m_X1_comeTo l g H.size ws_31 h0 (z_86) hG o_h0 (gN_of hD hk_40 (j := 9) rfl) (fun k9 k8 b9 fs gs e1 e2 e3 q0 e40 p90 m90 e50 g90 => by obtain rfl := gO_un hD hk_40 e1; cases e2; obtain rfl := gO_un hD hk_87 e3; cases e40; cases e50; have z90 := gI_n hD a_r2_1 g90; subst z90; exact (by have e1 : (1 : Int32).toInt = 1 := (by decide); have q_f4_1 := f4_1; have q_f14_1 := f14_1; have q_f15_1 := f15_1; have q_f16_1 := f16_1; have q_fq_k := fq_k; have q_f19_4 := f19_4; have q_f20_4 := f20_4; have q_fq2_c := fq2_c; have q_f14_20 := f14_20; have q_f15_20 := f15_20; have q_f14_30 := f14_30; have q_f15_30 := f15_30; have q_f14_40 := f14_40; have q_f15_40 := f15_40; have q_f20_87 := f20_87; have q_p0 := p0; have q_f2_1 := f2_1; have q_f6_1 := f6_1; have q_f1_4 := f1_4; have q_f17_4 := f17_4; have q_f18_4 := f18_4; have q_f2_20 := f2_20; have q_f6_20 := f6_20; have q_f2_30 := f2_30; have q_f6_30 := f6_30; have q_f2_40 := f2_40; have q_f6_40 := f6_40; obtain ⟨u_z_86, q_z_86⟩ := i_add ez_86; have q_f1_87 := f1_87; have q_f17_87 := f17_87; have q_f18_87 := f18_87; have g_c2_4 := i_rg c2_4; have g_x1 := i_rg x1; have g_z_86 := i_rg z_86; omega))) (cwV 1 hts (gd_V kw_487 kw_489 kw_490 kw_392 kw_488) rfl rfl rfl (by decide +kernel) ⟨Nat.le_of_ble_eq_true rfl, Nat.le_of_ble_eq_true rfl⟩) ⟨gblind, va_recv hK hP (ci := 1) (q0 := k_1) rfl hk_40, fun U hU hW9 => gmk hU hW9 hP hK hD hex hE hS hFc⟩ rfl rfl hl.1 rfl (lv_room (Nat.le_of_ble_eq_true rfl)) dX1_flowFrom_100 ⟨Nat.le_of_ble_eq_true rfl, Nat.le_of_ble_eq_true rfl⟩) hS (fun q _ h => hFc q h) hFc (fun  ws_88 t9 H1 locs ht9 hvm9 hw9 hB9 hz9 hk9 hS => ?_)
      obtain ⟨E_89, Fr_90, hG, hP1, hD1⟩ := hB9
      have hP : va_P (gD g) cl0 ws_88 H1 := by rw [← ht9]; exact hP1
      have hD : va_D A ws_88 := hD1.weaken (fun _ _ _ h => hFc _ h)
      clear hP1 hD1 hz9 hk9 hvm9 ht9 hw9
      generalize H1 = H at hP hS ⊢
      have aa_93 := a_r1_40
      have aa_94 := a_r2_1
      have aa_95 := a_r3_40
      have aa_96 := a_r4_40
      have aa_97 := a_r0_87
      have aa_98 := a_r1_87
      have aa_99 := a_r3_87
      have aa_100 := a_r5_87
      have aa_101 := a_r6_87
      have aa_102 := a_r7_4
      have aa_103 := a_r8_87
      have o_h0 := E_89.1 _ _ o_h0
      exact J_103 ws_88 H locs ls (E_89) (Fr_90) hG hP hD hS (lv_sub hl [0, 1] rfl)
  refine lv_if_eq (tgt := 72) hx hb dX1_flowFrom_8 (by decide) (fun c_104 => ?_) (fun c_104 => ?_)
  · exact J_72 ws H locs ls (gE.rf) (gF.rf) hG hP hD hS (lv_sub hl [0, 1] rfl)
  · refine lv_aload_n hx hb dX1_flowFrom_11 rfl (lv_at hl 0 rfl) ?_
    refine lv_iload_n hx hb dX1_flowFrom_12 rfl (lv_at hl 1 rfl) ?_
    have hFc := gfree hD hS hA
    refine va_callv (va_runV (As := [.int x1]) (rest := []) ⟨hx, hb, hml, hown, hts⟩ (m_X1_takeUp l g H.size ws h0 (x1) hG o_h0 (gP_of hD hk_1 (fun p90 q90 e90 g90 => by cases e90; have z90 := gI_n hD a_r2_1 g90; subst z90; exact (by have q_p0 := p0; have q_f4_1 := f4_1; have q_f14_1 := f14_1; have q_f15_1 := f15_1; have q_f16_1 := f16_1; have q_fq_k := fq_k; have q_fq2_c := fq2_c; have q_f2_1 := f2_1; have q_f6_1 := f6_1; have q_f19_4 := f19_4; have q_f20_4 := f20_4; have g_c2_4 := i_rg c2_4; have g_x1 := i_rg x1; omega)))) (cwV 1 hts (gd_V kw_514 kw_609 kw_610 kw_392 kw_608) rfl rfl rfl (by decide +kernel) ⟨Nat.le_of_ble_eq_true rfl, Nat.le_of_ble_eq_true rfl⟩) ⟨gblind, va_recv hK hP (ci := 1) (q0 := k_1) rfl hk_1, fun U hU hW9 => gmk hU hW9 hP hK hD hex hE hS hFc⟩ rfl rfl hl.1 rfl (lv_room (Nat.le_of_ble_eq_true rfl)) dX1_flowFrom_13 ⟨Nat.le_of_ble_eq_true rfl, Nat.le_of_ble_eq_true rfl⟩) hS (fun q _ h => hFc q h) hFc (fun  ws_105 t9 H1 locs ht9 hvm9 hw9 hB9 hz9 hk9 hS => ?_)
    obtain ⟨E_106, Fr_107, hG, hP1, hD1⟩ := hB9
    have hP : va_P (gD g) cl0 ws_105 H1 := by rw [← ht9]; exact hP1
    have hD : va_D A ws_105 := hD1.weaken (fun _ _ _ h => hFc _ h)
    clear hP1 hD1 hz9 hk9 hvm9 ht9 hw9
    generalize H1 = H at hP hS ⊢
    have aa_110 := a_r1_1
    have aa_111 := a_r2_1
    have aa_112 := a_r3_1
    have aa_113 := a_r4_1
    have aa_114 := a_r0_4
    have aa_115 := a_r1_4
    have aa_116 := a_r3_4
    have aa_117 := a_r5_4
    have aa_118 := a_r6_4
    have aa_119 := a_r7_4
    have aa_120 := a_r8_4
    have o_h0 := E_106.1 _ _ o_h0
    refine lv_aload_n hx hb dX1_flowFrom_16 rfl (lv_at hl 0 rfl) ?_
    refine lv_iconst (v := 1) hx hb dX1_flowFrom_17 (by decide) ?_
    obtain ⟨fs9, hk_121, hq_121⟩ := ((gF.a (F' := [(1, 5)]) Fr_107 (fun _ h => h))) _ _ _ hk_1
    obtain ⟨r0_121, r1_121, n1_121, r2_121, n2_121, r3_121, n3_121, r4_121, n4_121, c5_121, c6_121, c7_121, v8_121, v9_121, rfl, o_r0_121, a_r1_121, f2_121, a_r2_121, f4_121, a_r3_121, f6_121, a_r4_121, f8_121, hz_c6_121, hz_c7_121, o_v8_121, o_v9_121, f13_121, f14_121, f15_121, f16_121, -⟩ := (hG.1 _ _ _ _ hk_121).hX1 rfl
    obtain rfl := fe_r (hq_121 2 (by decide))
    have hn9 := gI_n hD ((E_106).1 _ _ aa_111) a_r2_121
    subst hn9
    have a_r2_1 := a_r2_121
    have hn9 := fe_qr (hq_121 8 (by decide))
    subst hn9
    have o_b_2 := o_v8_121 _ rfl
    have hn9 := fe_qr (hq_121 9 (by decide))
    subst hn9
    have o_b_3 := o_v9_121 _ rfl
    have hV9 : okv ws_105 1 5 (.int 1) := okv_i
    refine va_put (D := gD g) (ci := 1) (v := .int 1) (ty := .int) (C := RX1) (T := TX1) (N := 10) hx hb hts inX1 tyX1 tyX1_ok nmX1 hown hK hP hD hS k_1 hk_121 rfl 5 (by decide) (hts _ kw_486) (fun _ h9 => h9) rfl (by decide +kernel) rfl rfl (Nat.le_of_ble_eq_true rfl) dX1_flowFrom_18 (fun H locs hP hD hS => ?_)
    have hi_122 : invX1 g ws_105 h0 [.ref r0_121, .ref r1_121, .ref r2_1, .ref r3_121, .ref r4_121, .int 1, .int c6_121, .int c7_121, .ref b_2, .ref b_3] := ⟨r0_121, r1_121, (n1_121), r2_1, (n2_1), r3_121, (n3_121), r4_121, (n4_121), (1), (c6_121), (c7_121), (some b_2), (some b_3), rfl, o_r0_121, a_r1_121, f2_121, a_r2_1, f4_121, a_r3_121, f6_121, a_r4_121, f8_121, hz_c6_121, hz_c7_121, (fun b h9 => by cases h9; exact o_b_2), (fun b h9 => by cases h9; exact o_b_3), f13_121, f14_121, f15_121, f16_121, trivial⟩
    obtain ⟨ws_123, e_ws_123⟩ : ∃ z, z = ws_105.set k_1 (h0, .inr (1, [.ref r0_121, .ref r1_121, .ref r2_1, .ref r3_121, .ref r4_121, .int 1, .int c6_121, .int c7_121, .ref b_2, .ref b_3])) := ⟨_, rfl⟩
    have hP : va_P (gD g) cl0 ws_123 H := by rw [e_ws_123]; exact hP
    have hD : va_D A ws_123 := by rw [e_ws_123]; exact hD
    have E_124 : gE ws_105 ws_123 := gE_set e_ws_123 hk_121 (cw_o (fi := 5) (v := .int 1) rfl (by decide))
    have hG : Good g ws_123 := Good_set (fi := 5) (v := .int 1) e_ws_123 hk_121 E_124 rfl hV9 hG (ivX1 hi_122)
    have Fr_125 : gF [(1, 5)] [] (some h0) ws_105 ws_123 := gF_put (fi := 5) (v := .int 1) e_ws_123 hk_121 rfl (by decide)
    have hkN := gset_self e_ws_123 hk_121
    have hk_121 := hkN
    have o_h0 := E_124.1 _ _ o_h0
    have o_r0_121 := E_124.1 _ _ o_r0_121
    have a_r1_121 := E_124.1 _ _ a_r1_121
    have a_r3_121 := E_124.1 _ _ a_r3_121
    have a_r4_121 := E_124.1 _ _ a_r4_121
    have a_r2_1 := E_124.1 _ _ a_r2_1
    have o_b_2 := E_124.1 _ _ o_b_2
    have o_b_3 := E_124.1 _ _ o_b_3
    refine lv_aload_n hx hb dX1_flowFrom_21 rfl (lv_at hl 0 rfl) ?_
    refine lv_bipush (v := 24) hx hb dX1_flowFrom_22 (by decide) ?_
    refine lv_iconst (v := 5) hx hb dX1_flowFrom_24 (by decide) ?_
    have hFc := gfree hD hS hA
    refine va_callv (va_runV (As := [.int 24, .int 5]) (rest := []) ⟨hx, hb, hml, hown, hts⟩ (m_X1_setPlace l g H.size ws_123 h0 (24) (5) hG o_h0) (cwV 2 hts (gd_V kw_485 kw_588 kw_589 kw_392 kw_587) rfl rfl rfl (by decide +kernel) ⟨Nat.le_of_ble_eq_true rfl, Nat.le_of_ble_eq_true rfl⟩) ⟨gblind, va_recv hK hP (ci := 1) (q0 := k_1) rfl hk_121, fun U hU hW9 => gmk hU hW9 hP hK hD hex hE hS hFc⟩ rfl rfl hl.1 rfl (lv_room (Nat.le_of_ble_eq_true rfl)) dX1_flowFrom_25 ⟨Nat.le_of_ble_eq_true rfl, Nat.le_of_ble_eq_true rfl⟩) hS (fun q _ h => hFc q h) hFc (fun  ws_126 t9 H1 locs ht9 hvm9 hw9 hB9 hz9 hk9 hS => ?_)
    obtain ⟨E_127, Fr_128, hG, hP1, hD1⟩ := hB9
    have hP : va_P (gD g) cl0 ws_126 H1 := by rw [← ht9]; exact hP1
    have hD : va_D A ws_126 := hD1.weaken (fun _ _ _ h => hFc _ h)
    clear hP1 hD1 hz9 hk9 hvm9 ht9 hw9
    generalize H1 = H at hP hS ⊢
    have aa_131 := a_r1_121
    have aa_132 := a_r2_1
    have aa_133 := a_r3_121
    have aa_134 := a_r4_121
    have o_h0 := E_127.1 _ _ o_h0
    refine lv_iconst (v := 0) hx hb dX1_flowFrom_28 (by decide) ?_
    refine lv_istore_n (lv' := [(2, .int 0), (0, .ref h0), (1, .int x1)]) hx hb dX1_flowFrom_29 rfl hl (by decide) rfl (fun ls hl => ?_)
    have J_30 : ∀ (n9 : Nat) (v2_135 : Int32) (ws_137 : va_W) (H : Heap) (locs : List Loc) (ls : Array Slot), (2147483647 - v2_135.toInt).toNat = n9 → 0 ≤ v2_135.toInt → gE ws_126 ws_137 → gF [(1, 7)] [(1, 1), (1, 2), (1, 3)] none ws_126 ws_137 → Good g ws_137 → va_P (gD g) cl0 ws_137 H → va_D A ws_137 → va_S A s.heap H locs → lv_has ls 4 [(0, .ref h0), (1, .int x1), (2, .int v2_135)] → W p l e (headSpec (wt yX1_flowFrom cX1_flowFrom 4 none) ({ frames := 5, cells := 0, slots := 0, locals := 110 })).room s m ([.ref h0, .int x1] : List Value).toArray below meth c H locs (0) (0) (MQ below (va_Qv (fun (u9 : va_W) => True) (gQ1 g [(1, 5), (1, 6), (1, 7)] [(1, 1), (1, 2), (1, 3), (1, 4)] none A ws) A) ([.ref h0, .int x1] : List Value).toArray s (0) (0) A) (F0 m 30 ls []) := by
      intro n9
      induction n9 using Nat.strongRecOn with
      | ind n9 ih_30 =>
        intro v2_135 ws_137 H locs ls hm9 iv_136 E_138 Fr_139 hG hP hD hS hl
        subst hm9
        have o_h0 := E_138.1 _ _ o_h0
        refine lv_iload_n hx hb dX1_flowFrom_30 rfl (lv_at hl 2 rfl) ?_
        refine lv_aload_n hx hb dX1_flowFrom_31 rfl (lv_at hl 0 rfl) ?_
        obtain ⟨fs9, hk_140, hq_140⟩ := ((gA.tr (gF.a (F' := [(1, 7)]) Fr_128 (fun _ h => absurd h List.not_mem_nil)) (gF.a (F' := [(1, 7)]) Fr_139 (fun _ h => h)))) _ _ _ hk_121
        obtain ⟨r0_140, r1_140, n1_140, r2_140, n2_140, r3_140, n3_140, r4_140, n4_140, c5_140, c6_140, c7_140, v8_140, v9_140, rfl, o_r0_140, a_r1_140, f2_140, a_r2_140, f4_140, a_r3_140, f6_140, a_r4_140, f8_140, hz_c6_140, hz_c7_140, o_v8_140, o_v9_140, f13_140, f14_140, f15_140, f16_140, -⟩ := (hG.1 _ _ _ _ hk_140).hX1 rfl
        obtain rfl := fe_r (hq_140 2 (by decide))
        have hn9 := gI_n hD (((E_127.tr E_138)).1 _ _ aa_132) a_r2_140
        subst hn9
        have a_r2_1 := a_r2_140
        have hn9 := fe_qr (hq_140 8 (by decide))
        subst hn9
        have o_b_2 := o_v8_140 _ rfl
        have hn9 := fe_qr (hq_140 9 (by decide))
        subst hn9
        have o_b_3 := o_v9_140 _ rfl
        refine va_get (D := gD g) (ci := 1) (v := .ref b_3) (C := RX1) (T := TX1) (N := 10) hx hb hts inX1 hown hK hP k_1 hk_140 rfl 9 (by decide) (hts _ kw_479) (fun _ h9 => h9) rfl dX1_flowFrom_32 ?_
        obtain ⟨fs9, hk_141, hq_141⟩ := ((gA.tr (gF.a (F' := [(1, 5), (1, 7)]) Fr_107 (by decide)) (gA.tr (gF.a (F' := [(1, 5), (1, 7)]) Fr_125 (by decide)) (gA.tr (gF.a (F' := [(1, 5), (1, 7)]) Fr_128 (fun _ h => absurd h List.not_mem_nil)) (gF.a (F' := [(1, 5), (1, 7)]) Fr_139 (by decide)))))) _ _ _ hk_4
        obtain ⟨r0_141, n0_141, r1_141, n1_141, c2_141, r3_141, n3_141, c4_141, r5_141, n5_141, r6_141, n6_141, r7_141, n7_141, r8_141, n8_141, c9_141, c10_141, c11_141, v12_141, v13_141, v14_141, rfl, a_r0_141, f1_141, a_r1_141, f3_141, a_r3_141, f5_141, a_r5_141, f7_141, a_r6_141, f9_141, a_r7_141, f11_141, a_r8_141, f13_141, o_v12_141, o_v13_141, o_v14_141, f17_141, f18_141, f19_141, f20_141, f21_141, f22_141, f23_141, f24_141, f25_141, f26_141, f27_141, f28_141, f29_141, -⟩ := (hG.1 _ _ _ _ hk_141).hX8 rfl
        obtain rfl := fe_i (hq_141 2 (by decide))
        obtain rfl := fe_r (hq_141 7 (by decide))
        have hn9 := gI_n hD (((E_106.tr (E_124.tr (E_127.tr E_138)))).1 _ _ aa_119) a_r7_141
        subst hn9
        have a_r7_4 := a_r7_141
        obtain rfl := fe_i (hq_141 9 (by decide))
        refine va_get (D := gD g) (ci := 7) (v := .int c9_4) (C := RX8) (T := TX8) (N := 15) hx hb hts inX8 hown hK hP k_4 hk_141 rfl 9 (by decide) (hts _ kw_515) (fun _ h9 => h9) rfl dX1_flowFrom_35 ?_
        refine lv_icmp_ge (tgt := 72) hx hb dX1_flowFrom_38 (by decide) (fun c_142 => ?_) (fun c_142 => ?_)
        · exact J_72 ws_137 H locs ls ((E_106.tr (E_124.tr (E_127.tr E_138)))) ((gF.tr (gF.mo (F' := [(1, 5), (1, 7)]) (C' := [(1, 1), (1, 2), (1, 3), (1, 4)]) (S' := none) Fr_107 (by decide) (by decide) (Or.inr rfl)) (gF.tr (gF.mo (F' := [(1, 5), (1, 7)]) (C' := [(1, 1), (1, 2), (1, 3), (1, 4)]) (S' := none) Fr_125 (by decide) (fun _ h => absurd h List.not_mem_nil) (Or.inl rfl)) (gF.tr (gF.mo (F' := [(1, 5), (1, 7)]) (C' := [(1, 1), (1, 2), (1, 3), (1, 4)]) (S' := none) Fr_128 (fun _ h => absurd h List.not_mem_nil) (by decide) (Or.inr rfl)) (gF.mo (F' := [(1, 5), (1, 7)]) (C' := [(1, 1), (1, 2), (1, 3), (1, 4)]) (S' := none) Fr_139 (by decide) (by decide) (Or.inr rfl)))))) hG hP hD hS (lv_sub hl [0, 1] rfl)
        · refine lv_aload_n hx hb dX1_flowFrom_41 rfl (lv_at hl 0 rfl) ?_
          refine va_get (D := gD g) (ci := 1) (v := .ref b_3) (C := RX1) (T := TX1) (N := 10) hx hb hts inX1 hown hK hP k_1 hk_140 rfl 9 (by decide) (hts _ kw_479) (fun _ h9 => h9) rfl dX1_flowFrom_42 ?_
          refine lv_iload_n hx hb dX1_flowFrom_45 rfl (lv_at hl 2 rfl) ?_
          refine lv_iload_n hx hb dX1_flowFrom_46 rfl (lv_at hl 1 rfl) ?_
          have hFc := gfree hD hS hA
          refine va_calli (va_runV (As := [.int v2_135, .int x1]) (rest := []) ⟨hx, hb, hml, hown, hts⟩ (m_X8_catchHas l g H.size ws_137 b_3 (v2_135) (x1) hG o_b_3) (cwV 2 hts (gd_V kw_516 kw_1483 kw_1484 kw_782 kw_1482) rfl rfl rfl (by decide +kernel) ⟨Nat.le_of_ble_eq_true rfl, Nat.le_of_ble_eq_true rfl⟩) ⟨gblind, va_recv hK hP (ci := 7) (q0 := k_4) rfl hk_141, fun U hU hW9 => gmk hU hW9 hP hK hD hex hE hS hFc⟩ rfl rfl hl.1 rfl (lv_room (Nat.le_of_ble_eq_true rfl)) dX1_flowFrom_47 ⟨Nat.le_of_ble_eq_true rfl, Nat.le_of_ble_eq_true rfl⟩) hS (fun q _ h => hFc q h) hFc (fun r_143 u9 t9 H1 locs ht9 hvm9 hw9 hB9 hz9 hk9 hS => ?_)
          have hP : va_P (gD g) cl0 ws_137 H1 := by rw [← ht9]; exact hB9.1
          have hz_r_143 : r_143 = 0 ∨ r_143 = 1 := hw9
          clear hB9 hz9 hk9 hvm9 ht9 hw9
          generalize H1 = H at hP hS ⊢
          have J_66 : ∀ (ws_144 : va_W) (H : Heap) (locs : List Loc) (ls : Array Slot), gE ws_137 ws_144 → gF [(1, 7)] [(1, 1), (1, 2), (1, 3)] none ws_137 ws_144 → Good g ws_144 → va_P (gD g) cl0 ws_144 H → va_D A ws_144 → va_S A s.heap H locs → lv_has ls 4 [(0, .ref h0), (1, .int x1), (2, .int v2_135)] → W p l e (headSpec (wt yX1_flowFrom cX1_flowFrom 4 none) ({ frames := 5, cells := 0, slots := 0, locals := 110 })).room s m ([.ref h0, .int x1] : List Value).toArray below meth c H locs (0) (0) (MQ below (va_Qv (fun (u9 : va_W) => True) (gQ1 g [(1, 5), (1, 6), (1, 7)] [(1, 1), (1, 2), (1, 3), (1, 4)] none A ws) A) ([.ref h0, .int x1] : List Value).toArray s (0) (0) A) (F0 m 66 ls []) := by
            intro ws_144 H locs ls  E_145 Fr_146 hG hP hD hS hl
            have aa_147 := a_r1_140
            have aa_148 := a_r2_1
            have aa_149 := a_r3_140
            have aa_150 := a_r4_140
            have aa_151 := a_r0_141
            have aa_152 := a_r1_141
            have aa_153 := a_r3_141
            have aa_154 := a_r5_141
            have aa_155 := a_r6_141
            have aa_156 := a_r7_4
            have aa_157 := a_r8_141
            have o_h0 := E_145.1 _ _ o_h0
            obtain ⟨z_158, ez_158⟩ : ∃ z : Int32, v2_135 + Int32.ofInt 1 = z := ⟨_, rfl⟩
            refine lv_iinc (v := z_158) (lv' := [(2, .int z_158), (0, .ref h0), (1, .int x1)]) hx hb dX1_flowFrom_66 hl (k := 2) rfl ez_158 (by decide) rfl (fun ls hl => ?_)
            refine lv_goto (tgt := 30) hx hb dX1_flowFrom_69 (by decide) ?_
            exact ih_30 _ (by obtain ⟨u_z_158, q_z_158⟩ := i_iz ez_158 (by decide) (by decide); have q_iv_136 := iv_136; have q_c_142 := i_nle c_142; have g_c9_4 := i_rg c9_4; have g_v2_135 := i_rg v2_135; have g_z_158 := i_rg z_158; omega) (z_158) ws_144 H locs ls rfl (by obtain ⟨u_z_158, q_z_158⟩ := i_iz ez_158 (by decide) (by decide); have q_iv_136 := iv_136; have q_c_142 := i_nle c_142; have g_c9_4 := i_rg c9_4; have g_v2_135 := i_rg v2_135; have g_z_158 := i_rg z_158; omega) ((E_138.tr E_145)) ((gF.tr Fr_139 Fr_146)) hG hP hD hS (lv_sub hl [1, 2, 0] rfl)
          refine lv_if_eq (tgt := 66) hx hb dX1_flowFrom_50 (by decide) (fun c_159 => ?_) (fun c_159 => ?_)
          · exact J_66 ws_137 H locs ls (gE.rf) (gF.rf) hG hP hD hS (lv_sub hl [0, 1, 2] rfl)
          · refine lv_aload_n hx hb dX1_flowFrom_53 rfl (lv_at hl 0 rfl) ?_
            refine lv_aload_n hx hb dX1_flowFrom_54 rfl (lv_at hl 0 rfl) ?_
            refine va_get (D := gD g) (ci := 1) (v := .ref b_3) (C := RX1) (T := TX1) (N := 10) hx hb hts inX1 hown hK hP k_1 hk_140 rfl 9 (by decide) (hts _ kw_479) (fun _ h9 => h9) rfl dX1_flowFrom_55 ?_
            refine va_get (D := gD g) (ci := 7) (v := .ref r7_4) (C := RX8) (T := TX8) (N := 15) hx hb hts inX8 hown hK hP k_4 hk_141 rfl 7 (by decide) (hts _ kw_517) (fun _ h9 => h9) rfl dX1_flowFrom_58 ?_
            refine lv_iload_n hx hb dX1_flowFrom_61 rfl (lv_at hl 2 rfl) ?_
            obtain ⟨k_160, f_160, hk_160⟩ := gI_of a_r7_4
            refine va_iald hx hb hK hP k_160 1 hk_160 rfl (i_in2 (by have q_f11_4 := f11_4; have q_f24_4 := f24_4; have q_iv_136 := iv_136; have q_f24_141 := f24_141; have q_c_142 := i_nle c_142; have q_f7_4 := f7_4; have q_f23_4 := f23_4; have q_f25_4 := f25_4; have q_f26_4 := f26_4; have q_f27_4 := f27_4; have q_f29_4 := f29_4; have q_f7_141 := f7_141; have q_f23_141 := f23_141; have q_f25_141 := f25_141; have q_f27_141 := f27_141; have q_f29_141 := f29_141; have g_c9_4 := i_rg c9_4; have g_v2_135 := i_rg v2_135; omega)) dX1_flowFrom_62 ?_
            refine lv_topi (fun z_161 ez_161 => ?_)
            have hFc := gfree hD hS hA
            refine va_callv (va_runV (As := [.int z_161]) (rest := []) ⟨hx, hb, hml, hown, hts⟩ (m_X1_comeTo l g H.size ws_137 h0 (z_161) hG o_h0 (gN_of hD hk_140 (j := 9) rfl) (fun k9 k8 b9 fs gs e1 e2 e3 q0 e40 p90 m90 e50 g90 => by obtain rfl := gO_un hD hk_140 e1; cases e2; obtain rfl := gO_un hD hk_141 e3; cases e40; cases e50; have z90 := gI_n hD a_r2_1 g90; subst z90; exact (by have q_f4_1 := f4_1; have q_f14_1 := f14_1; have q_f15_1 := f15_1; have q_f16_1 := f16_1; have q_fq_k := fq_k; have q_f19_4 := f19_4; have q_f20_4 := f20_4; have q_fq2_c := fq2_c; have q_f14_121 := f14_121; have q_f15_121 := f15_121; have q_f14_140 := f14_140; have q_f15_140 := f15_140; have q_f20_141 := f20_141; have q_p0 := p0; have q_f2_1 := f2_1; have q_f6_1 := f6_1; have q_f1_4 := f1_4; have q_f17_4 := f17_4; have q_f18_4 := f18_4; have q_f2_121 := f2_121; have q_f6_121 := f6_121; have q_f2_140 := f2_140; have q_f6_140 := f6_140; have q_f1_141 := f1_141; have q_f17_141 := f17_141; have q_f18_141 := f18_141; have g_c2_4 := i_rg c2_4; have g_x1 := i_rg x1; omega))) (cwV 1 hts (gd_V kw_487 kw_489 kw_490 kw_392 kw_488) rfl rfl rfl (by decide +kernel) ⟨Nat.le_of_ble_eq_true rfl, Nat.le_of_ble_eq_true rfl⟩) ⟨gblind, va_recv hK hP (ci := 1) (q0 := k_1) rfl hk_140, fun U hU hW9 => gmk hU hW9 hP hK hD hex hE hS hFc⟩ rfl rfl hl.1 rfl (lv_room (Nat.le_of_ble_eq_true rfl)) dX1_flowFrom_63 ⟨Nat.le_of_ble_eq_true rfl, Nat.le_of_ble_eq_true rfl⟩) hS (fun q _ h => hFc q h) hFc (fun  ws_162 t9 H1 locs ht9 hvm9 hw9 hB9 hz9 hk9 hS => ?_)
            obtain ⟨E_163, Fr_164, hG, hP1, hD1⟩ := hB9
            have hP : va_P (gD g) cl0 ws_162 H1 := by rw [← ht9]; exact hP1
            have hD : va_D A ws_162 := hD1.weaken (fun _ _ _ h => hFc _ h)
            clear hP1 hD1 hz9 hk9 hvm9 ht9 hw9
            generalize H1 = H at hP hS ⊢
            have aa_167 := a_r1_140
            have aa_168 := a_r2_1
            have aa_169 := a_r3_140
            have aa_170 := a_r4_140
            have aa_171 := a_r0_141
            have aa_172 := a_r1_141
            have aa_173 := a_r3_141
            have aa_174 := a_r5_141
            have aa_175 := a_r6_141
            have aa_176 := a_r7_4
            have aa_177 := a_r8_141
            have o_h0 := E_163.1 _ _ o_h0
            exact J_66 ws_162 H locs ls (E_163) (Fr_164) hG hP hD hS (lv_sub hl [0, 1, 2] rfl)
    exact J_30 _ (0) ws_126 H locs ls rfl (by have e0 : (0 : Int32).toInt = 0 := (by decide); omega) (gE.rf) (gF.rf) hG hP hD hS (lv_sub hl [1, 2, 0] rfl)
set_option maxHeartbeats 1000000 in
set_option maxRecDepth 100000 in
theorem m_X1_hasBadTypes (l : Launch) (g : Gm) (sz : Nat) (ws : va_W) (h0 : Nat) (x1 : Int32) (hG : Good g ws) (o_h0 : gC ws h0 1) (nn_h0_8 : gN ws h0 8) (nn_h0_9 : gN ws h0 9) (fp_k : gP ws h0 (fun fs => ∀ (rn n : Nat), fs[2]? = some (.ref rn) → gI ws rn g.cZ n → 0 ≤ x1.toInt ∧ x1.toInt < n)) : Met l yX1_hasBadTypes (wt yX1_hasBadTypes cX1_hasBadTypes 2 (some .boolean)) ({ frames := 5, cells := 0, slots := 0, locals := 110 }) (va_Pc [.ref h0, .int x1] (st_G g sz ws)) (va_Qi (fun (r : Int32) (u9 : va_W) => r = 0 ∨ r = 1) (gQ1 g [(1, 5), (1, 6)] [(1, 4)] none (va_A ws sz) ws) (va_A ws sz)) (0) (0) (va_A ws sz) := by
  refine Met.ofW (cc := cX1_hasBadTypes) (maxL := 2) (ret := (some .boolean)) (by decide) rfl ?_
  intro p e s m args below meth c s₁ B hml hv
  obtain ⟨rfl, hsz, hP, hK, hD0, hex, hE⟩ := hv
  have hx := B.exec
  have hb := B.bytes
  have hr := B.returns
  have hts0 := atoms_spec (ws := wt yX1_hasBadTypes cX1_hasBadTypes 2 (some .boolean)) B.pre
  have hts : ∀ w ∈ tb, w.before _ s = true := fun w h => hts0 w (List.mem_cons_of_mem _ h)
  have hown : s.vm.findClass RX1 = some m.cls := findClass_of_methodNamed B.named
  subst hsz
  have hD := hD0.self (sz := s.heap.size)
  generalize hAe : va_A ws s.heap.size = A at hD hE ⊢
  have hA : ∀ q : Nat, s.heap.size ≤ q → A q := fun q h => by rw [← hAe]; exact Or.inr h
  have hS : va_S A s.heap s.heap [] := va_S.rf
  have hl := lv_entry ([.ref h0, .int x1]) (n := 2) (Nat.le_of_ble_eq_true rfl)
  rw [lg_entry_eq]
  generalize (lg_sl ([.ref h0, .int x1]) ++ List.replicate (2 - (lg_sl ([.ref h0, .int x1])).length) Slot.unset).toArray = ls at hl ⊢
  have hl : lv_has ls 2 [(0, .ref h0), (1, .int x1)] := hl
  obtain ⟨k_1, fs9, hk_1⟩ := gC_of o_h0
  obtain ⟨r0_1, r1_1, n1_1, r2_1, n2_1, r3_1, n3_1, r4_1, n4_1, c5_1, c6_1, c7_1, v8_1, v9_1, rfl, o_r0_1, a_r1_1, f2_1, a_r2_1, f4_1, a_r3_1, f6_1, a_r4_1, f8_1, hz_c6_1, hz_c7_1, o_v8_1, o_v9_1, f13_1, f14_1, f15_1, f16_1, -⟩ := (hG.1 _ _ _ _ hk_1).hX1 rfl
  have fq_k := fp_k _ _ _ hk_1 _ _ rfl a_r2_1
  obtain ⟨b_2, hn9⟩ := nn_h0_8 _ _ _ hk_1
  have hn9 := fe_qr hn9
  subst hn9
  have o_b_2 := o_v8_1 _ rfl
  obtain ⟨b_3, hn9⟩ := nn_h0_9 _ _ _ hk_1
  have hn9 := fe_qr hn9
  subst hn9
  have o_b_3 := o_v9_1 _ rfl
  refine lv_aload_n hx hb dX1_hasBadTypes_0 rfl (lv_at hl 0 rfl) ?_
  refine va_get (D := gD g) (ci := 1) (v := .ref r2_1) (C := RX1) (T := TX1) (N := 10) hx hb hts inX1 hown hK hP k_1 hk_1 rfl 2 (by decide) (hts _ kw_494) (fun _ h9 => h9) rfl dX1_hasBadTypes_1 ?_
  refine lv_iload_n hx hb dX1_hasBadTypes_4 rfl (lv_at hl 1 rfl) ?_
  obtain ⟨k_4, f_4, hk_4⟩ := gI_of a_r2_1
  refine va_zald hx hb hK hP k_4 2 hk_4 rfl (i_in2 (by have q_f4_1 := f4_1; have q_f14_1 := f14_1; have q_f15_1 := f15_1; have q_f16_1 := f16_1; have q_fq_k := fq_k; have q_f2_1 := f2_1; have q_f6_1 := f6_1; have g_x1 := i_rg x1; omega)) dX1_hasBadTypes_5 ?_
  refine lv_topi (fun z_5 ez_5 => ?_)
  refine lv_if_ne (tgt := 11) hx hb dX1_hasBadTypes_6 (by decide) (fun c_6 => ?_) (fun c_6 => ?_)
  · refine lv_aload_n hx hb dX1_hasBadTypes_11 rfl (lv_at hl 0 rfl) ?_
    refine lv_iload_n hx hb dX1_hasBadTypes_12 rfl (lv_at hl 1 rfl) ?_
    have hFc := gfree hD hS hA
    refine va_callv (va_runV (As := [.int x1]) (rest := []) ⟨hx, hb, hml, hown, hts⟩ (m_X1_takeUp l g s.heap.size ws h0 (x1) hG o_h0 (gP_of hD hk_1 (fun p90 q90 e90 g90 => by cases e90; have z90 := gI_n hD a_r2_1 g90; subst z90; exact (by have q_f4_1 := f4_1; have q_f14_1 := f14_1; have q_f15_1 := f15_1; have q_f16_1 := f16_1; have q_fq_k := fq_k; have q_f2_1 := f2_1; have q_f6_1 := f6_1; have g_x1 := i_rg x1; omega)))) (cwV 1 hts (gd_V kw_514 kw_609 kw_610 kw_392 kw_608) rfl rfl rfl (by decide +kernel) ⟨Nat.le_of_ble_eq_true rfl, Nat.le_of_ble_eq_true rfl⟩) ⟨gblind, va_recv hK hP (ci := 1) (q0 := k_1) rfl hk_1, fun U hU hW9 => gmk hU hW9 hP hK hD hex hE hS hFc⟩ rfl rfl hl.1 rfl (lv_room (Nat.le_of_ble_eq_true rfl)) dX1_hasBadTypes_13 ⟨Nat.le_of_ble_eq_true rfl, Nat.le_of_ble_eq_true rfl⟩) hS (fun q _ h => hFc q h) hFc (fun  ws_7 t9 H1 locs ht9 hvm9 hw9 hB9 hz9 hk9 hS => ?_)
    obtain ⟨E_8, Fr_9, hG, hP1, hD1⟩ := hB9
    have hP : va_P (gD g) cl0 ws_7 H1 := by rw [← ht9]; exact hP1
    have hD : va_D A ws_7 := hD1.weaken (fun _ _ _ h => hFc _ h)
    clear hP1 hD1 hz9 hk9 hvm9 ht9 hw9
    generalize H1 = H at hP hS ⊢
    have aa_12 := a_r1_1
    have aa_13 := a_r2_1
    have aa_14 := a_r3_1
    have aa_15 := a_r4_1
    have o_h0 := E_8.1 _ _ o_h0
    refine lv_aload_n hx hb dX1_hasBadTypes_16 rfl (lv_at hl 0 rfl) ?_
    refine lv_iconst (v := 0) hx hb dX1_hasBadTypes_17 (by decide) ?_
    obtain ⟨fs9, hk_16, hq_16⟩ := ((gF.a (F' := [(1, 5)]) Fr_9 (fun _ h => h))) _ _ _ hk_1
    obtain ⟨r0_16, r1_16, n1_16, r2_16, n2_16, r3_16, n3_16, r4_16, n4_16, c5_16, c6_16, c7_16, v8_16, v9_16, rfl, o_r0_16, a_r1_16, f2_16, a_r2_16, f4_16, a_r3_16, f6_16, a_r4_16, f8_16, hz_c6_16, hz_c7_16, o_v8_16, o_v9_16, f13_16, f14_16, f15_16, f16_16, -⟩ := (hG.1 _ _ _ _ hk_16).hX1 rfl
    obtain rfl := fe_r (hq_16 2 (by decide))
    have hn9 := gI_n hD ((E_8).1 _ _ aa_13) a_r2_16
    subst hn9
    have a_r2_1 := a_r2_16
    obtain rfl := fe_i (hq_16 6 (by decide))
    have hz_c6_1 := hz_c6_16
    have hn9 := fe_qr (hq_16 8 (by decide))
    subst hn9
    have o_b_2 := o_v8_16 _ rfl
    have hn9 := fe_qr (hq_16 9 (by decide))
    subst hn9
    have o_b_3 := o_v9_16 _ rfl
    have hV9 : okv ws_7 1 6 (.int 0) := okv_i
    refine va_put (D := gD g) (ci := 1) (v := .int 0) (ty := .boolean) (C := RX1) (T := TX1) (N := 10) hx hb hts inX1 tyX1 tyX1_ok nmX1 hown hK hP hD hS k_1 hk_16 rfl 6 (by decide) (hts _ kw_536) (fun _ h9 => h9) rfl (by decide +kernel) rfl rfl (Nat.le_of_ble_eq_true rfl) dX1_hasBadTypes_18 (fun H locs hP hD hS => ?_)
    have hi_17 : invX1 g ws_7 h0 [.ref r0_16, .ref r1_16, .ref r2_1, .ref r3_16, .ref r4_16, .int c5_16, .int 0, .int c7_16, .ref b_2, .ref b_3] := ⟨r0_16, r1_16, (n1_16), r2_1, (n2_1), r3_16, (n3_16), r4_16, (n4_16), (c5_16), (0), (c7_16), (some b_2), (some b_3), rfl, o_r0_16, a_r1_16, f2_16, a_r2_1, f4_16, a_r3_16, f6_16, a_r4_16, f8_16, (Or.inl rfl), hz_c7_16, (fun b h9 => by cases h9; exact o_b_2), (fun b h9 => by cases h9; exact o_b_3), f13_16, f14_16, f15_16, f16_16, trivial⟩
    obtain ⟨ws_18, e_ws_18⟩ : ∃ z, z = ws_7.set k_1 (h0, .inr (1, [.ref r0_16, .ref r1_16, .ref r2_1, .ref r3_16, .ref r4_16, .int c5_16, .int 0, .int c7_16, .ref b_2, .ref b_3])) := ⟨_, rfl⟩
    have hP : va_P (gD g) cl0 ws_18 H := by rw [e_ws_18]; exact hP
    have hD : va_D A ws_18 := by rw [e_ws_18]; exact hD
    have E_19 : gE ws_7 ws_18 := gE_set e_ws_18 hk_16 (cw_o (fi := 6) (v := .int 0) rfl (by decide))
    have hG : Good g ws_18 := Good_set (fi := 6) (v := .int 0) e_ws_18 hk_16 E_19 rfl hV9 hG (ivX1 hi_17)
    have Fr_20 : gF [(1, 6)] [] (some h0) ws_7 ws_18 := gF_put (fi := 6) (v := .int 0) e_ws_18 hk_16 rfl (by decide)
    have hkN := gset_self e_ws_18 hk_16
    have hk_16 := hkN
    have o_h0 := E_19.1 _ _ o_h0
    have o_r0_16 := E_19.1 _ _ o_r0_16
    have a_r1_16 := E_19.1 _ _ a_r1_16
    have a_r3_16 := E_19.1 _ _ a_r3_16
    have a_r4_16 := E_19.1 _ _ a_r4_16
    have a_r2_1 := E_19.1 _ _ a_r2_1
    have o_b_2 := E_19.1 _ _ o_b_2
    have o_b_3 := E_19.1 _ _ o_b_3
    refine lv_aload_n hx hb dX1_hasBadTypes_21 rfl (lv_at hl 0 rfl) ?_
    refine lv_iload_n hx hb dX1_hasBadTypes_22 rfl (lv_at hl 1 rfl) ?_
    have hFc := gfree hD hS hA
    refine va_callv (va_runV (As := [.int x1]) (rest := []) ⟨hx, hb, hml, hown, hts⟩ (m_X1_goThrough l g H.size ws_18 h0 (x1) hG o_h0 (gN_of hD hk_16 (j := 8) rfl) (gN_of hD hk_16 (j := 9) rfl)) (cwV 1 hts (gd_V kw_518 kw_528 kw_529 kw_392 kw_527) rfl rfl rfl (by decide +kernel) ⟨Nat.le_of_ble_eq_true rfl, Nat.le_of_ble_eq_true rfl⟩) ⟨gblind, va_recv hK hP (ci := 1) (q0 := k_1) rfl hk_16, fun U hU hW9 => gmk hU hW9 hP hK hD hex hE hS hFc⟩ rfl rfl hl.1 rfl (lv_room (Nat.le_of_ble_eq_true rfl)) dX1_hasBadTypes_23 ⟨Nat.le_of_ble_eq_true rfl, Nat.le_of_ble_eq_true rfl⟩) hS (fun q _ h => hFc q h) hFc (fun  ws_21 t9 H1 locs ht9 hvm9 hw9 hB9 hz9 hk9 hS => ?_)
    obtain ⟨E_22, Fr_23, hG, hP1, hD1⟩ := hB9
    have hP : va_P (gD g) cl0 ws_21 H1 := by rw [← ht9]; exact hP1
    have hD : va_D A ws_21 := hD1.weaken (fun _ _ _ h => hFc _ h)
    clear hP1 hD1 hz9 hk9 hvm9 ht9 hw9
    generalize H1 = H at hP hS ⊢
    have aa_26 := a_r1_16
    have aa_27 := a_r2_1
    have aa_28 := a_r3_16
    have aa_29 := a_r4_16
    have o_h0 := E_22.1 _ _ o_h0
    refine lv_aload_n hx hb dX1_hasBadTypes_26 rfl (lv_at hl 0 rfl) ?_
    obtain ⟨fs9, hk_30, hq_30⟩ := ((gF.a (F' := [(1, 5), (1, 6)]) Fr_23 (fun _ h => h))) _ _ _ hk_16
    obtain ⟨r0_30, r1_30, n1_30, r2_30, n2_30, r3_30, n3_30, r4_30, n4_30, c5_30, c6_30, c7_30, v8_30, v9_30, rfl, o_r0_30, a_r1_30, f2_30, a_r2_30, f4_30, a_r3_30, f6_30, a_r4_30, f8_30, hz_c6_30, hz_c7_30, o_v8_30, o_v9_30, f13_30, f14_30, f15_30, f16_30, -⟩ := (hG.1 _ _ _ _ hk_30).hX1 rfl
    obtain rfl := fe_r (hq_30 2 (by decide))
    have hn9 := gI_n hD ((E_22).1 _ _ aa_27) a_r2_30
    subst hn9
    have a_r2_1 := a_r2_30
    have hn9 := fe_qr (hq_30 8 (by decide))
    subst hn9
    have o_b_2 := o_v8_30 _ rfl
    have hn9 := fe_qr (hq_30 9 (by decide))
    subst hn9
    have o_b_3 := o_v9_30 _ rfl
    refine va_get (D := gD g) (ci := 1) (v := .int c6_30) (C := RX1) (T := TX1) (N := 10) hx hb hts inX1 hown hK hP k_1 hk_30 rfl 6 (by decide) (hts _ kw_536) (fun _ h9 => h9) rfl dX1_hasBadTypes_27 ?_
    refine W.widen (k := 0) (n := 0) (Nat.le_of_ble_eq_true rfl) (Nat.le_of_ble_eq_true rfl) ?_
    exact W.zret (v := c6_30) hx hb hr (nz hz_c6_30) (fun t9 ht9 hW9 => ⟨⟨_, ws_21, rfl, hz_c6_30, ⟨(E_8.tr (E_19.tr E_22)), (gF.tr (gF.mo (F' := [(1, 5), (1, 6)]) (C' := [(1, 4)]) (S' := none) Fr_9 (by decide) (fun _ h => h) (Or.inr rfl)) (gF.tr (gF.mo (F' := [(1, 5), (1, 6)]) (C' := [(1, 4)]) (S' := none) Fr_20 (by decide) (fun _ h => absurd h List.not_mem_nil) (Or.inl rfl)) Fr_23)), hG, by rw [ht9]; exact hP, hD⟩⟩, hS.F ht9⟩) hS.2.2 dX1_hasBadTypes_30
  · refine lv_iconst (v := 0) hx hb dX1_hasBadTypes_9 (by decide) ?_
    refine W.widen (k := 0) (n := 0) (Nat.le_of_ble_eq_true rfl) (Nat.le_of_ble_eq_true rfl) ?_
    exact W.zret (v := 0) hx hb hr (nz (Or.inl rfl)) (fun t9 ht9 hW9 => ⟨⟨_, ws, rfl, (Or.inl rfl), ⟨gE.rf, gF.rf, hG, by rw [ht9]; exact hP, hD⟩⟩, hS.F ht9⟩) hS.2.2 dX1_hasBadTypes_10
