set_option maxHeartbeats 1000000 in
set_option maxRecDepth 100000 in
theorem m_X9_forgetApplied (l : Launch) (g : Gm) (sz : Nat) (ws : va_W) (h0 : Nat) (hG : Good g ws) (o_h0 : gC ws h0 8) : Met l yX9_forgetApplied (wt yX9_forgetApplied cX9_forgetApplied 1 none) ({ frames := 1, cells := 0, slots := 0, locals := 23 }) (va_Pc [.ref h0] (st_G g sz ws)) (va_Qv (fun (u9 : va_W) => True) (gQ1 g [] [(8, 1)] none (va_A ws sz) ws) (va_A ws sz)) (0) (0) (va_A ws sz) := by
  refine Met.ofW (cc := cX9_forgetApplied) (maxL := 1) (ret := none) (by decide) rfl ?_
  intro p e s m args below meth c s₁ B hml hv
  obtain ⟨rfl, hsz, hP, hK, hD0, hex, hE⟩ := hv
  have hx := B.exec
  have hb := B.bytes
  have hr := B.returns
  have hts0 := atoms_spec (ws := wt yX9_forgetApplied cX9_forgetApplied 1 none) B.pre
  have hts : ∀ w ∈ tb, w.before _ s = true := fun w h => hts0 w (List.mem_cons_of_mem _ h)
  have hown : s.vm.findClass RX9 = some m.cls := findClass_of_methodNamed B.named
  subst hsz
  have hD := hD0.self (sz := s.heap.size)
  generalize hAe : va_A ws s.heap.size = A at hD hE ⊢
  have hA : ∀ q : Nat, s.heap.size ≤ q → A q := fun q h => by rw [← hAe]; exact Or.inr h
  have hS : va_S A s.heap s.heap [] := va_S.rf
  have hl := lv_entry ([.ref h0]) (n := 1) (Nat.le_of_ble_eq_true rfl)
  rw [lg_entry_eq]
  generalize (lg_sl ([.ref h0]) ++ List.replicate (1 - (lg_sl ([.ref h0])).length) Slot.unset).toArray = ls at hl ⊢
  have hl : lv_has ls 1 [(0, .ref h0)] := hl
  refine lv_aload_n hx hb dX9_forgetApplied_0 rfl (lv_at hl 0 rfl) ?_
  obtain ⟨k_1, fs9, hk_1⟩ := gC_of o_h0
  obtain ⟨r0_1, r1_1, n1_1, r2_1, n2_1, r3_1, n3_1, r4_1, n4_1, r5_1, n5_1, rfl, o_r0_1, a_r1_1, f2_1, a_r2_1, f4_1, a_r3_1, f6_1, a_r4_1, f8_1, a_r5_1, f10_1, f11_1, -⟩ := (hG.1 _ _ _ _ hk_1).hX9 rfl
  refine va_get (D := gD g) (ci := 8) (v := .ref r1_1) (C := RX9) (T := TX9) (N := 6) hx hb hts inX9 hown hK hP k_1 hk_1 rfl 1 (by decide) (hts _ kw_1547) (fun _ h9 => h9) rfl dX9_forgetApplied_1 ?_
  refine lv_iconst (v := 0) hx hb dX9_forgetApplied_4 (by decide) ?_
  have hFc := gfree hD hS hA
  refine va_callv (va_runS (As := [.ref r1_1, .int 0]) (rest := []) ⟨hx, hb, hml, hown, hts⟩ (m_J7_fill_53178 l g s.heap.size ws r1_1 (n1_1) (0) [(8, 1)] hG a_r1_1 f2_1 (hol_u hG.u hk_1 (j := 1) rfl a_r1_1 (by decide))) (va_cwS 2 hts (gd_S kw_1560 kw_1722 kw_1723 kw_1721) rfl rfl rfl (by decide +kernel) ⟨Nat.le_of_ble_eq_true rfl, Nat.le_of_ble_eq_true rfl⟩) ⟨gblind, fun U hU hW9 => gmk hU hW9 hP hK hD hex hE hS hFc⟩ rfl rfl hl.1 rfl (lv_room (Nat.le_of_ble_eq_true rfl)) dX9_forgetApplied_5 ⟨Nat.le_of_ble_eq_true rfl, Nat.le_of_ble_eq_true rfl⟩) hS (fun q _ h => hFc q h) hFc (fun  ws_2 t9 H1 locs ht9 hvm9 hw9 hB9 hz9 hk9 hS => ?_)
  obtain ⟨E_3, Fr_4, hG, hP1, hD1⟩ := hB9
  have hP : va_P (gD g) cl0 ws_2 H1 := by rw [← ht9]; exact hP1
  have hD : va_D A ws_2 := hD1.weaken (fun _ _ _ h => hFc _ h)
  clear hP1 hD1 hz9 hk9 hvm9 ht9 hw9
  generalize H1 = H at hP hS ⊢
  have aa_7 := a_r1_1
  have aa_8 := a_r2_1
  have aa_9 := a_r3_1
  have aa_10 := a_r4_1
  have aa_11 := a_r5_1
  have o_h0 := E_3.1 _ _ o_h0
  refine W.widen (k := 0) (n := 0) (Nat.le_of_ble_eq_true rfl) (Nat.le_of_ble_eq_true rfl) ?_
  exact W.vret hx hb hr (fun t9 ht9 hW9 => ⟨⟨ws_2, rfl, trivial, ⟨E_3, Fr_4, hG, by rw [ht9]; exact hP, hD⟩⟩, hS.F ht9⟩) hS.2.2 dX9_forgetApplied_8
set_option maxHeartbeats 1000000 in
set_option maxRecDepth 100000 in
theorem m_X9_appliedAt (l : Launch) (g : Gm) (sz : Nat) (ws : va_W) (h0 : Nat) (x1 : Int32) (hG : Good g ws) (o_h0 : gC ws h0 8) : Met l yX9_appliedAt (wt yX9_appliedAt cX9_appliedAt 2 (some .int)) ({ frames := 0, cells := 0, slots := 0, locals := 0 }) (va_Pc [.ref h0, .int x1] (st_G g sz ws)) (va_Qi (fun (r : Int32) (u9 : Unit) => True) (gQ0 g (va_A ws sz) ws) (va_A ws sz)) (0) (0) (va_A ws sz) := by
  refine Met.ofW (cc := cX9_appliedAt) (maxL := 2) (ret := (some .int)) (by decide) rfl ?_
  intro p e s m args below meth c s₁ B hml hv
  obtain ⟨rfl, hsz, hP, hK, hD0, hex, hE⟩ := hv
  have hx := B.exec
  have hb := B.bytes
  have hr := B.returns
  have hts0 := atoms_spec (ws := wt yX9_appliedAt cX9_appliedAt 2 (some .int)) B.pre
  have hts : ∀ w ∈ tb, w.before _ s = true := fun w h => hts0 w (List.mem_cons_of_mem _ h)
  have hown : s.vm.findClass RX9 = some m.cls := findClass_of_methodNamed B.named
  subst hsz
  have hD := hD0.self (sz := s.heap.size)
  generalize hAe : va_A ws s.heap.size = A at hD hE ⊢
  have hA : ∀ q : Nat, s.heap.size ≤ q → A q := fun q h => by rw [← hAe]; exact Or.inr h
  have hS : va_S A s.heap s.heap [] := va_S.rf
  have hl := lv_entry ([.ref h0, .int x1]) (n := 2) (Nat.le_of_ble_eq_true rfl)
  rw [lg_entry_eq]
  generalize (lg_sl ([.ref h0, .int x1]) ++ List.replicate (2 - (lg_sl ([.ref h0, .int x1])).length) Slot.unset).toArray = ls at hl ⊢
  have hl : lv_has ls 2 [(0, .ref h0), (1, .int x1)] := hl
  refine lv_iload_n hx hb dX9_appliedAt_0 rfl (lv_at hl 1 rfl) ?_
  have J_23 : ∀ (t_1 : Int32) (H : Heap) (locs : List Loc) (ls : Array Slot), va_P (gD g) cl0 ws H → va_D A ws → va_S A s.heap H locs → lv_has ls 2 [] → W p l e (headSpec (wt yX9_appliedAt cX9_appliedAt 2 (some .int)) ({ frames := 0, cells := 0, slots := 0, locals := 0 })).room s m ([.ref h0, .int x1] : List Value).toArray below meth c H locs (0) (0) (MQ below (va_Qi (fun (r : Int32) (u9 : Unit) => True) (gQ0 g A ws) A) ([.ref h0, .int x1] : List Value).toArray s (0) (0) A) (F0 m 23 ls [.int t_1]) := by
    intro t_1 H locs ls  hP hD hS hl
    refine W.widen (k := 0) (n := 0) (Nat.le_of_ble_eq_true rfl) (Nat.le_of_ble_eq_true rfl) ?_
    exact W.iret (v := t_1) hx hb hr (fun t9 ht9 hW9 => ⟨⟨_, (), rfl, trivial, ⟨by rw [ht9]; exact hP, hD⟩⟩, hS.F ht9⟩) hS.2.2 dX9_appliedAt_23
  have J_13 : ∀  (H : Heap) (locs : List Loc) (ls : Array Slot), va_P (gD g) cl0 ws H → va_D A ws → va_S A s.heap H locs → lv_has ls 2 [] → W p l e (headSpec (wt yX9_appliedAt cX9_appliedAt 2 (some .int)) ({ frames := 0, cells := 0, slots := 0, locals := 0 })).room s m ([.ref h0, .int x1] : List Value).toArray below meth c H locs (0) (0) (MQ below (va_Qi (fun (r : Int32) (u9 : Unit) => True) (gQ0 g A ws) A) ([.ref h0, .int x1] : List Value).toArray s (0) (0) A) (F0 m 13 ls []) := by
    intro  H locs ls  hP hD hS hl
    refine lv_iconst (v := 0) hx hb dX9_appliedAt_13 (by decide) ?_
    refine lv_goto (tgt := 23) hx hb dX9_appliedAt_14 (by decide) ?_
    exact J_23 (0) H locs ls  hP hD hS (lv_sub hl [] rfl)
  refine lv_if_lt (tgt := 13) hx hb dX9_appliedAt_1 (by decide) (fun c_6 => ?_) (fun c_6 => ?_)
  · exact J_13  _ _ ls  hP hD hS (lv_sub hl [] rfl)
  · refine lv_iload_n hx hb dX9_appliedAt_4 rfl (lv_at hl 1 rfl) ?_
    refine lv_aload_n hx hb dX9_appliedAt_5 rfl (lv_at hl 0 rfl) ?_
    obtain ⟨k_7, fs9, hk_7⟩ := gC_of o_h0
    obtain ⟨r0_7, r1_7, n1_7, r2_7, n2_7, r3_7, n3_7, r4_7, n4_7, r5_7, n5_7, rfl, o_r0_7, a_r1_7, f2_7, a_r2_7, f4_7, a_r3_7, f6_7, a_r4_7, f8_7, a_r5_7, f10_7, f11_7, -⟩ := (hG.1 _ _ _ _ hk_7).hX9 rfl
    refine va_get (D := gD g) (ci := 8) (v := .ref r1_7) (C := RX9) (T := TX9) (N := 6) hx hb hts inX9 hown hK hP k_7 hk_7 rfl 1 (by decide) (hts _ kw_1547) (fun _ h9 => h9) rfl dX9_appliedAt_6 ?_
    obtain ⟨k_8, f_8, hk_8⟩ := gI_of a_r1_7
    obtain ⟨z_9, ez_9⟩ : ∃ z : Int32, Int32.ofNat n1_7 = z := ⟨_, rfl⟩
    refine va_alen (v := z_9) hx hb hK hP k_8 1 hk_8 rfl ez_9 dX9_appliedAt_9 ?_
    refine lv_icmp_lt (tgt := 17) hx hb dX9_appliedAt_10 (by decide) (fun c_10 => ?_) (fun c_10 => ?_)
    · refine lv_aload_n hx hb dX9_appliedAt_17 rfl (lv_at hl 0 rfl) ?_
      refine va_get (D := gD g) (ci := 8) (v := .ref r1_7) (C := RX9) (T := TX9) (N := 6) hx hb hts inX9 hown hK hP k_7 hk_7 rfl 1 (by decide) (hts _ kw_1547) (fun _ h9 => h9) rfl dX9_appliedAt_18 ?_
      refine lv_iload_n hx hb dX9_appliedAt_21 rfl (lv_at hl 1 rfl) ?_
      refine va_iald hx hb hK hP k_8 1 hk_8 rfl (i_in2 (by have e0 : (0 : Int32).toInt = 0 := (by decide); have q_c_6 := i_nlt c_6; have q_f2_7 := f2_7; have q_f11_7 := f11_7; have q_z_9 := i_len ez_9 f2_7; have q_c_10 := i_lt c_10; have g_x1 := i_rg x1; have g_z_9 := i_rg z_9; omega)) dX9_appliedAt_22 ?_
      refine lv_topi (fun z_11 ez_11 => ?_)
      exact J_23 (z_11) _ _ ls  hP hD hS (lv_sub hl [] rfl)
    · exact J_13  _ _ ls  hP hD hS (lv_sub hl [] rfl)
set_option maxHeartbeats 1000000 in
set_option maxRecDepth 100000 in
theorem m_X9_placeOf (l : Launch) (g : Gm) (sz : Nat) (ws : va_W) (h0 : Nat) (x1 : Int32) (hG : Good g ws) (o_h0 : gC ws h0 8) (fp_a : gP ws h0 (fun fs => ∀ (rn n : Nat), fs[2]? = some (.ref rn) → gI ws rn g.cZ n → 1297 ≤ n)) (fp_b : gP ws h0 (fun fs => ∀ (rn n : Nat), fs[3]? = some (.ref rn) → gI ws rn g.cZ n → 1297 ≤ n)) (fp_d : gP ws h0 (fun fs => ∀ (rn n : Nat), fs[4]? = some (.ref rn) → gI ws rn g.cI n → 1297 ≤ n)) (fp_f : gP ws h0 (fun fs => ∀ (rn n : Nat), fs[5]? = some (.ref rn) → gI ws rn g.cI n → 1297 ≤ n)) : Met l yX9_placeOf (wt yX9_placeOf cX9_placeOf 2 (some .int)) ({ frames := 0, cells := 0, slots := 0, locals := 0 }) (va_Pc [.ref h0, .int x1] (st_G g sz ws)) (va_Qi (fun (r : Int32) (u9 : Unit) => True) (gQ0 g (va_A ws sz) ws) (va_A ws sz)) (0) (0) (va_A ws sz) := by
  refine Met.ofW (cc := cX9_placeOf) (maxL := 2) (ret := (some .int)) (by decide) rfl ?_
  intro p e s m args below meth c s₁ B hml hv
  obtain ⟨rfl, hsz, hP, hK, hD0, hex, hE⟩ := hv
  have hx := B.exec
  have hb := B.bytes
  have hr := B.returns
  have hts0 := atoms_spec (ws := wt yX9_placeOf cX9_placeOf 2 (some .int)) B.pre
  have hts : ∀ w ∈ tb, w.before _ s = true := fun w h => hts0 w (List.mem_cons_of_mem _ h)
  have hown : s.vm.findClass RX9 = some m.cls := findClass_of_methodNamed B.named
  subst hsz
  have hD := hD0.self (sz := s.heap.size)
  generalize hAe : va_A ws s.heap.size = A at hD hE ⊢
  have hA : ∀ q : Nat, s.heap.size ≤ q → A q := fun q h => by rw [← hAe]; exact Or.inr h
  have hS : va_S A s.heap s.heap [] := va_S.rf
  have hl := lv_entry ([.ref h0, .int x1]) (n := 2) (Nat.le_of_ble_eq_true rfl)
  rw [lg_entry_eq]
  generalize (lg_sl ([.ref h0, .int x1]) ++ List.replicate (2 - (lg_sl ([.ref h0, .int x1])).length) Slot.unset).toArray = ls at hl ⊢
  have hl : lv_has ls 2 [(0, .ref h0), (1, .int x1)] := hl
  obtain ⟨k_1, fs9, hk_1⟩ := gC_of o_h0
  obtain ⟨r0_1, r1_1, n1_1, r2_1, n2_1, r3_1, n3_1, r4_1, n4_1, r5_1, n5_1, rfl, o_r0_1, a_r1_1, f2_1, a_r2_1, f4_1, a_r3_1, f6_1, a_r4_1, f8_1, a_r5_1, f10_1, f11_1, -⟩ := (hG.1 _ _ _ _ hk_1).hX9 rfl
  have fq_a := fp_a _ _ _ hk_1 _ _ rfl a_r2_1
  have fq_b := fp_b _ _ _ hk_1 _ _ rfl a_r3_1
  have fq_d := fp_d _ _ _ hk_1 _ _ rfl a_r4_1
  have fq_f := fp_f _ _ _ hk_1 _ _ rfl a_r5_1
  refine lv_iload_n hx hb dX9_placeOf_0 rfl (lv_at hl 1 rfl) ?_
  have J_23 : ∀ (t_2 : Int32) (H : Heap) (locs : List Loc) (ls : Array Slot), va_P (gD g) cl0 ws H → va_D A ws → va_S A s.heap H locs → lv_has ls 2 [] → W p l e (headSpec (wt yX9_placeOf cX9_placeOf 2 (some .int)) ({ frames := 0, cells := 0, slots := 0, locals := 0 })).room s m ([.ref h0, .int x1] : List Value).toArray below meth c H locs (0) (0) (MQ below (va_Qi (fun (r : Int32) (u9 : Unit) => True) (gQ0 g A ws) A) ([.ref h0, .int x1] : List Value).toArray s (0) (0) A) (F0 m 23 ls [.int t_2]) := by
    intro t_2 H locs ls  hP hD hS hl
    refine W.widen (k := 0) (n := 0) (Nat.le_of_ble_eq_true rfl) (Nat.le_of_ble_eq_true rfl) ?_
    exact W.iret (v := t_2) hx hb hr (fun t9 ht9 hW9 => ⟨⟨_, (), rfl, trivial, ⟨by rw [ht9]; exact hP, hD⟩⟩, hS.F ht9⟩) hS.2.2 dX9_placeOf_23
  have J_13 : ∀  (H : Heap) (locs : List Loc) (ls : Array Slot), va_P (gD g) cl0 ws H → va_D A ws → va_S A s.heap H locs → lv_has ls 2 [] → W p l e (headSpec (wt yX9_placeOf cX9_placeOf 2 (some .int)) ({ frames := 0, cells := 0, slots := 0, locals := 0 })).room s m ([.ref h0, .int x1] : List Value).toArray below meth c H locs (0) (0) (MQ below (va_Qi (fun (r : Int32) (u9 : Unit) => True) (gQ0 g A ws) A) ([.ref h0, .int x1] : List Value).toArray s (0) (0) A) (F0 m 13 ls []) := by
    intro  H locs ls  hP hD hS hl
    refine lv_iconst (v := 0) hx hb dX9_placeOf_13 (by decide) ?_
    refine lv_goto (tgt := 23) hx hb dX9_placeOf_14 (by decide) ?_
    exact J_23 (0) H locs ls  hP hD hS (lv_sub hl [] rfl)
  refine lv_if_lt (tgt := 13) hx hb dX9_placeOf_1 (by decide) (fun c_7 => ?_) (fun c_7 => ?_)
  · exact J_13  _ _ ls  hP hD hS (lv_sub hl [] rfl)
  · refine lv_iload_n hx hb dX9_placeOf_4 rfl (lv_at hl 1 rfl) ?_
    refine lv_aload_n hx hb dX9_placeOf_5 rfl (lv_at hl 0 rfl) ?_
    refine va_get (D := gD g) (ci := 8) (v := .ref r5_1) (C := RX9) (T := TX9) (N := 6) hx hb hts inX9 hown hK hP k_1 hk_1 rfl 5 (by decide) (hts _ kw_1592) (fun _ h9 => h9) rfl dX9_placeOf_6 ?_
    obtain ⟨k_8, f_8, hk_8⟩ := gI_of a_r5_1
    obtain ⟨z_9, ez_9⟩ : ∃ z : Int32, Int32.ofNat n5_1 = z := ⟨_, rfl⟩
    refine va_alen (v := z_9) hx hb hK hP k_8 1 hk_8 rfl ez_9 dX9_placeOf_9 ?_
    refine lv_icmp_lt (tgt := 17) hx hb dX9_placeOf_10 (by decide) (fun c_10 => ?_) (fun c_10 => ?_)
    · refine lv_aload_n hx hb dX9_placeOf_17 rfl (lv_at hl 0 rfl) ?_
      refine va_get (D := gD g) (ci := 8) (v := .ref r5_1) (C := RX9) (T := TX9) (N := 6) hx hb hts inX9 hown hK hP k_1 hk_1 rfl 5 (by decide) (hts _ kw_1592) (fun _ h9 => h9) rfl dX9_placeOf_18 ?_
      refine lv_iload_n hx hb dX9_placeOf_21 rfl (lv_at hl 1 rfl) ?_
      refine va_iald hx hb hK hP k_8 1 hk_8 rfl (i_in2 (by have e0 : (0 : Int32).toInt = 0 := (by decide); have q_f10_1 := f10_1; have q_fq_f := fq_f; have q_c_7 := i_nlt c_7; have q_z_9 := i_len ez_9 f10_1; have q_c_10 := i_lt c_10; have g_x1 := i_rg x1; have g_z_9 := i_rg z_9; omega)) dX9_placeOf_22 ?_
      refine lv_topi (fun z_11 ez_11 => ?_)
      exact J_23 (z_11) _ _ ls  hP hD hS (lv_sub hl [] rfl)
    · exact J_13  _ _ ls  hP hD hS (lv_sub hl [] rfl)
set_option maxHeartbeats 1000000 in
set_option maxRecDepth 100000 in
theorem m_X9_isDropped (l : Launch) (g : Gm) (sz : Nat) (ws : va_W) (h0 : Nat) (x1 : Int32) (x2 : Int32) (hG : Good g ws) (o_h0 : gC ws h0 8) (px : x1.toInt ≤ 100000) (pn : x2.toInt ≤ 3) : Met l yX9_isDropped (wt yX9_isDropped cX9_isDropped 3 (some .boolean)) ({ frames := 3, cells := 0, slots := 0, locals := 74 }) (va_Pc [.ref h0, .int x1, .int x2] (st_G g sz ws)) (va_Qi (fun (r : Int32) (u9 : va_W) => r = 0 ∨ r = 1) (gQ1 g [(7, 2), (7, 9)] [(7, 0), (7, 1), (7, 3), (7, 5), (7, 6), (7, 7), (7, 8)] none (va_A ws sz) ws) (va_A ws sz)) (0) (0) (va_A ws sz) := by
  refine Met.ofW (cc := cX9_isDropped) (maxL := 3) (ret := (some .boolean)) (by decide) rfl ?_
  intro p e s m args below meth c s₁ B hml hv
  obtain ⟨rfl, hsz, hP, hK, hD0, hex, hE⟩ := hv
  have hx := B.exec
  have hb := B.bytes
  have hr := B.returns
  have hts0 := atoms_spec (ws := wt yX9_isDropped cX9_isDropped 3 (some .boolean)) B.pre
  have hts : ∀ w ∈ tb, w.before _ s = true := fun w h => hts0 w (List.mem_cons_of_mem _ h)
  have hown : s.vm.findClass RX9 = some m.cls := findClass_of_methodNamed B.named
  subst hsz
  have hD := hD0.self (sz := s.heap.size)
  generalize hAe : va_A ws s.heap.size = A at hD hE ⊢
  have hA : ∀ q : Nat, s.heap.size ≤ q → A q := fun q h => by rw [← hAe]; exact Or.inr h
  have hS : va_S A s.heap s.heap [] := va_S.rf
  have hl := lv_entry ([.ref h0, .int x1, .int x2]) (n := 3) (Nat.le_of_ble_eq_true rfl)
  rw [lg_entry_eq]
  generalize (lg_sl ([.ref h0, .int x1, .int x2]) ++ List.replicate (3 - (lg_sl ([.ref h0, .int x1, .int x2])).length) Slot.unset).toArray = ls at hl ⊢
  have hl : lv_has ls 3 [(0, .ref h0), (1, .int x1), (2, .int x2)] := hl
  refine lv_aload_n hx hb dX9_isDropped_0 rfl (lv_at hl 0 rfl) ?_
  obtain ⟨k_1, fs9, hk_1⟩ := gC_of o_h0
  obtain ⟨r0_1, r1_1, n1_1, r2_1, n2_1, r3_1, n3_1, r4_1, n4_1, r5_1, n5_1, rfl, o_r0_1, a_r1_1, f2_1, a_r2_1, f4_1, a_r3_1, f6_1, a_r4_1, f8_1, a_r5_1, f10_1, f11_1, -⟩ := (hG.1 _ _ _ _ hk_1).hX9 rfl
  refine va_get (D := gD g) (ci := 8) (v := .ref r0_1) (C := RX9) (T := TX9) (N := 6) hx hb hts inX9 hown hK hP k_1 hk_1 rfl 0 (by decide) (hts _ kw_1552) (fun _ h9 => h9) rfl dX9_isDropped_1 ?_
  refine lv_iload_n hx hb dX9_isDropped_4 rfl (lv_at hl 1 rfl) ?_
  refine lv_iload_n hx hb dX9_isDropped_5 rfl (lv_at hl 2 rfl) ?_
  have hFc := gfree hD hS hA
  obtain ⟨k_2, fs_2, hk_2⟩ := gC_of o_r0_1
  refine va_callv (va_runV (As := [.int x1, .int x2]) (rest := []) ⟨hx, hb, hml, hown, hts⟩ (m_X8_remove l g s.heap.size ws r0_1 (x1) (x2) hG o_r0_1 (by have q_px := px; have g_x1 := i_rg x1; omega) (by have q_pn := pn; have g_x2 := i_rg x2; omega)) (cwV 2 hts (gd_V kw_1555 kw_1516 kw_1517 kw_782 kw_1515) rfl rfl rfl (by decide +kernel) ⟨Nat.le_of_ble_eq_true rfl, Nat.le_of_ble_eq_true rfl⟩) ⟨gblind, va_recv hK hP (ci := 7) (q0 := k_2) rfl hk_2, fun U hU hW9 => gmk hU hW9 hP hK hD hex hE hS hFc⟩ rfl rfl hl.1 rfl (lv_room (Nat.le_of_ble_eq_true rfl)) dX9_isDropped_6 ⟨Nat.le_of_ble_eq_true rfl, Nat.le_of_ble_eq_true rfl⟩) hS (fun q _ h => hFc q h) hFc (fun  ws_3 t9 H1 locs ht9 hvm9 hw9 hB9 hz9 hk9 hS => ?_)
  obtain ⟨E_4, Fr_5, hG, hP1, hD1⟩ := hB9
  have hP : va_P (gD g) cl0 ws_3 H1 := by rw [← ht9]; exact hP1
  have hD : va_D A ws_3 := hD1.weaken (fun _ _ _ h => hFc _ h)
  clear hP1 hD1 hz9 hk9 hvm9 ht9 hw9
  generalize H1 = H at hP hS ⊢
  have aa_8 := a_r1_1
  have aa_9 := a_r2_1
  have aa_10 := a_r3_1
  have aa_11 := a_r4_1
  have aa_12 := a_r5_1
  have o_h0 := E_4.1 _ _ o_h0
  refine lv_iconst (v := 1) hx hb dX9_isDropped_9 (by decide) ?_
  refine W.widen (k := 0) (n := 0) (Nat.le_of_ble_eq_true rfl) (Nat.le_of_ble_eq_true rfl) ?_
  exact W.zret (v := 1) hx hb hr (nz (Or.inr rfl)) (fun t9 ht9 hW9 => ⟨⟨_, ws_3, rfl, (Or.inr rfl), ⟨E_4, (gF.mo (F' := [(7, 2), (7, 9)]) (C' := [(7, 0), (7, 1), (7, 3), (7, 5), (7, 6), (7, 7), (7, 8)]) (S' := none) Fr_5 (fun _ h => h) (fun _ h => h) (Or.inl rfl)), hG, by rw [ht9]; exact hP, hD⟩⟩, hS.F ht9⟩) hS.2.2 dX9_isDropped_10
set_option maxHeartbeats 1000000 in
set_option maxRecDepth 100000 in
theorem m_X9_isNewlyReached (l : Launch) (g : Gm) (sz : Nat) (ws : va_W) (h0 : Nat) (x1 : Int32) (hG : Good g ws) (o_h0 : gC ws h0 8) (fp_a : gP ws h0 (fun fs => ∀ (rn n : Nat), fs[2]? = some (.ref rn) → gI ws rn g.cZ n → 1297 ≤ n)) (fp_b : gP ws h0 (fun fs => ∀ (rn n : Nat), fs[3]? = some (.ref rn) → gI ws rn g.cZ n → 1297 ≤ n)) (fp_d : gP ws h0 (fun fs => ∀ (rn n : Nat), fs[4]? = some (.ref rn) → gI ws rn g.cI n → 1297 ≤ n)) (fp_f : gP ws h0 (fun fs => ∀ (rn n : Nat), fs[5]? = some (.ref rn) → gI ws rn g.cI n → 1297 ≤ n)) : Met l yX9_isNewlyReached (wt yX9_isNewlyReached cX9_isNewlyReached 2 (some .boolean)) ({ frames := 0, cells := 0, slots := 0, locals := 0 }) (va_Pc [.ref h0, .int x1] (st_G g sz ws)) (va_Qi (fun (r : Int32) (u9 : va_W) => r = 0 ∨ r = 1) (gQ1 g [] [(8, 3)] none (va_A ws sz) ws) (va_A ws sz)) (0) (0) (va_A ws sz) := by
  refine Met.ofW (cc := cX9_isNewlyReached) (maxL := 2) (ret := (some .boolean)) (by decide) rfl ?_
  intro p e s m args below meth c s₁ B hml hv
  obtain ⟨rfl, hsz, hP, hK, hD0, hex, hE⟩ := hv
  have hx := B.exec
  have hb := B.bytes
  have hr := B.returns
  have hts0 := atoms_spec (ws := wt yX9_isNewlyReached cX9_isNewlyReached 2 (some .boolean)) B.pre
  have hts : ∀ w ∈ tb, w.before _ s = true := fun w h => hts0 w (List.mem_cons_of_mem _ h)
  have hown : s.vm.findClass RX9 = some m.cls := findClass_of_methodNamed B.named
  subst hsz
  have hD := hD0.self (sz := s.heap.size)
  generalize hAe : va_A ws s.heap.size = A at hD hE ⊢
  have hA : ∀ q : Nat, s.heap.size ≤ q → A q := fun q h => by rw [← hAe]; exact Or.inr h
  have hS : va_S A s.heap s.heap [] := va_S.rf
  have hl := lv_entry ([.ref h0, .int x1]) (n := 2) (Nat.le_of_ble_eq_true rfl)
  rw [lg_entry_eq]
  generalize (lg_sl ([.ref h0, .int x1]) ++ List.replicate (2 - (lg_sl ([.ref h0, .int x1])).length) Slot.unset).toArray = ls at hl ⊢
  have hl : lv_has ls 2 [(0, .ref h0), (1, .int x1)] := hl
  obtain ⟨k_1, fs9, hk_1⟩ := gC_of o_h0
  obtain ⟨r0_1, r1_1, n1_1, r2_1, n2_1, r3_1, n3_1, r4_1, n4_1, r5_1, n5_1, rfl, o_r0_1, a_r1_1, f2_1, a_r2_1, f4_1, a_r3_1, f6_1, a_r4_1, f8_1, a_r5_1, f10_1, f11_1, -⟩ := (hG.1 _ _ _ _ hk_1).hX9 rfl
  have fq_a := fp_a _ _ _ hk_1 _ _ rfl a_r2_1
  have fq_b := fp_b _ _ _ hk_1 _ _ rfl a_r3_1
  have fq_d := fp_d _ _ _ hk_1 _ _ rfl a_r4_1
  have fq_f := fp_f _ _ _ hk_1 _ _ rfl a_r5_1
  refine lv_iload_n hx hb dX9_isNewlyReached_0 rfl (lv_at hl 1 rfl) ?_
  have J_24 : ∀  (H : Heap) (locs : List Loc) (ls : Array Slot), va_P (gD g) cl0 ws H → va_D A ws → va_S A s.heap H locs → lv_has ls 2 [] → W p l e (headSpec (wt yX9_isNewlyReached cX9_isNewlyReached 2 (some .boolean)) ({ frames := 0, cells := 0, slots := 0, locals := 0 })).room s m ([.ref h0, .int x1] : List Value).toArray below meth c H locs (0) (0) (MQ below (va_Qi (fun (r : Int32) (u9 : va_W) => r = 0 ∨ r = 1) (gQ1 g [] [(8, 3)] none A ws) A) ([.ref h0, .int x1] : List Value).toArray s (0) (0) A) (F0 m 24 ls []) := by
    intro  H locs ls  hP hD hS hl
    refine lv_iconst (v := 0) hx hb dX9_isNewlyReached_24 (by decide) ?_
    refine W.widen (k := 0) (n := 0) (Nat.le_of_ble_eq_true rfl) (Nat.le_of_ble_eq_true rfl) ?_
    exact W.zret (v := 0) hx hb hr (nz (Or.inl rfl)) (fun t9 ht9 hW9 => ⟨⟨_, ws, rfl, (Or.inl rfl), ⟨gE.rf, gF.rf, hG, by rw [ht9]; exact hP, hD⟩⟩, hS.F ht9⟩) hS.2.2 dX9_isNewlyReached_25
  refine lv_if_lt (tgt := 24) hx hb dX9_isNewlyReached_1 (by decide) (fun c_4 => ?_) (fun c_4 => ?_)
  · exact J_24  _ _ ls  hP hD hS (lv_sub hl [] rfl)
  · refine lv_iload_n hx hb dX9_isNewlyReached_4 rfl (lv_at hl 1 rfl) ?_
    refine lv_aload_n hx hb dX9_isNewlyReached_5 rfl (lv_at hl 0 rfl) ?_
    refine va_get (D := gD g) (ci := 8) (v := .ref r0_1) (C := RX9) (T := TX9) (N := 6) hx hb hts inX9 hown hK hP k_1 hk_1 rfl 0 (by decide) (hts _ kw_1552) (fun _ h9 => h9) rfl dX9_isNewlyReached_6 ?_
    obtain ⟨k_5, fs9, hk_5⟩ := gC_of o_r0_1
    obtain ⟨r0_5, n0_5, r1_5, n1_5, c2_5, r3_5, n3_5, c4_5, r5_5, n5_5, r6_5, n6_5, r7_5, n7_5, r8_5, n8_5, c9_5, c10_5, c11_5, v12_5, v13_5, v14_5, rfl, a_r0_5, f1_5, a_r1_5, f3_5, a_r3_5, f5_5, a_r5_5, f7_5, a_r6_5, f9_5, a_r7_5, f11_5, a_r8_5, f13_5, o_v12_5, o_v13_5, o_v14_5, f17_5, f18_5, f19_5, f20_5, f21_5, f22_5, f23_5, f24_5, f25_5, f26_5, f27_5, f28_5, f29_5, -⟩ := (hG.1 _ _ _ _ hk_5).hX8 rfl
    refine va_get (D := gD g) (ci := 7) (v := .int c2_5) (C := RX8) (T := TX8) (N := 15) hx hb hts inX8 hown hK hP k_5 hk_5 rfl 2 (by decide) (hts _ kw_1553) (fun _ h9 => h9) rfl dX9_isNewlyReached_9 ?_
    refine lv_icmp_ge (tgt := 24) hx hb dX9_isNewlyReached_12 (by decide) (fun c_6 => ?_) (fun c_6 => ?_)
    · exact J_24  _ _ ls  hP hD hS (lv_sub hl [] rfl)
    · refine lv_aload_n hx hb dX9_isNewlyReached_15 rfl (lv_at hl 0 rfl) ?_
      refine va_get (D := gD g) (ci := 8) (v := .ref r3_1) (C := RX9) (T := TX9) (N := 6) hx hb hts inX9 hown hK hP k_1 hk_1 rfl 3 (by decide) (hts _ kw_1554) (fun _ h9 => h9) rfl dX9_isNewlyReached_16 ?_
      refine lv_iload_n hx hb dX9_isNewlyReached_19 rfl (lv_at hl 1 rfl) ?_
      obtain ⟨k_7, f_7, hk_7⟩ := gI_of a_r3_1
      refine va_zald hx hb hK hP k_7 2 hk_7 rfl (i_in2 (by have e0 : (0 : Int32).toInt = 0 := (by decide); have q_f6_1 := f6_1; have q_fq_b := fq_b; have q_c_4 := i_nlt c_4; have q_c_6 := i_nle c_6; have q_f19_5 := f19_5; have q_f20_5 := f20_5; have q_f1_5 := f1_5; have q_f17_5 := f17_5; have q_f18_5 := f18_5; have g_c2_5 := i_rg c2_5; have g_x1 := i_rg x1; omega)) dX9_isNewlyReached_20 ?_
      refine lv_topi (fun z_8 ez_8 => ?_)
      refine lv_if_eq (tgt := 26) hx hb dX9_isNewlyReached_21 (by decide) (fun c_9 => ?_) (fun c_9 => ?_)
      · refine lv_aload_n hx hb dX9_isNewlyReached_26 rfl (lv_at hl 0 rfl) ?_
        refine va_get (D := gD g) (ci := 8) (v := .ref r3_1) (C := RX9) (T := TX9) (N := 6) hx hb hts inX9 hown hK hP k_1 hk_1 rfl 3 (by decide) (hts _ kw_1554) (fun _ h9 => h9) rfl dX9_isNewlyReached_27 ?_
        refine lv_iload_n hx hb dX9_isNewlyReached_30 rfl (lv_at hl 1 rfl) ?_
        refine lv_iconst (v := 1) hx hb dX9_isNewlyReached_31 (by decide) ?_
        have hC9 : hol ws r3_1 [(8, 3)] := (hol_u hG.u hk_1 (j := 3) rfl a_r3_1 (by decide))
        have hS9 : holS ws r3_1 none := holS_n
        refine va_zast hx hb hK hP hD hS k_7 2 hk_7 rfl (i_in2 (by have e0 : (0 : Int32).toInt = 0 := (by decide); have q_f6_1 := f6_1; have q_fq_b := fq_b; have q_c_4 := i_nlt c_4; have q_c_6 := i_nle c_6; have q_f19_5 := f19_5; have q_f20_5 := f20_5; have q_f1_5 := f1_5; have q_f17_5 := f17_5; have q_f18_5 := f18_5; have g_c2_5 := i_rg c2_5; have g_x1 := i_rg x1; omega)) dX9_isNewlyReached_32 (fun H locs hP hD hS => ?_)
        obtain ⟨ws_10, e_ws_10⟩ : ∃ z, z = ws.set k_7 (r3_1, .inl (g.cZ, n3_1, .inl (upd f_7 (x1 : Int32).toNatClampNeg (vp_nar .boolean 1)))) := ⟨_, rfl⟩
        have hP : va_P (gD g) cl0 ws_10 H := by rw [e_ws_10]; exact hP
        have hD : va_D A ws_10 := by rw [e_ws_10]; exact hD
        have E_11 : gE ws ws_10 := gE_ari e_ws_10 hk_7
        have hG : Good g ws_10 := Good_arZ e_ws_10 hk_7 hG
        have Fr_12 : gF [] [(8, 3)] none ws ws_10 := gF_ar e_ws_10 hk_7 rfl hC9 hS9
        have hk_1 := gset_arO e_ws_10 hk_7 hk_1
        have hk_5 := gset_arO e_ws_10 hk_7 hk_5
        have o_h0 := E_11.1 _ _ o_h0
        have o_r0_1 := E_11.1 _ _ o_r0_1
        have a_r1_1 := E_11.1 _ _ a_r1_1
        have a_r2_1 := E_11.1 _ _ a_r2_1
        have a_r3_1 := E_11.1 _ _ a_r3_1
        have a_r4_1 := E_11.1 _ _ a_r4_1
        have a_r5_1 := E_11.1 _ _ a_r5_1
        have a_r0_5 := E_11.1 _ _ a_r0_5
        have a_r1_5 := E_11.1 _ _ a_r1_5
        have a_r3_5 := E_11.1 _ _ a_r3_5
        have a_r5_5 := E_11.1 _ _ a_r5_5
        have a_r6_5 := E_11.1 _ _ a_r6_5
        have a_r7_5 := E_11.1 _ _ a_r7_5
        have a_r8_5 := E_11.1 _ _ a_r8_5
        have o_v12_5 : ∀ b, v12_5 = some b → ∃ n, gI ws_10 b g.cB n ∧ n < 2147483648 := fun b h => (o_v12_5 b h).imp (fun n h => ⟨E_11.1 _ _ h.1, h.2⟩)
        have o_v13_5 : ∀ b, v13_5 = some b → ∃ n, gJ ws_10 b g.cL n ∧ n < 2147483648 := fun b h => (o_v13_5 b h).imp (fun n h => ⟨E_11.1 _ _ h.1, h.2⟩)
        have o_v14_5 : ∀ b, v14_5 = some b → ∃ n, gJ ws_10 b g.cL n ∧ n < 2147483648 := fun b h => (o_v14_5 b h).imp (fun n h => ⟨E_11.1 _ _ h.1, h.2⟩)
        refine lv_iconst (v := 1) hx hb dX9_isNewlyReached_33 (by decide) ?_
        refine W.widen (k := 0) (n := 0) (Nat.le_of_ble_eq_true rfl) (Nat.le_of_ble_eq_true rfl) ?_
        exact W.zret (v := 1) hx hb hr (nz (Or.inr rfl)) (fun t9 ht9 hW9 => ⟨⟨_, ws_10, rfl, (Or.inr rfl), ⟨E_11, Fr_12, hG, by rw [ht9]; exact hP, hD⟩⟩, hS.F ht9⟩) hS.2.2 dX9_isNewlyReached_34
      · exact J_24  _ _ ls  hP hD hS (lv_sub hl [] rfl)
set_option maxHeartbeats 1000000 in
set_option maxRecDepth 100000 in
theorem m_X9_isRedirected (l : Launch) (g : Gm) (sz : Nat) (ws : va_W) (h0 : Nat) (x1 : Int32) (hG : Good g ws) (o_h0 : gC ws h0 8) : Met l yX9_isRedirected (wt yX9_isRedirected cX9_isRedirected 6 (some .boolean)) ({ frames := 2, cells := 0, slots := 0, locals := 48 }) (va_Pc [.ref h0, .int x1] (st_G g sz ws)) (va_Qi (fun (r : Int32) (u9 : va_W) => r = 0 ∨ r = 1) (gQ1 g [] [(7, 0), (7, 1), (7, 3)] none (va_A ws sz) ws) (va_A ws sz)) (0) (0) (va_A ws sz) := by
  refine Met.ofW (cc := cX9_isRedirected) (maxL := 6) (ret := (some .boolean)) (by decide) rfl ?_
  intro p e s m args below meth c s₁ B hml hv
  obtain ⟨rfl, hsz, hP, hK, hD0, hex, hE⟩ := hv
  have hx := B.exec
  have hb := B.bytes
  have hr := B.returns
  have hts0 := atoms_spec (ws := wt yX9_isRedirected cX9_isRedirected 6 (some .boolean)) B.pre
  have hts : ∀ w ∈ tb, w.before _ s = true := fun w h => hts0 w (List.mem_cons_of_mem _ h)
  have hown : s.vm.findClass RX9 = some m.cls := findClass_of_methodNamed B.named
  subst hsz
  have hD := hD0.self (sz := s.heap.size)
  generalize hAe : va_A ws s.heap.size = A at hD hE ⊢
  have hA : ∀ q : Nat, s.heap.size ≤ q → A q := fun q h => by rw [← hAe]; exact Or.inr h
  have hS : va_S A s.heap s.heap [] := va_S.rf
  have hl := lv_entry ([.ref h0, .int x1]) (n := 6) (Nat.le_of_ble_eq_true rfl)
  rw [lg_entry_eq]
  generalize (lg_sl ([.ref h0, .int x1]) ++ List.replicate (6 - (lg_sl ([.ref h0, .int x1])).length) Slot.unset).toArray = ls at hl ⊢
  have hl : lv_has ls 6 [(0, .ref h0), (1, .int x1)] := hl
  refine lv_aload_n hx hb dX9_isRedirected_0 rfl (lv_at hl 0 rfl) ?_
  obtain ⟨k_1, fs9, hk_1⟩ := gC_of o_h0
  obtain ⟨r0_1, r1_1, n1_1, r2_1, n2_1, r3_1, n3_1, r4_1, n4_1, r5_1, n5_1, rfl, o_r0_1, a_r1_1, f2_1, a_r2_1, f4_1, a_r3_1, f6_1, a_r4_1, f8_1, a_r5_1, f10_1, f11_1, -⟩ := (hG.1 _ _ _ _ hk_1).hX9 rfl
  refine va_get (D := gD g) (ci := 8) (v := .ref r0_1) (C := RX9) (T := TX9) (N := 6) hx hb hts inX9 hown hK hP k_1 hk_1 rfl 0 (by decide) (hts _ kw_1552) (fun _ h9 => h9) rfl dX9_isRedirected_1 ?_
  refine lv_iload_n hx hb dX9_isRedirected_4 rfl (lv_at hl 1 rfl) ?_
  have hFc := gfree hD hS hA
  obtain ⟨k_2, fs_2, hk_2⟩ := gC_of o_r0_1
  refine va_calli (va_runV (As := [.int x1]) (rest := []) ⟨hx, hb, hml, hown, hts⟩ (m_X8_targetCount l g s.heap.size ws r0_1 (x1) hG o_r0_1) (cwV 1 hts (gd_V kw_1567 kw_1541 kw_1542 kw_782 kw_1540) rfl rfl rfl (by decide +kernel) ⟨Nat.le_of_ble_eq_true rfl, Nat.le_of_ble_eq_true rfl⟩) ⟨gblind, va_recv hK hP (ci := 7) (q0 := k_2) rfl hk_2, fun U hU hW9 => gmk hU hW9 hP hK hD hex hE hS hFc⟩ rfl rfl hl.1 rfl (lv_room (Nat.le_of_ble_eq_true rfl)) dX9_isRedirected_5 ⟨Nat.le_of_ble_eq_true rfl, Nat.le_of_ble_eq_true rfl⟩) hS (fun q _ h => hFc q h) hFc (fun r_3 u9 t9 H1 locs ht9 hvm9 hw9 hB9 hz9 hk9 hS => ?_)
  have hP : va_P (gD g) cl0 ws H1 := by rw [← ht9]; exact hB9.1
  clear hB9 hz9 hk9 hvm9 ht9 hw9
  generalize H1 = H at hP hS ⊢
  refine lv_istore_n (lv' := [(2, .int r_3), (0, .ref h0), (1, .int x1)]) hx hb dX9_isRedirected_8 rfl hl (by decide) rfl (fun ls hl => ?_)
  refine lv_iconst (v := 0) hx hb dX9_isRedirected_9 (by decide) ?_
  refine lv_istore_n (lv' := [(3, .int 0), (2, .int r_3), (0, .ref h0), (1, .int x1)]) hx hb dX9_isRedirected_10 rfl hl (by decide) rfl (fun ls hl => ?_)
  have J_11 : ∀ (n9 : Nat) (v3_4 : Int32) (H : Heap) (locs : List Loc) (ls : Array Slot), (2147483647 - v3_4.toInt).toNat = n9 → 0 ≤ v3_4.toInt → va_P (gD g) cl0 ws H → va_D A ws → va_S A s.heap H locs → lv_has ls 6 [(0, .ref h0), (1, .int x1), (2, .int r_3), (3, .int v3_4)] → W p l e (headSpec (wt yX9_isRedirected cX9_isRedirected 6 (some .boolean)) ({ frames := 2, cells := 0, slots := 0, locals := 48 })).room s m ([.ref h0, .int x1] : List Value).toArray below meth c H locs (0) (0) (MQ below (va_Qi (fun (r : Int32) (u9 : va_W) => r = 0 ∨ r = 1) (gQ1 g [] [(7, 0), (7, 1), (7, 3)] none A ws) A) ([.ref h0, .int x1] : List Value).toArray s (0) (0) A) (F0 m 11 ls []) := by
    intro n9
    induction n9 using Nat.strongRecOn with
    | ind n9 ih_11 =>
      intro v3_4 H locs ls hm9 iv_5 hP hD hS hl
      subst hm9
      refine lv_iload_n hx hb dX9_isRedirected_11 rfl (lv_at hl 3 rfl) ?_
      refine lv_iload_n hx hb dX9_isRedirected_12 rfl (lv_at hl 2 rfl) ?_
      refine lv_icmp_ge (tgt := 123) hx hb dX9_isRedirected_13 (by decide) (fun c_8 => ?_) (fun c_8 => ?_)
      · refine lv_iconst (v := 0) hx hb dX9_isRedirected_123 (by decide) ?_
        refine W.widen (k := 0) (n := 0) (Nat.le_of_ble_eq_true rfl) (Nat.le_of_ble_eq_true rfl) ?_
        exact W.zret (v := 0) hx hb hr (nz (Or.inl rfl)) (fun t9 ht9 hW9 => ⟨⟨_, ws, rfl, (Or.inl rfl), ⟨gE.rf, gF.rf, hG, by rw [ht9]; exact hP, hD⟩⟩, hS.F ht9⟩) hS.2.2 dX9_isRedirected_124
      · refine lv_aload_n hx hb dX9_isRedirected_16 rfl (lv_at hl 0 rfl) ?_
        refine va_get (D := gD g) (ci := 8) (v := .ref r0_1) (C := RX9) (T := TX9) (N := 6) hx hb hts inX9 hown hK hP k_1 hk_1 rfl 0 (by decide) (hts _ kw_1552) (fun _ h9 => h9) rfl dX9_isRedirected_17 ?_
        refine lv_iload_n hx hb dX9_isRedirected_20 rfl (lv_at hl 1 rfl) ?_
        refine lv_iload_n hx hb dX9_isRedirected_21 rfl (lv_at hl 3 rfl) ?_
        have hFc := gfree hD hS hA
        obtain ⟨k_9, fs_9, hk_9⟩ := gC_of o_r0_1
        refine va_calli (va_runV (As := [.int x1, .int v3_4]) (rest := []) ⟨hx, hb, hml, hown, hts⟩ (m_X8_targetAt l g H.size ws r0_1 (x1) (v3_4) hG o_r0_1) (cwV 2 hts (gd_V kw_1568 kw_1537 kw_1538 kw_782 kw_1536) rfl rfl rfl (by decide +kernel) ⟨Nat.le_of_ble_eq_true rfl, Nat.le_of_ble_eq_true rfl⟩) ⟨gblind, va_recv hK hP (ci := 7) (q0 := k_9) rfl hk_9, fun U hU hW9 => gmk hU hW9 hP hK hD hex hE hS hFc⟩ rfl rfl hl.1 rfl (lv_room (Nat.le_of_ble_eq_true rfl)) dX9_isRedirected_22 ⟨Nat.le_of_ble_eq_true rfl, Nat.le_of_ble_eq_true rfl⟩) hS (fun q _ h => hFc q h) hFc (fun r_10 u9 t9 H1 locs ht9 hvm9 hw9 hB9 hz9 hk9 hS => ?_)
        have hP : va_P (gD g) cl0 ws H1 := by rw [← ht9]; exact hB9.1
        clear hB9 hz9 hk9 hvm9 ht9 hw9
        generalize H1 = H at hP hS ⊢
        refine lv_istore (lv' := [(4, .int r_10), (0, .ref h0), (1, .int x1), (2, .int r_3), (3, .int v3_4)]) hx hb dX9_isRedirected_25 hl (by decide) rfl (fun ls hl => ?_)
        refine lv_iconst (v := 0) hx hb dX9_isRedirected_27 (by decide) ?_
        refine lv_istore (lv' := [(5, .int 0), (4, .int r_10), (0, .ref h0), (1, .int x1), (2, .int r_3), (3, .int v3_4)]) hx hb dX9_isRedirected_28 hl (by decide) rfl (fun ls hl => ?_)
        have J_30 : ∀ (n9 : Nat) (v4_11 : Int32) (v5_12 : Int32) (H : Heap) (locs : List Loc) (ls : Array Slot), (2147483647 - v5_12.toInt).toNat = n9 → 0 ≤ v5_12.toInt → va_P (gD g) cl0 ws H → va_D A ws → va_S A s.heap H locs → lv_has ls 6 [(0, .ref h0), (1, .int x1), (2, .int r_3), (3, .int v3_4), (4, .int v4_11), (5, .int v5_12)] → W p l e (headSpec (wt yX9_isRedirected cX9_isRedirected 6 (some .boolean)) ({ frames := 2, cells := 0, slots := 0, locals := 48 })).room s m ([.ref h0, .int x1] : List Value).toArray below meth c H locs (0) (0) (MQ below (va_Qi (fun (r : Int32) (u9 : va_W) => r = 0 ∨ r = 1) (gQ1 g [] [(7, 0), (7, 1), (7, 3)] none A ws) A) ([.ref h0, .int x1] : List Value).toArray s (0) (0) A) (F0 m 30 ls []) := by
          intro n9
          induction n9 using Nat.strongRecOn with
          | ind n9 ih_30 =>
            intro v4_11 v5_12 H locs ls hm9 iv_13 hP hD hS hl
            subst hm9
            refine lv_aload_n hx hb dX9_isRedirected_30 rfl (lv_at hl 0 rfl) ?_
            refine va_get (D := gD g) (ci := 8) (v := .ref r0_1) (C := RX9) (T := TX9) (N := 6) hx hb hts inX9 hown hK hP k_1 hk_1 rfl 0 (by decide) (hts _ kw_1552) (fun _ h9 => h9) rfl dX9_isRedirected_31 ?_
            refine lv_iload hx hb dX9_isRedirected_34 (lv_at hl 4 rfl) ?_
            have hFc := gfree hD hS hA
            obtain ⟨k_16, fs_16, hk_16⟩ := gC_of o_r0_1
            refine va_calli (va_runV (As := [.int v4_11]) (rest := []) ⟨hx, hb, hml, hown, hts⟩ (m_X8_opAt l g H.size ws r0_1 (v4_11) hG o_r0_1) (cwV 1 hts (gd_V kw_1596 kw_1513 kw_1514 kw_782 kw_1512) rfl rfl rfl (by decide +kernel) ⟨Nat.le_of_ble_eq_true rfl, Nat.le_of_ble_eq_true rfl⟩) ⟨gblind, va_recv hK hP (ci := 7) (q0 := k_16) rfl hk_16, fun U hU hW9 => gmk hU hW9 hP hK hD hex hE hS hFc⟩ rfl rfl hl.1 rfl (lv_room (Nat.le_of_ble_eq_true rfl)) dX9_isRedirected_36 ⟨Nat.le_of_ble_eq_true rfl, Nat.le_of_ble_eq_true rfl⟩) hS (fun q _ h => hFc q h) hFc (fun r_17 u9 t9 H1 locs ht9 hvm9 hw9 hB9 hz9 hk9 hS => ?_)
            have hP : va_P (gD g) cl0 ws H1 := by rw [← ht9]; exact hB9.1
            clear hB9 hz9 hk9 hvm9 ht9 hw9
            generalize H1 = H at hP hS ⊢
            refine lv_sipush (v := 167) hx hb dX9_isRedirected_39 (by decide) ?_
            have J_75 : ∀  (H : Heap) (locs : List Loc) (ls : Array Slot), va_P (gD g) cl0 ws H → va_D A ws → va_S A s.heap H locs → lv_has ls 6 [(0, .ref h0), (1, .int x1), (2, .int r_3), (3, .int v3_4), (4, .int v4_11)] → W p l e (headSpec (wt yX9_isRedirected cX9_isRedirected 6 (some .boolean)) ({ frames := 2, cells := 0, slots := 0, locals := 48 })).room s m ([.ref h0, .int x1] : List Value).toArray below meth c H locs (0) (0) (MQ below (va_Qi (fun (r : Int32) (u9 : va_W) => r = 0 ∨ r = 1) (gQ1 g [] [(7, 0), (7, 1), (7, 3)] none A ws) A) ([.ref h0, .int x1] : List Value).toArray s (0) (0) A) (F0 m 75 ls []) := by
              intro  H locs ls  hP hD hS hl
              refine lv_iload hx hb dX9_isRedirected_75 (lv_at hl 4 rfl) ?_
              refine lv_aload_n hx hb dX9_isRedirected_77 rfl (lv_at hl 0 rfl) ?_
              refine va_get (D := gD g) (ci := 8) (v := .ref r0_1) (C := RX9) (T := TX9) (N := 6) hx hb hts inX9 hown hK hP k_1 hk_1 rfl 0 (by decide) (hts _ kw_1552) (fun _ h9 => h9) rfl dX9_isRedirected_78 ?_
              refine lv_iload_n hx hb dX9_isRedirected_81 rfl (lv_at hl 1 rfl) ?_
              refine lv_iload_n hx hb dX9_isRedirected_82 rfl (lv_at hl 3 rfl) ?_
              have hFc := gfree hD hS hA
              obtain ⟨k_20, fs_20, hk_20⟩ := gC_of o_r0_1
              refine va_calli (va_runV (As := [.int x1, .int v3_4]) (rest := [.int v4_11]) ⟨hx, hb, hml, hown, hts⟩ (m_X8_targetAt l g H.size ws r0_1 (x1) (v3_4) hG o_r0_1) (cwV 2 hts (gd_V kw_1568 kw_1537 kw_1538 kw_782 kw_1536) rfl rfl rfl (by decide +kernel) ⟨Nat.le_of_ble_eq_true rfl, Nat.le_of_ble_eq_true rfl⟩) ⟨gblind, va_recv hK hP (ci := 7) (q0 := k_20) rfl hk_20, fun U hU hW9 => gmk hU hW9 hP hK hD hex hE hS hFc⟩ rfl rfl hl.1 rfl (lv_room (Nat.le_of_ble_eq_true rfl)) dX9_isRedirected_83 ⟨Nat.le_of_ble_eq_true rfl, Nat.le_of_ble_eq_true rfl⟩) hS (fun q _ h => hFc q h) hFc (fun r_21 u9 t9 H1 locs ht9 hvm9 hw9 hB9 hz9 hk9 hS => ?_)
              have hP : va_P (gD g) cl0 ws H1 := by rw [← ht9]; exact hB9.1
              clear hB9 hz9 hk9 hvm9 ht9 hw9
              generalize H1 = H at hP hS ⊢
              have J_117 : ∀  (H : Heap) (locs : List Loc) (ls : Array Slot), va_P (gD g) cl0 ws H → va_D A ws → va_S A s.heap H locs → lv_has ls 6 [(0, .ref h0), (1, .int x1), (2, .int r_3), (3, .int v3_4)] → W p l e (headSpec (wt yX9_isRedirected cX9_isRedirected 6 (some .boolean)) ({ frames := 2, cells := 0, slots := 0, locals := 48 })).room s m ([.ref h0, .int x1] : List Value).toArray below meth c H locs (0) (0) (MQ below (va_Qi (fun (r : Int32) (u9 : va_W) => r = 0 ∨ r = 1) (gQ1 g [] [(7, 0), (7, 1), (7, 3)] none A ws) A) ([.ref h0, .int x1] : List Value).toArray s (0) (0) A) (F0 m 117 ls []) := by
                intro  H locs ls  hP hD hS hl
                obtain ⟨z_24, ez_24⟩ : ∃ z : Int32, v3_4 + Int32.ofInt 1 = z := ⟨_, rfl⟩
                refine lv_iinc (v := z_24) (lv' := [(3, .int z_24), (0, .ref h0), (1, .int x1), (2, .int r_3)]) hx hb dX9_isRedirected_117 hl (k := 3) rfl ez_24 (by decide) rfl (fun ls hl => ?_)
                refine lv_goto (tgt := 11) hx hb dX9_isRedirected_120 (by decide) ?_
                exact ih_11 _ (by obtain ⟨u_z_24, q_z_24⟩ := i_iz ez_24 (by decide) (by decide); have q_iv_5 := iv_5; have q_c_8 := i_nle c_8; have g_r_3 := i_rg r_3; have g_v3_4 := i_rg v3_4; have g_z_24 := i_rg z_24; omega) (z_24) H locs ls rfl (by obtain ⟨u_z_24, q_z_24⟩ := i_iz ez_24 (by decide) (by decide); have q_iv_5 := iv_5; have q_c_8 := i_nle c_8; have g_r_3 := i_rg r_3; have g_v3_4 := i_rg v3_4; have g_z_24 := i_rg z_24; omega) hP hD hS (lv_sub hl [1, 2, 3, 0] rfl)
              refine lv_icmp_eq (tgt := 117) hx hb dX9_isRedirected_86 (by decide) (fun c_25 => ?_) (fun c_25 => ?_)
              · exact J_117  H locs ls  hP hD hS (lv_sub hl [0, 1, 2, 3] rfl)
              · refine lv_aload_n hx hb dX9_isRedirected_89 rfl (lv_at hl 0 rfl) ?_
                refine va_get (D := gD g) (ci := 8) (v := .ref r0_1) (C := RX9) (T := TX9) (N := 6) hx hb hts inX9 hown hK hP k_1 hk_1 rfl 0 (by decide) (hts _ kw_1552) (fun _ h9 => h9) rfl dX9_isRedirected_90 ?_
                refine lv_iload hx hb dX9_isRedirected_93 (lv_at hl 4 rfl) ?_
                have hFc := gfree hD hS hA
                obtain ⟨k_26, fs_26, hk_26⟩ := gC_of o_r0_1
                refine va_calli (va_runV (As := [.int v4_11]) (rest := []) ⟨hx, hb, hml, hown, hts⟩ (m_X8_opAt l g H.size ws r0_1 (v4_11) hG o_r0_1) (cwV 1 hts (gd_V kw_1596 kw_1513 kw_1514 kw_782 kw_1512) rfl rfl rfl (by decide +kernel) ⟨Nat.le_of_ble_eq_true rfl, Nat.le_of_ble_eq_true rfl⟩) ⟨gblind, va_recv hK hP (ci := 7) (q0 := k_26) rfl hk_26, fun U hU hW9 => gmk hU hW9 hP hK hD hex hE hS hFc⟩ rfl rfl hl.1 rfl (lv_room (Nat.le_of_ble_eq_true rfl)) dX9_isRedirected_95 ⟨Nat.le_of_ble_eq_true rfl, Nat.le_of_ble_eq_true rfl⟩) hS (fun q _ h => hFc q h) hFc (fun r_27 u9 t9 H1 locs ht9 hvm9 hw9 hB9 hz9 hk9 hS => ?_)
                have hP : va_P (gD g) cl0 ws H1 := by rw [← ht9]; exact hB9.1
                clear hB9 hz9 hk9 hvm9 ht9 hw9
                generalize H1 = H at hP hS ⊢
                refine lv_sipush (v := 167) hx hb dX9_isRedirected_98 (by decide) ?_
                refine lv_icmp_eq (tgt := 117) hx hb dX9_isRedirected_101 (by decide) (fun c_28 => ?_) (fun c_28 => ?_)
                · exact J_117  H locs ls  hP hD hS (lv_sub hl [0, 1, 2, 3] rfl)
                · refine lv_aload_n hx hb dX9_isRedirected_104 rfl (lv_at hl 0 rfl) ?_
                  refine va_get (D := gD g) (ci := 8) (v := .ref r0_1) (C := RX9) (T := TX9) (N := 6) hx hb hts inX9 hown hK hP k_1 hk_1 rfl 0 (by decide) (hts _ kw_1552) (fun _ h9 => h9) rfl dX9_isRedirected_105 ?_
                  refine lv_iload_n hx hb dX9_isRedirected_108 rfl (lv_at hl 1 rfl) ?_
                  refine lv_iload_n hx hb dX9_isRedirected_109 rfl (lv_at hl 3 rfl) ?_
                  refine lv_iload hx hb dX9_isRedirected_110 (lv_at hl 4 rfl) ?_
                  have hFc := gfree hD hS hA
                  obtain ⟨k_29, fs_29, hk_29⟩ := gC_of o_r0_1
                  refine va_callv (va_runV (As := [.int x1, .int v3_4, .int v4_11]) (rest := []) ⟨hx, hb, hml, hown, hts⟩ (m_X8_setTarget l g H.size ws r0_1 (x1) (v3_4) (v4_11) hG o_r0_1) (cwV 3 hts (gd_V kw_1651 kw_1526 kw_1527 kw_782 kw_1525) rfl rfl rfl (by decide +kernel) ⟨Nat.le_of_ble_eq_true rfl, Nat.le_of_ble_eq_true rfl⟩) ⟨gblind, va_recv hK hP (ci := 7) (q0 := k_29) rfl hk_29, fun U hU hW9 => gmk hU hW9 hP hK hD hex hE hS hFc⟩ rfl rfl hl.1 rfl (lv_room (Nat.le_of_ble_eq_true rfl)) dX9_isRedirected_112 ⟨Nat.le_of_ble_eq_true rfl, Nat.le_of_ble_eq_true rfl⟩) hS (fun q _ h => hFc q h) hFc (fun  ws_30 t9 H1 locs ht9 hvm9 hw9 hB9 hz9 hk9 hS => ?_)
                  obtain ⟨E_31, Fr_32, hG, hP1, hD1⟩ := hB9
                  have hP : va_P (gD g) cl0 ws_30 H1 := by rw [← ht9]; exact hP1
                  have hD : va_D A ws_30 := hD1.weaken (fun _ _ _ h => hFc _ h)
                  clear hP1 hD1 hz9 hk9 hvm9 ht9 hw9
                  generalize H1 = H at hP hS ⊢
                  have aa_35 := a_r1_1
                  have aa_36 := a_r2_1
                  have aa_37 := a_r3_1
                  have aa_38 := a_r4_1
                  have aa_39 := a_r5_1
                  have o_h0 := E_31.1 _ _ o_h0
                  refine lv_iconst (v := 1) hx hb dX9_isRedirected_115 (by decide) ?_
                  refine W.widen (k := 0) (n := 0) (Nat.le_of_ble_eq_true rfl) (Nat.le_of_ble_eq_true rfl) ?_
                  exact W.zret (v := 1) hx hb hr (nz (Or.inr rfl)) (fun t9 ht9 hW9 => ⟨⟨_, ws_30, rfl, (Or.inr rfl), ⟨E_31, (gF.mo (F' := []) (C' := [(7, 0), (7, 1), (7, 3)]) (S' := none) Fr_32 (fun _ h => h) (fun _ h => h) (Or.inl rfl)), hG, by rw [ht9]; exact hP, hD⟩⟩, hS.F ht9⟩) hS.2.2 dX9_isRedirected_116
            refine lv_icmp_ne (tgt := 75) hx hb dX9_isRedirected_42 (by decide) (fun c_40 => ?_) (fun c_40 => ?_)
            · exact J_75  H locs ls  hP hD hS (lv_sub hl [0, 1, 2, 3, 4] rfl)
            · refine lv_iload hx hb dX9_isRedirected_45 (lv_at hl 5 rfl) ?_
              refine lv_aload_n hx hb dX9_isRedirected_47 rfl (lv_at hl 0 rfl) ?_
              refine va_get (D := gD g) (ci := 8) (v := .ref r0_1) (C := RX9) (T := TX9) (N := 6) hx hb hts inX9 hown hK hP k_1 hk_1 rfl 0 (by decide) (hts _ kw_1552) (fun _ h9 => h9) rfl dX9_isRedirected_48 ?_
              obtain ⟨k_41, fs9, hk_41⟩ := gC_of o_r0_1
              obtain ⟨r0_41, n0_41, r1_41, n1_41, c2_41, r3_41, n3_41, c4_41, r5_41, n5_41, r6_41, n6_41, r7_41, n7_41, r8_41, n8_41, c9_41, c10_41, c11_41, v12_41, v13_41, v14_41, rfl, a_r0_41, f1_41, a_r1_41, f3_41, a_r3_41, f5_41, a_r5_41, f7_41, a_r6_41, f9_41, a_r7_41, f11_41, a_r8_41, f13_41, o_v12_41, o_v13_41, o_v14_41, f17_41, f18_41, f19_41, f20_41, f21_41, f22_41, f23_41, f24_41, f25_41, f26_41, f27_41, f28_41, f29_41, -⟩ := (hG.1 _ _ _ _ hk_41).hX8 rfl
              refine va_get (D := gD g) (ci := 7) (v := .int c2_41) (C := RX8) (T := TX8) (N := 15) hx hb hts inX8 hown hK hP k_41 hk_41 rfl 2 (by decide) (hts _ kw_1553) (fun _ h9 => h9) rfl dX9_isRedirected_51 ?_
              refine lv_icmp_gt (tgt := 75) hx hb dX9_isRedirected_54 (by decide) (fun c_42 => ?_) (fun c_42 => ?_)
              · exact J_75  H locs ls  hP hD hS (lv_sub hl [0, 1, 2, 3, 4] rfl)
              · refine lv_aload_n hx hb dX9_isRedirected_57 rfl (lv_at hl 0 rfl) ?_
                refine va_get (D := gD g) (ci := 8) (v := .ref r0_1) (C := RX9) (T := TX9) (N := 6) hx hb hts inX9 hown hK hP k_1 hk_1 rfl 0 (by decide) (hts _ kw_1552) (fun _ h9 => h9) rfl dX9_isRedirected_58 ?_
                refine lv_iload hx hb dX9_isRedirected_61 (lv_at hl 4 rfl) ?_
                refine lv_iconst (v := 0) hx hb dX9_isRedirected_63 (by decide) ?_
                have hFc := gfree hD hS hA
                refine va_calli (va_runV (As := [.int v4_11, .int 0]) (rest := []) ⟨hx, hb, hml, hown, hts⟩ (m_X8_targetAt l g H.size ws r0_1 (v4_11) (0) hG o_r0_1) (cwV 2 hts (gd_V kw_1568 kw_1537 kw_1538 kw_782 kw_1536) rfl rfl rfl (by decide +kernel) ⟨Nat.le_of_ble_eq_true rfl, Nat.le_of_ble_eq_true rfl⟩) ⟨gblind, va_recv hK hP (ci := 7) (q0 := k_41) rfl hk_41, fun U hU hW9 => gmk hU hW9 hP hK hD hex hE hS hFc⟩ rfl rfl hl.1 rfl (lv_room (Nat.le_of_ble_eq_true rfl)) dX9_isRedirected_64 ⟨Nat.le_of_ble_eq_true rfl, Nat.le_of_ble_eq_true rfl⟩) hS (fun q _ h => hFc q h) hFc (fun r_43 u9 t9 H1 locs ht9 hvm9 hw9 hB9 hz9 hk9 hS => ?_)
                have hP : va_P (gD g) cl0 ws H1 := by rw [← ht9]; exact hB9.1
                clear hB9 hz9 hk9 hvm9 ht9 hw9
                generalize H1 = H at hP hS ⊢
                refine lv_istore (lv' := [(4, .int r_43), (0, .ref h0), (1, .int x1), (2, .int r_3), (3, .int v3_4), (5, .int v5_12)]) hx hb dX9_isRedirected_67 hl (by decide) rfl (fun ls hl => ?_)
                obtain ⟨z_44, ez_44⟩ : ∃ z : Int32, v5_12 + Int32.ofInt 1 = z := ⟨_, rfl⟩
                refine lv_iinc (v := z_44) (lv' := [(5, .int z_44), (4, .int r_43), (0, .ref h0), (1, .int x1), (2, .int r_3), (3, .int v3_4)]) hx hb dX9_isRedirected_69 hl (k := 5) rfl ez_44 (by decide) rfl (fun ls hl => ?_)
                refine lv_goto (tgt := 30) hx hb dX9_isRedirected_72 (by decide) ?_
                exact ih_30 _ (by obtain ⟨u_z_44, q_z_44⟩ := i_iz ez_44 (by decide) (by decide); have q_iv_13 := iv_13; have q_c_42 := i_nlt c_42; have g_c2_41 := i_rg c2_41; have g_r_43 := i_rg r_43; have g_v5_12 := i_rg v5_12; have g_z_44 := i_rg z_44; omega) (r_43) (z_44) H locs ls rfl (by obtain ⟨u_z_44, q_z_44⟩ := i_iz ez_44 (by decide) (by decide); have q_iv_13 := iv_13; have q_c_42 := i_nlt c_42; have g_c2_41 := i_rg c2_41; have g_v5_12 := i_rg v5_12; have g_z_44 := i_rg z_44; omega) hP hD hS (lv_sub hl [2, 3, 4, 5, 1, 0] rfl)
        exact J_30 _ (r_10) (0) H locs ls rfl (by have e0 : (0 : Int32).toInt = 0 := (by decide); omega) hP hD hS (lv_sub hl [2, 3, 4, 5, 1, 0] rfl)
  exact J_11 _ (0) H locs ls rfl (by have e0 : (0 : Int32).toInt = 0 := (by decide); omega) hP hD hS (lv_sub hl [2, 3, 1, 0] rfl)
set_option maxHeartbeats 1000000 in
set_option maxRecDepth 100000 in
theorem m_X9_mark (l : Launch) (g : Gm) (sz : Nat) (ws : va_W) (h0 : Nat) (x1 : Int32) (hG : Good g ws) (o_h0 : gC ws h0 8) (fp_a : gP ws h0 (fun fs => ∀ (rn n : Nat), fs[2]? = some (.ref rn) → gI ws rn g.cZ n → 1297 ≤ n)) (fp_b : gP ws h0 (fun fs => ∀ (rn n : Nat), fs[3]? = some (.ref rn) → gI ws rn g.cZ n → 1297 ≤ n)) (fp_d : gP ws h0 (fun fs => ∀ (rn n : Nat), fs[4]? = some (.ref rn) → gI ws rn g.cI n → 1297 ≤ n)) (fp_f : gP ws h0 (fun fs => ∀ (rn n : Nat), fs[5]? = some (.ref rn) → gI ws rn g.cI n → 1297 ≤ n)) : Met l yX9_mark (wt yX9_mark cX9_mark 2 none) ({ frames := 0, cells := 0, slots := 0, locals := 0 }) (va_Pc [.ref h0, .int x1] (st_G g sz ws)) (va_Qv (fun (u9 : va_W) => True) (gQ1 g [] [(8, 2)] none (va_A ws sz) ws) (va_A ws sz)) (0) (0) (va_A ws sz) := by
  refine Met.ofW (cc := cX9_mark) (maxL := 2) (ret := none) (by decide) rfl ?_
  intro p e s m args below meth c s₁ B hml hv
  obtain ⟨rfl, hsz, hP, hK, hD0, hex, hE⟩ := hv
  have hx := B.exec
  have hb := B.bytes
  have hr := B.returns
  have hts0 := atoms_spec (ws := wt yX9_mark cX9_mark 2 none) B.pre
  have hts : ∀ w ∈ tb, w.before _ s = true := fun w h => hts0 w (List.mem_cons_of_mem _ h)
  have hown : s.vm.findClass RX9 = some m.cls := findClass_of_methodNamed B.named
  subst hsz
  have hD := hD0.self (sz := s.heap.size)
  generalize hAe : va_A ws s.heap.size = A at hD hE ⊢
  have hA : ∀ q : Nat, s.heap.size ≤ q → A q := fun q h => by rw [← hAe]; exact Or.inr h
  have hS : va_S A s.heap s.heap [] := va_S.rf
  have hl := lv_entry ([.ref h0, .int x1]) (n := 2) (Nat.le_of_ble_eq_true rfl)
  rw [lg_entry_eq]
  generalize (lg_sl ([.ref h0, .int x1]) ++ List.replicate (2 - (lg_sl ([.ref h0, .int x1])).length) Slot.unset).toArray = ls at hl ⊢
  have hl : lv_has ls 2 [(0, .ref h0), (1, .int x1)] := hl
  obtain ⟨k_1, fs9, hk_1⟩ := gC_of o_h0
  obtain ⟨r0_1, r1_1, n1_1, r2_1, n2_1, r3_1, n3_1, r4_1, n4_1, r5_1, n5_1, rfl, o_r0_1, a_r1_1, f2_1, a_r2_1, f4_1, a_r3_1, f6_1, a_r4_1, f8_1, a_r5_1, f10_1, f11_1, -⟩ := (hG.1 _ _ _ _ hk_1).hX9 rfl
  have fq_a := fp_a _ _ _ hk_1 _ _ rfl a_r2_1
  have fq_b := fp_b _ _ _ hk_1 _ _ rfl a_r3_1
  have fq_d := fp_d _ _ _ hk_1 _ _ rfl a_r4_1
  have fq_f := fp_f _ _ _ hk_1 _ _ rfl a_r5_1
  refine lv_iload_n hx hb dX9_mark_0 rfl (lv_at hl 1 rfl) ?_
  have J_20 : ∀ (ws_2 : va_W) (H : Heap) (locs : List Loc) (ls : Array Slot), gE ws ws_2 → gF [] [(8, 2)] none ws ws_2 → Good g ws_2 → va_P (gD g) cl0 ws_2 H → va_D A ws_2 → va_S A s.heap H locs → lv_has ls 2 [] → W p l e (headSpec (wt yX9_mark cX9_mark 2 none) ({ frames := 0, cells := 0, slots := 0, locals := 0 })).room s m ([.ref h0, .int x1] : List Value).toArray below meth c H locs (0) (0) (MQ below (va_Qv (fun (u9 : va_W) => True) (gQ1 g [] [(8, 2)] none A ws) A) ([.ref h0, .int x1] : List Value).toArray s (0) (0) A) (F0 m 20 ls []) := by
    intro ws_2 H locs ls  E_3 Fr_4 hG hP hD hS hl
    have aa_5 := a_r1_1
    have aa_6 := a_r2_1
    have aa_7 := a_r3_1
    have aa_8 := a_r4_1
    have aa_9 := a_r5_1
    have o_h0 := E_3.1 _ _ o_h0
    refine W.widen (k := 0) (n := 0) (Nat.le_of_ble_eq_true rfl) (Nat.le_of_ble_eq_true rfl) ?_
    exact W.vret hx hb hr (fun t9 ht9 hW9 => ⟨⟨ws_2, rfl, trivial, ⟨E_3, Fr_4, hG, by rw [ht9]; exact hP, hD⟩⟩, hS.F ht9⟩) hS.2.2 dX9_mark_20
  refine lv_if_lt (tgt := 20) hx hb dX9_mark_1 (by decide) (fun c_10 => ?_) (fun c_10 => ?_)
  · exact J_20 ws _ _ ls (gE.rf) (gF.rf) hG hP hD hS (lv_sub hl [] rfl)
  · refine lv_iload_n hx hb dX9_mark_4 rfl (lv_at hl 1 rfl) ?_
    refine lv_aload_n hx hb dX9_mark_5 rfl (lv_at hl 0 rfl) ?_
    refine va_get (D := gD g) (ci := 8) (v := .ref r2_1) (C := RX9) (T := TX9) (N := 6) hx hb hts inX9 hown hK hP k_1 hk_1 rfl 2 (by decide) (hts _ kw_1566) (fun _ h9 => h9) rfl dX9_mark_6 ?_
    obtain ⟨k_11, f_11, hk_11⟩ := gI_of a_r2_1
    obtain ⟨z_12, ez_12⟩ : ∃ z : Int32, Int32.ofNat n2_1 = z := ⟨_, rfl⟩
    refine va_alen (v := z_12) hx hb hK hP k_11 2 hk_11 rfl ez_12 dX9_mark_9 ?_
    refine lv_icmp_ge (tgt := 20) hx hb dX9_mark_10 (by decide) (fun c_13 => ?_) (fun c_13 => ?_)
    · exact J_20 ws _ _ ls (gE.rf) (gF.rf) hG hP hD hS (lv_sub hl [] rfl)
    · refine lv_aload_n hx hb dX9_mark_13 rfl (lv_at hl 0 rfl) ?_
      refine va_get (D := gD g) (ci := 8) (v := .ref r2_1) (C := RX9) (T := TX9) (N := 6) hx hb hts inX9 hown hK hP k_1 hk_1 rfl 2 (by decide) (hts _ kw_1566) (fun _ h9 => h9) rfl dX9_mark_14 ?_
      refine lv_iload_n hx hb dX9_mark_17 rfl (lv_at hl 1 rfl) ?_
      refine lv_iconst (v := 1) hx hb dX9_mark_18 (by decide) ?_
      have hC9 : hol ws r2_1 [(8, 2)] := (hol_u hG.u hk_1 (j := 2) rfl a_r2_1 (by decide))
      have hS9 : holS ws r2_1 none := holS_n
      refine va_zast hx hb hK hP hD hS k_11 2 hk_11 rfl (i_in2 (by have e0 : (0 : Int32).toInt = 0 := (by decide); have q_f4_1 := f4_1; have q_fq_a := fq_a; have q_c_10 := i_nlt c_10; have q_z_12 := i_len ez_12 f4_1; have q_c_13 := i_nle c_13; have g_x1 := i_rg x1; have g_z_12 := i_rg z_12; omega)) dX9_mark_19 (fun H locs hP hD hS => ?_)
      obtain ⟨ws_14, e_ws_14⟩ : ∃ z, z = ws.set k_11 (r2_1, .inl (g.cZ, n2_1, .inl (upd f_11 (x1 : Int32).toNatClampNeg (vp_nar .boolean 1)))) := ⟨_, rfl⟩
      have hP : va_P (gD g) cl0 ws_14 H := by rw [e_ws_14]; exact hP
      have hD : va_D A ws_14 := by rw [e_ws_14]; exact hD
      have E_15 : gE ws ws_14 := gE_ari e_ws_14 hk_11
      have hG : Good g ws_14 := Good_arZ e_ws_14 hk_11 hG
      have Fr_16 : gF [] [(8, 2)] none ws ws_14 := gF_ar e_ws_14 hk_11 rfl hC9 hS9
      have hk_1 := gset_arO e_ws_14 hk_11 hk_1
      have o_h0 := E_15.1 _ _ o_h0
      have o_r0_1 := E_15.1 _ _ o_r0_1
      have a_r1_1 := E_15.1 _ _ a_r1_1
      have a_r2_1 := E_15.1 _ _ a_r2_1
      have a_r3_1 := E_15.1 _ _ a_r3_1
      have a_r4_1 := E_15.1 _ _ a_r4_1
      have a_r5_1 := E_15.1 _ _ a_r5_1
      exact J_20 ws_14 H locs ls (E_15) (Fr_16) hG hP hD hS (lv_sub hl [] rfl)
set_option maxHeartbeats 1000000 in
set_option maxRecDepth 100000 in
theorem m_X9_isWindow (l : Launch) (g : Gm) (sz : Nat) (ws : va_W) (h0 : Nat) (x1 : Int32) (x2 : Int32) (hG : Good g ws) (o_h0 : gC ws h0 8) (fp_a : gP ws h0 (fun fs => ∀ (rn n : Nat), fs[2]? = some (.ref rn) → gI ws rn g.cZ n → 1297 ≤ n)) (fp_b : gP ws h0 (fun fs => ∀ (rn n : Nat), fs[3]? = some (.ref rn) → gI ws rn g.cZ n → 1297 ≤ n)) (fp_d : gP ws h0 (fun fs => ∀ (rn n : Nat), fs[4]? = some (.ref rn) → gI ws rn g.cI n → 1297 ≤ n)) (fp_f : gP ws h0 (fun fs => ∀ (rn n : Nat), fs[5]? = some (.ref rn) → gI ws rn g.cI n → 1297 ≤ n)) (p0 : 0 ≤ x1.toInt) (px : x1.toInt ≤ 1300) (pn : 0 ≤ x2.toInt ∧ x2.toInt ≤ 3) : Met l yX9_isWindow (wt yX9_isWindow cX9_isWindow 3 (some .boolean)) ({ frames := 0, cells := 0, slots := 0, locals := 0 }) (va_Pc [.ref h0, .int x1, .int x2] (st_G g sz ws)) (va_Qi (fun (r : Int32) (u9 : Unit) => r = 0 ∨ r = 1) (gQ0 g (va_A ws sz) ws) (va_A ws sz)) (0) (0) (va_A ws sz) := by
  refine Met.ofW (cc := cX9_isWindow) (maxL := 3) (ret := (some .boolean)) (by decide) rfl ?_
  intro p e s m args below meth c s₁ B hml hv
  obtain ⟨rfl, hsz, hP, hK, hD0, hex, hE⟩ := hv
  have hx := B.exec
  have hb := B.bytes
  have hr := B.returns
  have hts0 := atoms_spec (ws := wt yX9_isWindow cX9_isWindow 3 (some .boolean)) B.pre
  have hts : ∀ w ∈ tb, w.before _ s = true := fun w h => hts0 w (List.mem_cons_of_mem _ h)
  have hown : s.vm.findClass RX9 = some m.cls := findClass_of_methodNamed B.named
  subst hsz
  have hD := hD0.self (sz := s.heap.size)
  generalize hAe : va_A ws s.heap.size = A at hD hE ⊢
  have hA : ∀ q : Nat, s.heap.size ≤ q → A q := fun q h => by rw [← hAe]; exact Or.inr h
  have hS : va_S A s.heap s.heap [] := va_S.rf
  have hl := lv_entry ([.ref h0, .int x1, .int x2]) (n := 3) (Nat.le_of_ble_eq_true rfl)
  rw [lg_entry_eq]
  generalize (lg_sl ([.ref h0, .int x1, .int x2]) ++ List.replicate (3 - (lg_sl ([.ref h0, .int x1, .int x2])).length) Slot.unset).toArray = ls at hl ⊢
  have hl : lv_has ls 3 [(0, .ref h0), (1, .int x1), (2, .int x2)] := hl
  obtain ⟨k_1, fs9, hk_1⟩ := gC_of o_h0
  obtain ⟨r0_1, r1_1, n1_1, r2_1, n2_1, r3_1, n3_1, r4_1, n4_1, r5_1, n5_1, rfl, o_r0_1, a_r1_1, f2_1, a_r2_1, f4_1, a_r3_1, f6_1, a_r4_1, f8_1, a_r5_1, f10_1, f11_1, -⟩ := (hG.1 _ _ _ _ hk_1).hX9 rfl
  have fq_a := fp_a _ _ _ hk_1 _ _ rfl a_r2_1
  have fq_b := fp_b _ _ _ hk_1 _ _ rfl a_r3_1
  have fq_d := fp_d _ _ _ hk_1 _ _ rfl a_r4_1
  have fq_f := fp_f _ _ _ hk_1 _ _ rfl a_r5_1
  refine lv_iload_n hx hb dX9_isWindow_0 rfl (lv_at hl 1 rfl) ?_
  have J_17 : ∀  (H : Heap) (locs : List Loc) (ls : Array Slot), va_P (gD g) cl0 ws H → va_D A ws → va_S A s.heap H locs → lv_has ls 3 [] → W p l e (headSpec (wt yX9_isWindow cX9_isWindow 3 (some .boolean)) ({ frames := 0, cells := 0, slots := 0, locals := 0 })).room s m ([.ref h0, .int x1, .int x2] : List Value).toArray below meth c H locs (0) (0) (MQ below (va_Qi (fun (r : Int32) (u9 : Unit) => r = 0 ∨ r = 1) (gQ0 g A ws) A) ([.ref h0, .int x1, .int x2] : List Value).toArray s (0) (0) A) (F0 m 17 ls []) := by
    intro  H locs ls  hP hD hS hl
    refine lv_iconst (v := 0) hx hb dX9_isWindow_17 (by decide) ?_
    refine W.widen (k := 0) (n := 0) (Nat.le_of_ble_eq_true rfl) (Nat.le_of_ble_eq_true rfl) ?_
    exact W.zret (v := 0) hx hb hr (nz (Or.inl rfl)) (fun t9 ht9 hW9 => ⟨⟨_, (), rfl, (Or.inl rfl), ⟨by rw [ht9]; exact hP, hD⟩⟩, hS.F ht9⟩) hS.2.2 dX9_isWindow_18
  refine lv_if_lt (tgt := 17) hx hb dX9_isWindow_1 (by decide) (fun c_4 => ?_) (fun c_4 => ?_)
  · exact J_17  _ _ ls  hP hD hS (lv_sub hl [] rfl)
  · refine lv_iload_n hx hb dX9_isWindow_4 rfl (lv_at hl 1 rfl) ?_
    refine lv_iload_n hx hb dX9_isWindow_5 rfl (lv_at hl 2 rfl) ?_
    refine lv_iadd hx hb dX9_isWindow_6 ?_
    refine lv_topi (fun z_5 ez_5 => ?_)
    refine lv_aload_n hx hb dX9_isWindow_7 rfl (lv_at hl 0 rfl) ?_
    refine va_get (D := gD g) (ci := 8) (v := .ref r0_1) (C := RX9) (T := TX9) (N := 6) hx hb hts inX9 hown hK hP k_1 hk_1 rfl 0 (by decide) (hts _ kw_1552) (fun _ h9 => h9) rfl dX9_isWindow_8 ?_
    obtain ⟨k_6, fs9, hk_6⟩ := gC_of o_r0_1
    obtain ⟨r0_6, n0_6, r1_6, n1_6, c2_6, r3_6, n3_6, c4_6, r5_6, n5_6, r6_6, n6_6, r7_6, n7_6, r8_6, n8_6, c9_6, c10_6, c11_6, v12_6, v13_6, v14_6, rfl, a_r0_6, f1_6, a_r1_6, f3_6, a_r3_6, f5_6, a_r5_6, f7_6, a_r6_6, f9_6, a_r7_6, f11_6, a_r8_6, f13_6, o_v12_6, o_v13_6, o_v14_6, f17_6, f18_6, f19_6, f20_6, f21_6, f22_6, f23_6, f24_6, f25_6, f26_6, f27_6, f28_6, f29_6, -⟩ := (hG.1 _ _ _ _ hk_6).hX8 rfl
    refine va_get (D := gD g) (ci := 7) (v := .int c2_6) (C := RX8) (T := TX8) (N := 15) hx hb hts inX8 hown hK hP k_6 hk_6 rfl 2 (by decide) (hts _ kw_1553) (fun _ h9 => h9) rfl dX9_isWindow_11 ?_
    refine lv_icmp_lt (tgt := 19) hx hb dX9_isWindow_14 (by decide) (fun c_7 => ?_) (fun c_7 => ?_)
    · refine lv_aload_n hx hb dX9_isWindow_19 rfl (lv_at hl 0 rfl) ?_
      refine va_get (D := gD g) (ci := 8) (v := .ref r2_1) (C := RX9) (T := TX9) (N := 6) hx hb hts inX9 hown hK hP k_1 hk_1 rfl 2 (by decide) (hts _ kw_1566) (fun _ h9 => h9) rfl dX9_isWindow_20 ?_
      refine lv_iload_n hx hb dX9_isWindow_23 rfl (lv_at hl 1 rfl) ?_
      refine lv_iconst (v := 1) hx hb dX9_isWindow_24 (by decide) ?_
      refine lv_iadd hx hb dX9_isWindow_25 ?_
      refine lv_topi (fun z_8 ez_8 => ?_)
      obtain ⟨k_9, f_9, hk_9⟩ := gI_of a_r2_1
      refine va_zald hx hb hK hP k_9 2 hk_9 rfl (i_in2 (by have e0 : (0 : Int32).toInt = 0 := (by decide); have e1 : (1 : Int32).toInt = 1 := (by decide); have q_f4_1 := f4_1; have q_fq_a := fq_a; obtain ⟨u_z_8, q_z_8⟩ := i_add ez_8; have q_p0 := p0; have q_px := px; have q_c_4 := i_nlt c_4; obtain ⟨u_z_5, q_z_5⟩ := i_add ez_5; have q_pn := pn; have q_c_7 := i_lt c_7; have g_c2_6 := i_rg c2_6; have g_x1 := i_rg x1; have g_x2 := i_rg x2; have g_z_5 := i_rg z_5; have g_z_8 := i_rg z_8; omega)) dX9_isWindow_26 ?_
      refine lv_topi (fun z_10 ez_10 => ?_)
      have J_51 : ∀ (t_11 : Int32) (H : Heap) (locs : List Loc) (ls : Array Slot), t_11 = 0 ∨ t_11 = 1 → va_P (gD g) cl0 ws H → va_D A ws → va_S A s.heap H locs → lv_has ls 3 [] → W p l e (headSpec (wt yX9_isWindow cX9_isWindow 3 (some .boolean)) ({ frames := 0, cells := 0, slots := 0, locals := 0 })).room s m ([.ref h0, .int x1, .int x2] : List Value).toArray below meth c H locs (0) (0) (MQ below (va_Qi (fun (r : Int32) (u9 : Unit) => r = 0 ∨ r = 1) (gQ0 g A ws) A) ([.ref h0, .int x1, .int x2] : List Value).toArray s (0) (0) A) (F0 m 51 ls [.int t_11]) := by
        intro t_11 H locs ls iv_12 hP hD hS hl
        have hz_t_11 := iv_12
        refine W.widen (k := 0) (n := 0) (Nat.le_of_ble_eq_true rfl) (Nat.le_of_ble_eq_true rfl) ?_
        exact W.zret (v := t_11) hx hb hr (nz hz_t_11) (fun t9 ht9 hW9 => ⟨⟨_, (), rfl, hz_t_11, ⟨by rw [ht9]; exact hP, hD⟩⟩, hS.F ht9⟩) hS.2.2 dX9_isWindow_51
      have J_50 : ∀  (H : Heap) (locs : List Loc) (ls : Array Slot), va_P (gD g) cl0 ws H → va_D A ws → va_S A s.heap H locs → lv_has ls 3 [] → W p l e (headSpec (wt yX9_isWindow cX9_isWindow 3 (some .boolean)) ({ frames := 0, cells := 0, slots := 0, locals := 0 })).room s m ([.ref h0, .int x1, .int x2] : List Value).toArray below meth c H locs (0) (0) (MQ below (va_Qi (fun (r : Int32) (u9 : Unit) => r = 0 ∨ r = 1) (gQ0 g A ws) A) ([.ref h0, .int x1, .int x2] : List Value).toArray s (0) (0) A) (F0 m 50 ls []) := by
        intro  H locs ls  hP hD hS hl
        refine lv_iconst (v := 0) hx hb dX9_isWindow_50 (by decide) ?_
        exact J_51 (0) H locs ls (Or.inl rfl) hP hD hS (lv_sub hl [] rfl)
      refine lv_if_ne (tgt := 50) hx hb dX9_isWindow_27 (by decide) (fun c_17 => ?_) (fun c_17 => ?_)
      · exact J_50  _ _ ls  hP hD hS (lv_sub hl [] rfl)
      · refine lv_iload_n hx hb dX9_isWindow_30 rfl (lv_at hl 2 rfl) ?_
        refine lv_iconst (v := 3) hx hb dX9_isWindow_31 (by decide) ?_
        have J_46 : ∀  (H : Heap) (locs : List Loc) (ls : Array Slot), va_P (gD g) cl0 ws H → va_D A ws → va_S A s.heap H locs → lv_has ls 3 [] → W p l e (headSpec (wt yX9_isWindow cX9_isWindow 3 (some .boolean)) ({ frames := 0, cells := 0, slots := 0, locals := 0 })).room s m ([.ref h0, .int x1, .int x2] : List Value).toArray below meth c H locs (0) (0) (MQ below (va_Qi (fun (r : Int32) (u9 : Unit) => r = 0 ∨ r = 1) (gQ0 g A ws) A) ([.ref h0, .int x1, .int x2] : List Value).toArray s (0) (0) A) (F0 m 46 ls []) := by
          intro  H locs ls  hP hD hS hl
          refine lv_iconst (v := 1) hx hb dX9_isWindow_46 (by decide) ?_
          refine lv_goto (tgt := 51) hx hb dX9_isWindow_47 (by decide) ?_
          exact J_51 (1) H locs ls (Or.inr rfl) hP hD hS (lv_sub hl [] rfl)
        refine lv_icmp_lt (tgt := 46) hx hb dX9_isWindow_32 (by decide) (fun c_20 => ?_) (fun c_20 => ?_)
        · exact J_46  _ _ ls  hP hD hS (lv_sub hl [] rfl)
        · refine lv_aload_n hx hb dX9_isWindow_35 rfl (lv_at hl 0 rfl) ?_
          refine va_get (D := gD g) (ci := 8) (v := .ref r2_1) (C := RX9) (T := TX9) (N := 6) hx hb hts inX9 hown hK hP k_1 hk_1 rfl 2 (by decide) (hts _ kw_1566) (fun _ h9 => h9) rfl dX9_isWindow_36 ?_
          refine lv_iload_n hx hb dX9_isWindow_39 rfl (lv_at hl 1 rfl) ?_
          refine lv_iconst (v := 2) hx hb dX9_isWindow_40 (by decide) ?_
          refine lv_iadd hx hb dX9_isWindow_41 ?_
          refine lv_topi (fun z_21 ez_21 => ?_)
          refine va_zald hx hb hK hP k_9 2 hk_9 rfl (i_in2 (by have e0 : (0 : Int32).toInt = 0 := (by decide); have e1 : (1 : Int32).toInt = 1 := (by decide); have e2 : (2 : Int32).toInt = 2 := (by decide); have e3 : (3 : Int32).toInt = 3 := (by decide); have q_f4_1 := f4_1; have q_fq_a := fq_a; obtain ⟨u_z_21, q_z_21⟩ := i_add ez_21; have q_p0 := p0; have q_px := px; have q_c_4 := i_nlt c_4; obtain ⟨u_z_5, q_z_5⟩ := i_add ez_5; obtain ⟨u_z_8, q_z_8⟩ := i_add ez_8; have q_pn := pn; have q_c_7 := i_lt c_7; have q_c_20 := i_nlt c_20; have g_c2_6 := i_rg c2_6; have g_x1 := i_rg x1; have g_x2 := i_rg x2; have g_z_21 := i_rg z_21; have g_z_5 := i_rg z_5; have g_z_8 := i_rg z_8; omega)) dX9_isWindow_42 ?_
          refine lv_topi (fun z_22 ez_22 => ?_)
          refine lv_if_ne (tgt := 50) hx hb dX9_isWindow_43 (by decide) (fun c_23 => ?_) (fun c_23 => ?_)
          · exact J_50  _ _ ls  hP hD hS (lv_sub hl [] rfl)
          · exact J_46  _ _ ls  hP hD hS (lv_sub hl [] rfl)
    · exact J_17  _ _ ls  hP hD hS (lv_sub hl [] rfl)
set_option maxHeartbeats 1000000 in
set_option maxRecDepth 100000 in
theorem m_X9_pushKind (l : Launch) (g : Gm) (sz : Nat) (ws : va_W) (h0 : Nat) (x1 : Int32) (hG : Good g ws) (o_h0 : gC ws h0 8) : Met l yX9_pushKind (wt yX9_pushKind cX9_pushKind 3 (some .int)) ({ frames := 1, cells := 0, slots := 0, locals := 21 }) (va_Pc [.ref h0, .int x1] (st_G g sz ws)) (va_Qi (fun (r : Int32) (u9 : Unit) => True) (gQ0 g (va_A ws sz) ws) (va_A ws sz)) (0) (0) (va_A ws sz) := by
  refine Met.ofW (cc := cX9_pushKind) (maxL := 3) (ret := (some .int)) (by decide) rfl ?_
  intro p e s m args below meth c s₁ B hml hv
  obtain ⟨rfl, hsz, hP, hK, hD0, hex, hE⟩ := hv
  have hx := B.exec
  have hb := B.bytes
  have hr := B.returns
  have hts0 := atoms_spec (ws := wt yX9_pushKind cX9_pushKind 3 (some .int)) B.pre
  have hts : ∀ w ∈ tb, w.before _ s = true := fun w h => hts0 w (List.mem_cons_of_mem _ h)
  have hown : s.vm.findClass RX9 = some m.cls := findClass_of_methodNamed B.named
  subst hsz
  have hD := hD0.self (sz := s.heap.size)
  generalize hAe : va_A ws s.heap.size = A at hD hE ⊢
  have hA : ∀ q : Nat, s.heap.size ≤ q → A q := fun q h => by rw [← hAe]; exact Or.inr h
  have hS : va_S A s.heap s.heap [] := va_S.rf
  have hl := lv_entry ([.ref h0, .int x1]) (n := 3) (Nat.le_of_ble_eq_true rfl)
  rw [lg_entry_eq]
  generalize (lg_sl ([.ref h0, .int x1]) ++ List.replicate (3 - (lg_sl ([.ref h0, .int x1])).length) Slot.unset).toArray = ls at hl ⊢
  have hl : lv_has ls 3 [(0, .ref h0), (1, .int x1)] := hl
  refine lv_aload_n hx hb dX9_pushKind_0 rfl (lv_at hl 0 rfl) ?_
  obtain ⟨k_1, fs9, hk_1⟩ := gC_of o_h0
  obtain ⟨r0_1, r1_1, n1_1, r2_1, n2_1, r3_1, n3_1, r4_1, n4_1, r5_1, n5_1, rfl, o_r0_1, a_r1_1, f2_1, a_r2_1, f4_1, a_r3_1, f6_1, a_r4_1, f8_1, a_r5_1, f10_1, f11_1, -⟩ := (hG.1 _ _ _ _ hk_1).hX9 rfl
  refine va_get (D := gD g) (ci := 8) (v := .ref r0_1) (C := RX9) (T := TX9) (N := 6) hx hb hts inX9 hown hK hP k_1 hk_1 rfl 0 (by decide) (hts _ kw_1552) (fun _ h9 => h9) rfl dX9_pushKind_1 ?_
  refine lv_iload_n hx hb dX9_pushKind_4 rfl (lv_at hl 1 rfl) ?_
  have hFc := gfree hD hS hA
  obtain ⟨k_2, fs_2, hk_2⟩ := gC_of o_r0_1
  refine va_calli (va_runV (As := [.int x1]) (rest := []) ⟨hx, hb, hml, hown, hts⟩ (m_X8_opAt l g s.heap.size ws r0_1 (x1) hG o_r0_1) (cwV 1 hts (gd_V kw_1596 kw_1513 kw_1514 kw_782 kw_1512) rfl rfl rfl (by decide +kernel) ⟨Nat.le_of_ble_eq_true rfl, Nat.le_of_ble_eq_true rfl⟩) ⟨gblind, va_recv hK hP (ci := 7) (q0 := k_2) rfl hk_2, fun U hU hW9 => gmk hU hW9 hP hK hD hex hE hS hFc⟩ rfl rfl hl.1 rfl (lv_room (Nat.le_of_ble_eq_true rfl)) dX9_pushKind_5 ⟨Nat.le_of_ble_eq_true rfl, Nat.le_of_ble_eq_true rfl⟩) hS (fun q _ h => hFc q h) hFc (fun r_3 u9 t9 H1 locs ht9 hvm9 hw9 hB9 hz9 hk9 hS => ?_)
  have hP : va_P (gD g) cl0 ws H1 := by rw [← ht9]; exact hB9.1
  clear hB9 hz9 hk9 hvm9 ht9 hw9
  generalize H1 = H at hP hS ⊢
  refine lv_istore_n (lv' := [(2, .int r_3), (0, .ref h0), (1, .int x1)]) hx hb dX9_pushKind_8 rfl hl (by decide) rfl (fun ls hl => ?_)
  refine lv_iload_n hx hb dX9_pushKind_9 rfl (lv_at hl 0 rfl) ?_
  refine lv_bipush (v := 17) hx hb dX9_pushKind_10 (by decide) ?_
  have J_30 : ∀ (t_4 : Int32) (H : Heap) (locs : List Loc) (ls : Array Slot), 0 ≤ t_4.toInt ∧ t_4.toInt ≤ 2 → va_P (gD g) cl0 ws H → va_D A ws → va_S A s.heap H locs → lv_has ls 3 [] → W p l e (headSpec (wt yX9_pushKind cX9_pushKind 3 (some .int)) ({ frames := 1, cells := 0, slots := 0, locals := 21 })).room s m ([.ref h0, .int x1] : List Value).toArray below meth c H locs (0) (0) (MQ below (va_Qi (fun (r : Int32) (u9 : Unit) => True) (gQ0 g A ws) A) ([.ref h0, .int x1] : List Value).toArray s (0) (0) A) (F0 m 30 ls [.int t_4]) := by
    intro t_4 H locs ls iv_5 hP hD hS hl
    refine W.widen (k := 0) (n := 0) (Nat.le_of_ble_eq_true rfl) (Nat.le_of_ble_eq_true rfl) ?_
    exact W.iret (v := t_4) hx hb hr (fun t9 ht9 hW9 => ⟨⟨_, (), rfl, trivial, ⟨by rw [ht9]; exact hP, hD⟩⟩, hS.F ht9⟩) hS.2.2 dX9_pushKind_30
  refine lv_icmp_ne (tgt := 19) hx hb dX9_pushKind_12 (by decide) (fun c_8 => ?_) (fun c_8 => ?_)
  · refine lv_iload_n hx hb dX9_pushKind_19 rfl (lv_at hl 0 rfl) ?_
    refine lv_bipush (v := 20) hx hb dX9_pushKind_20 (by decide) ?_
    refine lv_icmp_ne (tgt := 29) hx hb dX9_pushKind_22 (by decide) (fun c_9 => ?_) (fun c_9 => ?_)
    · refine lv_iconst (v := 0) hx hb dX9_pushKind_29 (by decide) ?_
      exact J_30 (0) H locs ls (by have e0 : (0 : Int32).toInt = 0 := (by decide); have g_x1 := i_rg x1; omega) hP hD hS (lv_sub hl [] rfl)
    · refine lv_iconst (v := 2) hx hb dX9_pushKind_25 (by decide) ?_
      refine lv_goto (tgt := 30) hx hb dX9_pushKind_26 (by decide) ?_
      exact J_30 (2) H locs ls (by have e2 : (2 : Int32).toInt = 2 := (by decide); have g_x1 := i_rg x1; omega) hP hD hS (lv_sub hl [] rfl)
  · refine lv_iconst (v := 1) hx hb dX9_pushKind_15 (by decide) ?_
    refine lv_goto (tgt := 30) hx hb dX9_pushKind_16 (by decide) ?_
    exact J_30 (1) H locs ls (by have e1 : (1 : Int32).toInt = 1 := (by decide); have g_x1 := i_rg x1; omega) hP hD hS (lv_sub hl [] rfl)
set_option maxHeartbeats 1000000 in
set_option maxRecDepth 100000 in
theorem m_X9_putPush (l : Launch) (g : Gm) (sz : Nat) (ws : va_W) (h0 : Nat) (x1 : Int32) (x2 : Int32) (y3 : Int64) (hG : Good g ws) (o_h0 : gC ws h0 8) : Met l yX9_putPush (wt yX9_putPush cX9_putPush 5 none) ({ frames := 1, cells := 0, slots := 0, locals := 24 }) (va_Pc [.ref h0, .int x1, .int x2, .long y3] (st_G g sz ws)) (va_Qv (fun (u9 : va_W) => True) (gQ1 g [] [(7, 0), (7, 1)] none (va_A ws sz) ws) (va_A ws sz)) (0) (0) (va_A ws sz) := by
  refine Met.ofW (cc := cX9_putPush) (maxL := 5) (ret := none) (by decide) rfl ?_
  intro p e s m args below meth c s₁ B hml hv
  obtain ⟨rfl, hsz, hP, hK, hD0, hex, hE⟩ := hv
  have hx := B.exec
  have hb := B.bytes
  have hr := B.returns
  have hts0 := atoms_spec (ws := wt yX9_putPush cX9_putPush 5 none) B.pre
  have hts : ∀ w ∈ tb, w.before _ s = true := fun w h => hts0 w (List.mem_cons_of_mem _ h)
  have hown : s.vm.findClass RX9 = some m.cls := findClass_of_methodNamed B.named
  subst hsz
  have hD := hD0.self (sz := s.heap.size)
  generalize hAe : va_A ws s.heap.size = A at hD hE ⊢
  have hA : ∀ q : Nat, s.heap.size ≤ q → A q := fun q h => by rw [← hAe]; exact Or.inr h
  have hS : va_S A s.heap s.heap [] := va_S.rf
  have hl := lv_entry ([.ref h0, .int x1, .int x2, .long y3]) (n := 5) (Nat.le_of_ble_eq_true rfl)
  rw [lg_entry_eq]
  generalize (lg_sl ([.ref h0, .int x1, .int x2, .long y3]) ++ List.replicate (5 - (lg_sl ([.ref h0, .int x1, .int x2, .long y3])).length) Slot.unset).toArray = ls at hl ⊢
  have hl : lv_has ls 5 [(0, .ref h0), (1, .int x1), (2, .int x2), (3, .long y3)] := hl
  refine lv_aload_n hx hb dX9_putPush_0 rfl (lv_at hl 0 rfl) ?_
  obtain ⟨k_1, fs9, hk_1⟩ := gC_of o_h0
  obtain ⟨r0_1, r1_1, n1_1, r2_1, n2_1, r3_1, n3_1, r4_1, n4_1, r5_1, n5_1, rfl, o_r0_1, a_r1_1, f2_1, a_r2_1, f4_1, a_r3_1, f6_1, a_r4_1, f8_1, a_r5_1, f10_1, f11_1, -⟩ := (hG.1 _ _ _ _ hk_1).hX9 rfl
  refine va_get (D := gD g) (ci := 8) (v := .ref r0_1) (C := RX9) (T := TX9) (N := 6) hx hb hts inX9 hown hK hP k_1 hk_1 rfl 0 (by decide) (hts _ kw_1552) (fun _ h9 => h9) rfl dX9_putPush_1 ?_
  refine lv_iload_n hx hb dX9_putPush_4 rfl (lv_at hl 1 rfl) ?_
  refine lv_iload_n hx hb dX9_putPush_5 rfl (lv_at hl 2 rfl) ?_
  refine lv_iconst (v := 2) hx hb dX9_putPush_6 (by decide) ?_
  have J_17 : ∀ (t_2 : Int32) (H : Heap) (locs : List Loc) (ls : Array Slot), 17 ≤ t_2.toInt ∧ t_2.toInt ≤ 20 → va_P (gD g) cl0 ws H → va_D A ws → va_S A s.heap H locs → lv_has ls 5 [(3, .long y3)] → W p l e (headSpec (wt yX9_putPush cX9_putPush 5 none) ({ frames := 1, cells := 0, slots := 0, locals := 24 })).room s m ([.ref h0, .int x1, .int x2, .long y3] : List Value).toArray below meth c H locs (0) (0) (MQ below (va_Qv (fun (u9 : va_W) => True) (gQ1 g [] [(7, 0), (7, 1)] none A ws) A) ([.ref h0, .int x1, .int x2, .long y3] : List Value).toArray s (0) (0) A) (F0 m 17 ls [.int t_2, .int x1, .ref r0_1]) := by
    intro t_2 H locs ls iv_3 hP hD hS hl
    refine lv_lload_n hx hb dX9_putPush_17 rfl (lv_at hl 0 rfl) ?_
    have hFc := gfree hD hS hA
    obtain ⟨k_6, fs_6, hk_6⟩ := gC_of o_r0_1
    refine va_callv (va_runV (As := [.int x1, .int t_2, .long y3]) (rest := []) ⟨hx, hb, hml, hown, hts⟩ (m_X8_set l g H.size ws r0_1 (x1) (t_2) (y3) hG o_r0_1) (cwV 3 hts (gd_V kw_1600 kw_1523 kw_1524 kw_782 kw_1522) rfl rfl rfl (by decide +kernel) ⟨Nat.le_of_ble_eq_true rfl, Nat.le_of_ble_eq_true rfl⟩) ⟨gblind, va_recv hK hP (ci := 7) (q0 := k_6) rfl hk_6, fun U hU hW9 => gmk hU hW9 hP hK hD hex hE hS hFc⟩ rfl rfl hl.1 rfl (lv_room (Nat.le_of_ble_eq_true rfl)) dX9_putPush_18 ⟨Nat.le_of_ble_eq_true rfl, Nat.le_of_ble_eq_true rfl⟩) hS (fun q _ h => hFc q h) hFc (fun  ws_7 t9 H1 locs ht9 hvm9 hw9 hB9 hz9 hk9 hS => ?_)
    obtain ⟨E_8, Fr_9, hG, hP1, hD1⟩ := hB9
    have hP : va_P (gD g) cl0 ws_7 H1 := by rw [← ht9]; exact hP1
    have hD : va_D A ws_7 := hD1.weaken (fun _ _ _ h => hFc _ h)
    clear hP1 hD1 hz9 hk9 hvm9 ht9 hw9
    generalize H1 = H at hP hS ⊢
    have aa_12 := a_r1_1
    have aa_13 := a_r2_1
    have aa_14 := a_r3_1
    have aa_15 := a_r4_1
    have aa_16 := a_r5_1
    have o_h0 := E_8.1 _ _ o_h0
    refine W.widen (k := 0) (n := 0) (Nat.le_of_ble_eq_true rfl) (Nat.le_of_ble_eq_true rfl) ?_
    exact W.vret hx hb hr (fun t9 ht9 hW9 => ⟨⟨ws_7, rfl, trivial, ⟨E_8, (gF.mo (F' := []) (C' := [(7, 0), (7, 1)]) (S' := none) Fr_9 (fun _ h => h) (fun _ h => h) (Or.inl rfl)), hG, by rw [ht9]; exact hP, hD⟩⟩, hS.F ht9⟩) hS.2.2 dX9_putPush_21
  refine lv_icmp_ne (tgt := 15) hx hb dX9_putPush_7 (by decide) (fun c_17 => ?_) (fun c_17 => ?_)
  · refine lv_bipush (v := 17) hx hb dX9_putPush_15 (by decide) ?_
    exact J_17 (17) _ _ ls (by have e2 : (2 : Int32).toInt = 2 := (by decide); have e17 : (17 : Int32).toInt = 17 := (by decide); have q_c_17 := i_ne c_17; have g_x1 := i_rg x1; have g_x2 := i_rg x2; omega) hP hD hS (lv_sub hl [3] rfl)
  · refine lv_bipush (v := 20) hx hb dX9_putPush_10 (by decide) ?_
    refine lv_goto (tgt := 17) hx hb dX9_putPush_12 (by decide) ?_
    exact J_17 (20) _ _ ls (by have e2 : (2 : Int32).toInt = 2 := (by decide); have e20 : (20 : Int32).toInt = 20 := (by decide); have q_c_17 := i_eq c_17; have g_x1 := i_rg x1; have g_x2 := i_rg x2; omega) hP hD hS (lv_sub hl [3] rfl)
set_option maxHeartbeats 1000000 in
set_option maxRecDepth 100000 in
theorem m_X9_isFolded (l : Launch) (g : Gm) (sz : Nat) (ws : va_W) (h0 : Nat) (x1 : Int32) (hG : Good g ws) (o_h0 : gC ws h0 8) (fp_a : gP ws h0 (fun fs => ∀ (rn n : Nat), fs[2]? = some (.ref rn) → gI ws rn g.cZ n → 1297 ≤ n)) (fp_b : gP ws h0 (fun fs => ∀ (rn n : Nat), fs[3]? = some (.ref rn) → gI ws rn g.cZ n → 1297 ≤ n)) (fp_d : gP ws h0 (fun fs => ∀ (rn n : Nat), fs[4]? = some (.ref rn) → gI ws rn g.cI n → 1297 ≤ n)) (fp_f : gP ws h0 (fun fs => ∀ (rn n : Nat), fs[5]? = some (.ref rn) → gI ws rn g.cI n → 1297 ≤ n)) (p0 : 0 ≤ x1.toInt) (px : x1.toInt ≤ 1300) : Met l yX9_isFolded (wt yX9_isFolded cX9_isFolded 3 (some .boolean)) ({ frames := 3, cells := 0, slots := 0, locals := 74 }) (va_Pc [.ref h0, .int x1] (st_G g sz ws)) (va_Qi (fun (r : Int32) (u9 : va_W) => r = 0 ∨ r = 1) (gQ1 g [(7, 2), (7, 9)] [(7, 0), (7, 1), (7, 3), (7, 5), (7, 6), (7, 7), (7, 8)] none (va_A ws sz) ws) (va_A ws sz)) (0) (0) (va_A ws sz) := by
  refine Met.ofW (cc := cX9_isFolded) (maxL := 3) (ret := (some .boolean)) (by decide) rfl ?_
  intro p e s m args below meth c s₁ B hml hv
  obtain ⟨rfl, hsz, hP, hK, hD0, hex, hE⟩ := hv
  have hx := B.exec
  have hb := B.bytes
  have hr := B.returns
  have hts0 := atoms_spec (ws := wt yX9_isFolded cX9_isFolded 3 (some .boolean)) B.pre
  have hts : ∀ w ∈ tb, w.before _ s = true := fun w h => hts0 w (List.mem_cons_of_mem _ h)
  have hown : s.vm.findClass RX9 = some m.cls := findClass_of_methodNamed B.named
  subst hsz
  have hD := hD0.self (sz := s.heap.size)
  generalize hAe : va_A ws s.heap.size = A at hD hE ⊢
  have hA : ∀ q : Nat, s.heap.size ≤ q → A q := fun q h => by rw [← hAe]; exact Or.inr h
  have hS : va_S A s.heap s.heap [] := va_S.rf
  have hl := lv_entry ([.ref h0, .int x1]) (n := 3) (Nat.le_of_ble_eq_true rfl)
  rw [lg_entry_eq]
  generalize (lg_sl ([.ref h0, .int x1]) ++ List.replicate (3 - (lg_sl ([.ref h0, .int x1])).length) Slot.unset).toArray = ls at hl ⊢
  have hl : lv_has ls 3 [(0, .ref h0), (1, .int x1)] := hl
  obtain ⟨k_1, fs9, hk_1⟩ := gC_of o_h0
  obtain ⟨r0_1, r1_1, n1_1, r2_1, n2_1, r3_1, n3_1, r4_1, n4_1, r5_1, n5_1, rfl, o_r0_1, a_r1_1, f2_1, a_r2_1, f4_1, a_r3_1, f6_1, a_r4_1, f8_1, a_r5_1, f10_1, f11_1, -⟩ := (hG.1 _ _ _ _ hk_1).hX9 rfl
  have fq_a := fp_a _ _ _ hk_1 _ _ rfl a_r2_1
  have fq_b := fp_b _ _ _ hk_1 _ _ rfl a_r3_1
  have fq_d := fp_d _ _ _ hk_1 _ _ rfl a_r4_1
  have fq_f := fp_f _ _ _ hk_1 _ _ rfl a_r5_1
  refine lv_aload_n hx hb dX9_isFolded_0 rfl (lv_at hl 0 rfl) ?_
  refine va_get (D := gD g) (ci := 8) (v := .ref r0_1) (C := RX9) (T := TX9) (N := 6) hx hb hts inX9 hown hK hP k_1 hk_1 rfl 0 (by decide) (hts _ kw_1552) (fun _ h9 => h9) rfl dX9_isFolded_1 ?_
  refine lv_iload_n hx hb dX9_isFolded_4 rfl (lv_at hl 1 rfl) ?_
  refine lv_iconst (v := 2) hx hb dX9_isFolded_5 (by decide) ?_
  refine lv_iadd hx hb dX9_isFolded_6 ?_
  refine lv_topi (fun z_2 ez_2 => ?_)
  have hFc := gfree hD hS hA
  obtain ⟨k_3, fs_3, hk_3⟩ := gC_of o_r0_1
  refine va_calli (va_runV (As := [.int z_2]) (rest := []) ⟨hx, hb, hml, hown, hts⟩ (m_X8_opAt l g s.heap.size ws r0_1 (z_2) hG o_r0_1) (cwV 1 hts (gd_V kw_1596 kw_1513 kw_1514 kw_782 kw_1512) rfl rfl rfl (by decide +kernel) ⟨Nat.le_of_ble_eq_true rfl, Nat.le_of_ble_eq_true rfl⟩) ⟨gblind, va_recv hK hP (ci := 7) (q0 := k_3) rfl hk_3, fun U hU hW9 => gmk hU hW9 hP hK hD hex hE hS hFc⟩ rfl rfl hl.1 rfl (lv_room (Nat.le_of_ble_eq_true rfl)) dX9_isFolded_7 ⟨Nat.le_of_ble_eq_true rfl, Nat.le_of_ble_eq_true rfl⟩) hS (fun q _ h => hFc q h) hFc (fun r_4 u9 t9 H1 locs ht9 hvm9 hw9 hB9 hz9 hk9 hS => ?_)
  have hP : va_P (gD g) cl0 ws H1 := by rw [← ht9]; exact hB9.1
  clear hB9 hz9 hk9 hvm9 ht9 hw9
  generalize H1 = H at hP hS ⊢
  refine lv_istore_n (lv' := [(2, .int r_4), (0, .ref h0), (1, .int x1)]) hx hb dX9_isFolded_10 rfl hl (by decide) rfl (fun ls hl => ?_)
  refine lv_iload_n hx hb dX9_isFolded_11 rfl (lv_at hl 0 rfl) ?_
  have hFc := gfree hD hS hA
  refine va_calli (va_runS (As := [.int r_4]) (rest := []) ⟨hx, hb, hml, hown, hts⟩ (m_X6_isBinary l g H.size ws (r_4) hG ) (va_cwS 1 hts (gd_S kw_1621 kw_1221 kw_1207 kw_1220) rfl rfl rfl (by decide +kernel) ⟨Nat.le_of_ble_eq_true rfl, Nat.le_of_ble_eq_true rfl⟩) ⟨gblind, fun U hU hW9 => gmk hU hW9 hP hK hD hex hE hS hFc⟩ rfl rfl hl.1 rfl (lv_room (Nat.le_of_ble_eq_true rfl)) dX9_isFolded_12 ⟨Nat.le_of_ble_eq_true rfl, Nat.le_of_ble_eq_true rfl⟩) hS (fun q _ h => hFc q h) hFc (fun r_5 u9 t9 H1 locs ht9 hvm9 hw9 hB9 hz9 hk9 hS => ?_)
  have hP : va_P (gD g) cl0 ws H1 := by rw [← ht9]; exact hB9.1
  have hz_r_5 : r_5 = 0 ∨ r_5 = 1 := hw9
  clear hB9 hz9 hk9 hvm9 ht9 hw9
  generalize H1 = H at hP hS ⊢
  have J_89 : ∀  (H : Heap) (locs : List Loc) (ls : Array Slot), va_P (gD g) cl0 ws H → va_D A ws → va_S A s.heap H locs → lv_has ls 3 [] → W p l e (headSpec (wt yX9_isFolded cX9_isFolded 3 (some .boolean)) ({ frames := 3, cells := 0, slots := 0, locals := 74 })).room s m ([.ref h0, .int x1] : List Value).toArray below meth c H locs (0) (0) (MQ below (va_Qi (fun (r : Int32) (u9 : va_W) => r = 0 ∨ r = 1) (gQ1 g [(7, 2), (7, 9)] [(7, 0), (7, 1), (7, 3), (7, 5), (7, 6), (7, 7), (7, 8)] none A ws) A) ([.ref h0, .int x1] : List Value).toArray s (0) (0) A) (F0 m 89 ls []) := by
    intro  H locs ls  hP hD hS hl
    refine lv_iconst (v := 0) hx hb dX9_isFolded_89 (by decide) ?_
    refine W.widen (k := 0) (n := 0) (Nat.le_of_ble_eq_true rfl) (Nat.le_of_ble_eq_true rfl) ?_
    exact W.zret (v := 0) hx hb hr (nz (Or.inl rfl)) (fun t9 ht9 hW9 => ⟨⟨_, ws, rfl, (Or.inl rfl), ⟨gE.rf, gF.rf, hG, by rw [ht9]; exact hP, hD⟩⟩, hS.F ht9⟩) hS.2.2 dX9_isFolded_90
  refine lv_if_eq (tgt := 89) hx hb dX9_isFolded_15 (by decide) (fun c_8 => ?_) (fun c_8 => ?_)
  · exact J_89  H locs ls  hP hD hS (lv_sub hl [] rfl)
  · refine lv_aload_n hx hb dX9_isFolded_18 rfl (lv_at hl 1 rfl) ?_
    refine lv_iload_n hx hb dX9_isFolded_19 rfl (lv_at hl 2 rfl) ?_
    have hFc := gfree hD hS hA
    refine va_calli (va_runV (As := [.int x1]) (rest := []) ⟨hx, hb, hml, hown, hts⟩ (m_X9_pushKind l g H.size ws h0 (x1) hG o_h0) (cwV 1 hts (gd_V kw_1622 kw_1696 kw_1697 kw_404 kw_1695) rfl rfl rfl (by decide +kernel) ⟨Nat.le_of_ble_eq_true rfl, Nat.le_of_ble_eq_true rfl⟩) ⟨gblind, va_recv hK hP (ci := 8) (q0 := k_1) rfl hk_1, fun U hU hW9 => gmk hU hW9 hP hK hD hex hE hS hFc⟩ rfl rfl hl.1 rfl (lv_room (Nat.le_of_ble_eq_true rfl)) dX9_isFolded_20 ⟨Nat.le_of_ble_eq_true rfl, Nat.le_of_ble_eq_true rfl⟩) hS (fun q _ h => hFc q h) hFc (fun r_9 u9 t9 H1 locs ht9 hvm9 hw9 hB9 hz9 hk9 hS => ?_)
    have hP : va_P (gD g) cl0 ws H1 := by rw [← ht9]; exact hB9.1
    clear hB9 hz9 hk9 hvm9 ht9 hw9
    generalize H1 = H at hP hS ⊢
    refine lv_if_eq (tgt := 89) hx hb dX9_isFolded_23 (by decide) (fun c_10 => ?_) (fun c_10 => ?_)
    · exact J_89  H locs ls  hP hD hS (lv_sub hl [] rfl)
    · refine lv_aload_n hx hb dX9_isFolded_26 rfl (lv_at hl 1 rfl) ?_
      refine lv_iload_n hx hb dX9_isFolded_27 rfl (lv_at hl 2 rfl) ?_
      refine lv_iconst (v := 1) hx hb dX9_isFolded_28 (by decide) ?_
      refine lv_iadd hx hb dX9_isFolded_29 ?_
      refine lv_topi (fun z_11 ez_11 => ?_)
      have hFc := gfree hD hS hA
      refine va_calli (va_runV (As := [.int z_11]) (rest := []) ⟨hx, hb, hml, hown, hts⟩ (m_X9_pushKind l g H.size ws h0 (z_11) hG o_h0) (cwV 1 hts (gd_V kw_1622 kw_1696 kw_1697 kw_404 kw_1695) rfl rfl rfl (by decide +kernel) ⟨Nat.le_of_ble_eq_true rfl, Nat.le_of_ble_eq_true rfl⟩) ⟨gblind, va_recv hK hP (ci := 8) (q0 := k_1) rfl hk_1, fun U hU hW9 => gmk hU hW9 hP hK hD hex hE hS hFc⟩ rfl rfl hl.1 rfl (lv_room (Nat.le_of_ble_eq_true rfl)) dX9_isFolded_30 ⟨Nat.le_of_ble_eq_true rfl, Nat.le_of_ble_eq_true rfl⟩) hS (fun q _ h => hFc q h) hFc (fun r_12 u9 t9 H1 locs ht9 hvm9 hw9 hB9 hz9 hk9 hS => ?_)
      have hP : va_P (gD g) cl0 ws H1 := by rw [← ht9]; exact hB9.1
      clear hB9 hz9 hk9 hvm9 ht9 hw9
      generalize H1 = H at hP hS ⊢
      refine lv_if_eq (tgt := 89) hx hb dX9_isFolded_33 (by decide) (fun c_13 => ?_) (fun c_13 => ?_)
      · exact J_89  H locs ls  hP hD hS (lv_sub hl [] rfl)
      · refine lv_aload_n hx hb dX9_isFolded_36 rfl (lv_at hl 1 rfl) ?_
        refine lv_iload_n hx hb dX9_isFolded_37 rfl (lv_at hl 2 rfl) ?_
        refine lv_iconst (v := 3) hx hb dX9_isFolded_38 (by decide) ?_
        have hFc := gfree hD hS hA
        refine va_calli (va_runV (As := [.int x1, .int 3]) (rest := []) ⟨hx, hb, hml, hown, hts⟩ (m_X9_isWindow l g H.size ws h0 (x1) (3) hG o_h0 (gP_of hD hk_1 (fun p90 q90 e90 g90 => by cases e90; have z90 := gI_n hD a_r2_1 g90; subst z90; exact (by have q_f4_1 := f4_1; have q_fq_a := fq_a; omega))) (gP_of hD hk_1 (fun p90 q90 e90 g90 => by cases e90; have z90 := gI_n hD a_r3_1 g90; subst z90; exact (by have q_f6_1 := f6_1; have q_fq_b := fq_b; omega))) (gP_of hD hk_1 (fun p90 q90 e90 g90 => by cases e90; have z90 := gI_n hD a_r4_1 g90; subst z90; exact (by have q_f8_1 := f8_1; have q_fq_d := fq_d; omega))) (gP_of hD hk_1 (fun p90 q90 e90 g90 => by cases e90; have z90 := gI_n hD a_r5_1 g90; subst z90; exact (by have q_f10_1 := f10_1; have q_fq_f := fq_f; omega))) (by have e1 : (1 : Int32).toInt = 1 := (by decide); have e2 : (2 : Int32).toInt = 2 := (by decide); have q_p0 := p0; have q_px := px; obtain ⟨u_z_2, q_z_2⟩ := i_add ez_2; obtain ⟨u_z_11, q_z_11⟩ := i_add ez_11; have g_x1 := i_rg x1; have g_z_11 := i_rg z_11; have g_z_2 := i_rg z_2; omega) (by have e1 : (1 : Int32).toInt = 1 := (by decide); have e2 : (2 : Int32).toInt = 2 := (by decide); have q_p0 := p0; have q_px := px; obtain ⟨u_z_2, q_z_2⟩ := i_add ez_2; obtain ⟨u_z_11, q_z_11⟩ := i_add ez_11; have g_x1 := i_rg x1; have g_z_11 := i_rg z_11; have g_z_2 := i_rg z_2; omega) (by have e3 : (3 : Int32).toInt = 3 := (by decide); omega)) (cwV 2 hts (gd_V kw_1610 kw_1658 kw_1659 kw_404 kw_1657) rfl rfl rfl (by decide +kernel) ⟨Nat.le_of_ble_eq_true rfl, Nat.le_of_ble_eq_true rfl⟩) ⟨gblind, va_recv hK hP (ci := 8) (q0 := k_1) rfl hk_1, fun U hU hW9 => gmk hU hW9 hP hK hD hex hE hS hFc⟩ rfl rfl hl.1 rfl (lv_room (Nat.le_of_ble_eq_true rfl)) dX9_isFolded_39 ⟨Nat.le_of_ble_eq_true rfl, Nat.le_of_ble_eq_true rfl⟩) hS (fun q _ h => hFc q h) hFc (fun r_14 u9 t9 H1 locs ht9 hvm9 hw9 hB9 hz9 hk9 hS => ?_)
        have hP : va_P (gD g) cl0 ws H1 := by rw [← ht9]; exact hB9.1
        have hz_r_14 : r_14 = 0 ∨ r_14 = 1 := hw9
        clear hB9 hz9 hk9 hvm9 ht9 hw9
        generalize H1 = H at hP hS ⊢
        refine lv_if_eq (tgt := 89) hx hb dX9_isFolded_42 (by decide) (fun c_15 => ?_) (fun c_15 => ?_)
        · exact J_89  H locs ls  hP hD hS (lv_sub hl [] rfl)
        · refine lv_iload_n hx hb dX9_isFolded_45 rfl (lv_at hl 0 rfl) ?_
          have hFc := gfree hD hS hA
          refine va_calli (va_runS (As := [.int r_4]) (rest := []) ⟨hx, hb, hml, hown, hts⟩ (m_X6_takes l g H.size ws (r_4) hG ) (va_cwS 1 hts (gd_S kw_1623 kw_1255 kw_1207 kw_1254) rfl rfl rfl (by decide +kernel) ⟨Nat.le_of_ble_eq_true rfl, Nat.le_of_ble_eq_true rfl⟩) ⟨gblind, fun U hU hW9 => gmk hU hW9 hP hK hD hex hE hS hFc⟩ rfl rfl hl.1 rfl (lv_room (Nat.le_of_ble_eq_true rfl)) dX9_isFolded_46 ⟨Nat.le_of_ble_eq_true rfl, Nat.le_of_ble_eq_true rfl⟩) hS (fun q _ h => hFc q h) hFc (fun r_16 u9 t9 H1 locs ht9 hvm9 hw9 hB9 hz9 hk9 hS => ?_)
          have hP : va_P (gD g) cl0 ws H1 := by rw [← ht9]; exact hB9.1
          clear hB9 hz9 hk9 hvm9 ht9 hw9
          generalize H1 = H at hP hS ⊢
          refine lv_aload_n hx hb dX9_isFolded_49 rfl (lv_at hl 1 rfl) ?_
          refine lv_iload_n hx hb dX9_isFolded_50 rfl (lv_at hl 2 rfl) ?_
          have hFc := gfree hD hS hA
          refine va_calli (va_runV (As := [.int x1]) (rest := [.int r_16]) ⟨hx, hb, hml, hown, hts⟩ (m_X9_pushKind l g H.size ws h0 (x1) hG o_h0) (cwV 1 hts (gd_V kw_1622 kw_1696 kw_1697 kw_404 kw_1695) rfl rfl rfl (by decide +kernel) ⟨Nat.le_of_ble_eq_true rfl, Nat.le_of_ble_eq_true rfl⟩) ⟨gblind, va_recv hK hP (ci := 8) (q0 := k_1) rfl hk_1, fun U hU hW9 => gmk hU hW9 hP hK hD hex hE hS hFc⟩ rfl rfl hl.1 rfl (lv_room (Nat.le_of_ble_eq_true rfl)) dX9_isFolded_51 ⟨Nat.le_of_ble_eq_true rfl, Nat.le_of_ble_eq_true rfl⟩) hS (fun q _ h => hFc q h) hFc (fun r_17 u9 t9 H1 locs ht9 hvm9 hw9 hB9 hz9 hk9 hS => ?_)
          have hP : va_P (gD g) cl0 ws H1 := by rw [← ht9]; exact hB9.1
          clear hB9 hz9 hk9 hvm9 ht9 hw9
          generalize H1 = H at hP hS ⊢
          refine lv_iconst (v := 4) hx hb dX9_isFolded_54 (by decide) ?_
          refine lv_ishl hx hb dX9_isFolded_55 ?_
          refine lv_topi (fun z_18 ez_18 => ?_)
          refine lv_aload_n hx hb dX9_isFolded_56 rfl (lv_at hl 1 rfl) ?_
          refine lv_iload_n hx hb dX9_isFolded_57 rfl (lv_at hl 2 rfl) ?_
          refine lv_iconst (v := 1) hx hb dX9_isFolded_58 (by decide) ?_
          refine lv_iadd hx hb dX9_isFolded_59 ?_
          refine lv_topi (fun z_19 ez_19 => ?_)
          have hFc := gfree hD hS hA
          refine va_calli (va_runV (As := [.int z_19]) (rest := [.int z_18, .int r_16]) ⟨hx, hb, hml, hown, hts⟩ (m_X9_pushKind l g H.size ws h0 (z_19) hG o_h0) (cwV 1 hts (gd_V kw_1622 kw_1696 kw_1697 kw_404 kw_1695) rfl rfl rfl (by decide +kernel) ⟨Nat.le_of_ble_eq_true rfl, Nat.le_of_ble_eq_true rfl⟩) ⟨gblind, va_recv hK hP (ci := 8) (q0 := k_1) rfl hk_1, fun U hU hW9 => gmk hU hW9 hP hK hD hex hE hS hFc⟩ rfl rfl hl.1 rfl (lv_room (Nat.le_of_ble_eq_true rfl)) dX9_isFolded_60 ⟨Nat.le_of_ble_eq_true rfl, Nat.le_of_ble_eq_true rfl⟩) hS (fun q _ h => hFc q h) hFc (fun r_20 u9 t9 H1 locs ht9 hvm9 hw9 hB9 hz9 hk9 hS => ?_)
          have hP : va_P (gD g) cl0 ws H1 := by rw [← ht9]; exact hB9.1
          clear hB9 hz9 hk9 hvm9 ht9 hw9
          generalize H1 = H at hP hS ⊢
          refine lv_ior hx hb dX9_isFolded_63 ?_
          refine lv_topi (fun z_21 ez_21 => ?_)
          refine lv_icmp_ne (tgt := 89) hx hb dX9_isFolded_64 (by decide) (fun c_22 => ?_) (fun c_22 => ?_)
          · exact J_89  H locs ls  hP hD hS (lv_sub hl [] rfl)
          · refine lv_iload_n hx hb dX9_isFolded_67 rfl (lv_at hl 0 rfl) ?_
            have hFc := gfree hD hS hA
            refine va_calli (va_runS (As := [.int r_4]) (rest := []) ⟨hx, hb, hml, hown, hts⟩ (m_X6_isDivision l g H.size ws (r_4) hG ) (va_cwS 1 hts (gd_S kw_1624 kw_1223 kw_1207 kw_1222) rfl rfl rfl (by decide +kernel) ⟨Nat.le_of_ble_eq_true rfl, Nat.le_of_ble_eq_true rfl⟩) ⟨gblind, fun U hU hW9 => gmk hU hW9 hP hK hD hex hE hS hFc⟩ rfl rfl hl.1 rfl (lv_room (Nat.le_of_ble_eq_true rfl)) dX9_isFolded_68 ⟨Nat.le_of_ble_eq_true rfl, Nat.le_of_ble_eq_true rfl⟩) hS (fun q _ h => hFc q h) hFc (fun r_23 u9 t9 H1 locs ht9 hvm9 hw9 hB9 hz9 hk9 hS => ?_)
            have hP : va_P (gD g) cl0 ws H1 := by rw [← ht9]; exact hB9.1
            have hz_r_23 : r_23 = 0 ∨ r_23 = 1 := hw9
            clear hB9 hz9 hk9 hvm9 ht9 hw9
            generalize H1 = H at hP hS ⊢
            have J_91 : ∀  (H : Heap) (locs : List Loc) (ls : Array Slot), va_P (gD g) cl0 ws H → va_D A ws → va_S A s.heap H locs → lv_has ls 3 [(0, .ref h0), (1, .int x1), (2, .int r_4)] → W p l e (headSpec (wt yX9_isFolded cX9_isFolded 3 (some .boolean)) ({ frames := 3, cells := 0, slots := 0, locals := 74 })).room s m ([.ref h0, .int x1] : List Value).toArray below meth c H locs (0) (0) (MQ below (va_Qi (fun (r : Int32) (u9 : va_W) => r = 0 ∨ r = 1) (gQ1 g [(7, 2), (7, 9)] [(7, 0), (7, 1), (7, 3), (7, 5), (7, 6), (7, 7), (7, 8)] none A ws) A) ([.ref h0, .int x1] : List Value).toArray s (0) (0) A) (F0 m 91 ls []) := by
              intro  H locs ls  hP hD hS hl
              refine lv_aload_n hx hb dX9_isFolded_91 rfl (lv_at hl 0 rfl) ?_
              refine lv_iload_n hx hb dX9_isFolded_92 rfl (lv_at hl 1 rfl) ?_
              refine lv_iload_n hx hb dX9_isFolded_93 rfl (lv_at hl 2 rfl) ?_
              have hFc := gfree hD hS hA
              refine va_calli (va_runS (As := [.int r_4]) (rest := [.int x1, .ref h0]) ⟨hx, hb, hml, hown, hts⟩ (m_X6_gives l g H.size ws (r_4) hG ) (va_cwS 1 hts (gd_S kw_1625 kw_1216 kw_1207 kw_1215) rfl rfl rfl (by decide +kernel) ⟨Nat.le_of_ble_eq_true rfl, Nat.le_of_ble_eq_true rfl⟩) ⟨gblind, fun U hU hW9 => gmk hU hW9 hP hK hD hex hE hS hFc⟩ rfl rfl hl.1 rfl (lv_room (Nat.le_of_ble_eq_true rfl)) dX9_isFolded_94 ⟨Nat.le_of_ble_eq_true rfl, Nat.le_of_ble_eq_true rfl⟩) hS (fun q _ h => hFc q h) hFc (fun r_26 u9 t9 H1 locs ht9 hvm9 hw9 hB9 hz9 hk9 hS => ?_)
              have hP : va_P (gD g) cl0 ws H1 := by rw [← ht9]; exact hB9.1
              clear hB9 hz9 hk9 hvm9 ht9 hw9
              generalize H1 = H at hP hS ⊢
              refine lv_iload_n hx hb dX9_isFolded_97 rfl (lv_at hl 2 rfl) ?_
              refine lv_aload_n hx hb dX9_isFolded_98 rfl (lv_at hl 0 rfl) ?_
              refine va_get (D := gD g) (ci := 8) (v := .ref r0_1) (C := RX9) (T := TX9) (N := 6) hx hb hts inX9 hown hK hP k_1 hk_1 rfl 0 (by decide) (hts _ kw_1552) (fun _ h9 => h9) rfl dX9_isFolded_99 ?_
              refine lv_iload_n hx hb dX9_isFolded_102 rfl (lv_at hl 1 rfl) ?_
              have hFc := gfree hD hS hA
              obtain ⟨k_27, fs_27, hk_27⟩ := gC_of o_r0_1
              refine va_calll (va_runV (As := [.int x1]) (rest := [.int r_4, .int r_26, .int x1, .ref h0]) ⟨hx, hb, hml, hown, hts⟩ (m_X8_argAt l g H.size ws r0_1 (x1) hG o_r0_1) (cwV 1 hts (gd_V kw_1605 kw_1476 kw_1477 kw_782 kw_1475) rfl rfl rfl (by decide +kernel) ⟨Nat.le_of_ble_eq_true rfl, Nat.le_of_ble_eq_true rfl⟩) ⟨gblind, va_recv hK hP (ci := 7) (q0 := k_27) rfl hk_27, fun U hU hW9 => gmk hU hW9 hP hK hD hex hE hS hFc⟩ rfl rfl hl.1 rfl (lv_room (Nat.le_of_ble_eq_true rfl)) dX9_isFolded_103 ⟨Nat.le_of_ble_eq_true rfl, Nat.le_of_ble_eq_true rfl⟩) hS (fun q _ h => hFc q h) hFc (fun r_28 u9 t9 H1 locs ht9 hvm9 hw9 hB9 hz9 hk9 hS => ?_)
              have hP : va_P (gD g) cl0 ws H1 := by rw [← ht9]; exact hB9.1
              clear hB9 hz9 hk9 hvm9 ht9 hw9
              generalize H1 = H at hP hS ⊢
              refine lv_aload_n hx hb dX9_isFolded_106 rfl (lv_at hl 0 rfl) ?_
              refine va_get (D := gD g) (ci := 8) (v := .ref r0_1) (C := RX9) (T := TX9) (N := 6) hx hb hts inX9 hown hK hP k_1 hk_1 rfl 0 (by decide) (hts _ kw_1552) (fun _ h9 => h9) rfl dX9_isFolded_107 ?_
              refine lv_iload_n hx hb dX9_isFolded_110 rfl (lv_at hl 1 rfl) ?_
              refine lv_iconst (v := 1) hx hb dX9_isFolded_111 (by decide) ?_
              refine lv_iadd hx hb dX9_isFolded_112 ?_
              refine lv_topi (fun z_29 ez_29 => ?_)
              have hFc := gfree hD hS hA
              obtain ⟨k_30, fs_30, hk_30⟩ := gC_of o_r0_1
              refine va_calll (va_runV (As := [.int z_29]) (rest := [.long r_28, .int r_4, .int r_26, .int x1, .ref h0]) ⟨hx, hb, hml, hown, hts⟩ (m_X8_argAt l g H.size ws r0_1 (z_29) hG o_r0_1) (cwV 1 hts (gd_V kw_1605 kw_1476 kw_1477 kw_782 kw_1475) rfl rfl rfl (by decide +kernel) ⟨Nat.le_of_ble_eq_true rfl, Nat.le_of_ble_eq_true rfl⟩) ⟨gblind, va_recv hK hP (ci := 7) (q0 := k_30) rfl hk_30, fun U hU hW9 => gmk hU hW9 hP hK hD hex hE hS hFc⟩ rfl rfl hl.1 rfl (lv_room (Nat.le_of_ble_eq_true rfl)) dX9_isFolded_113 ⟨Nat.le_of_ble_eq_true rfl, Nat.le_of_ble_eq_true rfl⟩) hS (fun q _ h => hFc q h) hFc (fun r_31 u9 t9 H1 locs ht9 hvm9 hw9 hB9 hz9 hk9 hS => ?_)
              have hP : va_P (gD g) cl0 ws H1 := by rw [← ht9]; exact hB9.1
              clear hB9 hz9 hk9 hvm9 ht9 hw9
              generalize H1 = H at hP hS ⊢
              have hFc := gfree hD hS hA
              refine va_calll (va_runS (As := [.int r_4, .long r_28, .long r_31]) (rest := [.int r_26, .int x1, .ref h0]) ⟨hx, hb, hml, hown, hts⟩ (m_X6_binary l g H.size ws (r_4) (r_28) (r_31) hG ) (va_cwS 3 hts (gd_S kw_1626 kw_1206 kw_1207 kw_1205) rfl rfl rfl (by decide +kernel) ⟨Nat.le_of_ble_eq_true rfl, Nat.le_of_ble_eq_true rfl⟩) ⟨gblind, fun U hU hW9 => gmk hU hW9 hP hK hD hex hE hS hFc⟩ rfl rfl hl.1 rfl (lv_room (Nat.le_of_ble_eq_true rfl)) dX9_isFolded_116 ⟨Nat.le_of_ble_eq_true rfl, Nat.le_of_ble_eq_true rfl⟩) hS (fun q _ h => hFc q h) hFc (fun r_32 u9 t9 H1 locs ht9 hvm9 hw9 hB9 hz9 hk9 hS => ?_)
              have hP : va_P (gD g) cl0 ws H1 := by rw [← ht9]; exact hB9.1
              clear hB9 hz9 hk9 hvm9 ht9 hw9
              generalize H1 = H at hP hS ⊢
              have hFc := gfree hD hS hA
              refine va_callv (va_runV (As := [.int x1, .int r_26, .long r_32]) (rest := []) ⟨hx, hb, hml, hown, hts⟩ (m_X9_putPush l g H.size ws h0 (x1) (r_26) (r_32) hG o_h0) (cwV 3 hts (gd_V kw_1627 kw_1712 kw_1713 kw_404 kw_1711) rfl rfl rfl (by decide +kernel) ⟨Nat.le_of_ble_eq_true rfl, Nat.le_of_ble_eq_true rfl⟩) ⟨gblind, va_recv hK hP (ci := 8) (q0 := k_1) rfl hk_1, fun U hU hW9 => gmk hU hW9 hP hK hD hex hE hS hFc⟩ rfl rfl hl.1 rfl (lv_room (Nat.le_of_ble_eq_true rfl)) dX9_isFolded_119 ⟨Nat.le_of_ble_eq_true rfl, Nat.le_of_ble_eq_true rfl⟩) hS (fun q _ h => hFc q h) hFc (fun  ws_33 t9 H1 locs ht9 hvm9 hw9 hB9 hz9 hk9 hS => ?_)
              obtain ⟨E_34, Fr_35, hG, hP1, hD1⟩ := hB9
              have hP : va_P (gD g) cl0 ws_33 H1 := by rw [← ht9]; exact hP1
              have hD : va_D A ws_33 := hD1.weaken (fun _ _ _ h => hFc _ h)
              clear hP1 hD1 hz9 hk9 hvm9 ht9 hw9
              generalize H1 = H at hP hS ⊢
              have aa_38 := a_r1_1
              have aa_39 := a_r2_1
              have aa_40 := a_r3_1
              have aa_41 := a_r4_1
              have aa_42 := a_r5_1
              have o_h0 := E_34.1 _ _ o_h0
              refine lv_aload_n hx hb dX9_isFolded_122 rfl (lv_at hl 0 rfl) ?_
              obtain ⟨fs9, hk_43, hq_43⟩ := ((gF.a (F' := []) Fr_35 (fun _ h => h))) _ _ _ hk_1
              obtain ⟨r0_43, r1_43, n1_43, r2_43, n2_43, r3_43, n3_43, r4_43, n4_43, r5_43, n5_43, rfl, o_r0_43, a_r1_43, f2_43, a_r2_43, f4_43, a_r3_43, f6_43, a_r4_43, f8_43, a_r5_43, f10_43, f11_43, -⟩ := (hG.1 _ _ _ _ hk_43).hX9 rfl
              obtain rfl := fe_r (hq_43 0 (by decide))
              have o_r0_1 := o_r0_43
              obtain rfl := fe_r (hq_43 2 (by decide))
              have hn9 := gI_n hD ((E_34).1 _ _ aa_39) a_r2_43
              subst hn9
              have a_r2_1 := a_r2_43
              obtain rfl := fe_r (hq_43 3 (by decide))
              have hn9 := gI_n hD ((E_34).1 _ _ aa_40) a_r3_43
              subst hn9
              have a_r3_1 := a_r3_43
              obtain rfl := fe_r (hq_43 4 (by decide))
              have hn9 := gI_n hD ((E_34).1 _ _ aa_41) a_r4_43
              subst hn9
              have a_r4_1 := a_r4_43
              obtain rfl := fe_r (hq_43 5 (by decide))
              have hn9 := gI_n hD ((E_34).1 _ _ aa_42) a_r5_43
              subst hn9
              have a_r5_1 := a_r5_43
              refine va_get (D := gD g) (ci := 8) (v := .ref r0_1) (C := RX9) (T := TX9) (N := 6) hx hb hts inX9 hown hK hP k_1 hk_43 rfl 0 (by decide) (hts _ kw_1552) (fun _ h9 => h9) rfl dX9_isFolded_123 ?_
              refine lv_iload_n hx hb dX9_isFolded_126 rfl (lv_at hl 1 rfl) ?_
              refine lv_iconst (v := 1) hx hb dX9_isFolded_127 (by decide) ?_
              refine lv_iadd hx hb dX9_isFolded_128 ?_
              refine lv_topi (fun z_44 ez_44 => ?_)
              refine lv_iconst (v := 2) hx hb dX9_isFolded_129 (by decide) ?_
              have hFc := gfree hD hS hA
              obtain ⟨k_45, fs_45, hk_45⟩ := gC_of o_r0_1
              refine va_callv (va_runV (As := [.int z_44, .int 2]) (rest := []) ⟨hx, hb, hml, hown, hts⟩ (m_X8_remove l g H.size ws_33 r0_1 (z_44) (2) hG o_r0_1 (by have e1 : (1 : Int32).toInt = 1 := (by decide); have e2 : (2 : Int32).toInt = 2 := (by decide); obtain ⟨u_z_44, q_z_44⟩ := i_add ez_44; have q_p0 := p0; have q_px := px; obtain ⟨u_z_2, q_z_2⟩ := i_add ez_2; obtain ⟨u_z_11, q_z_11⟩ := i_add ez_11; obtain ⟨u_z_19, q_z_19⟩ := i_add ez_19; obtain ⟨u_z_29, q_z_29⟩ := i_add ez_29; have g_x1 := i_rg x1; have g_z_11 := i_rg z_11; have g_z_19 := i_rg z_19; have g_z_2 := i_rg z_2; have g_z_29 := i_rg z_29; have g_z_44 := i_rg z_44; omega) (by have e2 : (2 : Int32).toInt = 2 := (by decide); omega)) (cwV 2 hts (gd_V kw_1555 kw_1516 kw_1517 kw_782 kw_1515) rfl rfl rfl (by decide +kernel) ⟨Nat.le_of_ble_eq_true rfl, Nat.le_of_ble_eq_true rfl⟩) ⟨gblind, va_recv hK hP (ci := 7) (q0 := k_45) rfl hk_45, fun U hU hW9 => gmk hU hW9 hP hK hD hex hE hS hFc⟩ rfl rfl hl.1 rfl (lv_room (Nat.le_of_ble_eq_true rfl)) dX9_isFolded_130 ⟨Nat.le_of_ble_eq_true rfl, Nat.le_of_ble_eq_true rfl⟩) hS (fun q _ h => hFc q h) hFc (fun  ws_46 t9 H1 locs ht9 hvm9 hw9 hB9 hz9 hk9 hS => ?_)
              obtain ⟨E_47, Fr_48, hG, hP1, hD1⟩ := hB9
              have hP : va_P (gD g) cl0 ws_46 H1 := by rw [← ht9]; exact hP1
              have hD : va_D A ws_46 := hD1.weaken (fun _ _ _ h => hFc _ h)
              clear hP1 hD1 hz9 hk9 hvm9 ht9 hw9
              generalize H1 = H at hP hS ⊢
              have aa_51 := a_r1_43
              have aa_52 := a_r2_1
              have aa_53 := a_r3_1
              have aa_54 := a_r4_1
              have aa_55 := a_r5_1
              have o_h0 := E_47.1 _ _ o_h0
              refine lv_iconst (v := 1) hx hb dX9_isFolded_133 (by decide) ?_
              refine W.widen (k := 0) (n := 0) (Nat.le_of_ble_eq_true rfl) (Nat.le_of_ble_eq_true rfl) ?_
              exact W.zret (v := 1) hx hb hr (nz (Or.inr rfl)) (fun t9 ht9 hW9 => ⟨⟨_, ws_46, rfl, (Or.inr rfl), ⟨(E_34.tr E_47), (gF.tr (gF.mo (F' := [(7, 2), (7, 9)]) (C' := [(7, 0), (7, 1), (7, 3), (7, 5), (7, 6), (7, 7), (7, 8)]) (S' := none) Fr_35 (fun _ h => absurd h List.not_mem_nil) (by decide) (Or.inr rfl)) (gF.mo (F' := [(7, 2), (7, 9)]) (C' := [(7, 0), (7, 1), (7, 3), (7, 5), (7, 6), (7, 7), (7, 8)]) (S' := none) Fr_48 (fun _ h => h) (fun _ h => h) (Or.inl rfl))), hG, by rw [ht9]; exact hP, hD⟩⟩, hS.F ht9⟩) hS.2.2 dX9_isFolded_134
            refine lv_if_eq (tgt := 91) hx hb dX9_isFolded_71 (by decide) (fun c_56 => ?_) (fun c_56 => ?_)
            · exact J_91  H locs ls  hP hD hS (lv_sub hl [1, 2, 0] rfl)
            · refine lv_aload_n hx hb dX9_isFolded_74 rfl (lv_at hl 1 rfl) ?_
              refine va_get (D := gD g) (ci := 8) (v := .ref r0_1) (C := RX9) (T := TX9) (N := 6) hx hb hts inX9 hown hK hP k_1 hk_1 rfl 0 (by decide) (hts _ kw_1552) (fun _ h9 => h9) rfl dX9_isFolded_75 ?_
              refine lv_iload_n hx hb dX9_isFolded_78 rfl (lv_at hl 2 rfl) ?_
              refine lv_iconst (v := 1) hx hb dX9_isFolded_79 (by decide) ?_
              refine lv_iadd hx hb dX9_isFolded_80 ?_
              refine lv_topi (fun z_57 ez_57 => ?_)
              have hFc := gfree hD hS hA
              obtain ⟨k_58, fs_58, hk_58⟩ := gC_of o_r0_1
              refine va_calll (va_runV (As := [.int z_57]) (rest := []) ⟨hx, hb, hml, hown, hts⟩ (m_X8_argAt l g H.size ws r0_1 (z_57) hG o_r0_1) (cwV 1 hts (gd_V kw_1605 kw_1476 kw_1477 kw_782 kw_1475) rfl rfl rfl (by decide +kernel) ⟨Nat.le_of_ble_eq_true rfl, Nat.le_of_ble_eq_true rfl⟩) ⟨gblind, va_recv hK hP (ci := 7) (q0 := k_58) rfl hk_58, fun U hU hW9 => gmk hU hW9 hP hK hD hex hE hS hFc⟩ rfl rfl hl.1 rfl (lv_room (Nat.le_of_ble_eq_true rfl)) dX9_isFolded_81 ⟨Nat.le_of_ble_eq_true rfl, Nat.le_of_ble_eq_true rfl⟩) hS (fun q _ h => hFc q h) hFc (fun r_59 u9 t9 H1 locs ht9 hvm9 hw9 hB9 hz9 hk9 hS => ?_)
              have hP : va_P (gD g) cl0 ws H1 := by rw [← ht9]; exact hB9.1
              clear hB9 hz9 hk9 hvm9 ht9 hw9
              generalize H1 = H at hP hS ⊢
              refine lv_lconst (v := 0) hx hb dX9_isFolded_84 (by decide) ?_
              refine W.lcmp hx hb dX9_isFolded_85 ?_
              refine lv_topi (fun z_60 ez_60 => ?_)
              refine lv_if_ne (tgt := 91) hx hb dX9_isFolded_86 (by decide) (fun c_61 => ?_) (fun c_61 => ?_)
              · exact J_91  H locs ls  hP hD hS (lv_sub hl [1, 2, 0] rfl)
              · exact J_89  H locs ls  hP hD hS (lv_sub hl [] rfl)
set_option maxHeartbeats 1000000 in
set_option maxRecDepth 100000 in
theorem m_X9_isUnaryFolded (l : Launch) (g : Gm) (sz : Nat) (ws : va_W) (h0 : Nat) (x1 : Int32) (hG : Good g ws) (o_h0 : gC ws h0 8) (fp_a : gP ws h0 (fun fs => ∀ (rn n : Nat), fs[2]? = some (.ref rn) → gI ws rn g.cZ n → 1297 ≤ n)) (fp_b : gP ws h0 (fun fs => ∀ (rn n : Nat), fs[3]? = some (.ref rn) → gI ws rn g.cZ n → 1297 ≤ n)) (fp_d : gP ws h0 (fun fs => ∀ (rn n : Nat), fs[4]? = some (.ref rn) → gI ws rn g.cI n → 1297 ≤ n)) (fp_f : gP ws h0 (fun fs => ∀ (rn n : Nat), fs[5]? = some (.ref rn) → gI ws rn g.cI n → 1297 ≤ n)) (p0 : 0 ≤ x1.toInt) (px : x1.toInt ≤ 1300) : Met l yX9_isUnaryFolded (wt yX9_isUnaryFolded cX9_isUnaryFolded 3 (some .boolean)) ({ frames := 3, cells := 0, slots := 0, locals := 74 }) (va_Pc [.ref h0, .int x1] (st_G g sz ws)) (va_Qi (fun (r : Int32) (u9 : va_W) => r = 0 ∨ r = 1) (gQ1 g [(7, 2), (7, 9)] [(7, 0), (7, 1), (7, 3), (7, 5), (7, 6), (7, 7), (7, 8)] none (va_A ws sz) ws) (va_A ws sz)) (0) (0) (va_A ws sz) := by
  refine Met.ofW (cc := cX9_isUnaryFolded) (maxL := 3) (ret := (some .boolean)) (by decide) rfl ?_
  intro p e s m args below meth c s₁ B hml hv
  obtain ⟨rfl, hsz, hP, hK, hD0, hex, hE⟩ := hv
  have hx := B.exec
  have hb := B.bytes
  have hr := B.returns
  have hts0 := atoms_spec (ws := wt yX9_isUnaryFolded cX9_isUnaryFolded 3 (some .boolean)) B.pre
  have hts : ∀ w ∈ tb, w.before _ s = true := fun w h => hts0 w (List.mem_cons_of_mem _ h)
  have hown : s.vm.findClass RX9 = some m.cls := findClass_of_methodNamed B.named
  subst hsz
  have hD := hD0.self (sz := s.heap.size)
  generalize hAe : va_A ws s.heap.size = A at hD hE ⊢
  have hA : ∀ q : Nat, s.heap.size ≤ q → A q := fun q h => by rw [← hAe]; exact Or.inr h
  have hS : va_S A s.heap s.heap [] := va_S.rf
  have hl := lv_entry ([.ref h0, .int x1]) (n := 3) (Nat.le_of_ble_eq_true rfl)
  rw [lg_entry_eq]
  generalize (lg_sl ([.ref h0, .int x1]) ++ List.replicate (3 - (lg_sl ([.ref h0, .int x1])).length) Slot.unset).toArray = ls at hl ⊢
  have hl : lv_has ls 3 [(0, .ref h0), (1, .int x1)] := hl
  obtain ⟨k_1, fs9, hk_1⟩ := gC_of o_h0
  obtain ⟨r0_1, r1_1, n1_1, r2_1, n2_1, r3_1, n3_1, r4_1, n4_1, r5_1, n5_1, rfl, o_r0_1, a_r1_1, f2_1, a_r2_1, f4_1, a_r3_1, f6_1, a_r4_1, f8_1, a_r5_1, f10_1, f11_1, -⟩ := (hG.1 _ _ _ _ hk_1).hX9 rfl
  have fq_a := fp_a _ _ _ hk_1 _ _ rfl a_r2_1
  have fq_b := fp_b _ _ _ hk_1 _ _ rfl a_r3_1
  have fq_d := fp_d _ _ _ hk_1 _ _ rfl a_r4_1
  have fq_f := fp_f _ _ _ hk_1 _ _ rfl a_r5_1
  refine lv_aload_n hx hb dX9_isUnaryFolded_0 rfl (lv_at hl 0 rfl) ?_
  refine va_get (D := gD g) (ci := 8) (v := .ref r0_1) (C := RX9) (T := TX9) (N := 6) hx hb hts inX9 hown hK hP k_1 hk_1 rfl 0 (by decide) (hts _ kw_1552) (fun _ h9 => h9) rfl dX9_isUnaryFolded_1 ?_
  refine lv_iload_n hx hb dX9_isUnaryFolded_4 rfl (lv_at hl 1 rfl) ?_
  refine lv_iconst (v := 1) hx hb dX9_isUnaryFolded_5 (by decide) ?_
  refine lv_iadd hx hb dX9_isUnaryFolded_6 ?_
  refine lv_topi (fun z_2 ez_2 => ?_)
  have hFc := gfree hD hS hA
  obtain ⟨k_3, fs_3, hk_3⟩ := gC_of o_r0_1
  refine va_calli (va_runV (As := [.int z_2]) (rest := []) ⟨hx, hb, hml, hown, hts⟩ (m_X8_opAt l g s.heap.size ws r0_1 (z_2) hG o_r0_1) (cwV 1 hts (gd_V kw_1596 kw_1513 kw_1514 kw_782 kw_1512) rfl rfl rfl (by decide +kernel) ⟨Nat.le_of_ble_eq_true rfl, Nat.le_of_ble_eq_true rfl⟩) ⟨gblind, va_recv hK hP (ci := 7) (q0 := k_3) rfl hk_3, fun U hU hW9 => gmk hU hW9 hP hK hD hex hE hS hFc⟩ rfl rfl hl.1 rfl (lv_room (Nat.le_of_ble_eq_true rfl)) dX9_isUnaryFolded_7 ⟨Nat.le_of_ble_eq_true rfl, Nat.le_of_ble_eq_true rfl⟩) hS (fun q _ h => hFc q h) hFc (fun r_4 u9 t9 H1 locs ht9 hvm9 hw9 hB9 hz9 hk9 hS => ?_)
  have hP : va_P (gD g) cl0 ws H1 := by rw [← ht9]; exact hB9.1
  clear hB9 hz9 hk9 hvm9 ht9 hw9
  generalize H1 = H at hP hS ⊢
  refine lv_istore_n (lv' := [(2, .int r_4), (0, .ref h0), (1, .int x1)]) hx hb dX9_isUnaryFolded_10 rfl hl (by decide) rfl (fun ls hl => ?_)
  refine lv_iload_n hx hb dX9_isUnaryFolded_11 rfl (lv_at hl 0 rfl) ?_
  have hFc := gfree hD hS hA
  refine va_calli (va_runS (As := [.int r_4]) (rest := []) ⟨hx, hb, hml, hown, hts⟩ (m_X6_isUnary l g H.size ws (r_4) hG ) (va_cwS 1 hts (gd_S kw_1655 kw_1237 kw_1207 kw_1236) rfl rfl rfl (by decide +kernel) ⟨Nat.le_of_ble_eq_true rfl, Nat.le_of_ble_eq_true rfl⟩) ⟨gblind, fun U hU hW9 => gmk hU hW9 hP hK hD hex hE hS hFc⟩ rfl rfl hl.1 rfl (lv_room (Nat.le_of_ble_eq_true rfl)) dX9_isUnaryFolded_12 ⟨Nat.le_of_ble_eq_true rfl, Nat.le_of_ble_eq_true rfl⟩) hS (fun q _ h => hFc q h) hFc (fun r_5 u9 t9 H1 locs ht9 hvm9 hw9 hB9 hz9 hk9 hS => ?_)
  have hP : va_P (gD g) cl0 ws H1 := by rw [← ht9]; exact hB9.1
  have hz_r_5 : r_5 = 0 ∨ r_5 = 1 := hw9
  clear hB9 hz9 hk9 hvm9 ht9 hw9
  generalize H1 = H at hP hS ⊢
  have J_39 : ∀  (H : Heap) (locs : List Loc) (ls : Array Slot), va_P (gD g) cl0 ws H → va_D A ws → va_S A s.heap H locs → lv_has ls 3 [] → W p l e (headSpec (wt yX9_isUnaryFolded cX9_isUnaryFolded 3 (some .boolean)) ({ frames := 3, cells := 0, slots := 0, locals := 74 })).room s m ([.ref h0, .int x1] : List Value).toArray below meth c H locs (0) (0) (MQ below (va_Qi (fun (r : Int32) (u9 : va_W) => r = 0 ∨ r = 1) (gQ1 g [(7, 2), (7, 9)] [(7, 0), (7, 1), (7, 3), (7, 5), (7, 6), (7, 7), (7, 8)] none A ws) A) ([.ref h0, .int x1] : List Value).toArray s (0) (0) A) (F0 m 39 ls []) := by
    intro  H locs ls  hP hD hS hl
    refine lv_iconst (v := 0) hx hb dX9_isUnaryFolded_39 (by decide) ?_
    refine W.widen (k := 0) (n := 0) (Nat.le_of_ble_eq_true rfl) (Nat.le_of_ble_eq_true rfl) ?_
    exact W.zret (v := 0) hx hb hr (nz (Or.inl rfl)) (fun t9 ht9 hW9 => ⟨⟨_, ws, rfl, (Or.inl rfl), ⟨gE.rf, gF.rf, hG, by rw [ht9]; exact hP, hD⟩⟩, hS.F ht9⟩) hS.2.2 dX9_isUnaryFolded_40
  refine lv_if_eq (tgt := 39) hx hb dX9_isUnaryFolded_15 (by decide) (fun c_8 => ?_) (fun c_8 => ?_)
  · exact J_39  H locs ls  hP hD hS (lv_sub hl [] rfl)
  · refine lv_aload_n hx hb dX9_isUnaryFolded_18 rfl (lv_at hl 1 rfl) ?_
    refine lv_iload_n hx hb dX9_isUnaryFolded_19 rfl (lv_at hl 2 rfl) ?_
    have hFc := gfree hD hS hA
    refine va_calli (va_runV (As := [.int x1]) (rest := []) ⟨hx, hb, hml, hown, hts⟩ (m_X9_pushKind l g H.size ws h0 (x1) hG o_h0) (cwV 1 hts (gd_V kw_1622 kw_1696 kw_1697 kw_404 kw_1695) rfl rfl rfl (by decide +kernel) ⟨Nat.le_of_ble_eq_true rfl, Nat.le_of_ble_eq_true rfl⟩) ⟨gblind, va_recv hK hP (ci := 8) (q0 := k_1) rfl hk_1, fun U hU hW9 => gmk hU hW9 hP hK hD hex hE hS hFc⟩ rfl rfl hl.1 rfl (lv_room (Nat.le_of_ble_eq_true rfl)) dX9_isUnaryFolded_20 ⟨Nat.le_of_ble_eq_true rfl, Nat.le_of_ble_eq_true rfl⟩) hS (fun q _ h => hFc q h) hFc (fun r_9 u9 t9 H1 locs ht9 hvm9 hw9 hB9 hz9 hk9 hS => ?_)
    have hP : va_P (gD g) cl0 ws H1 := by rw [← ht9]; exact hB9.1
    clear hB9 hz9 hk9 hvm9 ht9 hw9
    generalize H1 = H at hP hS ⊢
    refine lv_iload_n hx hb dX9_isUnaryFolded_23 rfl (lv_at hl 0 rfl) ?_
    have hFc := gfree hD hS hA
    refine va_calli (va_runS (As := [.int r_4]) (rest := [.int r_9]) ⟨hx, hb, hml, hown, hts⟩ (m_X6_takes l g H.size ws (r_4) hG ) (va_cwS 1 hts (gd_S kw_1623 kw_1255 kw_1207 kw_1254) rfl rfl rfl (by decide +kernel) ⟨Nat.le_of_ble_eq_true rfl, Nat.le_of_ble_eq_true rfl⟩) ⟨gblind, fun U hU hW9 => gmk hU hW9 hP hK hD hex hE hS hFc⟩ rfl rfl hl.1 rfl (lv_room (Nat.le_of_ble_eq_true rfl)) dX9_isUnaryFolded_24 ⟨Nat.le_of_ble_eq_true rfl, Nat.le_of_ble_eq_true rfl⟩) hS (fun q _ h => hFc q h) hFc (fun r_10 u9 t9 H1 locs ht9 hvm9 hw9 hB9 hz9 hk9 hS => ?_)
    have hP : va_P (gD g) cl0 ws H1 := by rw [← ht9]; exact hB9.1
    clear hB9 hz9 hk9 hvm9 ht9 hw9
    generalize H1 = H at hP hS ⊢
    refine lv_icmp_ne (tgt := 39) hx hb dX9_isUnaryFolded_27 (by decide) (fun c_11 => ?_) (fun c_11 => ?_)
    · exact J_39  H locs ls  hP hD hS (lv_sub hl [] rfl)
    · refine lv_aload_n hx hb dX9_isUnaryFolded_30 rfl (lv_at hl 1 rfl) ?_
      refine lv_iload_n hx hb dX9_isUnaryFolded_31 rfl (lv_at hl 2 rfl) ?_
      refine lv_iconst (v := 2) hx hb dX9_isUnaryFolded_32 (by decide) ?_
      have hFc := gfree hD hS hA
      refine va_calli (va_runV (As := [.int x1, .int 2]) (rest := []) ⟨hx, hb, hml, hown, hts⟩ (m_X9_isWindow l g H.size ws h0 (x1) (2) hG o_h0 (gP_of hD hk_1 (fun p90 q90 e90 g90 => by cases e90; have z90 := gI_n hD a_r2_1 g90; subst z90; exact (by have q_f4_1 := f4_1; have q_fq_a := fq_a; omega))) (gP_of hD hk_1 (fun p90 q90 e90 g90 => by cases e90; have z90 := gI_n hD a_r3_1 g90; subst z90; exact (by have q_f6_1 := f6_1; have q_fq_b := fq_b; omega))) (gP_of hD hk_1 (fun p90 q90 e90 g90 => by cases e90; have z90 := gI_n hD a_r4_1 g90; subst z90; exact (by have q_f8_1 := f8_1; have q_fq_d := fq_d; omega))) (gP_of hD hk_1 (fun p90 q90 e90 g90 => by cases e90; have z90 := gI_n hD a_r5_1 g90; subst z90; exact (by have q_f10_1 := f10_1; have q_fq_f := fq_f; omega))) (by have e1 : (1 : Int32).toInt = 1 := (by decide); have q_p0 := p0; have q_px := px; obtain ⟨u_z_2, q_z_2⟩ := i_add ez_2; have g_x1 := i_rg x1; have g_z_2 := i_rg z_2; omega) (by have e1 : (1 : Int32).toInt = 1 := (by decide); have q_p0 := p0; have q_px := px; obtain ⟨u_z_2, q_z_2⟩ := i_add ez_2; have g_x1 := i_rg x1; have g_z_2 := i_rg z_2; omega) (by have e2 : (2 : Int32).toInt = 2 := (by decide); omega)) (cwV 2 hts (gd_V kw_1610 kw_1658 kw_1659 kw_404 kw_1657) rfl rfl rfl (by decide +kernel) ⟨Nat.le_of_ble_eq_true rfl, Nat.le_of_ble_eq_true rfl⟩) ⟨gblind, va_recv hK hP (ci := 8) (q0 := k_1) rfl hk_1, fun U hU hW9 => gmk hU hW9 hP hK hD hex hE hS hFc⟩ rfl rfl hl.1 rfl (lv_room (Nat.le_of_ble_eq_true rfl)) dX9_isUnaryFolded_33 ⟨Nat.le_of_ble_eq_true rfl, Nat.le_of_ble_eq_true rfl⟩) hS (fun q _ h => hFc q h) hFc (fun r_12 u9 t9 H1 locs ht9 hvm9 hw9 hB9 hz9 hk9 hS => ?_)
      have hP : va_P (gD g) cl0 ws H1 := by rw [← ht9]; exact hB9.1
      have hz_r_12 : r_12 = 0 ∨ r_12 = 1 := hw9
      clear hB9 hz9 hk9 hvm9 ht9 hw9
      generalize H1 = H at hP hS ⊢
      refine lv_if_ne (tgt := 41) hx hb dX9_isUnaryFolded_36 (by decide) (fun c_13 => ?_) (fun c_13 => ?_)
      · refine lv_aload_n hx hb dX9_isUnaryFolded_41 rfl (lv_at hl 1 rfl) ?_
        refine lv_iload_n hx hb dX9_isUnaryFolded_42 rfl (lv_at hl 2 rfl) ?_
        refine lv_iload_n hx hb dX9_isUnaryFolded_43 rfl (lv_at hl 0 rfl) ?_
        have hFc := gfree hD hS hA
        refine va_calli (va_runS (As := [.int r_4]) (rest := [.int x1, .ref h0]) ⟨hx, hb, hml, hown, hts⟩ (m_X6_gives l g H.size ws (r_4) hG ) (va_cwS 1 hts (gd_S kw_1625 kw_1216 kw_1207 kw_1215) rfl rfl rfl (by decide +kernel) ⟨Nat.le_of_ble_eq_true rfl, Nat.le_of_ble_eq_true rfl⟩) ⟨gblind, fun U hU hW9 => gmk hU hW9 hP hK hD hex hE hS hFc⟩ rfl rfl hl.1 rfl (lv_room (Nat.le_of_ble_eq_true rfl)) dX9_isUnaryFolded_44 ⟨Nat.le_of_ble_eq_true rfl, Nat.le_of_ble_eq_true rfl⟩) hS (fun q _ h => hFc q h) hFc (fun r_14 u9 t9 H1 locs ht9 hvm9 hw9 hB9 hz9 hk9 hS => ?_)
        have hP : va_P (gD g) cl0 ws H1 := by rw [← ht9]; exact hB9.1
        clear hB9 hz9 hk9 hvm9 ht9 hw9
        generalize H1 = H at hP hS ⊢
        refine lv_iload_n hx hb dX9_isUnaryFolded_47 rfl (lv_at hl 0 rfl) ?_
        refine lv_aload_n hx hb dX9_isUnaryFolded_48 rfl (lv_at hl 1 rfl) ?_
        refine va_get (D := gD g) (ci := 8) (v := .ref r0_1) (C := RX9) (T := TX9) (N := 6) hx hb hts inX9 hown hK hP k_1 hk_1 rfl 0 (by decide) (hts _ kw_1552) (fun _ h9 => h9) rfl dX9_isUnaryFolded_49 ?_
        refine lv_iload_n hx hb dX9_isUnaryFolded_52 rfl (lv_at hl 2 rfl) ?_
        have hFc := gfree hD hS hA
        obtain ⟨k_15, fs_15, hk_15⟩ := gC_of o_r0_1
        refine va_calll (va_runV (As := [.int x1]) (rest := [.int r_4, .int r_14, .int x1, .ref h0]) ⟨hx, hb, hml, hown, hts⟩ (m_X8_argAt l g H.size ws r0_1 (x1) hG o_r0_1) (cwV 1 hts (gd_V kw_1605 kw_1476 kw_1477 kw_782 kw_1475) rfl rfl rfl (by decide +kernel) ⟨Nat.le_of_ble_eq_true rfl, Nat.le_of_ble_eq_true rfl⟩) ⟨gblind, va_recv hK hP (ci := 7) (q0 := k_15) rfl hk_15, fun U hU hW9 => gmk hU hW9 hP hK hD hex hE hS hFc⟩ rfl rfl hl.1 rfl (lv_room (Nat.le_of_ble_eq_true rfl)) dX9_isUnaryFolded_53 ⟨Nat.le_of_ble_eq_true rfl, Nat.le_of_ble_eq_true rfl⟩) hS (fun q _ h => hFc q h) hFc (fun r_16 u9 t9 H1 locs ht9 hvm9 hw9 hB9 hz9 hk9 hS => ?_)
        have hP : va_P (gD g) cl0 ws H1 := by rw [← ht9]; exact hB9.1
        clear hB9 hz9 hk9 hvm9 ht9 hw9
        generalize H1 = H at hP hS ⊢
        have hFc := gfree hD hS hA
        refine va_calll (va_runS (As := [.int r_4, .long r_16]) (rest := [.int r_14, .int x1, .ref h0]) ⟨hx, hb, hml, hown, hts⟩ (m_X6_unary l g H.size ws (r_4) (r_16) hG ) (va_cwS 2 hts (gd_S kw_1656 kw_1258 kw_1207 kw_1257) rfl rfl rfl (by decide +kernel) ⟨Nat.le_of_ble_eq_true rfl, Nat.le_of_ble_eq_true rfl⟩) ⟨gblind, fun U hU hW9 => gmk hU hW9 hP hK hD hex hE hS hFc⟩ rfl rfl hl.1 rfl (lv_room (Nat.le_of_ble_eq_true rfl)) dX9_isUnaryFolded_56 ⟨Nat.le_of_ble_eq_true rfl, Nat.le_of_ble_eq_true rfl⟩) hS (fun q _ h => hFc q h) hFc (fun r_17 u9 t9 H1 locs ht9 hvm9 hw9 hB9 hz9 hk9 hS => ?_)
        have hP : va_P (gD g) cl0 ws H1 := by rw [← ht9]; exact hB9.1
        clear hB9 hz9 hk9 hvm9 ht9 hw9
        generalize H1 = H at hP hS ⊢
        have hFc := gfree hD hS hA
        refine va_callv (va_runV (As := [.int x1, .int r_14, .long r_17]) (rest := []) ⟨hx, hb, hml, hown, hts⟩ (m_X9_putPush l g H.size ws h0 (x1) (r_14) (r_17) hG o_h0) (cwV 3 hts (gd_V kw_1627 kw_1712 kw_1713 kw_404 kw_1711) rfl rfl rfl (by decide +kernel) ⟨Nat.le_of_ble_eq_true rfl, Nat.le_of_ble_eq_true rfl⟩) ⟨gblind, va_recv hK hP (ci := 8) (q0 := k_1) rfl hk_1, fun U hU hW9 => gmk hU hW9 hP hK hD hex hE hS hFc⟩ rfl rfl hl.1 rfl (lv_room (Nat.le_of_ble_eq_true rfl)) dX9_isUnaryFolded_59 ⟨Nat.le_of_ble_eq_true rfl, Nat.le_of_ble_eq_true rfl⟩) hS (fun q _ h => hFc q h) hFc (fun  ws_18 t9 H1 locs ht9 hvm9 hw9 hB9 hz9 hk9 hS => ?_)
        obtain ⟨E_19, Fr_20, hG, hP1, hD1⟩ := hB9
        have hP : va_P (gD g) cl0 ws_18 H1 := by rw [← ht9]; exact hP1
        have hD : va_D A ws_18 := hD1.weaken (fun _ _ _ h => hFc _ h)
        clear hP1 hD1 hz9 hk9 hvm9 ht9 hw9
        generalize H1 = H at hP hS ⊢
        have aa_23 := a_r1_1
        have aa_24 := a_r2_1
        have aa_25 := a_r3_1
        have aa_26 := a_r4_1
        have aa_27 := a_r5_1
        have o_h0 := E_19.1 _ _ o_h0
        refine lv_aload_n hx hb dX9_isUnaryFolded_62 rfl (lv_at hl 1 rfl) ?_
        obtain ⟨fs9, hk_28, hq_28⟩ := ((gF.a (F' := []) Fr_20 (fun _ h => h))) _ _ _ hk_1
        obtain ⟨r0_28, r1_28, n1_28, r2_28, n2_28, r3_28, n3_28, r4_28, n4_28, r5_28, n5_28, rfl, o_r0_28, a_r1_28, f2_28, a_r2_28, f4_28, a_r3_28, f6_28, a_r4_28, f8_28, a_r5_28, f10_28, f11_28, -⟩ := (hG.1 _ _ _ _ hk_28).hX9 rfl
        obtain rfl := fe_r (hq_28 0 (by decide))
        have o_r0_1 := o_r0_28
        obtain rfl := fe_r (hq_28 2 (by decide))
        have hn9 := gI_n hD ((E_19).1 _ _ aa_24) a_r2_28
        subst hn9
        have a_r2_1 := a_r2_28
        obtain rfl := fe_r (hq_28 3 (by decide))
        have hn9 := gI_n hD ((E_19).1 _ _ aa_25) a_r3_28
        subst hn9
        have a_r3_1 := a_r3_28
        obtain rfl := fe_r (hq_28 4 (by decide))
        have hn9 := gI_n hD ((E_19).1 _ _ aa_26) a_r4_28
        subst hn9
        have a_r4_1 := a_r4_28
        obtain rfl := fe_r (hq_28 5 (by decide))
        have hn9 := gI_n hD ((E_19).1 _ _ aa_27) a_r5_28
        subst hn9
        have a_r5_1 := a_r5_28
        refine va_get (D := gD g) (ci := 8) (v := .ref r0_1) (C := RX9) (T := TX9) (N := 6) hx hb hts inX9 hown hK hP k_1 hk_28 rfl 0 (by decide) (hts _ kw_1552) (fun _ h9 => h9) rfl dX9_isUnaryFolded_63 ?_
        refine lv_iload_n hx hb dX9_isUnaryFolded_66 rfl (lv_at hl 2 rfl) ?_
        refine lv_iconst (v := 1) hx hb dX9_isUnaryFolded_67 (by decide) ?_
        refine lv_iadd hx hb dX9_isUnaryFolded_68 ?_
        refine lv_topi (fun z_29 ez_29 => ?_)
        refine lv_iconst (v := 1) hx hb dX9_isUnaryFolded_69 (by decide) ?_
        have hFc := gfree hD hS hA
        obtain ⟨k_30, fs_30, hk_30⟩ := gC_of o_r0_1
        refine va_callv (va_runV (As := [.int z_29, .int 1]) (rest := []) ⟨hx, hb, hml, hown, hts⟩ (m_X8_remove l g H.size ws_18 r0_1 (z_29) (1) hG o_r0_1 (by have e1 : (1 : Int32).toInt = 1 := (by decide); obtain ⟨u_z_29, q_z_29⟩ := i_add ez_29; have q_p0 := p0; have q_px := px; obtain ⟨u_z_2, q_z_2⟩ := i_add ez_2; have g_x1 := i_rg x1; have g_z_2 := i_rg z_2; have g_z_29 := i_rg z_29; omega) (by have e1 : (1 : Int32).toInt = 1 := (by decide); omega)) (cwV 2 hts (gd_V kw_1555 kw_1516 kw_1517 kw_782 kw_1515) rfl rfl rfl (by decide +kernel) ⟨Nat.le_of_ble_eq_true rfl, Nat.le_of_ble_eq_true rfl⟩) ⟨gblind, va_recv hK hP (ci := 7) (q0 := k_30) rfl hk_30, fun U hU hW9 => gmk hU hW9 hP hK hD hex hE hS hFc⟩ rfl rfl hl.1 rfl (lv_room (Nat.le_of_ble_eq_true rfl)) dX9_isUnaryFolded_70 ⟨Nat.le_of_ble_eq_true rfl, Nat.le_of_ble_eq_true rfl⟩) hS (fun q _ h => hFc q h) hFc (fun  ws_31 t9 H1 locs ht9 hvm9 hw9 hB9 hz9 hk9 hS => ?_)
        obtain ⟨E_32, Fr_33, hG, hP1, hD1⟩ := hB9
        have hP : va_P (gD g) cl0 ws_31 H1 := by rw [← ht9]; exact hP1
        have hD : va_D A ws_31 := hD1.weaken (fun _ _ _ h => hFc _ h)
        clear hP1 hD1 hz9 hk9 hvm9 ht9 hw9
        generalize H1 = H at hP hS ⊢
        have aa_36 := a_r1_28
        have aa_37 := a_r2_1
        have aa_38 := a_r3_1
        have aa_39 := a_r4_1
        have aa_40 := a_r5_1
        have o_h0 := E_32.1 _ _ o_h0
        refine lv_iconst (v := 1) hx hb dX9_isUnaryFolded_73 (by decide) ?_
        refine W.widen (k := 0) (n := 0) (Nat.le_of_ble_eq_true rfl) (Nat.le_of_ble_eq_true rfl) ?_
        exact W.zret (v := 1) hx hb hr (nz (Or.inr rfl)) (fun t9 ht9 hW9 => ⟨⟨_, ws_31, rfl, (Or.inr rfl), ⟨(E_19.tr E_32), (gF.tr (gF.mo (F' := [(7, 2), (7, 9)]) (C' := [(7, 0), (7, 1), (7, 3), (7, 5), (7, 6), (7, 7), (7, 8)]) (S' := none) Fr_20 (fun _ h => absurd h List.not_mem_nil) (by decide) (Or.inr rfl)) (gF.mo (F' := [(7, 2), (7, 9)]) (C' := [(7, 0), (7, 1), (7, 3), (7, 5), (7, 6), (7, 7), (7, 8)]) (S' := none) Fr_33 (fun _ h => h) (fun _ h => h) (Or.inl rfl))), hG, by rw [ht9]; exact hP, hD⟩⟩, hS.F ht9⟩) hS.2.2 dX9_isUnaryFolded_74
      · exact J_39  H locs ls  hP hD hS (lv_sub hl [] rfl)
set_option maxHeartbeats 1000000 in
set_option maxRecDepth 100000 in
theorem m_X9_isJumpDecided (l : Launch) (g : Gm) (sz : Nat) (ws : va_W) (h0 : Nat) (x1 : Int32) (hG : Good g ws) (o_h0 : gC ws h0 8) (fp_a : gP ws h0 (fun fs => ∀ (rn n : Nat), fs[2]? = some (.ref rn) → gI ws rn g.cZ n → 1297 ≤ n)) (fp_b : gP ws h0 (fun fs => ∀ (rn n : Nat), fs[3]? = some (.ref rn) → gI ws rn g.cZ n → 1297 ≤ n)) (fp_d : gP ws h0 (fun fs => ∀ (rn n : Nat), fs[4]? = some (.ref rn) → gI ws rn g.cI n → 1297 ≤ n)) (fp_f : gP ws h0 (fun fs => ∀ (rn n : Nat), fs[5]? = some (.ref rn) → gI ws rn g.cI n → 1297 ≤ n)) (p0 : 0 ≤ x1.toInt) (px : x1.toInt ≤ 1300) : Met l yX9_isJumpDecided (wt yX9_isJumpDecided cX9_isJumpDecided 5 (some .boolean)) ({ frames := 3, cells := 0, slots := 0, locals := 74 }) (va_Pc [.ref h0, .int x1] (st_G g sz ws)) (va_Qi (fun (r : Int32) (u9 : va_W) => r = 0 ∨ r = 1) (gQ1 g [(7, 2), (7, 9)] [(7, 0), (7, 1), (7, 3), (7, 5), (7, 6), (7, 7), (7, 8)] none (va_A ws sz) ws) (va_A ws sz)) (0) (0) (va_A ws sz) := by
  refine Met.ofW (cc := cX9_isJumpDecided) (maxL := 5) (ret := (some .boolean)) (by decide) rfl ?_
  intro p e s m args below meth c s₁ B hml hv
  obtain ⟨rfl, hsz, hP, hK, hD0, hex, hE⟩ := hv
  have hx := B.exec
  have hb := B.bytes
  have hr := B.returns
  have hts0 := atoms_spec (ws := wt yX9_isJumpDecided cX9_isJumpDecided 5 (some .boolean)) B.pre
  have hts : ∀ w ∈ tb, w.before _ s = true := fun w h => hts0 w (List.mem_cons_of_mem _ h)
  have hown : s.vm.findClass RX9 = some m.cls := findClass_of_methodNamed B.named
  subst hsz
  have hD := hD0.self (sz := s.heap.size)
  generalize hAe : va_A ws s.heap.size = A at hD hE ⊢
  have hA : ∀ q : Nat, s.heap.size ≤ q → A q := fun q h => by rw [← hAe]; exact Or.inr h
  have hS : va_S A s.heap s.heap [] := va_S.rf
  have hl := lv_entry ([.ref h0, .int x1]) (n := 5) (Nat.le_of_ble_eq_true rfl)
  rw [lg_entry_eq]
  generalize (lg_sl ([.ref h0, .int x1]) ++ List.replicate (5 - (lg_sl ([.ref h0, .int x1])).length) Slot.unset).toArray = ls at hl ⊢
  have hl : lv_has ls 5 [(0, .ref h0), (1, .int x1)] := hl
  obtain ⟨k_1, fs9, hk_1⟩ := gC_of o_h0
  obtain ⟨r0_1, r1_1, n1_1, r2_1, n2_1, r3_1, n3_1, r4_1, n4_1, r5_1, n5_1, rfl, o_r0_1, a_r1_1, f2_1, a_r2_1, f4_1, a_r3_1, f6_1, a_r4_1, f8_1, a_r5_1, f10_1, f11_1, -⟩ := (hG.1 _ _ _ _ hk_1).hX9 rfl
  have fq_a := fp_a _ _ _ hk_1 _ _ rfl a_r2_1
  have fq_b := fp_b _ _ _ hk_1 _ _ rfl a_r3_1
  have fq_d := fp_d _ _ _ hk_1 _ _ rfl a_r4_1
  have fq_f := fp_f _ _ _ hk_1 _ _ rfl a_r5_1
  refine lv_aload_n hx hb dX9_isJumpDecided_0 rfl (lv_at hl 0 rfl) ?_
  refine lv_iload_n hx hb dX9_isJumpDecided_1 rfl (lv_at hl 1 rfl) ?_
  have hFc := gfree hD hS hA
  refine va_calli (va_runV (As := [.int x1]) (rest := []) ⟨hx, hb, hml, hown, hts⟩ (m_X9_pushKind l g s.heap.size ws h0 (x1) hG o_h0) (cwV 1 hts (gd_V kw_1622 kw_1696 kw_1697 kw_404 kw_1695) rfl rfl rfl (by decide +kernel) ⟨Nat.le_of_ble_eq_true rfl, Nat.le_of_ble_eq_true rfl⟩) ⟨gblind, va_recv hK hP (ci := 8) (q0 := k_1) rfl hk_1, fun U hU hW9 => gmk hU hW9 hP hK hD hex hE hS hFc⟩ rfl rfl hl.1 rfl (lv_room (Nat.le_of_ble_eq_true rfl)) dX9_isJumpDecided_2 ⟨Nat.le_of_ble_eq_true rfl, Nat.le_of_ble_eq_true rfl⟩) hS (fun q _ h => hFc q h) hFc (fun r_2 u9 t9 H1 locs ht9 hvm9 hw9 hB9 hz9 hk9 hS => ?_)
  have hP : va_P (gD g) cl0 ws H1 := by rw [← ht9]; exact hB9.1
  clear hB9 hz9 hk9 hvm9 ht9 hw9
  generalize H1 = H at hP hS ⊢
  refine lv_iconst (v := 1) hx hb dX9_isJumpDecided_5 (by decide) ?_
  refine lv_icmp_eq (tgt := 11) hx hb dX9_isJumpDecided_6 (by decide) (fun c_3 => ?_) (fun c_3 => ?_)
  · refine lv_aload_n hx hb dX9_isJumpDecided_11 rfl (lv_at hl 0 rfl) ?_
    refine lv_iload_n hx hb dX9_isJumpDecided_12 rfl (lv_at hl 1 rfl) ?_
    refine lv_iconst (v := 1) hx hb dX9_isJumpDecided_13 (by decide) ?_
    refine lv_iadd hx hb dX9_isJumpDecided_14 ?_
    refine lv_topi (fun z_4 ez_4 => ?_)
    have hFc := gfree hD hS hA
    refine va_calli (va_runV (As := [.int z_4]) (rest := []) ⟨hx, hb, hml, hown, hts⟩ (m_X9_pushKind l g H.size ws h0 (z_4) hG o_h0) (cwV 1 hts (gd_V kw_1622 kw_1696 kw_1697 kw_404 kw_1695) rfl rfl rfl (by decide +kernel) ⟨Nat.le_of_ble_eq_true rfl, Nat.le_of_ble_eq_true rfl⟩) ⟨gblind, va_recv hK hP (ci := 8) (q0 := k_1) rfl hk_1, fun U hU hW9 => gmk hU hW9 hP hK hD hex hE hS hFc⟩ rfl rfl hl.1 rfl (lv_room (Nat.le_of_ble_eq_true rfl)) dX9_isJumpDecided_15 ⟨Nat.le_of_ble_eq_true rfl, Nat.le_of_ble_eq_true rfl⟩) hS (fun q _ h => hFc q h) hFc (fun r_5 u9 t9 H1 locs ht9 hvm9 hw9 hB9 hz9 hk9 hS => ?_)
    have hP : va_P (gD g) cl0 ws H1 := by rw [← ht9]; exact hB9.1
    clear hB9 hz9 hk9 hvm9 ht9 hw9
    generalize H1 = H at hP hS ⊢
    refine lv_iconst (v := 1) hx hb dX9_isJumpDecided_18 (by decide) ?_
    have J_27 : ∀ (t_6 : Int32) (H : Heap) (locs : List Loc) (ls : Array Slot), 2 ≤ t_6.toInt ∧ t_6.toInt ≤ 3 → va_P (gD g) cl0 ws H → va_D A ws → va_S A s.heap H locs → lv_has ls 5 [(0, .ref h0), (1, .int x1)] → W p l e (headSpec (wt yX9_isJumpDecided cX9_isJumpDecided 5 (some .boolean)) ({ frames := 3, cells := 0, slots := 0, locals := 74 })).room s m ([.ref h0, .int x1] : List Value).toArray below meth c H locs (0) (0) (MQ below (va_Qi (fun (r : Int32) (u9 : va_W) => r = 0 ∨ r = 1) (gQ1 g [(7, 2), (7, 9)] [(7, 0), (7, 1), (7, 3), (7, 5), (7, 6), (7, 7), (7, 8)] none A ws) A) ([.ref h0, .int x1] : List Value).toArray s (0) (0) A) (F0 m 27 ls [.int t_6]) := by
      intro t_6 H locs ls iv_7 hP hD hS hl
      refine lv_istore_n (lv' := [(2, .int t_6), (0, .ref h0), (1, .int x1)]) hx hb dX9_isJumpDecided_27 rfl hl (by decide) rfl (fun ls hl => ?_)
      refine lv_aload_n hx hb dX9_isJumpDecided_28 rfl (lv_at hl 1 rfl) ?_
      refine va_get (D := gD g) (ci := 8) (v := .ref r0_1) (C := RX9) (T := TX9) (N := 6) hx hb hts inX9 hown hK hP k_1 hk_1 rfl 0 (by decide) (hts _ kw_1552) (fun _ h9 => h9) rfl dX9_isJumpDecided_29 ?_
      refine lv_iload_n hx hb dX9_isJumpDecided_32 rfl (lv_at hl 2 rfl) ?_
      refine lv_iload_n hx hb dX9_isJumpDecided_33 rfl (lv_at hl 0 rfl) ?_
      refine lv_iadd hx hb dX9_isJumpDecided_34 ?_
      refine lv_topi (fun z_10 ez_10 => ?_)
      refine lv_iconst (v := 1) hx hb dX9_isJumpDecided_35 (by decide) ?_
      refine lv_isub hx hb dX9_isJumpDecided_36 ?_
      refine lv_topi (fun z_11 ez_11 => ?_)
      have hFc := gfree hD hS hA
      obtain ⟨k_12, fs_12, hk_12⟩ := gC_of o_r0_1
      refine va_calli (va_runV (As := [.int z_11]) (rest := []) ⟨hx, hb, hml, hown, hts⟩ (m_X8_opAt l g H.size ws r0_1 (z_11) hG o_r0_1) (cwV 1 hts (gd_V kw_1596 kw_1513 kw_1514 kw_782 kw_1512) rfl rfl rfl (by decide +kernel) ⟨Nat.le_of_ble_eq_true rfl, Nat.le_of_ble_eq_true rfl⟩) ⟨gblind, va_recv hK hP (ci := 7) (q0 := k_12) rfl hk_12, fun U hU hW9 => gmk hU hW9 hP hK hD hex hE hS hFc⟩ rfl rfl hl.1 rfl (lv_room (Nat.le_of_ble_eq_true rfl)) dX9_isJumpDecided_37 ⟨Nat.le_of_ble_eq_true rfl, Nat.le_of_ble_eq_true rfl⟩) hS (fun q _ h => hFc q h) hFc (fun r_13 u9 t9 H1 locs ht9 hvm9 hw9 hB9 hz9 hk9 hS => ?_)
      have hP : va_P (gD g) cl0 ws H1 := by rw [← ht9]; exact hB9.1
      clear hB9 hz9 hk9 hvm9 ht9 hw9
      generalize H1 = H at hP hS ⊢
      refine lv_istore_n (lv' := [(3, .int r_13), (2, .int t_6), (0, .ref h0), (1, .int x1)]) hx hb dX9_isJumpDecided_40 rfl hl (by decide) rfl (fun ls hl => ?_)
      refine lv_iload_n hx hb dX9_isJumpDecided_41 rfl (lv_at hl 1 rfl) ?_
      refine lv_iconst (v := 3) hx hb dX9_isJumpDecided_42 (by decide) ?_
      have J_55 : ∀ (t_14 : Int32) (H : Heap) (locs : List Loc) (ls : Array Slot), 153 ≤ t_14.toInt ∧ t_14.toInt ≤ 159 → va_P (gD g) cl0 ws H → va_D A ws → va_S A s.heap H locs → lv_has ls 5 [(0, .ref h0), (1, .int x1), (2, .int t_6), (3, .int r_13)] → W p l e (headSpec (wt yX9_isJumpDecided cX9_isJumpDecided 5 (some .boolean)) ({ frames := 3, cells := 0, slots := 0, locals := 74 })).room s m ([.ref h0, .int x1] : List Value).toArray below meth c H locs (0) (0) (MQ below (va_Qi (fun (r : Int32) (u9 : va_W) => r = 0 ∨ r = 1) (gQ1 g [(7, 2), (7, 9)] [(7, 0), (7, 1), (7, 3), (7, 5), (7, 6), (7, 7), (7, 8)] none A ws) A) ([.ref h0, .int x1] : List Value).toArray s (0) (0) A) (F0 m 55 ls [.int t_14]) := by
        intro t_14 H locs ls iv_15 hP hD hS hl
        refine lv_istore (lv' := [(4, .int t_14), (0, .ref h0), (1, .int x1), (2, .int t_6), (3, .int r_13)]) hx hb dX9_isJumpDecided_55 hl (by decide) rfl (fun ls hl => ?_)
        refine lv_iload_n hx hb dX9_isJumpDecided_57 rfl (lv_at hl 4 rfl) ?_
        refine lv_iload hx hb dX9_isJumpDecided_58 (lv_at hl 0 rfl) ?_
        have J_81 : ∀  (H : Heap) (locs : List Loc) (ls : Array Slot), va_P (gD g) cl0 ws H → va_D A ws → va_S A s.heap H locs → lv_has ls 5 [] → W p l e (headSpec (wt yX9_isJumpDecided cX9_isJumpDecided 5 (some .boolean)) ({ frames := 3, cells := 0, slots := 0, locals := 74 })).room s m ([.ref h0, .int x1] : List Value).toArray below meth c H locs (0) (0) (MQ below (va_Qi (fun (r : Int32) (u9 : va_W) => r = 0 ∨ r = 1) (gQ1 g [(7, 2), (7, 9)] [(7, 0), (7, 1), (7, 3), (7, 5), (7, 6), (7, 7), (7, 8)] none A ws) A) ([.ref h0, .int x1] : List Value).toArray s (0) (0) A) (F0 m 81 ls []) := by
          intro  H locs ls  hP hD hS hl
          refine lv_iconst (v := 0) hx hb dX9_isJumpDecided_81 (by decide) ?_
          refine W.widen (k := 0) (n := 0) (Nat.le_of_ble_eq_true rfl) (Nat.le_of_ble_eq_true rfl) ?_
          exact W.zret (v := 0) hx hb hr (nz (Or.inl rfl)) (fun t9 ht9 hW9 => ⟨⟨_, ws, rfl, (Or.inl rfl), ⟨gE.rf, gF.rf, hG, by rw [ht9]; exact hP, hD⟩⟩, hS.F ht9⟩) hS.2.2 dX9_isJumpDecided_82
        refine lv_icmp_lt (tgt := 81) hx hb dX9_isJumpDecided_60 (by decide) (fun c_20 => ?_) (fun c_20 => ?_)
        · exact J_81  H locs ls  hP hD hS (lv_sub hl [] rfl)
        · refine lv_iload_n hx hb dX9_isJumpDecided_63 rfl (lv_at hl 4 rfl) ?_
          refine lv_iload hx hb dX9_isJumpDecided_64 (lv_at hl 0 rfl) ?_
          refine lv_bipush (v := 6) hx hb dX9_isJumpDecided_66 (by decide) ?_
          refine lv_iadd hx hb dX9_isJumpDecided_68 ?_
          refine lv_topi (fun z_21 ez_21 => ?_)
          refine lv_icmp_ge (tgt := 81) hx hb dX9_isJumpDecided_69 (by decide) (fun c_22 => ?_) (fun c_22 => ?_)
          · exact J_81  H locs ls  hP hD hS (lv_sub hl [] rfl)
          · refine lv_aload_n hx hb dX9_isJumpDecided_72 rfl (lv_at hl 1 rfl) ?_
            refine lv_iload_n hx hb dX9_isJumpDecided_73 rfl (lv_at hl 2 rfl) ?_
            refine lv_iload_n hx hb dX9_isJumpDecided_74 rfl (lv_at hl 3 rfl) ?_
            have hFc := gfree hD hS hA
            refine va_calli (va_runV (As := [.int x1, .int t_6]) (rest := []) ⟨hx, hb, hml, hown, hts⟩ (m_X9_isWindow l g H.size ws h0 (x1) (t_6) hG o_h0 (gP_of hD hk_1 (fun p90 q90 e90 g90 => by cases e90; have z90 := gI_n hD a_r2_1 g90; subst z90; exact (by have q_f4_1 := f4_1; have q_fq_a := fq_a; omega))) (gP_of hD hk_1 (fun p90 q90 e90 g90 => by cases e90; have z90 := gI_n hD a_r3_1 g90; subst z90; exact (by have q_f6_1 := f6_1; have q_fq_b := fq_b; omega))) (gP_of hD hk_1 (fun p90 q90 e90 g90 => by cases e90; have z90 := gI_n hD a_r4_1 g90; subst z90; exact (by have q_f8_1 := f8_1; have q_fq_d := fq_d; omega))) (gP_of hD hk_1 (fun p90 q90 e90 g90 => by cases e90; have z90 := gI_n hD a_r5_1 g90; subst z90; exact (by have q_f10_1 := f10_1; have q_fq_f := fq_f; omega))) (by have e1 : (1 : Int32).toInt = 1 := (by decide); have q_p0 := p0; have q_px := px; obtain ⟨u_z_4, q_z_4⟩ := i_add ez_4; obtain ⟨u_z_10, q_z_10⟩ := i_add ez_10; have q_iv_7 := iv_7; obtain ⟨u_z_11, q_z_11⟩ := i_sub ez_11; have g_t_6 := i_rg t_6; have g_x1 := i_rg x1; have g_z_10 := i_rg z_10; have g_z_11 := i_rg z_11; have g_z_4 := i_rg z_4; omega) (by have e1 : (1 : Int32).toInt = 1 := (by decide); have q_p0 := p0; have q_px := px; obtain ⟨u_z_4, q_z_4⟩ := i_add ez_4; obtain ⟨u_z_10, q_z_10⟩ := i_add ez_10; have q_iv_7 := iv_7; obtain ⟨u_z_11, q_z_11⟩ := i_sub ez_11; have g_t_6 := i_rg t_6; have g_x1 := i_rg x1; have g_z_10 := i_rg z_10; have g_z_11 := i_rg z_11; have g_z_4 := i_rg z_4; omega) (by have e1 : (1 : Int32).toInt = 1 := (by decide); have q_iv_7 := iv_7; obtain ⟨u_z_10, q_z_10⟩ := i_add ez_10; have q_p0 := p0; have q_px := px; obtain ⟨u_z_4, q_z_4⟩ := i_add ez_4; obtain ⟨u_z_11, q_z_11⟩ := i_sub ez_11; have g_t_6 := i_rg t_6; have g_x1 := i_rg x1; have g_z_10 := i_rg z_10; have g_z_11 := i_rg z_11; have g_z_4 := i_rg z_4; omega)) (cwV 2 hts (gd_V kw_1610 kw_1658 kw_1659 kw_404 kw_1657) rfl rfl rfl (by decide +kernel) ⟨Nat.le_of_ble_eq_true rfl, Nat.le_of_ble_eq_true rfl⟩) ⟨gblind, va_recv hK hP (ci := 8) (q0 := k_1) rfl hk_1, fun U hU hW9 => gmk hU hW9 hP hK hD hex hE hS hFc⟩ rfl rfl hl.1 rfl (lv_room (Nat.le_of_ble_eq_true rfl)) dX9_isJumpDecided_75 ⟨Nat.le_of_ble_eq_true rfl, Nat.le_of_ble_eq_true rfl⟩) hS (fun q _ h => hFc q h) hFc (fun r_23 u9 t9 H1 locs ht9 hvm9 hw9 hB9 hz9 hk9 hS => ?_)
            have hP : va_P (gD g) cl0 ws H1 := by rw [← ht9]; exact hB9.1
            have hz_r_23 : r_23 = 0 ∨ r_23 = 1 := hw9
            clear hB9 hz9 hk9 hvm9 ht9 hw9
            generalize H1 = H at hP hS ⊢
            refine lv_if_ne (tgt := 83) hx hb dX9_isJumpDecided_78 (by decide) (fun c_24 => ?_) (fun c_24 => ?_)
            · refine lv_iload_n hx hb dX9_isJumpDecided_83 rfl (lv_at hl 4 rfl) ?_
              refine lv_aload_n hx hb dX9_isJumpDecided_84 rfl (lv_at hl 1 rfl) ?_
              refine va_get (D := gD g) (ci := 8) (v := .ref r0_1) (C := RX9) (T := TX9) (N := 6) hx hb hts inX9 hown hK hP k_1 hk_1 rfl 0 (by decide) (hts _ kw_1552) (fun _ h9 => h9) rfl dX9_isJumpDecided_85 ?_
              refine lv_iload_n hx hb dX9_isJumpDecided_88 rfl (lv_at hl 2 rfl) ?_
              have hFc := gfree hD hS hA
              obtain ⟨k_25, fs_25, hk_25⟩ := gC_of o_r0_1
              refine va_calll (va_runV (As := [.int x1]) (rest := [.int r_13]) ⟨hx, hb, hml, hown, hts⟩ (m_X8_argAt l g H.size ws r0_1 (x1) hG o_r0_1) (cwV 1 hts (gd_V kw_1605 kw_1476 kw_1477 kw_782 kw_1475) rfl rfl rfl (by decide +kernel) ⟨Nat.le_of_ble_eq_true rfl, Nat.le_of_ble_eq_true rfl⟩) ⟨gblind, va_recv hK hP (ci := 7) (q0 := k_25) rfl hk_25, fun U hU hW9 => gmk hU hW9 hP hK hD hex hE hS hFc⟩ rfl rfl hl.1 rfl (lv_room (Nat.le_of_ble_eq_true rfl)) dX9_isJumpDecided_89 ⟨Nat.le_of_ble_eq_true rfl, Nat.le_of_ble_eq_true rfl⟩) hS (fun q _ h => hFc q h) hFc (fun r_26 u9 t9 H1 locs ht9 hvm9 hw9 hB9 hz9 hk9 hS => ?_)
              have hP : va_P (gD g) cl0 ws H1 := by rw [← ht9]; exact hB9.1
              clear hB9 hz9 hk9 hvm9 ht9 hw9
              generalize H1 = H at hP hS ⊢
              obtain ⟨z_27, ez_27⟩ : ∃ y : Int32, (r_26 : Int64).toInt32 = y := ⟨_, rfl⟩
              refine lv_l2i (v := z_27) hx hb dX9_isJumpDecided_92 ez_27 ?_
              refine lv_iload_n hx hb dX9_isJumpDecided_93 rfl (lv_at hl 3 rfl) ?_
              refine lv_iconst (v := 3) hx hb dX9_isJumpDecided_94 (by decide) ?_
              have J_113 : ∀ (t_28 : Int32) (H : Heap) (locs : List Loc) (ls : Array Slot), va_P (gD g) cl0 ws H → va_D A ws → va_S A s.heap H locs → lv_has ls 5 [(0, .ref h0), (1, .int x1), (2, .int t_6)] → W p l e (headSpec (wt yX9_isJumpDecided cX9_isJumpDecided 5 (some .boolean)) ({ frames := 3, cells := 0, slots := 0, locals := 74 })).room s m ([.ref h0, .int x1] : List Value).toArray below meth c H locs (0) (0) (MQ below (va_Qi (fun (r : Int32) (u9 : va_W) => r = 0 ∨ r = 1) (gQ1 g [(7, 2), (7, 9)] [(7, 0), (7, 1), (7, 3), (7, 5), (7, 6), (7, 7), (7, 8)] none A ws) A) ([.ref h0, .int x1] : List Value).toArray s (0) (0) A) (F0 m 113 ls [.int t_28, .int z_27, .int r_13]) := by
                intro t_28 H locs ls  hP hD hS hl
                have hFc := gfree hD hS hA
                refine va_calli (va_runS (As := [.int r_13, .int z_27, .int t_28]) (rest := []) ⟨hx, hb, hml, hown, hts⟩ (m_X6_isTaken l g H.size ws (r_13) (z_27) (t_28) hG ) (va_cwS 3 hts (gd_S kw_1631 kw_1235 kw_1207 kw_1234) rfl rfl rfl (by decide +kernel) ⟨Nat.le_of_ble_eq_true rfl, Nat.le_of_ble_eq_true rfl⟩) ⟨gblind, fun U hU hW9 => gmk hU hW9 hP hK hD hex hE hS hFc⟩ rfl rfl hl.1 rfl (lv_room (Nat.le_of_ble_eq_true rfl)) dX9_isJumpDecided_113 ⟨Nat.le_of_ble_eq_true rfl, Nat.le_of_ble_eq_true rfl⟩) hS (fun q _ h => hFc q h) hFc (fun r_31 u9 t9 H1 locs ht9 hvm9 hw9 hB9 hz9 hk9 hS => ?_)
                have hP : va_P (gD g) cl0 ws H1 := by rw [← ht9]; exact hB9.1
                have hz_r_31 : r_31 = 0 ∨ r_31 = 1 := hw9
                clear hB9 hz9 hk9 hvm9 ht9 hw9
                generalize H1 = H at hP hS ⊢
                have J_167 : ∀ (ws_32 : va_W) (H : Heap) (locs : List Loc) (ls : Array Slot), gE ws ws_32 → gF [(7, 2), (7, 9)] [(7, 0), (7, 1), (7, 3), (7, 5), (7, 6), (7, 7), (7, 8)] none ws ws_32 → Good g ws_32 → va_P (gD g) cl0 ws_32 H → va_D A ws_32 → va_S A s.heap H locs → lv_has ls 5 [] → W p l e (headSpec (wt yX9_isJumpDecided cX9_isJumpDecided 5 (some .boolean)) ({ frames := 3, cells := 0, slots := 0, locals := 74 })).room s m ([.ref h0, .int x1] : List Value).toArray below meth c H locs (0) (0) (MQ below (va_Qi (fun (r : Int32) (u9 : va_W) => r = 0 ∨ r = 1) (gQ1 g [(7, 2), (7, 9)] [(7, 0), (7, 1), (7, 3), (7, 5), (7, 6), (7, 7), (7, 8)] none A ws) A) ([.ref h0, .int x1] : List Value).toArray s (0) (0) A) (F0 m 167 ls []) := by
                  intro ws_32 H locs ls  E_33 Fr_34 hG hP hD hS hl
                  have aa_35 := a_r1_1
                  have aa_36 := a_r2_1
                  have aa_37 := a_r3_1
                  have aa_38 := a_r4_1
                  have aa_39 := a_r5_1
                  have o_h0 := E_33.1 _ _ o_h0
                  refine lv_iconst (v := 1) hx hb dX9_isJumpDecided_167 (by decide) ?_
                  refine W.widen (k := 0) (n := 0) (Nat.le_of_ble_eq_true rfl) (Nat.le_of_ble_eq_true rfl) ?_
                  exact W.zret (v := 1) hx hb hr (nz (Or.inr rfl)) (fun t9 ht9 hW9 => ⟨⟨_, ws_32, rfl, (Or.inr rfl), ⟨E_33, Fr_34, hG, by rw [ht9]; exact hP, hD⟩⟩, hS.F ht9⟩) hS.2.2 dX9_isJumpDecided_168
                refine lv_if_eq (tgt := 158) hx hb dX9_isJumpDecided_116 (by decide) (fun c_40 => ?_) (fun c_40 => ?_)
                · refine lv_aload_n hx hb dX9_isJumpDecided_158 rfl (lv_at hl 0 rfl) ?_
                  refine va_get (D := gD g) (ci := 8) (v := .ref r0_1) (C := RX9) (T := TX9) (N := 6) hx hb hts inX9 hown hK hP k_1 hk_1 rfl 0 (by decide) (hts _ kw_1552) (fun _ h9 => h9) rfl dX9_isJumpDecided_159 ?_
                  refine lv_iload_n hx hb dX9_isJumpDecided_162 rfl (lv_at hl 1 rfl) ?_
                  refine lv_iload_n hx hb dX9_isJumpDecided_163 rfl (lv_at hl 2 rfl) ?_
                  have hFc := gfree hD hS hA
                  obtain ⟨k_41, fs_41, hk_41⟩ := gC_of o_r0_1
                  refine va_callv (va_runV (As := [.int x1, .int t_6]) (rest := []) ⟨hx, hb, hml, hown, hts⟩ (m_X8_remove l g H.size ws r0_1 (x1) (t_6) hG o_r0_1 (by have e1 : (1 : Int32).toInt = 1 := (by decide); have q_p0 := p0; have q_px := px; obtain ⟨u_z_4, q_z_4⟩ := i_add ez_4; obtain ⟨u_z_10, q_z_10⟩ := i_add ez_10; have q_iv_7 := iv_7; obtain ⟨u_z_11, q_z_11⟩ := i_sub ez_11; have g_t_6 := i_rg t_6; have g_x1 := i_rg x1; have g_z_10 := i_rg z_10; have g_z_11 := i_rg z_11; have g_z_4 := i_rg z_4; omega) (by have e1 : (1 : Int32).toInt = 1 := (by decide); have q_iv_7 := iv_7; obtain ⟨u_z_10, q_z_10⟩ := i_add ez_10; have q_p0 := p0; have q_px := px; obtain ⟨u_z_4, q_z_4⟩ := i_add ez_4; obtain ⟨u_z_11, q_z_11⟩ := i_sub ez_11; have g_t_6 := i_rg t_6; have g_x1 := i_rg x1; have g_z_10 := i_rg z_10; have g_z_11 := i_rg z_11; have g_z_4 := i_rg z_4; omega)) (cwV 2 hts (gd_V kw_1555 kw_1516 kw_1517 kw_782 kw_1515) rfl rfl rfl (by decide +kernel) ⟨Nat.le_of_ble_eq_true rfl, Nat.le_of_ble_eq_true rfl⟩) ⟨gblind, va_recv hK hP (ci := 7) (q0 := k_41) rfl hk_41, fun U hU hW9 => gmk hU hW9 hP hK hD hex hE hS hFc⟩ rfl rfl hl.1 rfl (lv_room (Nat.le_of_ble_eq_true rfl)) dX9_isJumpDecided_164 ⟨Nat.le_of_ble_eq_true rfl, Nat.le_of_ble_eq_true rfl⟩) hS (fun q _ h => hFc q h) hFc (fun  ws_42 t9 H1 locs ht9 hvm9 hw9 hB9 hz9 hk9 hS => ?_)
                  obtain ⟨E_43, Fr_44, hG, hP1, hD1⟩ := hB9
                  have hP : va_P (gD g) cl0 ws_42 H1 := by rw [← ht9]; exact hP1
                  have hD : va_D A ws_42 := hD1.weaken (fun _ _ _ h => hFc _ h)
                  clear hP1 hD1 hz9 hk9 hvm9 ht9 hw9
                  generalize H1 = H at hP hS ⊢
                  have aa_47 := a_r1_1
                  have aa_48 := a_r2_1
                  have aa_49 := a_r3_1
                  have aa_50 := a_r4_1
                  have aa_51 := a_r5_1
                  have o_h0 := E_43.1 _ _ o_h0
                  exact J_167 ws_42 H locs ls (E_43) ((gF.mo (F' := [(7, 2), (7, 9)]) (C' := [(7, 0), (7, 1), (7, 3), (7, 5), (7, 6), (7, 7), (7, 8)]) (S' := none) Fr_44 (fun _ h => h) (fun _ h => h) (Or.inl rfl))) hG hP hD hS (lv_sub hl [] rfl)
                · refine lv_aload_n hx hb dX9_isJumpDecided_119 rfl (lv_at hl 0 rfl) ?_
                  refine va_get (D := gD g) (ci := 8) (v := .ref r0_1) (C := RX9) (T := TX9) (N := 6) hx hb hts inX9 hown hK hP k_1 hk_1 rfl 0 (by decide) (hts _ kw_1552) (fun _ h9 => h9) rfl dX9_isJumpDecided_120 ?_
                  refine lv_iload_n hx hb dX9_isJumpDecided_123 rfl (lv_at hl 1 rfl) ?_
                  refine lv_sipush (v := 167) hx hb dX9_isJumpDecided_124 (by decide) ?_
                  refine lv_aload_n hx hb dX9_isJumpDecided_127 rfl (lv_at hl 0 rfl) ?_
                  refine va_get (D := gD g) (ci := 8) (v := .ref r0_1) (C := RX9) (T := TX9) (N := 6) hx hb hts inX9 hown hK hP k_1 hk_1 rfl 0 (by decide) (hts _ kw_1552) (fun _ h9 => h9) rfl dX9_isJumpDecided_128 ?_
                  refine lv_iload_n hx hb dX9_isJumpDecided_131 rfl (lv_at hl 1 rfl) ?_
                  refine lv_iload_n hx hb dX9_isJumpDecided_132 rfl (lv_at hl 2 rfl) ?_
                  refine lv_iadd hx hb dX9_isJumpDecided_133 ?_
                  refine lv_topi (fun z_52 ez_52 => ?_)
                  refine lv_iconst (v := 1) hx hb dX9_isJumpDecided_134 (by decide) ?_
                  refine lv_isub hx hb dX9_isJumpDecided_135 ?_
                  refine lv_topi (fun z_53 ez_53 => ?_)
                  have hFc := gfree hD hS hA
                  obtain ⟨k_54, fs_54, hk_54⟩ := gC_of o_r0_1
                  refine va_calll (va_runV (As := [.int z_53]) (rest := [.int 167, .int x1, .ref r0_1]) ⟨hx, hb, hml, hown, hts⟩ (m_X8_argAt l g H.size ws r0_1 (z_53) hG o_r0_1) (cwV 1 hts (gd_V kw_1605 kw_1476 kw_1477 kw_782 kw_1475) rfl rfl rfl (by decide +kernel) ⟨Nat.le_of_ble_eq_true rfl, Nat.le_of_ble_eq_true rfl⟩) ⟨gblind, va_recv hK hP (ci := 7) (q0 := k_54) rfl hk_54, fun U hU hW9 => gmk hU hW9 hP hK hD hex hE hS hFc⟩ rfl rfl hl.1 rfl (lv_room (Nat.le_of_ble_eq_true rfl)) dX9_isJumpDecided_136 ⟨Nat.le_of_ble_eq_true rfl, Nat.le_of_ble_eq_true rfl⟩) hS (fun q _ h => hFc q h) hFc (fun r_55 u9 t9 H1 locs ht9 hvm9 hw9 hB9 hz9 hk9 hS => ?_)
                  have hP : va_P (gD g) cl0 ws H1 := by rw [← ht9]; exact hB9.1
                  clear hB9 hz9 hk9 hvm9 ht9 hw9
                  generalize H1 = H at hP hS ⊢
                  have hFc := gfree hD hS hA
                  obtain ⟨k_56, fs_56, hk_56⟩ := gC_of o_r0_1
                  refine va_callv (va_runV (As := [.int x1, .int 167, .long r_55]) (rest := []) ⟨hx, hb, hml, hown, hts⟩ (m_X8_set l g H.size ws r0_1 (x1) (167) (r_55) hG o_r0_1) (cwV 3 hts (gd_V kw_1600 kw_1523 kw_1524 kw_782 kw_1522) rfl rfl rfl (by decide +kernel) ⟨Nat.le_of_ble_eq_true rfl, Nat.le_of_ble_eq_true rfl⟩) ⟨gblind, va_recv hK hP (ci := 7) (q0 := k_56) rfl hk_56, fun U hU hW9 => gmk hU hW9 hP hK hD hex hE hS hFc⟩ rfl rfl hl.1 rfl (lv_room (Nat.le_of_ble_eq_true rfl)) dX9_isJumpDecided_139 ⟨Nat.le_of_ble_eq_true rfl, Nat.le_of_ble_eq_true rfl⟩) hS (fun q _ h => hFc q h) hFc (fun  ws_57 t9 H1 locs ht9 hvm9 hw9 hB9 hz9 hk9 hS => ?_)
                  obtain ⟨E_58, Fr_59, hG, hP1, hD1⟩ := hB9
                  have hP : va_P (gD g) cl0 ws_57 H1 := by rw [← ht9]; exact hP1
                  have hD : va_D A ws_57 := hD1.weaken (fun _ _ _ h => hFc _ h)
                  clear hP1 hD1 hz9 hk9 hvm9 ht9 hw9
                  generalize H1 = H at hP hS ⊢
                  have aa_62 := a_r1_1
                  have aa_63 := a_r2_1
                  have aa_64 := a_r3_1
                  have aa_65 := a_r4_1
                  have aa_66 := a_r5_1
                  have o_h0 := E_58.1 _ _ o_h0
                  refine lv_aload_n hx hb dX9_isJumpDecided_142 rfl (lv_at hl 0 rfl) ?_
                  obtain ⟨fs9, hk_67, hq_67⟩ := ((gF.a (F' := []) Fr_59 (fun _ h => h))) _ _ _ hk_1
                  obtain ⟨r0_67, r1_67, n1_67, r2_67, n2_67, r3_67, n3_67, r4_67, n4_67, r5_67, n5_67, rfl, o_r0_67, a_r1_67, f2_67, a_r2_67, f4_67, a_r3_67, f6_67, a_r4_67, f8_67, a_r5_67, f10_67, f11_67, -⟩ := (hG.1 _ _ _ _ hk_67).hX9 rfl
                  obtain rfl := fe_r (hq_67 0 (by decide))
                  have o_r0_1 := o_r0_67
                  obtain rfl := fe_r (hq_67 2 (by decide))
                  have hn9 := gI_n hD ((E_58).1 _ _ aa_63) a_r2_67
                  subst hn9
                  have a_r2_1 := a_r2_67
                  obtain rfl := fe_r (hq_67 3 (by decide))
                  have hn9 := gI_n hD ((E_58).1 _ _ aa_64) a_r3_67
                  subst hn9
                  have a_r3_1 := a_r3_67
                  obtain rfl := fe_r (hq_67 4 (by decide))
                  have hn9 := gI_n hD ((E_58).1 _ _ aa_65) a_r4_67
                  subst hn9
                  have a_r4_1 := a_r4_67
                  obtain rfl := fe_r (hq_67 5 (by decide))
                  have hn9 := gI_n hD ((E_58).1 _ _ aa_66) a_r5_67
                  subst hn9
                  have a_r5_1 := a_r5_67
                  refine va_get (D := gD g) (ci := 8) (v := .ref r0_1) (C := RX9) (T := TX9) (N := 6) hx hb hts inX9 hown hK hP k_1 hk_67 rfl 0 (by decide) (hts _ kw_1552) (fun _ h9 => h9) rfl dX9_isJumpDecided_143 ?_
                  refine lv_iload_n hx hb dX9_isJumpDecided_146 rfl (lv_at hl 1 rfl) ?_
                  refine lv_iconst (v := 1) hx hb dX9_isJumpDecided_147 (by decide) ?_
                  refine lv_iadd hx hb dX9_isJumpDecided_148 ?_
                  refine lv_topi (fun z_68 ez_68 => ?_)
                  refine lv_iload_n hx hb dX9_isJumpDecided_149 rfl (lv_at hl 2 rfl) ?_
                  refine lv_iconst (v := 1) hx hb dX9_isJumpDecided_150 (by decide) ?_
                  refine lv_isub hx hb dX9_isJumpDecided_151 ?_
                  refine lv_topi (fun z_69 ez_69 => ?_)
                  have hFc := gfree hD hS hA
                  obtain ⟨k_70, fs_70, hk_70⟩ := gC_of o_r0_1
                  refine va_callv (va_runV (As := [.int z_68, .int z_69]) (rest := []) ⟨hx, hb, hml, hown, hts⟩ (m_X8_remove l g H.size ws_57 r0_1 (z_68) (z_69) hG o_r0_1 (by have e1 : (1 : Int32).toInt = 1 := (by decide); obtain ⟨u_z_68, q_z_68⟩ := i_add ez_68; have q_p0 := p0; have q_px := px; obtain ⟨u_z_4, q_z_4⟩ := i_add ez_4; obtain ⟨u_z_10, q_z_10⟩ := i_add ez_10; obtain ⟨u_z_52, q_z_52⟩ := i_add ez_52; have q_iv_7 := iv_7; obtain ⟨u_z_11, q_z_11⟩ := i_sub ez_11; obtain ⟨u_z_53, q_z_53⟩ := i_sub ez_53; obtain ⟨u_z_69, q_z_69⟩ := i_sub ez_69; have g_t_6 := i_rg t_6; have g_x1 := i_rg x1; have g_z_10 := i_rg z_10; have g_z_11 := i_rg z_11; have g_z_4 := i_rg z_4; have g_z_52 := i_rg z_52; have g_z_53 := i_rg z_53; have g_z_68 := i_rg z_68; have g_z_69 := i_rg z_69; omega) (by have e1 : (1 : Int32).toInt = 1 := (by decide); obtain ⟨u_z_69, q_z_69⟩ := i_sub ez_69; have q_iv_7 := iv_7; obtain ⟨u_z_10, q_z_10⟩ := i_add ez_10; obtain ⟨u_z_52, q_z_52⟩ := i_add ez_52; have q_p0 := p0; have q_px := px; obtain ⟨u_z_4, q_z_4⟩ := i_add ez_4; obtain ⟨u_z_11, q_z_11⟩ := i_sub ez_11; obtain ⟨u_z_53, q_z_53⟩ := i_sub ez_53; obtain ⟨u_z_68, q_z_68⟩ := i_add ez_68; have g_t_6 := i_rg t_6; have g_x1 := i_rg x1; have g_z_10 := i_rg z_10; have g_z_11 := i_rg z_11; have g_z_4 := i_rg z_4; have g_z_52 := i_rg z_52; have g_z_53 := i_rg z_53; have g_z_68 := i_rg z_68; have g_z_69 := i_rg z_69; omega)) (cwV 2 hts (gd_V kw_1555 kw_1516 kw_1517 kw_782 kw_1515) rfl rfl rfl (by decide +kernel) ⟨Nat.le_of_ble_eq_true rfl, Nat.le_of_ble_eq_true rfl⟩) ⟨gblind, va_recv hK hP (ci := 7) (q0 := k_70) rfl hk_70, fun U hU hW9 => gmk hU hW9 hP hK hD hex hE hS hFc⟩ rfl rfl hl.1 rfl (lv_room (Nat.le_of_ble_eq_true rfl)) dX9_isJumpDecided_152 ⟨Nat.le_of_ble_eq_true rfl, Nat.le_of_ble_eq_true rfl⟩) hS (fun q _ h => hFc q h) hFc (fun  ws_71 t9 H1 locs ht9 hvm9 hw9 hB9 hz9 hk9 hS => ?_)
                  obtain ⟨E_72, Fr_73, hG, hP1, hD1⟩ := hB9
                  have hP : va_P (gD g) cl0 ws_71 H1 := by rw [← ht9]; exact hP1
                  have hD : va_D A ws_71 := hD1.weaken (fun _ _ _ h => hFc _ h)
                  clear hP1 hD1 hz9 hk9 hvm9 ht9 hw9
                  generalize H1 = H at hP hS ⊢
                  have aa_76 := a_r1_67
                  have aa_77 := a_r2_1
                  have aa_78 := a_r3_1
                  have aa_79 := a_r4_1
                  have aa_80 := a_r5_1
                  have o_h0 := E_72.1 _ _ o_h0
                  refine lv_goto (tgt := 167) hx hb dX9_isJumpDecided_155 (by decide) ?_
                  exact J_167 ws_71 H locs ls ((E_58.tr E_72)) ((gF.tr (gF.mo (F' := [(7, 2), (7, 9)]) (C' := [(7, 0), (7, 1), (7, 3), (7, 5), (7, 6), (7, 7), (7, 8)]) (S' := none) Fr_59 (fun _ h => absurd h List.not_mem_nil) (by decide) (Or.inl rfl)) (gF.mo (F' := [(7, 2), (7, 9)]) (C' := [(7, 0), (7, 1), (7, 3), (7, 5), (7, 6), (7, 7), (7, 8)]) (S' := none) Fr_73 (fun _ h => h) (fun _ h => h) (Or.inl rfl)))) hG hP hD hS (lv_sub hl [] rfl)
              refine lv_icmp_ne (tgt := 112) hx hb dX9_isJumpDecided_95 (by decide) (fun c_81 => ?_) (fun c_81 => ?_)
              · refine lv_iconst (v := 0) hx hb dX9_isJumpDecided_112 (by decide) ?_
                exact J_113 (0) H locs ls  hP hD hS (lv_sub hl [1, 2, 3] rfl)
              · refine lv_aload_n hx hb dX9_isJumpDecided_98 rfl (lv_at hl 1 rfl) ?_
                refine va_get (D := gD g) (ci := 8) (v := .ref r0_1) (C := RX9) (T := TX9) (N := 6) hx hb hts inX9 hown hK hP k_1 hk_1 rfl 0 (by decide) (hts _ kw_1552) (fun _ h9 => h9) rfl dX9_isJumpDecided_99 ?_
                refine lv_iload_n hx hb dX9_isJumpDecided_102 rfl (lv_at hl 2 rfl) ?_
                refine lv_iconst (v := 1) hx hb dX9_isJumpDecided_103 (by decide) ?_
                refine lv_iadd hx hb dX9_isJumpDecided_104 ?_
                refine lv_topi (fun z_82 ez_82 => ?_)
                have hFc := gfree hD hS hA
                obtain ⟨k_83, fs_83, hk_83⟩ := gC_of o_r0_1
                refine va_calll (va_runV (As := [.int z_82]) (rest := [.int z_27, .int r_13]) ⟨hx, hb, hml, hown, hts⟩ (m_X8_argAt l g H.size ws r0_1 (z_82) hG o_r0_1) (cwV 1 hts (gd_V kw_1605 kw_1476 kw_1477 kw_782 kw_1475) rfl rfl rfl (by decide +kernel) ⟨Nat.le_of_ble_eq_true rfl, Nat.le_of_ble_eq_true rfl⟩) ⟨gblind, va_recv hK hP (ci := 7) (q0 := k_83) rfl hk_83, fun U hU hW9 => gmk hU hW9 hP hK hD hex hE hS hFc⟩ rfl rfl hl.1 rfl (lv_room (Nat.le_of_ble_eq_true rfl)) dX9_isJumpDecided_105 ⟨Nat.le_of_ble_eq_true rfl, Nat.le_of_ble_eq_true rfl⟩) hS (fun q _ h => hFc q h) hFc (fun r_84 u9 t9 H1 locs ht9 hvm9 hw9 hB9 hz9 hk9 hS => ?_)
                have hP : va_P (gD g) cl0 ws H1 := by rw [← ht9]; exact hB9.1
                clear hB9 hz9 hk9 hvm9 ht9 hw9
                generalize H1 = H at hP hS ⊢
                obtain ⟨z_85, ez_85⟩ : ∃ y : Int32, (r_84 : Int64).toInt32 = y := ⟨_, rfl⟩
                refine lv_l2i (v := z_85) hx hb dX9_isJumpDecided_108 ez_85 ?_
                refine lv_goto (tgt := 113) hx hb dX9_isJumpDecided_109 (by decide) ?_
                exact J_113 (z_85) H locs ls  hP hD hS (lv_sub hl [1, 2, 3] rfl)
            · exact J_81  H locs ls  hP hD hS (lv_sub hl [] rfl)
      refine lv_icmp_ne (tgt := 52) hx hb dX9_isJumpDecided_43 (by decide) (fun c_86 => ?_) (fun c_86 => ?_)
      · refine lv_sipush (v := 153) hx hb dX9_isJumpDecided_52 (by decide) ?_
        exact J_55 (153) H locs ls (by have e1 : (1 : Int32).toInt = 1 := (by decide); have e3 : (3 : Int32).toInt = 3 := (by decide); have e153 : (153 : Int32).toInt = 153 := (by decide); have q_p0 := p0; have q_px := px; obtain ⟨u_z_4, q_z_4⟩ := i_add ez_4; obtain ⟨u_z_10, q_z_10⟩ := i_add ez_10; have q_iv_7 := iv_7; obtain ⟨u_z_11, q_z_11⟩ := i_sub ez_11; have q_c_86 := i_ne c_86; have g_t_6 := i_rg t_6; have g_x1 := i_rg x1; have g_z_10 := i_rg z_10; have g_z_11 := i_rg z_11; have g_z_4 := i_rg z_4; omega) hP hD hS (lv_sub hl [2, 3, 1, 0] rfl)
      · refine lv_sipush (v := 159) hx hb dX9_isJumpDecided_46 (by decide) ?_
        refine lv_goto (tgt := 55) hx hb dX9_isJumpDecided_49 (by decide) ?_
        exact J_55 (159) H locs ls (by have e1 : (1 : Int32).toInt = 1 := (by decide); have e3 : (3 : Int32).toInt = 3 := (by decide); have e159 : (159 : Int32).toInt = 159 := (by decide); have q_p0 := p0; have q_px := px; obtain ⟨u_z_4, q_z_4⟩ := i_add ez_4; obtain ⟨u_z_10, q_z_10⟩ := i_add ez_10; have q_iv_7 := iv_7; obtain ⟨u_z_11, q_z_11⟩ := i_sub ez_11; have q_c_86 := i_eq c_86; have g_t_6 := i_rg t_6; have g_x1 := i_rg x1; have g_z_10 := i_rg z_10; have g_z_11 := i_rg z_11; have g_z_4 := i_rg z_4; omega) hP hD hS (lv_sub hl [2, 3, 1, 0] rfl)
    refine lv_icmp_ne (tgt := 26) hx hb dX9_isJumpDecided_19 (by decide) (fun c_87 => ?_) (fun c_87 => ?_)
    · refine lv_iconst (v := 2) hx hb dX9_isJumpDecided_26 (by decide) ?_
      exact J_27 (2) H locs ls (by have e1 : (1 : Int32).toInt = 1 := (by decide); have e2 : (2 : Int32).toInt = 2 := (by decide); have q_p0 := p0; have q_px := px; obtain ⟨u_z_4, q_z_4⟩ := i_add ez_4; have g_x1 := i_rg x1; have g_z_4 := i_rg z_4; omega) hP hD hS (lv_sub hl [0, 1] rfl)
    · refine lv_iconst (v := 3) hx hb dX9_isJumpDecided_22 (by decide) ?_
      refine lv_goto (tgt := 27) hx hb dX9_isJumpDecided_23 (by decide) ?_
      exact J_27 (3) H locs ls (by have e1 : (1 : Int32).toInt = 1 := (by decide); have e3 : (3 : Int32).toInt = 3 := (by decide); have q_p0 := p0; have q_px := px; obtain ⟨u_z_4, q_z_4⟩ := i_add ez_4; have g_x1 := i_rg x1; have g_z_4 := i_rg z_4; omega) hP hD hS (lv_sub hl [0, 1] rfl)
  · refine lv_iconst (v := 0) hx hb dX9_isJumpDecided_9 (by decide) ?_
    refine W.widen (k := 0) (n := 0) (Nat.le_of_ble_eq_true rfl) (Nat.le_of_ble_eq_true rfl) ?_
    exact W.zret (v := 0) hx hb hr (nz (Or.inl rfl)) (fun t9 ht9 hW9 => ⟨⟨_, ws, rfl, (Or.inl rfl), ⟨gE.rf, gF.rf, hG, by rw [ht9]; exact hP, hD⟩⟩, hS.F ht9⟩) hS.2.2 dX9_isJumpDecided_10
set_option maxHeartbeats 1000000 in
set_option maxRecDepth 100000 in
theorem m_X9_isNeutral (l : Launch) (g : Gm) (sz : Nat) (ws : va_W) (h0 : Nat) (x1 : Int32) (hG : Good g ws) (o_h0 : gC ws h0 8) : Met l yX9_isNeutral (wt yX9_isNeutral cX9_isNeutral 4 (some .boolean)) ({ frames := 2, cells := 0, slots := 0, locals := 43 }) (va_Pc [.ref h0, .int x1] (st_G g sz ws)) (va_Qi (fun (r : Int32) (u9 : Unit) => r = 0 ∨ r = 1) (gQ0 g (va_A ws sz) ws) (va_A ws sz)) (0) (0) (va_A ws sz) := by
  refine Met.ofW (cc := cX9_isNeutral) (maxL := 4) (ret := (some .boolean)) (by decide) rfl ?_
  intro p e s m args below meth c s₁ B hml hv
  obtain ⟨rfl, hsz, hP, hK, hD0, hex, hE⟩ := hv
  have hx := B.exec
  have hb := B.bytes
  have hr := B.returns
  have hts0 := atoms_spec (ws := wt yX9_isNeutral cX9_isNeutral 4 (some .boolean)) B.pre
  have hts : ∀ w ∈ tb, w.before _ s = true := fun w h => hts0 w (List.mem_cons_of_mem _ h)
  have hown : s.vm.findClass RX9 = some m.cls := findClass_of_methodNamed B.named
  subst hsz
  have hD := hD0.self (sz := s.heap.size)
  generalize hAe : va_A ws s.heap.size = A at hD hE ⊢
  have hA : ∀ q : Nat, s.heap.size ≤ q → A q := fun q h => by rw [← hAe]; exact Or.inr h
  have hS : va_S A s.heap s.heap [] := va_S.rf
  have hl := lv_entry ([.ref h0, .int x1]) (n := 4) (Nat.le_of_ble_eq_true rfl)
  rw [lg_entry_eq]
  generalize (lg_sl ([.ref h0, .int x1]) ++ List.replicate (4 - (lg_sl ([.ref h0, .int x1])).length) Slot.unset).toArray = ls at hl ⊢
  have hl : lv_has ls 4 [(0, .ref h0), (1, .int x1)] := hl
  refine lv_aload_n hx hb dX9_isNeutral_0 rfl (lv_at hl 0 rfl) ?_
  obtain ⟨k_1, fs9, hk_1⟩ := gC_of o_h0
  obtain ⟨r0_1, r1_1, n1_1, r2_1, n2_1, r3_1, n3_1, r4_1, n4_1, r5_1, n5_1, rfl, o_r0_1, a_r1_1, f2_1, a_r2_1, f4_1, a_r3_1, f6_1, a_r4_1, f8_1, a_r5_1, f10_1, f11_1, -⟩ := (hG.1 _ _ _ _ hk_1).hX9 rfl
  refine va_get (D := gD g) (ci := 8) (v := .ref r0_1) (C := RX9) (T := TX9) (N := 6) hx hb hts inX9 hown hK hP k_1 hk_1 rfl 0 (by decide) (hts _ kw_1552) (fun _ h9 => h9) rfl dX9_isNeutral_1 ?_
  refine lv_iload_n hx hb dX9_isNeutral_4 rfl (lv_at hl 1 rfl) ?_
  refine lv_iconst (v := 1) hx hb dX9_isNeutral_5 (by decide) ?_
  refine lv_iadd hx hb dX9_isNeutral_6 ?_
  refine lv_topi (fun z_2 ez_2 => ?_)
  have hFc := gfree hD hS hA
  obtain ⟨k_3, fs_3, hk_3⟩ := gC_of o_r0_1
  refine va_calli (va_runV (As := [.int z_2]) (rest := []) ⟨hx, hb, hml, hown, hts⟩ (m_X8_opAt l g s.heap.size ws r0_1 (z_2) hG o_r0_1) (cwV 1 hts (gd_V kw_1596 kw_1513 kw_1514 kw_782 kw_1512) rfl rfl rfl (by decide +kernel) ⟨Nat.le_of_ble_eq_true rfl, Nat.le_of_ble_eq_true rfl⟩) ⟨gblind, va_recv hK hP (ci := 7) (q0 := k_3) rfl hk_3, fun U hU hW9 => gmk hU hW9 hP hK hD hex hE hS hFc⟩ rfl rfl hl.1 rfl (lv_room (Nat.le_of_ble_eq_true rfl)) dX9_isNeutral_7 ⟨Nat.le_of_ble_eq_true rfl, Nat.le_of_ble_eq_true rfl⟩) hS (fun q _ h => hFc q h) hFc (fun r_4 u9 t9 H1 locs ht9 hvm9 hw9 hB9 hz9 hk9 hS => ?_)
  have hP : va_P (gD g) cl0 ws H1 := by rw [← ht9]; exact hB9.1
  clear hB9 hz9 hk9 hvm9 ht9 hw9
  generalize H1 = H at hP hS ⊢
  refine lv_istore_n (lv' := [(2, .int r_4), (0, .ref h0), (1, .int x1)]) hx hb dX9_isNeutral_10 rfl hl (by decide) rfl (fun ls hl => ?_)
  refine lv_aload_n hx hb dX9_isNeutral_11 rfl (lv_at hl 1 rfl) ?_
  refine lv_iload_n hx hb dX9_isNeutral_12 rfl (lv_at hl 2 rfl) ?_
  have hFc := gfree hD hS hA
  refine va_calli (va_runV (As := [.int x1]) (rest := []) ⟨hx, hb, hml, hown, hts⟩ (m_X9_pushKind l g H.size ws h0 (x1) hG o_h0) (cwV 1 hts (gd_V kw_1622 kw_1696 kw_1697 kw_404 kw_1695) rfl rfl rfl (by decide +kernel) ⟨Nat.le_of_ble_eq_true rfl, Nat.le_of_ble_eq_true rfl⟩) ⟨gblind, va_recv hK hP (ci := 8) (q0 := k_1) rfl hk_1, fun U hU hW9 => gmk hU hW9 hP hK hD hex hE hS hFc⟩ rfl rfl hl.1 rfl (lv_room (Nat.le_of_ble_eq_true rfl)) dX9_isNeutral_13 ⟨Nat.le_of_ble_eq_true rfl, Nat.le_of_ble_eq_true rfl⟩) hS (fun q _ h => hFc q h) hFc (fun r_5 u9 t9 H1 locs ht9 hvm9 hw9 hB9 hz9 hk9 hS => ?_)
  have hP : va_P (gD g) cl0 ws H1 := by rw [← ht9]; exact hB9.1
  clear hB9 hz9 hk9 hvm9 ht9 hw9
  generalize H1 = H at hP hS ⊢
  refine lv_istore_n (lv' := [(3, .int r_5), (2, .int r_4), (0, .ref h0), (1, .int x1)]) hx hb dX9_isNeutral_16 rfl hl (by decide) rfl (fun ls hl => ?_)
  refine lv_iload_n hx hb dX9_isNeutral_17 rfl (lv_at hl 0 rfl) ?_
  have J_39 : ∀  (H : Heap) (locs : List Loc) (ls : Array Slot), va_P (gD g) cl0 ws H → va_D A ws → va_S A s.heap H locs → lv_has ls 4 [] → W p l e (headSpec (wt yX9_isNeutral cX9_isNeutral 4 (some .boolean)) ({ frames := 2, cells := 0, slots := 0, locals := 43 })).room s m ([.ref h0, .int x1] : List Value).toArray below meth c H locs (0) (0) (MQ below (va_Qi (fun (r : Int32) (u9 : Unit) => r = 0 ∨ r = 1) (gQ0 g A ws) A) ([.ref h0, .int x1] : List Value).toArray s (0) (0) A) (F0 m 39 ls []) := by
    intro  H locs ls  hP hD hS hl
    refine lv_iconst (v := 0) hx hb dX9_isNeutral_39 (by decide) ?_
    refine W.widen (k := 0) (n := 0) (Nat.le_of_ble_eq_true rfl) (Nat.le_of_ble_eq_true rfl) ?_
    exact W.zret (v := 0) hx hb hr (nz (Or.inl rfl)) (fun t9 ht9 hW9 => ⟨⟨_, (), rfl, (Or.inl rfl), ⟨by rw [ht9]; exact hP, hD⟩⟩, hS.F ht9⟩) hS.2.2 dX9_isNeutral_40
  refine lv_if_eq (tgt := 39) hx hb dX9_isNeutral_18 (by decide) (fun c_8 => ?_) (fun c_8 => ?_)
  · exact J_39  H locs ls  hP hD hS (lv_sub hl [] rfl)
  · refine lv_iload_n hx hb dX9_isNeutral_21 rfl (lv_at hl 1 rfl) ?_
    have hFc := gfree hD hS hA
    refine va_calli (va_runS (As := [.int r_4]) (rest := []) ⟨hx, hb, hml, hown, hts⟩ (m_X6_isBinary l g H.size ws (r_4) hG ) (va_cwS 1 hts (gd_S kw_1621 kw_1221 kw_1207 kw_1220) rfl rfl rfl (by decide +kernel) ⟨Nat.le_of_ble_eq_true rfl, Nat.le_of_ble_eq_true rfl⟩) ⟨gblind, fun U hU hW9 => gmk hU hW9 hP hK hD hex hE hS hFc⟩ rfl rfl hl.1 rfl (lv_room (Nat.le_of_ble_eq_true rfl)) dX9_isNeutral_22 ⟨Nat.le_of_ble_eq_true rfl, Nat.le_of_ble_eq_true rfl⟩) hS (fun q _ h => hFc q h) hFc (fun r_9 u9 t9 H1 locs ht9 hvm9 hw9 hB9 hz9 hk9 hS => ?_)
    have hP : va_P (gD g) cl0 ws H1 := by rw [← ht9]; exact hB9.1
    have hz_r_9 : r_9 = 0 ∨ r_9 = 1 := hw9
    clear hB9 hz9 hk9 hvm9 ht9 hw9
    generalize H1 = H at hP hS ⊢
    refine lv_if_eq (tgt := 39) hx hb dX9_isNeutral_25 (by decide) (fun c_10 => ?_) (fun c_10 => ?_)
    · exact J_39  H locs ls  hP hD hS (lv_sub hl [] rfl)
    · refine lv_iload_n hx hb dX9_isNeutral_28 rfl (lv_at hl 0 rfl) ?_
      refine lv_iload_n hx hb dX9_isNeutral_29 rfl (lv_at hl 1 rfl) ?_
      have hFc := gfree hD hS hA
      refine va_calli (va_runS (As := [.int r_4]) (rest := [.int r_5]) ⟨hx, hb, hml, hown, hts⟩ (m_X6_takes l g H.size ws (r_4) hG ) (va_cwS 1 hts (gd_S kw_1623 kw_1255 kw_1207 kw_1254) rfl rfl rfl (by decide +kernel) ⟨Nat.le_of_ble_eq_true rfl, Nat.le_of_ble_eq_true rfl⟩) ⟨gblind, fun U hU hW9 => gmk hU hW9 hP hK hD hex hE hS hFc⟩ rfl rfl hl.1 rfl (lv_room (Nat.le_of_ble_eq_true rfl)) dX9_isNeutral_30 ⟨Nat.le_of_ble_eq_true rfl, Nat.le_of_ble_eq_true rfl⟩) hS (fun q _ h => hFc q h) hFc (fun r_11 u9 t9 H1 locs ht9 hvm9 hw9 hB9 hz9 hk9 hS => ?_)
      have hP : va_P (gD g) cl0 ws H1 := by rw [← ht9]; exact hB9.1
      clear hB9 hz9 hk9 hvm9 ht9 hw9
      generalize H1 = H at hP hS ⊢
      refine lv_bipush (v := 15) hx hb dX9_isNeutral_33 (by decide) ?_
      refine lv_iand hx hb dX9_isNeutral_35 ?_
      refine lv_topi (fun z_12 ez_12 => ?_)
      refine lv_icmp_eq (tgt := 41) hx hb dX9_isNeutral_36 (by decide) (fun c_13 => ?_) (fun c_13 => ?_)
      · refine lv_iload_n hx hb dX9_isNeutral_41 rfl (lv_at hl 1 rfl) ?_
        have K_42_259 : W p l e (headSpec (wt yX9_isNeutral cX9_isNeutral 4 (some .boolean)) ({ frames := 2, cells := 0, slots := 0, locals := 43 })).room s m ([.ref h0, .int x1] : List Value).toArray below meth c H locs (0) (0) (MQ below (va_Qi (fun (r : Int32) (u9 : Unit) => r = 0 ∨ r = 1) (gQ0 g A ws) A) ([.ref h0, .int x1] : List Value).toArray s (0) (0) A) (F0 m 259 ls []) := by
          refine lv_iload_n hx hb dX9_isNeutral_259 rfl (lv_at hl 1 rfl) ?_
          have hFc := gfree hD hS hA
          refine va_calli (va_runS (As := [.int r_4]) (rest := []) ⟨hx, hb, hml, hown, hts⟩ (m_X6_isShift l g H.size ws (r_4) hG ) (va_cwS 1 hts (gd_S kw_1636 kw_1229 kw_1207 kw_1228) rfl rfl rfl (by decide +kernel) ⟨Nat.le_of_ble_eq_true rfl, Nat.le_of_ble_eq_true rfl⟩) ⟨gblind, fun U hU hW9 => gmk hU hW9 hP hK hD hex hE hS hFc⟩ rfl rfl hl.1 rfl (lv_room (Nat.le_of_ble_eq_true rfl)) dX9_isNeutral_260 ⟨Nat.le_of_ble_eq_true rfl, Nat.le_of_ble_eq_true rfl⟩) hS (fun q _ h => hFc q h) hFc (fun r_14 u9 t9 H1 locs ht9 hvm9 hw9 hB9 hz9 hk9 hS => ?_)
          have hP : va_P (gD g) cl0 ws H1 := by rw [← ht9]; exact hB9.1
          have hz_r_14 : r_14 = 0 ∨ r_14 = 1 := hw9
          clear hB9 hz9 hk9 hvm9 ht9 hw9
          generalize H1 = H at hP hS ⊢
          have J_284 : ∀ (t_15 : Int32) (H : Heap) (locs : List Loc) (ls : Array Slot), t_15 = 0 ∨ t_15 = 1 → va_P (gD g) cl0 ws H → va_D A ws → va_S A s.heap H locs → lv_has ls 4 [] → W p l e (headSpec (wt yX9_isNeutral cX9_isNeutral 4 (some .boolean)) ({ frames := 2, cells := 0, slots := 0, locals := 43 })).room s m ([.ref h0, .int x1] : List Value).toArray below meth c H locs (0) (0) (MQ below (va_Qi (fun (r : Int32) (u9 : Unit) => r = 0 ∨ r = 1) (gQ0 g A ws) A) ([.ref h0, .int x1] : List Value).toArray s (0) (0) A) (F0 m 284 ls [.int t_15]) := by
            intro t_15 H locs ls iv_16 hP hD hS hl
            have hz_t_15 := iv_16
            refine W.widen (k := 0) (n := 0) (Nat.le_of_ble_eq_true rfl) (Nat.le_of_ble_eq_true rfl) ?_
            exact W.zret (v := t_15) hx hb hr (nz hz_t_15) (fun t9 ht9 hW9 => ⟨⟨_, (), rfl, hz_t_15, ⟨by rw [ht9]; exact hP, hD⟩⟩, hS.F ht9⟩) hS.2.2 dX9_isNeutral_284
          have J_283 : ∀  (H : Heap) (locs : List Loc) (ls : Array Slot), va_P (gD g) cl0 ws H → va_D A ws → va_S A s.heap H locs → lv_has ls 4 [] → W p l e (headSpec (wt yX9_isNeutral cX9_isNeutral 4 (some .boolean)) ({ frames := 2, cells := 0, slots := 0, locals := 43 })).room s m ([.ref h0, .int x1] : List Value).toArray below meth c H locs (0) (0) (MQ below (va_Qi (fun (r : Int32) (u9 : Unit) => r = 0 ∨ r = 1) (gQ0 g A ws) A) ([.ref h0, .int x1] : List Value).toArray s (0) (0) A) (F0 m 283 ls []) := by
            intro  H locs ls  hP hD hS hl
            refine lv_iconst (v := 0) hx hb dX9_isNeutral_283 (by decide) ?_
            exact J_284 (0) H locs ls (Or.inl rfl) hP hD hS (lv_sub hl [] rfl)
          refine lv_if_eq (tgt := 283) hx hb dX9_isNeutral_263 (by decide) (fun c_21 => ?_) (fun c_21 => ?_)
          · exact J_283  H locs ls  hP hD hS (lv_sub hl [] rfl)
          · refine lv_aload_n hx hb dX9_isNeutral_266 rfl (lv_at hl 2 rfl) ?_
            refine va_get (D := gD g) (ci := 8) (v := .ref r0_1) (C := RX9) (T := TX9) (N := 6) hx hb hts inX9 hown hK hP k_1 hk_1 rfl 0 (by decide) (hts _ kw_1552) (fun _ h9 => h9) rfl dX9_isNeutral_267 ?_
            refine lv_iload_n hx hb dX9_isNeutral_270 rfl (lv_at hl 3 rfl) ?_
            have hFc := gfree hD hS hA
            obtain ⟨k_22, fs_22, hk_22⟩ := gC_of o_r0_1
            refine va_calll (va_runV (As := [.int x1]) (rest := []) ⟨hx, hb, hml, hown, hts⟩ (m_X8_argAt l g H.size ws r0_1 (x1) hG o_r0_1) (cwV 1 hts (gd_V kw_1605 kw_1476 kw_1477 kw_782 kw_1475) rfl rfl rfl (by decide +kernel) ⟨Nat.le_of_ble_eq_true rfl, Nat.le_of_ble_eq_true rfl⟩) ⟨gblind, va_recv hK hP (ci := 7) (q0 := k_22) rfl hk_22, fun U hU hW9 => gmk hU hW9 hP hK hD hex hE hS hFc⟩ rfl rfl hl.1 rfl (lv_room (Nat.le_of_ble_eq_true rfl)) dX9_isNeutral_271 ⟨Nat.le_of_ble_eq_true rfl, Nat.le_of_ble_eq_true rfl⟩) hS (fun q _ h => hFc q h) hFc (fun r_23 u9 t9 H1 locs ht9 hvm9 hw9 hB9 hz9 hk9 hS => ?_)
            have hP : va_P (gD g) cl0 ws H1 := by rw [← ht9]; exact hB9.1
            clear hB9 hz9 hk9 hvm9 ht9 hw9
            generalize H1 = H at hP hS ⊢
            refine lv_lconst (v := 0) hx hb dX9_isNeutral_274 (by decide) ?_
            refine W.lcmp hx hb dX9_isNeutral_275 ?_
            refine lv_topi (fun z_24 ez_24 => ?_)
            refine lv_if_ne (tgt := 283) hx hb dX9_isNeutral_276 (by decide) (fun c_25 => ?_) (fun c_25 => ?_)
            · exact J_283  H locs ls  hP hD hS (lv_sub hl [] rfl)
            · refine lv_iconst (v := 1) hx hb dX9_isNeutral_279 (by decide) ?_
              refine lv_goto (tgt := 284) hx hb dX9_isNeutral_280 (by decide) ?_
              exact J_284 (1) H locs ls (Or.inr rfl) hP hD hS (lv_sub hl [] rfl)
        have K_42_200 : W p l e (headSpec (wt yX9_isNeutral cX9_isNeutral 4 (some .boolean)) ({ frames := 2, cells := 0, slots := 0, locals := 43 })).room s m ([.ref h0, .int x1] : List Value).toArray below meth c H locs (0) (0) (MQ below (va_Qi (fun (r : Int32) (u9 : Unit) => r = 0 ∨ r = 1) (gQ0 g A ws) A) ([.ref h0, .int x1] : List Value).toArray s (0) (0) A) (F0 m 200 ls []) := by
          refine lv_aload_n hx hb dX9_isNeutral_200 rfl (lv_at hl 2 rfl) ?_
          refine va_get (D := gD g) (ci := 8) (v := .ref r0_1) (C := RX9) (T := TX9) (N := 6) hx hb hts inX9 hown hK hP k_1 hk_1 rfl 0 (by decide) (hts _ kw_1552) (fun _ h9 => h9) rfl dX9_isNeutral_201 ?_
          refine lv_iload_n hx hb dX9_isNeutral_204 rfl (lv_at hl 3 rfl) ?_
          have hFc := gfree hD hS hA
          obtain ⟨k_26, fs_26, hk_26⟩ := gC_of o_r0_1
          refine va_calll (va_runV (As := [.int x1]) (rest := []) ⟨hx, hb, hml, hown, hts⟩ (m_X8_argAt l g H.size ws r0_1 (x1) hG o_r0_1) (cwV 1 hts (gd_V kw_1605 kw_1476 kw_1477 kw_782 kw_1475) rfl rfl rfl (by decide +kernel) ⟨Nat.le_of_ble_eq_true rfl, Nat.le_of_ble_eq_true rfl⟩) ⟨gblind, va_recv hK hP (ci := 7) (q0 := k_26) rfl hk_26, fun U hU hW9 => gmk hU hW9 hP hK hD hex hE hS hFc⟩ rfl rfl hl.1 rfl (lv_room (Nat.le_of_ble_eq_true rfl)) dX9_isNeutral_205 ⟨Nat.le_of_ble_eq_true rfl, Nat.le_of_ble_eq_true rfl⟩) hS (fun q _ h => hFc q h) hFc (fun r_27 u9 t9 H1 locs ht9 hvm9 hw9 hB9 hz9 hk9 hS => ?_)
          have hP : va_P (gD g) cl0 ws H1 := by rw [← ht9]; exact hB9.1
          clear hB9 hz9 hk9 hvm9 ht9 hw9
          generalize H1 = H at hP hS ⊢
          refine lv_lconst (v := 0) hx hb dX9_isNeutral_208 (by decide) ?_
          refine W.lcmp hx hb dX9_isNeutral_209 ?_
          refine lv_topi (fun z_28 ez_28 => ?_)
          have J_218 : ∀ (t_29 : Int32) (H : Heap) (locs : List Loc) (ls : Array Slot), t_29 = 0 ∨ t_29 = 1 → va_P (gD g) cl0 ws H → va_D A ws → va_S A s.heap H locs → lv_has ls 4 [] → W p l e (headSpec (wt yX9_isNeutral cX9_isNeutral 4 (some .boolean)) ({ frames := 2, cells := 0, slots := 0, locals := 43 })).room s m ([.ref h0, .int x1] : List Value).toArray below meth c H locs (0) (0) (MQ below (va_Qi (fun (r : Int32) (u9 : Unit) => r = 0 ∨ r = 1) (gQ0 g A ws) A) ([.ref h0, .int x1] : List Value).toArray s (0) (0) A) (F0 m 218 ls [.int t_29]) := by
            intro t_29 H locs ls iv_30 hP hD hS hl
            have hz_t_29 := iv_30
            refine W.widen (k := 0) (n := 0) (Nat.le_of_ble_eq_true rfl) (Nat.le_of_ble_eq_true rfl) ?_
            exact W.zret (v := t_29) hx hb hr (nz hz_t_29) (fun t9 ht9 hW9 => ⟨⟨_, (), rfl, hz_t_29, ⟨by rw [ht9]; exact hP, hD⟩⟩, hS.F ht9⟩) hS.2.2 dX9_isNeutral_218
          refine lv_if_ne (tgt := 217) hx hb dX9_isNeutral_210 (by decide) (fun c_33 => ?_) (fun c_33 => ?_)
          · refine lv_iconst (v := 0) hx hb dX9_isNeutral_217 (by decide) ?_
            exact J_218 (0) H locs ls (Or.inl rfl) hP hD hS (lv_sub hl [] rfl)
          · refine lv_iconst (v := 1) hx hb dX9_isNeutral_213 (by decide) ?_
            refine lv_goto (tgt := 218) hx hb dX9_isNeutral_214 (by decide) ?_
            exact J_218 (1) H locs ls (Or.inr rfl) hP hD hS (lv_sub hl [] rfl)
        have K_42_219 : W p l e (headSpec (wt yX9_isNeutral cX9_isNeutral 4 (some .boolean)) ({ frames := 2, cells := 0, slots := 0, locals := 43 })).room s m ([.ref h0, .int x1] : List Value).toArray below meth c H locs (0) (0) (MQ below (va_Qi (fun (r : Int32) (u9 : Unit) => r = 0 ∨ r = 1) (gQ0 g A ws) A) ([.ref h0, .int x1] : List Value).toArray s (0) (0) A) (F0 m 219 ls []) := by
          refine lv_aload_n hx hb dX9_isNeutral_219 rfl (lv_at hl 2 rfl) ?_
          refine va_get (D := gD g) (ci := 8) (v := .ref r0_1) (C := RX9) (T := TX9) (N := 6) hx hb hts inX9 hown hK hP k_1 hk_1 rfl 0 (by decide) (hts _ kw_1552) (fun _ h9 => h9) rfl dX9_isNeutral_220 ?_
          refine lv_iload_n hx hb dX9_isNeutral_223 rfl (lv_at hl 3 rfl) ?_
          have hFc := gfree hD hS hA
          obtain ⟨k_34, fs_34, hk_34⟩ := gC_of o_r0_1
          refine va_calll (va_runV (As := [.int x1]) (rest := []) ⟨hx, hb, hml, hown, hts⟩ (m_X8_argAt l g H.size ws r0_1 (x1) hG o_r0_1) (cwV 1 hts (gd_V kw_1605 kw_1476 kw_1477 kw_782 kw_1475) rfl rfl rfl (by decide +kernel) ⟨Nat.le_of_ble_eq_true rfl, Nat.le_of_ble_eq_true rfl⟩) ⟨gblind, va_recv hK hP (ci := 7) (q0 := k_34) rfl hk_34, fun U hU hW9 => gmk hU hW9 hP hK hD hex hE hS hFc⟩ rfl rfl hl.1 rfl (lv_room (Nat.le_of_ble_eq_true rfl)) dX9_isNeutral_224 ⟨Nat.le_of_ble_eq_true rfl, Nat.le_of_ble_eq_true rfl⟩) hS (fun q _ h => hFc q h) hFc (fun r_35 u9 t9 H1 locs ht9 hvm9 hw9 hB9 hz9 hk9 hS => ?_)
          have hP : va_P (gD g) cl0 ws H1 := by rw [← ht9]; exact hB9.1
          clear hB9 hz9 hk9 hvm9 ht9 hw9
          generalize H1 = H at hP hS ⊢
          refine lv_lconst (v := 1) hx hb dX9_isNeutral_227 (by decide) ?_
          refine W.lcmp hx hb dX9_isNeutral_228 ?_
          refine lv_topi (fun z_36 ez_36 => ?_)
          have J_237 : ∀ (t_37 : Int32) (H : Heap) (locs : List Loc) (ls : Array Slot), t_37 = 0 ∨ t_37 = 1 → va_P (gD g) cl0 ws H → va_D A ws → va_S A s.heap H locs → lv_has ls 4 [] → W p l e (headSpec (wt yX9_isNeutral cX9_isNeutral 4 (some .boolean)) ({ frames := 2, cells := 0, slots := 0, locals := 43 })).room s m ([.ref h0, .int x1] : List Value).toArray below meth c H locs (0) (0) (MQ below (va_Qi (fun (r : Int32) (u9 : Unit) => r = 0 ∨ r = 1) (gQ0 g A ws) A) ([.ref h0, .int x1] : List Value).toArray s (0) (0) A) (F0 m 237 ls [.int t_37]) := by
            intro t_37 H locs ls iv_38 hP hD hS hl
            have hz_t_37 := iv_38
            refine W.widen (k := 0) (n := 0) (Nat.le_of_ble_eq_true rfl) (Nat.le_of_ble_eq_true rfl) ?_
            exact W.zret (v := t_37) hx hb hr (nz hz_t_37) (fun t9 ht9 hW9 => ⟨⟨_, (), rfl, hz_t_37, ⟨by rw [ht9]; exact hP, hD⟩⟩, hS.F ht9⟩) hS.2.2 dX9_isNeutral_237
          refine lv_if_ne (tgt := 236) hx hb dX9_isNeutral_229 (by decide) (fun c_41 => ?_) (fun c_41 => ?_)
          · refine lv_iconst (v := 0) hx hb dX9_isNeutral_236 (by decide) ?_
            exact J_237 (0) H locs ls (Or.inl rfl) hP hD hS (lv_sub hl [] rfl)
          · refine lv_iconst (v := 1) hx hb dX9_isNeutral_232 (by decide) ?_
            refine lv_goto (tgt := 237) hx hb dX9_isNeutral_233 (by decide) ?_
            exact J_237 (1) H locs ls (Or.inr rfl) hP hD hS (lv_sub hl [] rfl)
        have K_42_238 : W p l e (headSpec (wt yX9_isNeutral cX9_isNeutral 4 (some .boolean)) ({ frames := 2, cells := 0, slots := 0, locals := 43 })).room s m ([.ref h0, .int x1] : List Value).toArray below meth c H locs (0) (0) (MQ below (va_Qi (fun (r : Int32) (u9 : Unit) => r = 0 ∨ r = 1) (gQ0 g A ws) A) ([.ref h0, .int x1] : List Value).toArray s (0) (0) A) (F0 m 238 ls []) := by
          refine lv_aload_n hx hb dX9_isNeutral_238 rfl (lv_at hl 2 rfl) ?_
          refine va_get (D := gD g) (ci := 8) (v := .ref r0_1) (C := RX9) (T := TX9) (N := 6) hx hb hts inX9 hown hK hP k_1 hk_1 rfl 0 (by decide) (hts _ kw_1552) (fun _ h9 => h9) rfl dX9_isNeutral_239 ?_
          refine lv_iload_n hx hb dX9_isNeutral_242 rfl (lv_at hl 3 rfl) ?_
          have hFc := gfree hD hS hA
          obtain ⟨k_42, fs_42, hk_42⟩ := gC_of o_r0_1
          refine va_calll (va_runV (As := [.int x1]) (rest := []) ⟨hx, hb, hml, hown, hts⟩ (m_X8_argAt l g H.size ws r0_1 (x1) hG o_r0_1) (cwV 1 hts (gd_V kw_1605 kw_1476 kw_1477 kw_782 kw_1475) rfl rfl rfl (by decide +kernel) ⟨Nat.le_of_ble_eq_true rfl, Nat.le_of_ble_eq_true rfl⟩) ⟨gblind, va_recv hK hP (ci := 7) (q0 := k_42) rfl hk_42, fun U hU hW9 => gmk hU hW9 hP hK hD hex hE hS hFc⟩ rfl rfl hl.1 rfl (lv_room (Nat.le_of_ble_eq_true rfl)) dX9_isNeutral_243 ⟨Nat.le_of_ble_eq_true rfl, Nat.le_of_ble_eq_true rfl⟩) hS (fun q _ h => hFc q h) hFc (fun r_43 u9 t9 H1 locs ht9 hvm9 hw9 hB9 hz9 hk9 hS => ?_)
          have hP : va_P (gD g) cl0 ws H1 := by rw [← ht9]; exact hB9.1
          clear hB9 hz9 hk9 hvm9 ht9 hw9
          generalize H1 = H at hP hS ⊢
          refine lv_ldc2 hx hb hown (hts _ kw_1635) dX9_isNeutral_246 ?_
          refine W.lcmp hx hb dX9_isNeutral_249 ?_
          refine lv_topi (fun z_44 ez_44 => ?_)
          have J_258 : ∀ (t_45 : Int32) (H : Heap) (locs : List Loc) (ls : Array Slot), t_45 = 0 ∨ t_45 = 1 → va_P (gD g) cl0 ws H → va_D A ws → va_S A s.heap H locs → lv_has ls 4 [] → W p l e (headSpec (wt yX9_isNeutral cX9_isNeutral 4 (some .boolean)) ({ frames := 2, cells := 0, slots := 0, locals := 43 })).room s m ([.ref h0, .int x1] : List Value).toArray below meth c H locs (0) (0) (MQ below (va_Qi (fun (r : Int32) (u9 : Unit) => r = 0 ∨ r = 1) (gQ0 g A ws) A) ([.ref h0, .int x1] : List Value).toArray s (0) (0) A) (F0 m 258 ls [.int t_45]) := by
            intro t_45 H locs ls iv_46 hP hD hS hl
            have hz_t_45 := iv_46
            refine W.widen (k := 0) (n := 0) (Nat.le_of_ble_eq_true rfl) (Nat.le_of_ble_eq_true rfl) ?_
            exact W.zret (v := t_45) hx hb hr (nz hz_t_45) (fun t9 ht9 hW9 => ⟨⟨_, (), rfl, hz_t_45, ⟨by rw [ht9]; exact hP, hD⟩⟩, hS.F ht9⟩) hS.2.2 dX9_isNeutral_258
          refine lv_if_ne (tgt := 257) hx hb dX9_isNeutral_250 (by decide) (fun c_49 => ?_) (fun c_49 => ?_)
          · refine lv_iconst (v := 0) hx hb dX9_isNeutral_257 (by decide) ?_
            exact J_258 (0) H locs ls (Or.inl rfl) hP hD hS (lv_sub hl [] rfl)
          · refine lv_iconst (v := 1) hx hb dX9_isNeutral_253 (by decide) ?_
            refine lv_goto (tgt := 258) hx hb dX9_isNeutral_254 (by decide) ?_
            exact J_258 (1) H locs ls (Or.inr rfl) hP hD hS (lv_sub hl [] rfl)
        rcases Classical.em ((r_4 : Int32).toInt < 96 ∨ 131 < (r_4 : Int32).toInt) with c9 | c9
        · exact lv_tableOut (tgt := 259) hx hb dX9_isNeutral_42 c9 (by decide) K_42_259
        · rcases (show (r_4 : Int32).toInt = 96 ∨ (r_4 : Int32).toInt = 97 ∨ (r_4 : Int32).toInt = 98 ∨ (r_4 : Int32).toInt = 99 ∨ (r_4 : Int32).toInt = 100 ∨ (r_4 : Int32).toInt = 101 ∨ (r_4 : Int32).toInt = 102 ∨ (r_4 : Int32).toInt = 103 ∨ (r_4 : Int32).toInt = 104 ∨ (r_4 : Int32).toInt = 105 ∨ (r_4 : Int32).toInt = 106 ∨ (r_4 : Int32).toInt = 107 ∨ (r_4 : Int32).toInt = 108 ∨ (r_4 : Int32).toInt = 109 ∨ (r_4 : Int32).toInt = 110 ∨ (r_4 : Int32).toInt = 111 ∨ (r_4 : Int32).toInt = 112 ∨ (r_4 : Int32).toInt = 113 ∨ (r_4 : Int32).toInt = 114 ∨ (r_4 : Int32).toInt = 115 ∨ (r_4 : Int32).toInt = 116 ∨ (r_4 : Int32).toInt = 117 ∨ (r_4 : Int32).toInt = 118 ∨ (r_4 : Int32).toInt = 119 ∨ (r_4 : Int32).toInt = 120 ∨ (r_4 : Int32).toInt = 121 ∨ (r_4 : Int32).toInt = 122 ∨ (r_4 : Int32).toInt = 123 ∨ (r_4 : Int32).toInt = 124 ∨ (r_4 : Int32).toInt = 125 ∨ (r_4 : Int32).toInt = 126 ∨ (r_4 : Int32).toInt = 127 ∨ (r_4 : Int32).toInt = 128 ∨ (r_4 : Int32).toInt = 129 ∨ (r_4 : Int32).toInt = 130 ∨ (r_4 : Int32).toInt = 131 by omega) with c9 | c9 | c9 | c9 | c9 | c9 | c9 | c9 | c9 | c9 | c9 | c9 | c9 | c9 | c9 | c9 | c9 | c9 | c9 | c9 | c9 | c9 | c9 | c9 | c9 | c9 | c9 | c9 | c9 | c9 | c9 | c9 | c9 | c9 | c9 | c9
          · exact lv_tableIn (off := 158) (tgt := 200) hx hb dX9_isNeutral_42 (by rw [c9]; decide) (by rw [c9]; decide) (by rw [c9]; rfl) (by decide) K_42_200
          · exact lv_tableIn (off := 158) (tgt := 200) hx hb dX9_isNeutral_42 (by rw [c9]; decide) (by rw [c9]; decide) (by rw [c9]; rfl) (by decide) K_42_200
          · exact lv_tableIn (off := 217) (tgt := 259) hx hb dX9_isNeutral_42 (by rw [c9]; decide) (by rw [c9]; decide) (by rw [c9]; rfl) (by decide) K_42_259
          · exact lv_tableIn (off := 217) (tgt := 259) hx hb dX9_isNeutral_42 (by rw [c9]; decide) (by rw [c9]; decide) (by rw [c9]; rfl) (by decide) K_42_259
          · exact lv_tableIn (off := 158) (tgt := 200) hx hb dX9_isNeutral_42 (by rw [c9]; decide) (by rw [c9]; decide) (by rw [c9]; rfl) (by decide) K_42_200
          · exact lv_tableIn (off := 158) (tgt := 200) hx hb dX9_isNeutral_42 (by rw [c9]; decide) (by rw [c9]; decide) (by rw [c9]; rfl) (by decide) K_42_200
          · exact lv_tableIn (off := 217) (tgt := 259) hx hb dX9_isNeutral_42 (by rw [c9]; decide) (by rw [c9]; decide) (by rw [c9]; rfl) (by decide) K_42_259
          · exact lv_tableIn (off := 217) (tgt := 259) hx hb dX9_isNeutral_42 (by rw [c9]; decide) (by rw [c9]; decide) (by rw [c9]; rfl) (by decide) K_42_259
          · exact lv_tableIn (off := 177) (tgt := 219) hx hb dX9_isNeutral_42 (by rw [c9]; decide) (by rw [c9]; decide) (by rw [c9]; rfl) (by decide) K_42_219
          · exact lv_tableIn (off := 177) (tgt := 219) hx hb dX9_isNeutral_42 (by rw [c9]; decide) (by rw [c9]; decide) (by rw [c9]; rfl) (by decide) K_42_219
          · exact lv_tableIn (off := 217) (tgt := 259) hx hb dX9_isNeutral_42 (by rw [c9]; decide) (by rw [c9]; decide) (by rw [c9]; rfl) (by decide) K_42_259
          · exact lv_tableIn (off := 217) (tgt := 259) hx hb dX9_isNeutral_42 (by rw [c9]; decide) (by rw [c9]; decide) (by rw [c9]; rfl) (by decide) K_42_259
          · exact lv_tableIn (off := 177) (tgt := 219) hx hb dX9_isNeutral_42 (by rw [c9]; decide) (by rw [c9]; decide) (by rw [c9]; rfl) (by decide) K_42_219
          · exact lv_tableIn (off := 177) (tgt := 219) hx hb dX9_isNeutral_42 (by rw [c9]; decide) (by rw [c9]; decide) (by rw [c9]; rfl) (by decide) K_42_219
          · exact lv_tableIn (off := 217) (tgt := 259) hx hb dX9_isNeutral_42 (by rw [c9]; decide) (by rw [c9]; decide) (by rw [c9]; rfl) (by decide) K_42_259
          · exact lv_tableIn (off := 217) (tgt := 259) hx hb dX9_isNeutral_42 (by rw [c9]; decide) (by rw [c9]; decide) (by rw [c9]; rfl) (by decide) K_42_259
          · exact lv_tableIn (off := 217) (tgt := 259) hx hb dX9_isNeutral_42 (by rw [c9]; decide) (by rw [c9]; decide) (by rw [c9]; rfl) (by decide) K_42_259
          · exact lv_tableIn (off := 217) (tgt := 259) hx hb dX9_isNeutral_42 (by rw [c9]; decide) (by rw [c9]; decide) (by rw [c9]; rfl) (by decide) K_42_259
          · exact lv_tableIn (off := 217) (tgt := 259) hx hb dX9_isNeutral_42 (by rw [c9]; decide) (by rw [c9]; decide) (by rw [c9]; rfl) (by decide) K_42_259
          · exact lv_tableIn (off := 217) (tgt := 259) hx hb dX9_isNeutral_42 (by rw [c9]; decide) (by rw [c9]; decide) (by rw [c9]; rfl) (by decide) K_42_259
          · exact lv_tableIn (off := 217) (tgt := 259) hx hb dX9_isNeutral_42 (by rw [c9]; decide) (by rw [c9]; decide) (by rw [c9]; rfl) (by decide) K_42_259
          · exact lv_tableIn (off := 217) (tgt := 259) hx hb dX9_isNeutral_42 (by rw [c9]; decide) (by rw [c9]; decide) (by rw [c9]; rfl) (by decide) K_42_259
          · exact lv_tableIn (off := 217) (tgt := 259) hx hb dX9_isNeutral_42 (by rw [c9]; decide) (by rw [c9]; decide) (by rw [c9]; rfl) (by decide) K_42_259
          · exact lv_tableIn (off := 217) (tgt := 259) hx hb dX9_isNeutral_42 (by rw [c9]; decide) (by rw [c9]; decide) (by rw [c9]; rfl) (by decide) K_42_259
          · exact lv_tableIn (off := 217) (tgt := 259) hx hb dX9_isNeutral_42 (by rw [c9]; decide) (by rw [c9]; decide) (by rw [c9]; rfl) (by decide) K_42_259
          · exact lv_tableIn (off := 217) (tgt := 259) hx hb dX9_isNeutral_42 (by rw [c9]; decide) (by rw [c9]; decide) (by rw [c9]; rfl) (by decide) K_42_259
          · exact lv_tableIn (off := 217) (tgt := 259) hx hb dX9_isNeutral_42 (by rw [c9]; decide) (by rw [c9]; decide) (by rw [c9]; rfl) (by decide) K_42_259
          · exact lv_tableIn (off := 217) (tgt := 259) hx hb dX9_isNeutral_42 (by rw [c9]; decide) (by rw [c9]; decide) (by rw [c9]; rfl) (by decide) K_42_259
          · exact lv_tableIn (off := 217) (tgt := 259) hx hb dX9_isNeutral_42 (by rw [c9]; decide) (by rw [c9]; decide) (by rw [c9]; rfl) (by decide) K_42_259
          · exact lv_tableIn (off := 217) (tgt := 259) hx hb dX9_isNeutral_42 (by rw [c9]; decide) (by rw [c9]; decide) (by rw [c9]; rfl) (by decide) K_42_259
          · exact lv_tableIn (off := 196) (tgt := 238) hx hb dX9_isNeutral_42 (by rw [c9]; decide) (by rw [c9]; decide) (by rw [c9]; rfl) (by decide) K_42_238
          · exact lv_tableIn (off := 196) (tgt := 238) hx hb dX9_isNeutral_42 (by rw [c9]; decide) (by rw [c9]; decide) (by rw [c9]; rfl) (by decide) K_42_238
          · exact lv_tableIn (off := 158) (tgt := 200) hx hb dX9_isNeutral_42 (by rw [c9]; decide) (by rw [c9]; decide) (by rw [c9]; rfl) (by decide) K_42_200
          · exact lv_tableIn (off := 158) (tgt := 200) hx hb dX9_isNeutral_42 (by rw [c9]; decide) (by rw [c9]; decide) (by rw [c9]; rfl) (by decide) K_42_200
          · exact lv_tableIn (off := 158) (tgt := 200) hx hb dX9_isNeutral_42 (by rw [c9]; decide) (by rw [c9]; decide) (by rw [c9]; rfl) (by decide) K_42_200
          · exact lv_tableIn (off := 158) (tgt := 200) hx hb dX9_isNeutral_42 (by rw [c9]; decide) (by rw [c9]; decide) (by rw [c9]; rfl) (by decide) K_42_200
      · exact J_39  H locs ls  hP hD hS (lv_sub hl [] rfl)
set_option maxHeartbeats 1000000 in
set_option maxRecDepth 100000 in
theorem m_X9_isPopped (l : Launch) (g : Gm) (sz : Nat) (ws : va_W) (h0 : Nat) (x1 : Int32) (hG : Good g ws) (o_h0 : gC ws h0 8) : Met l yX9_isPopped (wt yX9_isPopped cX9_isPopped 3 (some .boolean)) ({ frames := 2, cells := 0, slots := 0, locals := 43 }) (va_Pc [.ref h0, .int x1] (st_G g sz ws)) (va_Qi (fun (r : Int32) (u9 : Unit) => r = 0 ∨ r = 1) (gQ0 g (va_A ws sz) ws) (va_A ws sz)) (0) (0) (va_A ws sz) := by
  refine Met.ofW (cc := cX9_isPopped) (maxL := 3) (ret := (some .boolean)) (by decide) rfl ?_
  intro p e s m args below meth c s₁ B hml hv
  obtain ⟨rfl, hsz, hP, hK, hD0, hex, hE⟩ := hv
  have hx := B.exec
  have hb := B.bytes
  have hr := B.returns
  have hts0 := atoms_spec (ws := wt yX9_isPopped cX9_isPopped 3 (some .boolean)) B.pre
  have hts : ∀ w ∈ tb, w.before _ s = true := fun w h => hts0 w (List.mem_cons_of_mem _ h)
  have hown : s.vm.findClass RX9 = some m.cls := findClass_of_methodNamed B.named
  subst hsz
  have hD := hD0.self (sz := s.heap.size)
  generalize hAe : va_A ws s.heap.size = A at hD hE ⊢
  have hA : ∀ q : Nat, s.heap.size ≤ q → A q := fun q h => by rw [← hAe]; exact Or.inr h
  have hS : va_S A s.heap s.heap [] := va_S.rf
  have hl := lv_entry ([.ref h0, .int x1]) (n := 3) (Nat.le_of_ble_eq_true rfl)
  rw [lg_entry_eq]
  generalize (lg_sl ([.ref h0, .int x1]) ++ List.replicate (3 - (lg_sl ([.ref h0, .int x1])).length) Slot.unset).toArray = ls at hl ⊢
  have hl : lv_has ls 3 [(0, .ref h0), (1, .int x1)] := hl
  refine lv_aload_n hx hb dX9_isPopped_0 rfl (lv_at hl 0 rfl) ?_
  obtain ⟨k_1, fs9, hk_1⟩ := gC_of o_h0
  obtain ⟨r0_1, r1_1, n1_1, r2_1, n2_1, r3_1, n3_1, r4_1, n4_1, r5_1, n5_1, rfl, o_r0_1, a_r1_1, f2_1, a_r2_1, f4_1, a_r3_1, f6_1, a_r4_1, f8_1, a_r5_1, f10_1, f11_1, -⟩ := (hG.1 _ _ _ _ hk_1).hX9 rfl
  refine va_get (D := gD g) (ci := 8) (v := .ref r0_1) (C := RX9) (T := TX9) (N := 6) hx hb hts inX9 hown hK hP k_1 hk_1 rfl 0 (by decide) (hts _ kw_1552) (fun _ h9 => h9) rfl dX9_isPopped_1 ?_
  refine lv_iload_n hx hb dX9_isPopped_4 rfl (lv_at hl 1 rfl) ?_
  have hFc := gfree hD hS hA
  obtain ⟨k_2, fs_2, hk_2⟩ := gC_of o_r0_1
  refine va_calli (va_runV (As := [.int x1]) (rest := []) ⟨hx, hb, hml, hown, hts⟩ (m_X8_opAt l g s.heap.size ws r0_1 (x1) hG o_r0_1) (cwV 1 hts (gd_V kw_1596 kw_1513 kw_1514 kw_782 kw_1512) rfl rfl rfl (by decide +kernel) ⟨Nat.le_of_ble_eq_true rfl, Nat.le_of_ble_eq_true rfl⟩) ⟨gblind, va_recv hK hP (ci := 7) (q0 := k_2) rfl hk_2, fun U hU hW9 => gmk hU hW9 hP hK hD hex hE hS hFc⟩ rfl rfl hl.1 rfl (lv_room (Nat.le_of_ble_eq_true rfl)) dX9_isPopped_5 ⟨Nat.le_of_ble_eq_true rfl, Nat.le_of_ble_eq_true rfl⟩) hS (fun q _ h => hFc q h) hFc (fun r_3 u9 t9 H1 locs ht9 hvm9 hw9 hB9 hz9 hk9 hS => ?_)
  have hP : va_P (gD g) cl0 ws H1 := by rw [← ht9]; exact hB9.1
  clear hB9 hz9 hk9 hvm9 ht9 hw9
  generalize H1 = H at hP hS ⊢
  refine lv_istore_n (lv' := [(2, .int r_3), (0, .ref h0), (1, .int x1)]) hx hb dX9_isPopped_8 rfl hl (by decide) rfl (fun ls hl => ?_)
  refine lv_aload_n hx hb dX9_isPopped_9 rfl (lv_at hl 1 rfl) ?_
  refine lv_iload_n hx hb dX9_isPopped_10 rfl (lv_at hl 2 rfl) ?_
  have hFc := gfree hD hS hA
  refine va_calli (va_runV (As := [.int x1]) (rest := []) ⟨hx, hb, hml, hown, hts⟩ (m_X9_pushKind l g H.size ws h0 (x1) hG o_h0) (cwV 1 hts (gd_V kw_1622 kw_1696 kw_1697 kw_404 kw_1695) rfl rfl rfl (by decide +kernel) ⟨Nat.le_of_ble_eq_true rfl, Nat.le_of_ble_eq_true rfl⟩) ⟨gblind, va_recv hK hP (ci := 8) (q0 := k_1) rfl hk_1, fun U hU hW9 => gmk hU hW9 hP hK hD hex hE hS hFc⟩ rfl rfl hl.1 rfl (lv_room (Nat.le_of_ble_eq_true rfl)) dX9_isPopped_11 ⟨Nat.le_of_ble_eq_true rfl, Nat.le_of_ble_eq_true rfl⟩) hS (fun q _ h => hFc q h) hFc (fun r_4 u9 t9 H1 locs ht9 hvm9 hw9 hB9 hz9 hk9 hS => ?_)
  have hP : va_P (gD g) cl0 ws H1 := by rw [← ht9]; exact hB9.1
  clear hB9 hz9 hk9 hvm9 ht9 hw9
  generalize H1 = H at hP hS ⊢
  have J_31 : ∀  (H : Heap) (locs : List Loc) (ls : Array Slot), va_P (gD g) cl0 ws H → va_D A ws → va_S A s.heap H locs → lv_has ls 3 [(0, .ref h0), (1, .int x1), (2, .int r_3)] → W p l e (headSpec (wt yX9_isPopped cX9_isPopped 3 (some .boolean)) ({ frames := 2, cells := 0, slots := 0, locals := 43 })).room s m ([.ref h0, .int x1] : List Value).toArray below meth c H locs (0) (0) (MQ below (va_Qi (fun (r : Int32) (u9 : Unit) => r = 0 ∨ r = 1) (gQ0 g A ws) A) ([.ref h0, .int x1] : List Value).toArray s (0) (0) A) (F0 m 31 ls []) := by
    intro  H locs ls  hP hD hS hl
    refine lv_aload_n hx hb dX9_isPopped_31 rfl (lv_at hl 0 rfl) ?_
    refine va_get (D := gD g) (ci := 8) (v := .ref r0_1) (C := RX9) (T := TX9) (N := 6) hx hb hts inX9 hown hK hP k_1 hk_1 rfl 0 (by decide) (hts _ kw_1552) (fun _ h9 => h9) rfl dX9_isPopped_32 ?_
    refine lv_iload_n hx hb dX9_isPopped_35 rfl (lv_at hl 1 rfl) ?_
    refine lv_iconst (v := 1) hx hb dX9_isPopped_36 (by decide) ?_
    refine lv_iadd hx hb dX9_isPopped_37 ?_
    refine lv_topi (fun z_7 ez_7 => ?_)
    have hFc := gfree hD hS hA
    obtain ⟨k_8, fs_8, hk_8⟩ := gC_of o_r0_1
    refine va_calli (va_runV (As := [.int z_7]) (rest := []) ⟨hx, hb, hml, hown, hts⟩ (m_X8_opAt l g H.size ws r0_1 (z_7) hG o_r0_1) (cwV 1 hts (gd_V kw_1596 kw_1513 kw_1514 kw_782 kw_1512) rfl rfl rfl (by decide +kernel) ⟨Nat.le_of_ble_eq_true rfl, Nat.le_of_ble_eq_true rfl⟩) ⟨gblind, va_recv hK hP (ci := 7) (q0 := k_8) rfl hk_8, fun U hU hW9 => gmk hU hW9 hP hK hD hex hE hS hFc⟩ rfl rfl hl.1 rfl (lv_room (Nat.le_of_ble_eq_true rfl)) dX9_isPopped_38 ⟨Nat.le_of_ble_eq_true rfl, Nat.le_of_ble_eq_true rfl⟩) hS (fun q _ h => hFc q h) hFc (fun r_9 u9 t9 H1 locs ht9 hvm9 hw9 hB9 hz9 hk9 hS => ?_)
    have hP : va_P (gD g) cl0 ws H1 := by rw [← ht9]; exact hB9.1
    clear hB9 hz9 hk9 hvm9 ht9 hw9
    generalize H1 = H at hP hS ⊢
    refine lv_iload_n hx hb dX9_isPopped_41 rfl (lv_at hl 2 rfl) ?_
    have hFc := gfree hD hS hA
    refine va_calli (va_runS (As := [.int r_3]) (rest := [.int r_9]) ⟨hx, hb, hml, hown, hts⟩ (m_X6_gives l g H.size ws (r_3) hG ) (va_cwS 1 hts (gd_S kw_1625 kw_1216 kw_1207 kw_1215) rfl rfl rfl (by decide +kernel) ⟨Nat.le_of_ble_eq_true rfl, Nat.le_of_ble_eq_true rfl⟩) ⟨gblind, fun U hU hW9 => gmk hU hW9 hP hK hD hex hE hS hFc⟩ rfl rfl hl.1 rfl (lv_room (Nat.le_of_ble_eq_true rfl)) dX9_isPopped_42 ⟨Nat.le_of_ble_eq_true rfl, Nat.le_of_ble_eq_true rfl⟩) hS (fun q _ h => hFc q h) hFc (fun r_10 u9 t9 H1 locs ht9 hvm9 hw9 hB9 hz9 hk9 hS => ?_)
    have hP : va_P (gD g) cl0 ws H1 := by rw [← ht9]; exact hB9.1
    clear hB9 hz9 hk9 hvm9 ht9 hw9
    generalize H1 = H at hP hS ⊢
    refine lv_iconst (v := 2) hx hb dX9_isPopped_45 (by decide) ?_
    have J_56 : ∀ (t_11 : Int32) (H : Heap) (locs : List Loc) (ls : Array Slot), 87 ≤ t_11.toInt ∧ t_11.toInt ≤ 88 → va_P (gD g) cl0 ws H → va_D A ws → va_S A s.heap H locs → lv_has ls 3 [] → W p l e (headSpec (wt yX9_isPopped cX9_isPopped 3 (some .boolean)) ({ frames := 2, cells := 0, slots := 0, locals := 43 })).room s m ([.ref h0, .int x1] : List Value).toArray below meth c H locs (0) (0) (MQ below (va_Qi (fun (r : Int32) (u9 : Unit) => r = 0 ∨ r = 1) (gQ0 g A ws) A) ([.ref h0, .int x1] : List Value).toArray s (0) (0) A) (F0 m 56 ls [.int t_11, .int r_9]) := by
      intro t_11 H locs ls iv_12 hP hD hS hl
      have J_64 : ∀ (t_15 : Int32) (H : Heap) (locs : List Loc) (ls : Array Slot), t_15 = 0 ∨ t_15 = 1 → va_P (gD g) cl0 ws H → va_D A ws → va_S A s.heap H locs → lv_has ls 3 [] → W p l e (headSpec (wt yX9_isPopped cX9_isPopped 3 (some .boolean)) ({ frames := 2, cells := 0, slots := 0, locals := 43 })).room s m ([.ref h0, .int x1] : List Value).toArray below meth c H locs (0) (0) (MQ below (va_Qi (fun (r : Int32) (u9 : Unit) => r = 0 ∨ r = 1) (gQ0 g A ws) A) ([.ref h0, .int x1] : List Value).toArray s (0) (0) A) (F0 m 64 ls [.int t_15]) := by
        intro t_15 H locs ls iv_16 hP hD hS hl
        have hz_t_15 := iv_16
        refine W.widen (k := 0) (n := 0) (Nat.le_of_ble_eq_true rfl) (Nat.le_of_ble_eq_true rfl) ?_
        exact W.zret (v := t_15) hx hb hr (nz hz_t_15) (fun t9 ht9 hW9 => ⟨⟨_, (), rfl, hz_t_15, ⟨by rw [ht9]; exact hP, hD⟩⟩, hS.F ht9⟩) hS.2.2 dX9_isPopped_64
      refine lv_icmp_ne (tgt := 63) hx hb dX9_isPopped_56 (by decide) (fun c_19 => ?_) (fun c_19 => ?_)
      · refine lv_iconst (v := 0) hx hb dX9_isPopped_63 (by decide) ?_
        exact J_64 (0) H locs ls (Or.inl rfl) hP hD hS (lv_sub hl [] rfl)
      · refine lv_iconst (v := 1) hx hb dX9_isPopped_59 (by decide) ?_
        refine lv_goto (tgt := 64) hx hb dX9_isPopped_60 (by decide) ?_
        exact J_64 (1) H locs ls (Or.inr rfl) hP hD hS (lv_sub hl [] rfl)
    refine lv_icmp_ne (tgt := 54) hx hb dX9_isPopped_46 (by decide) (fun c_20 => ?_) (fun c_20 => ?_)
    · refine lv_bipush (v := 87) hx hb dX9_isPopped_54 (by decide) ?_
      exact J_56 (87) H locs ls (by have e1 : (1 : Int32).toInt = 1 := (by decide); have e87 : (87 : Int32).toInt = 87 := (by decide); obtain ⟨u_z_7, q_z_7⟩ := i_add ez_7; have g_x1 := i_rg x1; have g_z_7 := i_rg z_7; omega) hP hD hS (lv_sub hl [] rfl)
    · refine lv_bipush (v := 88) hx hb dX9_isPopped_49 (by decide) ?_
      refine lv_goto (tgt := 56) hx hb dX9_isPopped_51 (by decide) ?_
      exact J_56 (88) H locs ls (by have e1 : (1 : Int32).toInt = 1 := (by decide); have e88 : (88 : Int32).toInt = 88 := (by decide); obtain ⟨u_z_7, q_z_7⟩ := i_add ez_7; have g_x1 := i_rg x1; have g_z_7 := i_rg z_7; omega) hP hD hS (lv_sub hl [] rfl)
  refine lv_if_ne (tgt := 31) hx hb dX9_isPopped_14 (by decide) (fun c_21 => ?_) (fun c_21 => ?_)
  · exact J_31  H locs ls  hP hD hS (lv_sub hl [1, 2, 0] rfl)
  · refine lv_iload_n hx hb dX9_isPopped_17 rfl (lv_at hl 0 rfl) ?_
    refine lv_iconst (v := 1) hx hb dX9_isPopped_18 (by decide) ?_
    refine lv_icmp_eq (tgt := 31) hx hb dX9_isPopped_19 (by decide) (fun c_22 => ?_) (fun c_22 => ?_)
    · exact J_31  H locs ls  hP hD hS (lv_sub hl [1, 2, 0] rfl)
    · refine lv_iload_n hx hb dX9_isPopped_22 rfl (lv_at hl 0 rfl) ?_
      have hFc := gfree hD hS hA
      refine va_calli (va_runS (As := [.int r_3]) (rest := []) ⟨hx, hb, hml, hown, hts⟩ (m_X6_isLoad l g H.size ws (r_3) hG ) (va_cwS 1 hts (gd_S kw_1647 kw_1227 kw_1207 kw_1226) rfl rfl rfl (by decide +kernel) ⟨Nat.le_of_ble_eq_true rfl, Nat.le_of_ble_eq_true rfl⟩) ⟨gblind, fun U hU hW9 => gmk hU hW9 hP hK hD hex hE hS hFc⟩ rfl rfl hl.1 rfl (lv_room (Nat.le_of_ble_eq_true rfl)) dX9_isPopped_23 ⟨Nat.le_of_ble_eq_true rfl, Nat.le_of_ble_eq_true rfl⟩) hS (fun q _ h => hFc q h) hFc (fun r_23 u9 t9 H1 locs ht9 hvm9 hw9 hB9 hz9 hk9 hS => ?_)
      have hP : va_P (gD g) cl0 ws H1 := by rw [← ht9]; exact hB9.1
      have hz_r_23 : r_23 = 0 ∨ r_23 = 1 := hw9
      clear hB9 hz9 hk9 hvm9 ht9 hw9
      generalize H1 = H at hP hS ⊢
      refine lv_if_ne (tgt := 31) hx hb dX9_isPopped_26 (by decide) (fun c_24 => ?_) (fun c_24 => ?_)
      · exact J_31  H locs ls  hP hD hS (lv_sub hl [1, 2, 0] rfl)
      · refine lv_iconst (v := 0) hx hb dX9_isPopped_29 (by decide) ?_
        refine W.widen (k := 0) (n := 0) (Nat.le_of_ble_eq_true rfl) (Nat.le_of_ble_eq_true rfl) ?_
        exact W.zret (v := 0) hx hb hr (nz (Or.inl rfl)) (fun t9 ht9 hW9 => ⟨⟨_, (), rfl, (Or.inl rfl), ⟨by rw [ht9]; exact hP, hD⟩⟩, hS.F ht9⟩) hS.2.2 dX9_isPopped_30
set_option maxHeartbeats 1000000 in
set_option maxRecDepth 100000 in
theorem m_X9_localBits (l : Launch) (g : Gm) (sz : Nat) (ws : va_W) (h0 : Nat) (x1 : Int32) (hG : Good g ws) (o_h0 : gC ws h0 8) : Met l yX9_localBits (wt yX9_localBits cX9_localBits 2 (some .int)) ({ frames := 2, cells := 0, slots := 0, locals := 42 }) (va_Pc [.ref h0, .int x1] (st_G g sz ws)) (va_Qi (fun (r : Int32) (u9 : Unit) => True) (gQ0 g (va_A ws sz) ws) (va_A ws sz)) (0) (0) (va_A ws sz) := by
  refine Met.ofW (cc := cX9_localBits) (maxL := 2) (ret := (some .int)) (by decide) rfl ?_
  intro p e s m args below meth c s₁ B hml hv
  obtain ⟨rfl, hsz, hP, hK, hD0, hex, hE⟩ := hv
  have hx := B.exec
  have hb := B.bytes
  have hr := B.returns
  have hts0 := atoms_spec (ws := wt yX9_localBits cX9_localBits 2 (some .int)) B.pre
  have hts : ∀ w ∈ tb, w.before _ s = true := fun w h => hts0 w (List.mem_cons_of_mem _ h)
  have hown : s.vm.findClass RX9 = some m.cls := findClass_of_methodNamed B.named
  subst hsz
  have hD := hD0.self (sz := s.heap.size)
  generalize hAe : va_A ws s.heap.size = A at hD hE ⊢
  have hA : ∀ q : Nat, s.heap.size ≤ q → A q := fun q h => by rw [← hAe]; exact Or.inr h
  have hS : va_S A s.heap s.heap [] := va_S.rf
  have hl := lv_entry ([.ref h0, .int x1]) (n := 2) (Nat.le_of_ble_eq_true rfl)
  rw [lg_entry_eq]
  generalize (lg_sl ([.ref h0, .int x1]) ++ List.replicate (2 - (lg_sl ([.ref h0, .int x1])).length) Slot.unset).toArray = ls at hl ⊢
  have hl : lv_has ls 2 [(0, .ref h0), (1, .int x1)] := hl
  refine lv_aload_n hx hb dX9_localBits_0 rfl (lv_at hl 0 rfl) ?_
  obtain ⟨k_1, fs9, hk_1⟩ := gC_of o_h0
  obtain ⟨r0_1, r1_1, n1_1, r2_1, n2_1, r3_1, n3_1, r4_1, n4_1, r5_1, n5_1, rfl, o_r0_1, a_r1_1, f2_1, a_r2_1, f4_1, a_r3_1, f6_1, a_r4_1, f8_1, a_r5_1, f10_1, f11_1, -⟩ := (hG.1 _ _ _ _ hk_1).hX9 rfl
  refine va_get (D := gD g) (ci := 8) (v := .ref r0_1) (C := RX9) (T := TX9) (N := 6) hx hb hts inX9 hown hK hP k_1 hk_1 rfl 0 (by decide) (hts _ kw_1552) (fun _ h9 => h9) rfl dX9_localBits_1 ?_
  refine lv_iload_n hx hb dX9_localBits_4 rfl (lv_at hl 1 rfl) ?_
  have hFc := gfree hD hS hA
  obtain ⟨k_2, fs_2, hk_2⟩ := gC_of o_r0_1
  refine va_calli (va_runV (As := [.int x1]) (rest := []) ⟨hx, hb, hml, hown, hts⟩ (m_X8_opAt l g s.heap.size ws r0_1 (x1) hG o_r0_1) (cwV 1 hts (gd_V kw_1596 kw_1513 kw_1514 kw_782 kw_1512) rfl rfl rfl (by decide +kernel) ⟨Nat.le_of_ble_eq_true rfl, Nat.le_of_ble_eq_true rfl⟩) ⟨gblind, va_recv hK hP (ci := 7) (q0 := k_2) rfl hk_2, fun U hU hW9 => gmk hU hW9 hP hK hD hex hE hS hFc⟩ rfl rfl hl.1 rfl (lv_room (Nat.le_of_ble_eq_true rfl)) dX9_localBits_5 ⟨Nat.le_of_ble_eq_true rfl, Nat.le_of_ble_eq_true rfl⟩) hS (fun q _ h => hFc q h) hFc (fun r_3 u9 t9 H1 locs ht9 hvm9 hw9 hB9 hz9 hk9 hS => ?_)
  have hP : va_P (gD g) cl0 ws H1 := by rw [← ht9]; exact hB9.1
  clear hB9 hz9 hk9 hvm9 ht9 hw9
  generalize H1 = H at hP hS ⊢
  have hFc := gfree hD hS hA
  refine va_calli (va_runS (As := [.int r_3]) (rest := []) ⟨hx, hb, hml, hown, hts⟩ (m_X6_localWidth l g H.size ws (r_3) hG ) (va_cwS 1 hts (gd_S kw_1676 kw_1247 kw_1207 kw_1246) rfl rfl rfl (by decide +kernel) ⟨Nat.le_of_ble_eq_true rfl, Nat.le_of_ble_eq_true rfl⟩) ⟨gblind, fun U hU hW9 => gmk hU hW9 hP hK hD hex hE hS hFc⟩ rfl rfl hl.1 rfl (lv_room (Nat.le_of_ble_eq_true rfl)) dX9_localBits_8 ⟨Nat.le_of_ble_eq_true rfl, Nat.le_of_ble_eq_true rfl⟩) hS (fun q _ h => hFc q h) hFc (fun r_4 u9 t9 H1 locs ht9 hvm9 hw9 hB9 hz9 hk9 hS => ?_)
  have hP : va_P (gD g) cl0 ws H1 := by rw [← ht9]; exact hB9.1
  clear hB9 hz9 hk9 hvm9 ht9 hw9
  generalize H1 = H at hP hS ⊢
  refine lv_iconst (v := 2) hx hb dX9_localBits_11 (by decide) ?_
  have J_20 : ∀ (t_5 : Int32) (H : Heap) (locs : List Loc) (ls : Array Slot), 1 ≤ t_5.toInt ∧ t_5.toInt ≤ 3 → va_P (gD g) cl0 ws H → va_D A ws → va_S A s.heap H locs → lv_has ls 2 [(0, .ref h0), (1, .int x1)] → W p l e (headSpec (wt yX9_localBits cX9_localBits 2 (some .int)) ({ frames := 2, cells := 0, slots := 0, locals := 42 })).room s m ([.ref h0, .int x1] : List Value).toArray below meth c H locs (0) (0) (MQ below (va_Qi (fun (r : Int32) (u9 : Unit) => True) (gQ0 g A ws) A) ([.ref h0, .int x1] : List Value).toArray s (0) (0) A) (F0 m 20 ls [.int t_5]) := by
    intro t_5 H locs ls iv_6 hP hD hS hl
    refine lv_aload_n hx hb dX9_localBits_20 rfl (lv_at hl 0 rfl) ?_
    refine va_get (D := gD g) (ci := 8) (v := .ref r0_1) (C := RX9) (T := TX9) (N := 6) hx hb hts inX9 hown hK hP k_1 hk_1 rfl 0 (by decide) (hts _ kw_1552) (fun _ h9 => h9) rfl dX9_localBits_21 ?_
    refine lv_iload_n hx hb dX9_localBits_24 rfl (lv_at hl 1 rfl) ?_
    have hFc := gfree hD hS hA
    obtain ⟨k_9, fs_9, hk_9⟩ := gC_of o_r0_1
    refine va_calli (va_runV (As := [.int x1]) (rest := [.int t_5]) ⟨hx, hb, hml, hown, hts⟩ (m_X8_localOf l g H.size ws r0_1 (x1) hG o_r0_1) (cwV 1 hts (gd_V kw_1643 kw_1509 kw_1510 kw_782 kw_1508) rfl rfl rfl (by decide +kernel) ⟨Nat.le_of_ble_eq_true rfl, Nat.le_of_ble_eq_true rfl⟩) ⟨gblind, va_recv hK hP (ci := 7) (q0 := k_9) rfl hk_9, fun U hU hW9 => gmk hU hW9 hP hK hD hex hE hS hFc⟩ rfl rfl hl.1 rfl (lv_room (Nat.le_of_ble_eq_true rfl)) dX9_localBits_25 ⟨Nat.le_of_ble_eq_true rfl, Nat.le_of_ble_eq_true rfl⟩) hS (fun q _ h => hFc q h) hFc (fun r_10 u9 t9 H1 locs ht9 hvm9 hw9 hB9 hz9 hk9 hS => ?_)
    have hP : va_P (gD g) cl0 ws H1 := by rw [← ht9]; exact hB9.1
    clear hB9 hz9 hk9 hvm9 ht9 hw9
    generalize H1 = H at hP hS ⊢
    refine lv_ishl hx hb dX9_localBits_28 ?_
    refine lv_topi (fun z_11 ez_11 => ?_)
    refine W.widen (k := 0) (n := 0) (Nat.le_of_ble_eq_true rfl) (Nat.le_of_ble_eq_true rfl) ?_
    exact W.iret (v := z_11) hx hb hr (fun t9 ht9 hW9 => ⟨⟨_, (), rfl, trivial, ⟨by rw [ht9]; exact hP, hD⟩⟩, hS.F ht9⟩) hS.2.2 dX9_localBits_29
  refine lv_icmp_ne (tgt := 19) hx hb dX9_localBits_12 (by decide) (fun c_12 => ?_) (fun c_12 => ?_)
  · refine lv_iconst (v := 1) hx hb dX9_localBits_19 (by decide) ?_
    exact J_20 (1) H locs ls (by have e1 : (1 : Int32).toInt = 1 := (by decide); have g_x1 := i_rg x1; omega) hP hD hS (lv_sub hl [0, 1] rfl)
  · refine lv_iconst (v := 3) hx hb dX9_localBits_15 (by decide) ?_
    refine lv_goto (tgt := 20) hx hb dX9_localBits_16 (by decide) ?_
    exact J_20 (3) H locs ls (by have e3 : (3 : Int32).toInt = 3 := (by decide); have g_x1 := i_rg x1; omega) hP hD hS (lv_sub hl [0, 1] rfl)
set_option maxHeartbeats 1000000 in
set_option maxRecDepth 100000 in
theorem m_X9_liveAt (l : Launch) (g : Gm) (sz : Nat) (ws : va_W) (h0 : Nat) (x1 : Int32) (hG : Good g ws) (o_h0 : gC ws h0 8) (fp_a : gP ws h0 (fun fs => ∀ (rn n : Nat), fs[2]? = some (.ref rn) → gI ws rn g.cZ n → 1297 ≤ n)) (fp_b : gP ws h0 (fun fs => ∀ (rn n : Nat), fs[3]? = some (.ref rn) → gI ws rn g.cZ n → 1297 ≤ n)) (fp_d : gP ws h0 (fun fs => ∀ (rn n : Nat), fs[4]? = some (.ref rn) → gI ws rn g.cI n → 1297 ≤ n)) (fp_f : gP ws h0 (fun fs => ∀ (rn n : Nat), fs[5]? = some (.ref rn) → gI ws rn g.cI n → 1297 ≤ n)) : Met l yX9_liveAt (wt yX9_liveAt cX9_liveAt 2 (some .int)) ({ frames := 0, cells := 0, slots := 0, locals := 0 }) (va_Pc [.ref h0, .int x1] (st_G g sz ws)) (va_Qi (fun (r : Int32) (u9 : Unit) => True) (gQ0 g (va_A ws sz) ws) (va_A ws sz)) (0) (0) (va_A ws sz) := by
  refine Met.ofW (cc := cX9_liveAt) (maxL := 2) (ret := (some .int)) (by decide) rfl ?_
  intro p e s m args below meth c s₁ B hml hv
  obtain ⟨rfl, hsz, hP, hK, hD0, hex, hE⟩ := hv
  have hx := B.exec
  have hb := B.bytes
  have hr := B.returns
  have hts0 := atoms_spec (ws := wt yX9_liveAt cX9_liveAt 2 (some .int)) B.pre
  have hts : ∀ w ∈ tb, w.before _ s = true := fun w h => hts0 w (List.mem_cons_of_mem _ h)
  have hown : s.vm.findClass RX9 = some m.cls := findClass_of_methodNamed B.named
  subst hsz
  have hD := hD0.self (sz := s.heap.size)
  generalize hAe : va_A ws s.heap.size = A at hD hE ⊢
  have hA : ∀ q : Nat, s.heap.size ≤ q → A q := fun q h => by rw [← hAe]; exact Or.inr h
  have hS : va_S A s.heap s.heap [] := va_S.rf
  have hl := lv_entry ([.ref h0, .int x1]) (n := 2) (Nat.le_of_ble_eq_true rfl)
  rw [lg_entry_eq]
  generalize (lg_sl ([.ref h0, .int x1]) ++ List.replicate (2 - (lg_sl ([.ref h0, .int x1])).length) Slot.unset).toArray = ls at hl ⊢
  have hl : lv_has ls 2 [(0, .ref h0), (1, .int x1)] := hl
  obtain ⟨k_1, fs9, hk_1⟩ := gC_of o_h0
  obtain ⟨r0_1, r1_1, n1_1, r2_1, n2_1, r3_1, n3_1, r4_1, n4_1, r5_1, n5_1, rfl, o_r0_1, a_r1_1, f2_1, a_r2_1, f4_1, a_r3_1, f6_1, a_r4_1, f8_1, a_r5_1, f10_1, f11_1, -⟩ := (hG.1 _ _ _ _ hk_1).hX9 rfl
  have fq_a := fp_a _ _ _ hk_1 _ _ rfl a_r2_1
  have fq_b := fp_b _ _ _ hk_1 _ _ rfl a_r3_1
  have fq_d := fp_d _ _ _ hk_1 _ _ rfl a_r4_1
  have fq_f := fp_f _ _ _ hk_1 _ _ rfl a_r5_1
  refine lv_iload_n hx hb dX9_liveAt_0 rfl (lv_at hl 1 rfl) ?_
  have J_25 : ∀ (t_2 : Int32) (H : Heap) (locs : List Loc) (ls : Array Slot), va_P (gD g) cl0 ws H → va_D A ws → va_S A s.heap H locs → lv_has ls 2 [] → W p l e (headSpec (wt yX9_liveAt cX9_liveAt 2 (some .int)) ({ frames := 0, cells := 0, slots := 0, locals := 0 })).room s m ([.ref h0, .int x1] : List Value).toArray below meth c H locs (0) (0) (MQ below (va_Qi (fun (r : Int32) (u9 : Unit) => True) (gQ0 g A ws) A) ([.ref h0, .int x1] : List Value).toArray s (0) (0) A) (F0 m 25 ls [.int t_2]) := by
    intro t_2 H locs ls  hP hD hS hl
    refine W.widen (k := 0) (n := 0) (Nat.le_of_ble_eq_true rfl) (Nat.le_of_ble_eq_true rfl) ?_
    exact W.iret (v := t_2) hx hb hr (fun t9 ht9 hW9 => ⟨⟨_, (), rfl, trivial, ⟨by rw [ht9]; exact hP, hD⟩⟩, hS.F ht9⟩) hS.2.2 dX9_liveAt_25
  have J_15 : ∀  (H : Heap) (locs : List Loc) (ls : Array Slot), va_P (gD g) cl0 ws H → va_D A ws → va_S A s.heap H locs → lv_has ls 2 [] → W p l e (headSpec (wt yX9_liveAt cX9_liveAt 2 (some .int)) ({ frames := 0, cells := 0, slots := 0, locals := 0 })).room s m ([.ref h0, .int x1] : List Value).toArray below meth c H locs (0) (0) (MQ below (va_Qi (fun (r : Int32) (u9 : Unit) => True) (gQ0 g A ws) A) ([.ref h0, .int x1] : List Value).toArray s (0) (0) A) (F0 m 15 ls []) := by
    intro  H locs ls  hP hD hS hl
    refine lv_iconst (v := 0) hx hb dX9_liveAt_15 (by decide) ?_
    refine lv_goto (tgt := 25) hx hb dX9_liveAt_16 (by decide) ?_
    exact J_25 (0) H locs ls  hP hD hS (lv_sub hl [] rfl)
  refine lv_if_lt (tgt := 15) hx hb dX9_liveAt_1 (by decide) (fun c_7 => ?_) (fun c_7 => ?_)
  · exact J_15  _ _ ls  hP hD hS (lv_sub hl [] rfl)
  · refine lv_iload_n hx hb dX9_liveAt_4 rfl (lv_at hl 1 rfl) ?_
    refine lv_aload_n hx hb dX9_liveAt_5 rfl (lv_at hl 0 rfl) ?_
    refine va_get (D := gD g) (ci := 8) (v := .ref r0_1) (C := RX9) (T := TX9) (N := 6) hx hb hts inX9 hown hK hP k_1 hk_1 rfl 0 (by decide) (hts _ kw_1552) (fun _ h9 => h9) rfl dX9_liveAt_6 ?_
    obtain ⟨k_8, fs9, hk_8⟩ := gC_of o_r0_1
    obtain ⟨r0_8, n0_8, r1_8, n1_8, c2_8, r3_8, n3_8, c4_8, r5_8, n5_8, r6_8, n6_8, r7_8, n7_8, r8_8, n8_8, c9_8, c10_8, c11_8, v12_8, v13_8, v14_8, rfl, a_r0_8, f1_8, a_r1_8, f3_8, a_r3_8, f5_8, a_r5_8, f7_8, a_r6_8, f9_8, a_r7_8, f11_8, a_r8_8, f13_8, o_v12_8, o_v13_8, o_v14_8, f17_8, f18_8, f19_8, f20_8, f21_8, f22_8, f23_8, f24_8, f25_8, f26_8, f27_8, f28_8, f29_8, -⟩ := (hG.1 _ _ _ _ hk_8).hX8 rfl
    refine va_get (D := gD g) (ci := 7) (v := .int c2_8) (C := RX8) (T := TX8) (N := 15) hx hb hts inX8 hown hK hP k_8 hk_8 rfl 2 (by decide) (hts _ kw_1553) (fun _ h9 => h9) rfl dX9_liveAt_9 ?_
    refine lv_icmp_lt (tgt := 19) hx hb dX9_liveAt_12 (by decide) (fun c_9 => ?_) (fun c_9 => ?_)
    · refine lv_aload_n hx hb dX9_liveAt_19 rfl (lv_at hl 0 rfl) ?_
      refine va_get (D := gD g) (ci := 8) (v := .ref r4_1) (C := RX9) (T := TX9) (N := 6) hx hb hts inX9 hown hK hP k_1 hk_1 rfl 4 (by decide) (hts _ kw_1559) (fun _ h9 => h9) rfl dX9_liveAt_20 ?_
      refine lv_iload_n hx hb dX9_liveAt_23 rfl (lv_at hl 1 rfl) ?_
      obtain ⟨k_10, f_10, hk_10⟩ := gI_of a_r4_1
      refine va_iald hx hb hK hP k_10 1 hk_10 rfl (i_in2 (by have e0 : (0 : Int32).toInt = 0 := (by decide); have q_f8_1 := f8_1; have q_fq_d := fq_d; have q_c_7 := i_nlt c_7; have q_c_9 := i_lt c_9; have q_f19_8 := f19_8; have q_f20_8 := f20_8; have g_c2_8 := i_rg c2_8; have g_x1 := i_rg x1; omega)) dX9_liveAt_24 ?_
      refine lv_topi (fun z_11 ez_11 => ?_)
      exact J_25 (z_11) _ _ ls  hP hD hS (lv_sub hl [] rfl)
    · exact J_15  _ _ ls  hP hD hS (lv_sub hl [] rfl)
set_option maxHeartbeats 1000000 in
set_option maxRecDepth 100000 in
theorem m_X9_reachFrom (l : Launch) (g : Gm) (sz : Nat) (ws : va_W) (h0 : Nat) (x1 : Int32) (hG : Good g ws) (o_h0 : gC ws h0 8) (fp_a : gP ws h0 (fun fs => ∀ (rn n : Nat), fs[2]? = some (.ref rn) → gI ws rn g.cZ n → 1297 ≤ n)) (fp_b : gP ws h0 (fun fs => ∀ (rn n : Nat), fs[3]? = some (.ref rn) → gI ws rn g.cZ n → 1297 ≤ n)) (fp_d : gP ws h0 (fun fs => ∀ (rn n : Nat), fs[4]? = some (.ref rn) → gI ws rn g.cI n → 1297 ≤ n)) (fp_f : gP ws h0 (fun fs => ∀ (rn n : Nat), fs[5]? = some (.ref rn) → gI ws rn g.cI n → 1297 ≤ n)) : Met l yX9_reachFrom (wt yX9_reachFrom cX9_reachFrom 5 (some .boolean)) ({ frames := 2, cells := 0, slots := 0, locals := 43 }) (va_Pc [.ref h0, .int x1] (st_G g sz ws)) (va_Qi (fun (r : Int32) (u9 : va_W) => r = 0 ∨ r = 1) (gQ1 g [] [(8, 3)] none (va_A ws sz) ws) (va_A ws sz)) (0) (0) (va_A ws sz) := by
  refine Met.ofW (cc := cX9_reachFrom) (maxL := 5) (ret := (some .boolean)) (by decide) rfl ?_
  intro p e s m args below meth c s₁ B hml hv
  obtain ⟨rfl, hsz, hP, hK, hD0, hex, hE⟩ := hv
  have hx := B.exec
  have hb := B.bytes
  have hr := B.returns
  have hts0 := atoms_spec (ws := wt yX9_reachFrom cX9_reachFrom 5 (some .boolean)) B.pre
  have hts : ∀ w ∈ tb, w.before _ s = true := fun w h => hts0 w (List.mem_cons_of_mem _ h)
  have hown : s.vm.findClass RX9 = some m.cls := findClass_of_methodNamed B.named
  subst hsz
  have hD := hD0.self (sz := s.heap.size)
  generalize hAe : va_A ws s.heap.size = A at hD hE ⊢
  have hA : ∀ q : Nat, s.heap.size ≤ q → A q := fun q h => by rw [← hAe]; exact Or.inr h
  have hS : va_S A s.heap s.heap [] := va_S.rf
  have hl := lv_entry ([.ref h0, .int x1]) (n := 5) (Nat.le_of_ble_eq_true rfl)
  rw [lg_entry_eq]
  generalize (lg_sl ([.ref h0, .int x1]) ++ List.replicate (5 - (lg_sl ([.ref h0, .int x1])).length) Slot.unset).toArray = ls at hl ⊢
  have hl : lv_has ls 5 [(0, .ref h0), (1, .int x1)] := hl
  obtain ⟨k_1, fs9, hk_1⟩ := gC_of o_h0
  obtain ⟨r0_1, r1_1, n1_1, r2_1, n2_1, r3_1, n3_1, r4_1, n4_1, r5_1, n5_1, rfl, o_r0_1, a_r1_1, f2_1, a_r2_1, f4_1, a_r3_1, f6_1, a_r4_1, f8_1, a_r5_1, f10_1, f11_1, -⟩ := (hG.1 _ _ _ _ hk_1).hX9 rfl
  have fq_a := fp_a _ _ _ hk_1 _ _ rfl a_r2_1
  have fq_b := fp_b _ _ _ hk_1 _ _ rfl a_r3_1
  have fq_d := fp_d _ _ _ hk_1 _ _ rfl a_r4_1
  have fq_f := fp_f _ _ _ hk_1 _ _ rfl a_r5_1
  refine lv_aload_n hx hb dX9_reachFrom_0 rfl (lv_at hl 0 rfl) ?_
  refine va_get (D := gD g) (ci := 8) (v := .ref r0_1) (C := RX9) (T := TX9) (N := 6) hx hb hts inX9 hown hK hP k_1 hk_1 rfl 0 (by decide) (hts _ kw_1552) (fun _ h9 => h9) rfl dX9_reachFrom_1 ?_
  refine lv_iload_n hx hb dX9_reachFrom_4 rfl (lv_at hl 1 rfl) ?_
  have hFc := gfree hD hS hA
  obtain ⟨k_2, fs_2, hk_2⟩ := gC_of o_r0_1
  refine va_calli (va_runV (As := [.int x1]) (rest := []) ⟨hx, hb, hml, hown, hts⟩ (m_X8_opAt l g s.heap.size ws r0_1 (x1) hG o_r0_1) (cwV 1 hts (gd_V kw_1596 kw_1513 kw_1514 kw_782 kw_1512) rfl rfl rfl (by decide +kernel) ⟨Nat.le_of_ble_eq_true rfl, Nat.le_of_ble_eq_true rfl⟩) ⟨gblind, va_recv hK hP (ci := 7) (q0 := k_2) rfl hk_2, fun U hU hW9 => gmk hU hW9 hP hK hD hex hE hS hFc⟩ rfl rfl hl.1 rfl (lv_room (Nat.le_of_ble_eq_true rfl)) dX9_reachFrom_5 ⟨Nat.le_of_ble_eq_true rfl, Nat.le_of_ble_eq_true rfl⟩) hS (fun q _ h => hFc q h) hFc (fun r_3 u9 t9 H1 locs ht9 hvm9 hw9 hB9 hz9 hk9 hS => ?_)
  have hP : va_P (gD g) cl0 ws H1 := by rw [← ht9]; exact hB9.1
  clear hB9 hz9 hk9 hvm9 ht9 hw9
  generalize H1 = H at hP hS ⊢
  have hFc := gfree hD hS hA
  refine va_calli (va_runS (As := [.int r_3]) (rest := []) ⟨hx, hb, hml, hown, hts⟩ (m_X6_goesOn l g H.size ws (r_3) hG ) (va_cwS 1 hts (gd_S kw_1672 kw_1219 kw_1207 kw_1218) rfl rfl rfl (by decide +kernel) ⟨Nat.le_of_ble_eq_true rfl, Nat.le_of_ble_eq_true rfl⟩) ⟨gblind, fun U hU hW9 => gmk hU hW9 hP hK hD hex hE hS hFc⟩ rfl rfl hl.1 rfl (lv_room (Nat.le_of_ble_eq_true rfl)) dX9_reachFrom_8 ⟨Nat.le_of_ble_eq_true rfl, Nat.le_of_ble_eq_true rfl⟩) hS (fun q _ h => hFc q h) hFc (fun r_4 u9 t9 H1 locs ht9 hvm9 hw9 hB9 hz9 hk9 hS => ?_)
  have hP : va_P (gD g) cl0 ws H1 := by rw [← ht9]; exact hB9.1
  have hz_r_4 : r_4 = 0 ∨ r_4 = 1 := hw9
  clear hB9 hz9 hk9 hvm9 ht9 hw9
  generalize H1 = H at hP hS ⊢
  have J_29 : ∀ (t_5 : Int32) (ws_7 : va_W) (H : Heap) (locs : List Loc) (ls : Array Slot), t_5 = 0 ∨ t_5 = 1 → gE ws ws_7 → gF [] [(8, 3)] none ws ws_7 → Good g ws_7 → va_P (gD g) cl0 ws_7 H → va_D A ws_7 → va_S A s.heap H locs → lv_has ls 5 [(0, .ref h0), (1, .int x1)] → W p l e (headSpec (wt yX9_reachFrom cX9_reachFrom 5 (some .boolean)) ({ frames := 2, cells := 0, slots := 0, locals := 43 })).room s m ([.ref h0, .int x1] : List Value).toArray below meth c H locs (0) (0) (MQ below (va_Qi (fun (r : Int32) (u9 : va_W) => r = 0 ∨ r = 1) (gQ1 g [] [(8, 3)] none A ws) A) ([.ref h0, .int x1] : List Value).toArray s (0) (0) A) (F0 m 29 ls [.int t_5]) := by
    intro t_5 ws_7 H locs ls iv_6 E_8 Fr_9 hG hP hD hS hl
    have hz_t_5 := iv_6
    have aa_10 := a_r1_1
    have aa_11 := a_r2_1
    have aa_12 := a_r3_1
    have aa_13 := a_r4_1
    have aa_14 := a_r5_1
    have o_h0 := E_8.1 _ _ o_h0
    refine lv_istore_n (lv' := [(2, .int t_5), (0, .ref h0), (1, .int x1)]) hx hb dX9_reachFrom_29 rfl hl (by decide) rfl (fun ls hl => ?_)
    refine lv_aload_n hx hb dX9_reachFrom_30 rfl (lv_at hl 1 rfl) ?_
    obtain ⟨fs9, hk_15, hq_15⟩ := ((gF.a (F' := []) Fr_9 (fun _ h => h))) _ _ _ hk_1
    obtain ⟨r0_15, r1_15, n1_15, r2_15, n2_15, r3_15, n3_15, r4_15, n4_15, r5_15, n5_15, rfl, o_r0_15, a_r1_15, f2_15, a_r2_15, f4_15, a_r3_15, f6_15, a_r4_15, f8_15, a_r5_15, f10_15, f11_15, -⟩ := (hG.1 _ _ _ _ hk_15).hX9 rfl
    obtain rfl := fe_r (hq_15 0 (by decide))
    have o_r0_1 := o_r0_15
    obtain rfl := fe_r (hq_15 2 (by decide))
    have hn9 := gI_n hD ((E_8).1 _ _ aa_11) a_r2_15
    subst hn9
    have a_r2_1 := a_r2_15
    obtain rfl := fe_r (hq_15 3 (by decide))
    have hn9 := gI_n hD ((E_8).1 _ _ aa_12) a_r3_15
    subst hn9
    have a_r3_1 := a_r3_15
    obtain rfl := fe_r (hq_15 4 (by decide))
    have hn9 := gI_n hD ((E_8).1 _ _ aa_13) a_r4_15
    subst hn9
    have a_r4_1 := a_r4_15
    obtain rfl := fe_r (hq_15 5 (by decide))
    have hn9 := gI_n hD ((E_8).1 _ _ aa_14) a_r5_15
    subst hn9
    have a_r5_1 := a_r5_15
    refine va_get (D := gD g) (ci := 8) (v := .ref r0_1) (C := RX9) (T := TX9) (N := 6) hx hb hts inX9 hown hK hP k_1 hk_15 rfl 0 (by decide) (hts _ kw_1552) (fun _ h9 => h9) rfl dX9_reachFrom_31 ?_
    refine lv_iload_n hx hb dX9_reachFrom_34 rfl (lv_at hl 2 rfl) ?_
    have hFc := gfree hD hS hA
    obtain ⟨k_16, fs_16, hk_16⟩ := gC_of o_r0_1
    refine va_calli (va_runV (As := [.int x1]) (rest := []) ⟨hx, hb, hml, hown, hts⟩ (m_X8_targetCount l g H.size ws_7 r0_1 (x1) hG o_r0_1) (cwV 1 hts (gd_V kw_1567 kw_1541 kw_1542 kw_782 kw_1540) rfl rfl rfl (by decide +kernel) ⟨Nat.le_of_ble_eq_true rfl, Nat.le_of_ble_eq_true rfl⟩) ⟨gblind, va_recv hK hP (ci := 7) (q0 := k_16) rfl hk_16, fun U hU hW9 => gmk hU hW9 hP hK hD hex hE hS hFc⟩ rfl rfl hl.1 rfl (lv_room (Nat.le_of_ble_eq_true rfl)) dX9_reachFrom_35 ⟨Nat.le_of_ble_eq_true rfl, Nat.le_of_ble_eq_true rfl⟩) hS (fun q _ h => hFc q h) hFc (fun r_17 u9 t9 H1 locs ht9 hvm9 hw9 hB9 hz9 hk9 hS => ?_)
    have hP : va_P (gD g) cl0 ws_7 H1 := by rw [← ht9]; exact hB9.1
    clear hB9 hz9 hk9 hvm9 ht9 hw9
    generalize H1 = H at hP hS ⊢
    refine lv_istore_n (lv' := [(3, .int r_17), (2, .int t_5), (0, .ref h0), (1, .int x1)]) hx hb dX9_reachFrom_38 rfl hl (by decide) rfl (fun ls hl => ?_)
    refine lv_iconst (v := 0) hx hb dX9_reachFrom_39 (by decide) ?_
    refine lv_istore (lv' := [(4, .int 0), (3, .int r_17), (2, .int t_5), (0, .ref h0), (1, .int x1)]) hx hb dX9_reachFrom_40 hl (by decide) rfl (fun ls hl => ?_)
    have J_42 : ∀ (n9 : Nat) (v2_18 : Int32) (v4_20 : Int32) (ws_22 : va_W) (H : Heap) (locs : List Loc) (ls : Array Slot), (2147483647 - v4_20.toInt).toNat = n9 → v2_18 = 0 ∨ v2_18 = 1 → 0 ≤ v4_20.toInt → gE ws_7 ws_22 → gF [] [(8, 3)] none ws_7 ws_22 → Good g ws_22 → va_P (gD g) cl0 ws_22 H → va_D A ws_22 → va_S A s.heap H locs → lv_has ls 5 [(0, .ref h0), (1, .int x1), (2, .int v2_18), (3, .int r_17), (4, .int v4_20)] → W p l e (headSpec (wt yX9_reachFrom cX9_reachFrom 5 (some .boolean)) ({ frames := 2, cells := 0, slots := 0, locals := 43 })).room s m ([.ref h0, .int x1] : List Value).toArray below meth c H locs (0) (0) (MQ below (va_Qi (fun (r : Int32) (u9 : va_W) => r = 0 ∨ r = 1) (gQ1 g [] [(8, 3)] none A ws) A) ([.ref h0, .int x1] : List Value).toArray s (0) (0) A) (F0 m 42 ls []) := by
      intro n9
      induction n9 using Nat.strongRecOn with
      | ind n9 ih_42 =>
        intro v2_18 v4_20 ws_22 H locs ls hm9 iv_19 iv_21 E_23 Fr_24 hG hP hD hS hl
        subst hm9
        have hz_v2_18 := iv_19
        have aa_25 := a_r1_15
        have aa_26 := a_r2_1
        have aa_27 := a_r3_1
        have aa_28 := a_r4_1
        have aa_29 := a_r5_1
        have o_h0 := E_23.1 _ _ o_h0
        refine lv_iload hx hb dX9_reachFrom_42 (lv_at hl 4 rfl) ?_
        refine lv_iload_n hx hb dX9_reachFrom_44 rfl (lv_at hl 3 rfl) ?_
        refine lv_icmp_ge (tgt := 71) hx hb dX9_reachFrom_45 (by decide) (fun c_30 => ?_) (fun c_30 => ?_)
        · refine lv_iconst (v := 0) hx hb dX9_reachFrom_71 (by decide) ?_
          refine lv_istore (lv' := [(4, .int 0), (0, .ref h0), (1, .int x1), (2, .int v2_18), (3, .int r_17)]) hx hb dX9_reachFrom_72 hl (by decide) rfl (fun ls hl => ?_)
          have J_74 : ∀ (n9 : Nat) (v2_31 : Int32) (v4_33 : Int32) (ws_35 : va_W) (H : Heap) (locs : List Loc) (ls : Array Slot), (2147483647 - v4_33.toInt).toNat = n9 → v2_31 = 0 ∨ v2_31 = 1 → 0 ≤ v4_33.toInt → gE ws_22 ws_35 → gF [] [(8, 3)] none ws_22 ws_35 → Good g ws_35 → va_P (gD g) cl0 ws_35 H → va_D A ws_35 → va_S A s.heap H locs → lv_has ls 5 [(0, .ref h0), (1, .int x1), (2, .int v2_31), (4, .int v4_33)] → W p l e (headSpec (wt yX9_reachFrom cX9_reachFrom 5 (some .boolean)) ({ frames := 2, cells := 0, slots := 0, locals := 43 })).room s m ([.ref h0, .int x1] : List Value).toArray below meth c H locs (0) (0) (MQ below (va_Qi (fun (r : Int32) (u9 : va_W) => r = 0 ∨ r = 1) (gQ1 g [] [(8, 3)] none A ws) A) ([.ref h0, .int x1] : List Value).toArray s (0) (0) A) (F0 m 74 ls []) := by
            intro n9
            induction n9 using Nat.strongRecOn with
            | ind n9 ih_74 =>
              intro v2_31 v4_33 ws_35 H locs ls hm9 iv_32 iv_34 E_36 Fr_37 hG hP hD hS hl
              subst hm9
              have hz_v2_31 := iv_32
              have o_h0 := E_36.1 _ _ o_h0
              refine lv_iload hx hb dX9_reachFrom_74 (lv_at hl 3 rfl) ?_
              refine lv_aload_n hx hb dX9_reachFrom_76 rfl (lv_at hl 0 rfl) ?_
              obtain ⟨fs9, hk_38, hq_38⟩ := ((gA.tr (gF.a (F' := []) Fr_24 (fun _ h => h)) (gF.a (F' := []) Fr_37 (fun _ h => h)))) _ _ _ hk_15
              obtain ⟨r0_38, r1_38, n1_38, r2_38, n2_38, r3_38, n3_38, r4_38, n4_38, r5_38, n5_38, rfl, o_r0_38, a_r1_38, f2_38, a_r2_38, f4_38, a_r3_38, f6_38, a_r4_38, f8_38, a_r5_38, f10_38, f11_38, -⟩ := (hG.1 _ _ _ _ hk_38).hX9 rfl
              obtain rfl := fe_r (hq_38 0 (by decide))
              have o_r0_1 := o_r0_38
              obtain rfl := fe_r (hq_38 2 (by decide))
              have hn9 := gI_n hD (((E_23.tr E_36)).1 _ _ aa_26) a_r2_38
              subst hn9
              have a_r2_1 := a_r2_38
              obtain rfl := fe_r (hq_38 3 (by decide))
              have hn9 := gI_n hD (((E_23.tr E_36)).1 _ _ aa_27) a_r3_38
              subst hn9
              have a_r3_1 := a_r3_38
              obtain rfl := fe_r (hq_38 4 (by decide))
              have hn9 := gI_n hD (((E_23.tr E_36)).1 _ _ aa_28) a_r4_38
              subst hn9
              have a_r4_1 := a_r4_38
              obtain rfl := fe_r (hq_38 5 (by decide))
              have hn9 := gI_n hD (((E_23.tr E_36)).1 _ _ aa_29) a_r5_38
              subst hn9
              have a_r5_1 := a_r5_38
              refine va_get (D := gD g) (ci := 8) (v := .ref r0_1) (C := RX9) (T := TX9) (N := 6) hx hb hts inX9 hown hK hP k_1 hk_38 rfl 0 (by decide) (hts _ kw_1552) (fun _ h9 => h9) rfl dX9_reachFrom_77 ?_
              obtain ⟨k_39, fs9, hk_39⟩ := gC_of o_r0_1
              obtain ⟨r0_39, n0_39, r1_39, n1_39, c2_39, r3_39, n3_39, c4_39, r5_39, n5_39, r6_39, n6_39, r7_39, n7_39, r8_39, n8_39, c9_39, c10_39, c11_39, v12_39, v13_39, v14_39, rfl, a_r0_39, f1_39, a_r1_39, f3_39, a_r3_39, f5_39, a_r5_39, f7_39, a_r6_39, f9_39, a_r7_39, f11_39, a_r8_39, f13_39, o_v12_39, o_v13_39, o_v14_39, f17_39, f18_39, f19_39, f20_39, f21_39, f22_39, f23_39, f24_39, f25_39, f26_39, f27_39, f28_39, f29_39, -⟩ := (hG.1 _ _ _ _ hk_39).hX8 rfl
              refine va_get (D := gD g) (ci := 7) (v := .int c9_39) (C := RX8) (T := TX8) (N := 15) hx hb hts inX8 hown hK hP k_39 hk_39 rfl 9 (by decide) (hts _ kw_1570) (fun _ h9 => h9) rfl dX9_reachFrom_80 ?_
              refine lv_icmp_ge (tgt := 130) hx hb dX9_reachFrom_83 (by decide) (fun c_40 => ?_) (fun c_40 => ?_)
              · refine lv_iload_n hx hb dX9_reachFrom_130 rfl (lv_at hl 2 rfl) ?_
                refine W.widen (k := 0) (n := 0) (Nat.le_of_ble_eq_true rfl) (Nat.le_of_ble_eq_true rfl) ?_
                exact W.zret (v := v2_31) hx hb hr (nz hz_v2_31) (fun t9 ht9 hW9 => ⟨⟨_, ws_35, rfl, hz_v2_31, ⟨(E_8.tr (E_23.tr E_36)), (gF.tr Fr_9 (gF.tr Fr_24 Fr_37)), hG, by rw [ht9]; exact hP, hD⟩⟩, hS.F ht9⟩) hS.2.2 dX9_reachFrom_131
              · refine lv_iload_n hx hb dX9_reachFrom_86 rfl (lv_at hl 2 rfl) ?_
                refine lv_aload_n hx hb dX9_reachFrom_87 rfl (lv_at hl 0 rfl) ?_
                refine va_get (D := gD g) (ci := 8) (v := .ref r0_1) (C := RX9) (T := TX9) (N := 6) hx hb hts inX9 hown hK hP k_1 hk_38 rfl 0 (by decide) (hts _ kw_1552) (fun _ h9 => h9) rfl dX9_reachFrom_88 ?_
                refine lv_iload hx hb dX9_reachFrom_91 (lv_at hl 3 rfl) ?_
                refine lv_iload_n hx hb dX9_reachFrom_93 rfl (lv_at hl 1 rfl) ?_
                have hFc := gfree hD hS hA
                refine va_calli (va_runV (As := [.int v4_33, .int x1]) (rest := [.int v2_31]) ⟨hx, hb, hml, hown, hts⟩ (m_X8_catchHas l g H.size ws_35 r0_1 (v4_33) (x1) hG o_r0_1) (cwV 2 hts (gd_V kw_1667 kw_1483 kw_1484 kw_782 kw_1482) rfl rfl rfl (by decide +kernel) ⟨Nat.le_of_ble_eq_true rfl, Nat.le_of_ble_eq_true rfl⟩) ⟨gblind, va_recv hK hP (ci := 7) (q0 := k_39) rfl hk_39, fun U hU hW9 => gmk hU hW9 hP hK hD hex hE hS hFc⟩ rfl rfl hl.1 rfl (lv_room (Nat.le_of_ble_eq_true rfl)) dX9_reachFrom_94 ⟨Nat.le_of_ble_eq_true rfl, Nat.le_of_ble_eq_true rfl⟩) hS (fun q _ h => hFc q h) hFc (fun r_41 u9 t9 H1 locs ht9 hvm9 hw9 hB9 hz9 hk9 hS => ?_)
                have hP : va_P (gD g) cl0 ws_35 H1 := by rw [← ht9]; exact hB9.1
                have hz_r_41 : r_41 = 0 ∨ r_41 = 1 := hw9
                clear hB9 hz9 hk9 hvm9 ht9 hw9
                generalize H1 = H at hP hS ⊢
                have J_122 : ∀ (t_42 : Int32) (ws_44 : va_W) (H : Heap) (locs : List Loc) (ls : Array Slot), t_42 = 0 ∨ t_42 = 1 → gE ws_35 ws_44 → gF [] [(8, 3)] none ws_35 ws_44 → Good g ws_44 → va_P (gD g) cl0 ws_44 H → va_D A ws_44 → va_S A s.heap H locs → lv_has ls 5 [(0, .ref h0), (1, .int x1), (4, .int v4_33)] → W p l e (headSpec (wt yX9_reachFrom cX9_reachFrom 5 (some .boolean)) ({ frames := 2, cells := 0, slots := 0, locals := 43 })).room s m ([.ref h0, .int x1] : List Value).toArray below meth c H locs (0) (0) (MQ below (va_Qi (fun (r : Int32) (u9 : va_W) => r = 0 ∨ r = 1) (gQ1 g [] [(8, 3)] none A ws) A) ([.ref h0, .int x1] : List Value).toArray s (0) (0) A) (F0 m 122 ls [.int t_42, .int v2_31]) := by
                  intro t_42 ws_44 H locs ls iv_43 E_45 Fr_46 hG hP hD hS hl
                  have hz_t_42 := iv_43
                  have aa_47 := a_r1_38
                  have aa_48 := a_r2_1
                  have aa_49 := a_r3_1
                  have aa_50 := a_r4_1
                  have aa_51 := a_r5_1
                  have aa_52 := a_r0_39
                  have aa_53 := a_r1_39
                  have aa_54 := a_r3_39
                  have aa_55 := a_r5_39
                  have aa_56 := a_r6_39
                  have aa_57 := a_r7_39
                  have aa_58 := a_r8_39
                  have o_h0 := E_45.1 _ _ o_h0
                  refine lv_ior hx hb dX9_reachFrom_122 ?_
                  refine lv_topi (fun z_59 ez_59 => ?_)
                  have hz_z_59 := bit_or ez_59 hz_v2_31 hz_t_42
                  refine lv_istore_n (lv' := [(2, .int z_59), (0, .ref h0), (1, .int x1), (4, .int v4_33)]) hx hb dX9_reachFrom_123 rfl hl (by decide) rfl (fun ls hl => ?_)
                  obtain ⟨z_60, ez_60⟩ : ∃ z : Int32, v4_33 + Int32.ofInt 1 = z := ⟨_, rfl⟩
                  refine lv_iinc (v := z_60) (lv' := [(4, .int z_60), (2, .int z_59), (0, .ref h0), (1, .int x1)]) hx hb dX9_reachFrom_124 hl (k := 3) rfl ez_60 (by decide) rfl (fun ls hl => ?_)
                  refine lv_goto (tgt := 74) hx hb dX9_reachFrom_127 (by decide) ?_
                  exact ih_74 _ (by obtain ⟨u_z_60, q_z_60⟩ := i_iz ez_60 (by decide) (by decide); have q_iv_34 := iv_34; have q_c_40 := i_nle c_40; have g_c9_39 := i_rg c9_39; have g_v4_33 := i_rg v4_33; have g_z_59 := i_rg z_59; have g_z_60 := i_rg z_60; have b_z_59 := i_bit hz_z_59; omega) (z_59) (z_60) ws_44 H locs ls rfl hz_z_59 (by obtain ⟨u_z_60, q_z_60⟩ := i_iz ez_60 (by decide) (by decide); have q_iv_34 := iv_34; have q_c_40 := i_nle c_40; have g_c9_39 := i_rg c9_39; have g_v4_33 := i_rg v4_33; have g_z_60 := i_rg z_60; omega) ((E_36.tr E_45)) ((gF.tr Fr_37 Fr_46)) hG hP hD hS (lv_sub hl [2, 3, 1, 0] rfl)
                have J_121 : ∀ (ws_61 : va_W) (H : Heap) (locs : List Loc) (ls : Array Slot), gE ws_35 ws_61 → gF [] [(8, 3)] none ws_35 ws_61 → Good g ws_61 → va_P (gD g) cl0 ws_61 H → va_D A ws_61 → va_S A s.heap H locs → lv_has ls 5 [(0, .ref h0), (1, .int x1), (4, .int v4_33)] → W p l e (headSpec (wt yX9_reachFrom cX9_reachFrom 5 (some .boolean)) ({ frames := 2, cells := 0, slots := 0, locals := 43 })).room s m ([.ref h0, .int x1] : List Value).toArray below meth c H locs (0) (0) (MQ below (va_Qi (fun (r : Int32) (u9 : va_W) => r = 0 ∨ r = 1) (gQ1 g [] [(8, 3)] none A ws) A) ([.ref h0, .int x1] : List Value).toArray s (0) (0) A) (F0 m 121 ls [.int v2_31]) := by
                  intro ws_61 H locs ls  E_62 Fr_63 hG hP hD hS hl
                  have aa_64 := a_r1_38
                  have aa_65 := a_r2_1
                  have aa_66 := a_r3_1
                  have aa_67 := a_r4_1
                  have aa_68 := a_r5_1
                  have aa_69 := a_r0_39
                  have aa_70 := a_r1_39
                  have aa_71 := a_r3_39
                  have aa_72 := a_r5_39
                  have aa_73 := a_r6_39
                  have aa_74 := a_r7_39
                  have aa_75 := a_r8_39
                  have o_h0 := E_62.1 _ _ o_h0
                  refine lv_iconst (v := 0) hx hb dX9_reachFrom_121 (by decide) ?_
                  exact J_122 (0) ws_61 H locs ls (Or.inl rfl) (E_62) (Fr_63) hG hP hD hS (lv_sub hl [0, 1, 2] rfl)
                refine lv_if_eq (tgt := 121) hx hb dX9_reachFrom_97 (by decide) (fun c_76 => ?_) (fun c_76 => ?_)
                · exact J_121 ws_35 H locs ls (gE.rf) (gF.rf) hG hP hD hS (lv_sub hl [0, 1, 3] rfl)
                · refine lv_aload_n hx hb dX9_reachFrom_100 rfl (lv_at hl 0 rfl) ?_
                  refine lv_aload_n hx hb dX9_reachFrom_101 rfl (lv_at hl 0 rfl) ?_
                  refine va_get (D := gD g) (ci := 8) (v := .ref r0_1) (C := RX9) (T := TX9) (N := 6) hx hb hts inX9 hown hK hP k_1 hk_38 rfl 0 (by decide) (hts _ kw_1552) (fun _ h9 => h9) rfl dX9_reachFrom_102 ?_
                  refine va_get (D := gD g) (ci := 7) (v := .ref r7_39) (C := RX8) (T := TX8) (N := 15) hx hb hts inX8 hown hK hP k_39 hk_39 rfl 7 (by decide) (hts _ kw_1573) (fun _ h9 => h9) rfl dX9_reachFrom_105 ?_
                  refine lv_iload hx hb dX9_reachFrom_108 (lv_at hl 3 rfl) ?_
                  obtain ⟨k_77, f_77, hk_77⟩ := gI_of a_r7_39
                  refine va_iald hx hb hK hP k_77 1 hk_77 rfl (i_in2 (by have q_iv_34 := iv_34; have q_f11_39 := f11_39; have q_f24_39 := f24_39; have q_c_40 := i_nle c_40; have q_f7_39 := f7_39; have q_f23_39 := f23_39; have q_f25_39 := f25_39; have q_f26_39 := f26_39; have q_f27_39 := f27_39; have q_f29_39 := f29_39; have g_c9_39 := i_rg c9_39; have g_v4_33 := i_rg v4_33; omega)) dX9_reachFrom_110 ?_
                  refine lv_topi (fun z_78 ez_78 => ?_)
                  have hFc := gfree hD hS hA
                  refine va_calli (va_runV (As := [.int z_78]) (rest := [.int v2_31]) ⟨hx, hb, hml, hown, hts⟩ (m_X9_isNewlyReached l g H.size ws_35 h0 (z_78) hG o_h0 (gP_of hD hk_38 (fun p90 q90 e90 g90 => by cases e90; have z90 := gI_n hD a_r2_1 g90; subst z90; exact (by have q_f4_1 := f4_1; have q_fq_a := fq_a; omega))) (gP_of hD hk_38 (fun p90 q90 e90 g90 => by cases e90; have z90 := gI_n hD a_r3_1 g90; subst z90; exact (by have q_f6_1 := f6_1; have q_fq_b := fq_b; omega))) (gP_of hD hk_38 (fun p90 q90 e90 g90 => by cases e90; have z90 := gI_n hD a_r4_1 g90; subst z90; exact (by have q_f8_1 := f8_1; have q_fq_d := fq_d; omega))) (gP_of hD hk_38 (fun p90 q90 e90 g90 => by cases e90; have z90 := gI_n hD a_r5_1 g90; subst z90; exact (by have q_f10_1 := f10_1; have q_fq_f := fq_f; omega)))) (cwV 1 hts (gd_V kw_1717 kw_1638 kw_1639 kw_404 kw_1637) rfl rfl rfl (by decide +kernel) ⟨Nat.le_of_ble_eq_true rfl, Nat.le_of_ble_eq_true rfl⟩) ⟨gblind, va_recv hK hP (ci := 8) (q0 := k_1) rfl hk_38, fun U hU hW9 => gmk hU hW9 hP hK hD hex hE hS hFc⟩ rfl rfl hl.1 rfl (lv_room (Nat.le_of_ble_eq_true rfl)) dX9_reachFrom_111 ⟨Nat.le_of_ble_eq_true rfl, Nat.le_of_ble_eq_true rfl⟩) hS (fun q _ h => hFc q h) hFc (fun r_79 ws_80 t9 H1 locs ht9 hvm9 hw9 hB9 hz9 hk9 hS => ?_)
                  obtain ⟨E_81, Fr_82, hG, hP1, hD1⟩ := hB9
                  have hP : va_P (gD g) cl0 ws_80 H1 := by rw [← ht9]; exact hP1
                  have hD : va_D A ws_80 := hD1.weaken (fun _ _ _ h => hFc _ h)
                  have hz_r_79 : r_79 = 0 ∨ r_79 = 1 := hw9
                  clear hP1 hD1 hz9 hk9 hvm9 ht9 hw9
                  generalize H1 = H at hP hS ⊢
                  have aa_85 := a_r1_38
                  have aa_86 := a_r2_1
                  have aa_87 := a_r3_1
                  have aa_88 := a_r4_1
                  have aa_89 := a_r5_1
                  have aa_90 := a_r0_39
                  have aa_91 := a_r1_39
                  have aa_92 := a_r3_39
                  have aa_93 := a_r5_39
                  have aa_94 := a_r6_39
                  have aa_95 := a_r7_39
                  have aa_96 := a_r8_39
                  have o_h0 := E_81.1 _ _ o_h0
                  refine lv_if_eq (tgt := 121) hx hb dX9_reachFrom_114 (by decide) (fun c_97 => ?_) (fun c_97 => ?_)
                  · exact J_121 ws_80 H locs ls (E_81) (Fr_82) hG hP hD hS (lv_sub hl [0, 1, 3] rfl)
                  · refine lv_iconst (v := 1) hx hb dX9_reachFrom_117 (by decide) ?_
                    refine lv_goto (tgt := 122) hx hb dX9_reachFrom_118 (by decide) ?_
                    exact J_122 (1) ws_80 H locs ls (Or.inr rfl) (E_81) (Fr_82) hG hP hD hS (lv_sub hl [0, 1, 3] rfl)
          exact J_74 _ (v2_18) (0) ws_22 H locs ls rfl hz_v2_18 (by have e0 : (0 : Int32).toInt = 0 := (by decide); omega) (gE.rf) (gF.rf) hG hP hD hS (lv_sub hl [1, 2, 3, 0] rfl)
        · refine lv_iload_n hx hb dX9_reachFrom_48 rfl (lv_at hl 2 rfl) ?_
          refine lv_aload_n hx hb dX9_reachFrom_49 rfl (lv_at hl 0 rfl) ?_
          refine lv_aload_n hx hb dX9_reachFrom_50 rfl (lv_at hl 0 rfl) ?_
          obtain ⟨fs9, hk_98, hq_98⟩ := ((gF.a (F' := []) Fr_24 (fun _ h => h))) _ _ _ hk_15
          obtain ⟨r0_98, r1_98, n1_98, r2_98, n2_98, r3_98, n3_98, r4_98, n4_98, r5_98, n5_98, rfl, o_r0_98, a_r1_98, f2_98, a_r2_98, f4_98, a_r3_98, f6_98, a_r4_98, f8_98, a_r5_98, f10_98, f11_98, -⟩ := (hG.1 _ _ _ _ hk_98).hX9 rfl
          obtain rfl := fe_r (hq_98 0 (by decide))
          have o_r0_1 := o_r0_98
          obtain rfl := fe_r (hq_98 2 (by decide))
          have hn9 := gI_n hD ((E_23).1 _ _ aa_26) a_r2_98
          subst hn9
          have a_r2_1 := a_r2_98
          obtain rfl := fe_r (hq_98 3 (by decide))
          have hn9 := gI_n hD ((E_23).1 _ _ aa_27) a_r3_98
          subst hn9
          have a_r3_1 := a_r3_98
          obtain rfl := fe_r (hq_98 4 (by decide))
          have hn9 := gI_n hD ((E_23).1 _ _ aa_28) a_r4_98
          subst hn9
          have a_r4_1 := a_r4_98
          obtain rfl := fe_r (hq_98 5 (by decide))
          have hn9 := gI_n hD ((E_23).1 _ _ aa_29) a_r5_98
          subst hn9
          have a_r5_1 := a_r5_98
          refine va_get (D := gD g) (ci := 8) (v := .ref r0_1) (C := RX9) (T := TX9) (N := 6) hx hb hts inX9 hown hK hP k_1 hk_98 rfl 0 (by decide) (hts _ kw_1552) (fun _ h9 => h9) rfl dX9_reachFrom_51 ?_
          refine lv_iload_n hx hb dX9_reachFrom_54 rfl (lv_at hl 1 rfl) ?_
          refine lv_iload hx hb dX9_reachFrom_55 (lv_at hl 4 rfl) ?_
          have hFc := gfree hD hS hA
          obtain ⟨k_99, fs_99, hk_99⟩ := gC_of o_r0_1
          refine va_calli (va_runV (As := [.int x1, .int v4_20]) (rest := [.ref h0, .int v2_18]) ⟨hx, hb, hml, hown, hts⟩ (m_X8_targetAt l g H.size ws_22 r0_1 (x1) (v4_20) hG o_r0_1) (cwV 2 hts (gd_V kw_1568 kw_1537 kw_1538 kw_782 kw_1536) rfl rfl rfl (by decide +kernel) ⟨Nat.le_of_ble_eq_true rfl, Nat.le_of_ble_eq_true rfl⟩) ⟨gblind, va_recv hK hP (ci := 7) (q0 := k_99) rfl hk_99, fun U hU hW9 => gmk hU hW9 hP hK hD hex hE hS hFc⟩ rfl rfl hl.1 rfl (lv_room (Nat.le_of_ble_eq_true rfl)) dX9_reachFrom_57 ⟨Nat.le_of_ble_eq_true rfl, Nat.le_of_ble_eq_true rfl⟩) hS (fun q _ h => hFc q h) hFc (fun r_100 u9 t9 H1 locs ht9 hvm9 hw9 hB9 hz9 hk9 hS => ?_)
          have hP : va_P (gD g) cl0 ws_22 H1 := by rw [← ht9]; exact hB9.1
          clear hB9 hz9 hk9 hvm9 ht9 hw9
          generalize H1 = H at hP hS ⊢
          have hFc := gfree hD hS hA
          refine va_calli (va_runV (As := [.int r_100]) (rest := [.int v2_18]) ⟨hx, hb, hml, hown, hts⟩ (m_X9_isNewlyReached l g H.size ws_22 h0 (r_100) hG o_h0 (gP_of hD hk_98 (fun p90 q90 e90 g90 => by cases e90; have z90 := gI_n hD a_r2_1 g90; subst z90; exact (by have q_f4_1 := f4_1; have q_fq_a := fq_a; omega))) (gP_of hD hk_98 (fun p90 q90 e90 g90 => by cases e90; have z90 := gI_n hD a_r3_1 g90; subst z90; exact (by have q_f6_1 := f6_1; have q_fq_b := fq_b; omega))) (gP_of hD hk_98 (fun p90 q90 e90 g90 => by cases e90; have z90 := gI_n hD a_r4_1 g90; subst z90; exact (by have q_f8_1 := f8_1; have q_fq_d := fq_d; omega))) (gP_of hD hk_98 (fun p90 q90 e90 g90 => by cases e90; have z90 := gI_n hD a_r5_1 g90; subst z90; exact (by have q_f10_1 := f10_1; have q_fq_f := fq_f; omega)))) (cwV 1 hts (gd_V kw_1717 kw_1638 kw_1639 kw_404 kw_1637) rfl rfl rfl (by decide +kernel) ⟨Nat.le_of_ble_eq_true rfl, Nat.le_of_ble_eq_true rfl⟩) ⟨gblind, va_recv hK hP (ci := 8) (q0 := k_1) rfl hk_98, fun U hU hW9 => gmk hU hW9 hP hK hD hex hE hS hFc⟩ rfl rfl hl.1 rfl (lv_room (Nat.le_of_ble_eq_true rfl)) dX9_reachFrom_60 ⟨Nat.le_of_ble_eq_true rfl, Nat.le_of_ble_eq_true rfl⟩) hS (fun q _ h => hFc q h) hFc (fun r_101 ws_102 t9 H1 locs ht9 hvm9 hw9 hB9 hz9 hk9 hS => ?_)
          obtain ⟨E_103, Fr_104, hG, hP1, hD1⟩ := hB9
          have hP : va_P (gD g) cl0 ws_102 H1 := by rw [← ht9]; exact hP1
          have hD : va_D A ws_102 := hD1.weaken (fun _ _ _ h => hFc _ h)
          have hz_r_101 : r_101 = 0 ∨ r_101 = 1 := hw9
          clear hP1 hD1 hz9 hk9 hvm9 ht9 hw9
          generalize H1 = H at hP hS ⊢
          have aa_107 := a_r1_98
          have aa_108 := a_r2_1
          have aa_109 := a_r3_1
          have aa_110 := a_r4_1
          have aa_111 := a_r5_1
          have o_h0 := E_103.1 _ _ o_h0
          refine lv_ior hx hb dX9_reachFrom_63 ?_
          refine lv_topi (fun z_112 ez_112 => ?_)
          have hz_z_112 := bit_or ez_112 hz_v2_18 hz_r_101
          refine lv_istore_n (lv' := [(2, .int z_112), (0, .ref h0), (1, .int x1), (3, .int r_17), (4, .int v4_20)]) hx hb dX9_reachFrom_64 rfl hl (by decide) rfl (fun ls hl => ?_)
          obtain ⟨z_113, ez_113⟩ : ∃ z : Int32, v4_20 + Int32.ofInt 1 = z := ⟨_, rfl⟩
          refine lv_iinc (v := z_113) (lv' := [(4, .int z_113), (2, .int z_112), (0, .ref h0), (1, .int x1), (3, .int r_17)]) hx hb dX9_reachFrom_65 hl (k := 4) rfl ez_113 (by decide) rfl (fun ls hl => ?_)
          refine lv_goto (tgt := 42) hx hb dX9_reachFrom_68 (by decide) ?_
          exact ih_42 _ (by obtain ⟨u_z_113, q_z_113⟩ := i_iz ez_113 (by decide) (by decide); have q_iv_21 := iv_21; have q_c_30 := i_nle c_30; have g_r_17 := i_rg r_17; have g_v4_20 := i_rg v4_20; have g_z_112 := i_rg z_112; have g_z_113 := i_rg z_113; have b_z_112 := i_bit hz_z_112; omega) (z_112) (z_113) ws_102 H locs ls rfl hz_z_112 (by obtain ⟨u_z_113, q_z_113⟩ := i_iz ez_113 (by decide) (by decide); have q_iv_21 := iv_21; have q_c_30 := i_nle c_30; have g_r_17 := i_rg r_17; have g_v4_20 := i_rg v4_20; have g_z_113 := i_rg z_113; omega) ((E_23.tr E_103)) ((gF.tr Fr_24 Fr_104)) hG hP hD hS (lv_sub hl [2, 3, 1, 4, 0] rfl)
    exact J_42 _ (t_5) (0) ws_7 H locs ls rfl hz_t_5 (by have e0 : (0 : Int32).toInt = 0 := (by decide); omega) (gE.rf) (gF.rf) hG hP hD hS (lv_sub hl [3, 4, 2, 1, 0] rfl)
  have J_28 : ∀ (ws_114 : va_W) (H : Heap) (locs : List Loc) (ls : Array Slot), gE ws ws_114 → gF [] [(8, 3)] none ws ws_114 → Good g ws_114 → va_P (gD g) cl0 ws_114 H → va_D A ws_114 → va_S A s.heap H locs → lv_has ls 5 [(0, .ref h0), (1, .int x1)] → W p l e (headSpec (wt yX9_reachFrom cX9_reachFrom 5 (some .boolean)) ({ frames := 2, cells := 0, slots := 0, locals := 43 })).room s m ([.ref h0, .int x1] : List Value).toArray below meth c H locs (0) (0) (MQ below (va_Qi (fun (r : Int32) (u9 : va_W) => r = 0 ∨ r = 1) (gQ1 g [] [(8, 3)] none A ws) A) ([.ref h0, .int x1] : List Value).toArray s (0) (0) A) (F0 m 28 ls []) := by
    intro ws_114 H locs ls  E_115 Fr_116 hG hP hD hS hl
    have aa_117 := a_r1_1
    have aa_118 := a_r2_1
    have aa_119 := a_r3_1
    have aa_120 := a_r4_1
    have aa_121 := a_r5_1
    have o_h0 := E_115.1 _ _ o_h0
    refine lv_iconst (v := 0) hx hb dX9_reachFrom_28 (by decide) ?_
    exact J_29 (0) ws_114 H locs ls (Or.inl rfl) (E_115) (Fr_116) hG hP hD hS (lv_sub hl [0, 1] rfl)
  refine lv_if_eq (tgt := 28) hx hb dX9_reachFrom_11 (by decide) (fun c_122 => ?_) (fun c_122 => ?_)
  · exact J_28 ws H locs ls (gE.rf) (gF.rf) hG hP hD hS (lv_sub hl [0, 1] rfl)
  · refine lv_aload_n hx hb dX9_reachFrom_14 rfl (lv_at hl 0 rfl) ?_
    refine lv_iload_n hx hb dX9_reachFrom_15 rfl (lv_at hl 1 rfl) ?_
    refine lv_iconst (v := 1) hx hb dX9_reachFrom_16 (by decide) ?_
    refine lv_iadd hx hb dX9_reachFrom_17 ?_
    refine lv_topi (fun z_123 ez_123 => ?_)
    have hFc := gfree hD hS hA
    refine va_calli (va_runV (As := [.int z_123]) (rest := []) ⟨hx, hb, hml, hown, hts⟩ (m_X9_isNewlyReached l g H.size ws h0 (z_123) hG o_h0 (gP_of hD hk_1 (fun p90 q90 e90 g90 => by cases e90; have z90 := gI_n hD a_r2_1 g90; subst z90; exact (by have q_f4_1 := f4_1; have q_fq_a := fq_a; omega))) (gP_of hD hk_1 (fun p90 q90 e90 g90 => by cases e90; have z90 := gI_n hD a_r3_1 g90; subst z90; exact (by have q_f6_1 := f6_1; have q_fq_b := fq_b; omega))) (gP_of hD hk_1 (fun p90 q90 e90 g90 => by cases e90; have z90 := gI_n hD a_r4_1 g90; subst z90; exact (by have q_f8_1 := f8_1; have q_fq_d := fq_d; omega))) (gP_of hD hk_1 (fun p90 q90 e90 g90 => by cases e90; have z90 := gI_n hD a_r5_1 g90; subst z90; exact (by have q_f10_1 := f10_1; have q_fq_f := fq_f; omega)))) (cwV 1 hts (gd_V kw_1717 kw_1638 kw_1639 kw_404 kw_1637) rfl rfl rfl (by decide +kernel) ⟨Nat.le_of_ble_eq_true rfl, Nat.le_of_ble_eq_true rfl⟩) ⟨gblind, va_recv hK hP (ci := 8) (q0 := k_1) rfl hk_1, fun U hU hW9 => gmk hU hW9 hP hK hD hex hE hS hFc⟩ rfl rfl hl.1 rfl (lv_room (Nat.le_of_ble_eq_true rfl)) dX9_reachFrom_18 ⟨Nat.le_of_ble_eq_true rfl, Nat.le_of_ble_eq_true rfl⟩) hS (fun q _ h => hFc q h) hFc (fun r_124 ws_125 t9 H1 locs ht9 hvm9 hw9 hB9 hz9 hk9 hS => ?_)
    obtain ⟨E_126, Fr_127, hG, hP1, hD1⟩ := hB9
    have hP : va_P (gD g) cl0 ws_125 H1 := by rw [← ht9]; exact hP1
    have hD : va_D A ws_125 := hD1.weaken (fun _ _ _ h => hFc _ h)
    have hz_r_124 : r_124 = 0 ∨ r_124 = 1 := hw9
    clear hP1 hD1 hz9 hk9 hvm9 ht9 hw9
    generalize H1 = H at hP hS ⊢
    have aa_130 := a_r1_1
    have aa_131 := a_r2_1
    have aa_132 := a_r3_1
    have aa_133 := a_r4_1
    have aa_134 := a_r5_1
    have o_h0 := E_126.1 _ _ o_h0
    refine lv_if_eq (tgt := 28) hx hb dX9_reachFrom_21 (by decide) (fun c_135 => ?_) (fun c_135 => ?_)
    · exact J_28 ws_125 H locs ls (E_126) (Fr_127) hG hP hD hS (lv_sub hl [0, 1] rfl)
    · refine lv_iconst (v := 1) hx hb dX9_reachFrom_24 (by decide) ?_
      refine lv_goto (tgt := 29) hx hb dX9_reachFrom_25 (by decide) ?_
      exact J_29 (1) ws_125 H locs ls (Or.inr rfl) (E_126) (Fr_127) hG hP hD hS (lv_sub hl [0, 1] rfl)
set_option maxHeartbeats 1000000 in
set_option maxRecDepth 100000 in
theorem m_X9_findMarked (l : Launch) (g : Gm) (sz : Nat) (ws : va_W) (h0 : Nat) (hG : Good g ws) (o_h0 : gC ws h0 8) (fp_a : gP ws h0 (fun fs => ∀ (rn n : Nat), fs[2]? = some (.ref rn) → gI ws rn g.cZ n → 1297 ≤ n)) (fp_b : gP ws h0 (fun fs => ∀ (rn n : Nat), fs[3]? = some (.ref rn) → gI ws rn g.cZ n → 1297 ≤ n)) (fp_d : gP ws h0 (fun fs => ∀ (rn n : Nat), fs[4]? = some (.ref rn) → gI ws rn g.cI n → 1297 ≤ n)) (fp_f : gP ws h0 (fun fs => ∀ (rn n : Nat), fs[5]? = some (.ref rn) → gI ws rn g.cI n → 1297 ≤ n)) : Met l yX9_findMarked (wt yX9_findMarked cX9_findMarked 4 none) ({ frames := 2, cells := 0, slots := 0, locals := 43 }) (va_Pc [.ref h0] (st_G g sz ws)) (va_Qv (fun (u9 : va_W) => True) (gQ1 g [] [(8, 2)] none (va_A ws sz) ws) (va_A ws sz)) (0) (0) (va_A ws sz) := by
  refine Met.ofW (cc := cX9_findMarked) (maxL := 4) (ret := none) (by decide) rfl ?_
  intro p e s m args below meth c s₁ B hml hv
  obtain ⟨rfl, hsz, hP, hK, hD0, hex, hE⟩ := hv
  have hx := B.exec
  have hb := B.bytes
  have hr := B.returns
  have hts0 := atoms_spec (ws := wt yX9_findMarked cX9_findMarked 4 none) B.pre
  have hts : ∀ w ∈ tb, w.before _ s = true := fun w h => hts0 w (List.mem_cons_of_mem _ h)
  have hown : s.vm.findClass RX9 = some m.cls := findClass_of_methodNamed B.named
  subst hsz
  have hD := hD0.self (sz := s.heap.size)
  generalize hAe : va_A ws s.heap.size = A at hD hE ⊢
  have hA : ∀ q : Nat, s.heap.size ≤ q → A q := fun q h => by rw [← hAe]; exact Or.inr h
  have hS : va_S A s.heap s.heap [] := va_S.rf
  have hl := lv_entry ([.ref h0]) (n := 4) (Nat.le_of_ble_eq_true rfl)
  rw [lg_entry_eq]
  generalize (lg_sl ([.ref h0]) ++ List.replicate (4 - (lg_sl ([.ref h0])).length) Slot.unset).toArray = ls at hl ⊢
  have hl : lv_has ls 4 [(0, .ref h0)] := hl
  obtain ⟨k_1, fs9, hk_1⟩ := gC_of o_h0
  obtain ⟨r0_1, r1_1, n1_1, r2_1, n2_1, r3_1, n3_1, r4_1, n4_1, r5_1, n5_1, rfl, o_r0_1, a_r1_1, f2_1, a_r2_1, f4_1, a_r3_1, f6_1, a_r4_1, f8_1, a_r5_1, f10_1, f11_1, -⟩ := (hG.1 _ _ _ _ hk_1).hX9 rfl
  have fq_a := fp_a _ _ _ hk_1 _ _ rfl a_r2_1
  have fq_b := fp_b _ _ _ hk_1 _ _ rfl a_r3_1
  have fq_d := fp_d _ _ _ hk_1 _ _ rfl a_r4_1
  have fq_f := fp_f _ _ _ hk_1 _ _ rfl a_r5_1
  refine lv_iconst (v := 0) hx hb dX9_findMarked_0 (by decide) ?_
  refine lv_istore_n (lv' := [(1, .int 0), (0, .ref h0)]) hx hb dX9_findMarked_1 rfl hl (by decide) rfl (fun ls hl => ?_)
  have J_2 : ∀ (n9 : Nat) (v1_2 : Int32) (ws_4 : va_W) (H : Heap) (locs : List Loc) (ls : Array Slot), (2147483647 - v1_2.toInt).toNat = n9 → 0 ≤ v1_2.toInt → gE ws ws_4 → gF [] [(8, 2)] none ws ws_4 → Good g ws_4 → va_P (gD g) cl0 ws_4 H → va_D A ws_4 → va_S A s.heap H locs → lv_has ls 4 [(0, .ref h0), (1, .int v1_2)] → W p l e (headSpec (wt yX9_findMarked cX9_findMarked 4 none) ({ frames := 2, cells := 0, slots := 0, locals := 43 })).room s m ([.ref h0] : List Value).toArray below meth c H locs (0) (0) (MQ below (va_Qv (fun (u9 : va_W) => True) (gQ1 g [] [(8, 2)] none A ws) A) ([.ref h0] : List Value).toArray s (0) (0) A) (F0 m 2 ls []) := by
    intro n9
    induction n9 using Nat.strongRecOn with
    | ind n9 ih_2 =>
      intro v1_2 ws_4 H locs ls hm9 iv_3 E_5 Fr_6 hG hP hD hS hl
      subst hm9
      have aa_7 := a_r1_1
      have aa_8 := a_r2_1
      have aa_9 := a_r3_1
      have aa_10 := a_r4_1
      have aa_11 := a_r5_1
      have o_h0 := E_5.1 _ _ o_h0
      refine lv_iload_n hx hb dX9_findMarked_2 rfl (lv_at hl 1 rfl) ?_
      refine lv_aload_n hx hb dX9_findMarked_3 rfl (lv_at hl 0 rfl) ?_
      obtain ⟨fs9, hk_12, hq_12⟩ := ((gF.a (F' := []) Fr_6 (fun _ h => h))) _ _ _ hk_1
      obtain ⟨r0_12, r1_12, n1_12, r2_12, n2_12, r3_12, n3_12, r4_12, n4_12, r5_12, n5_12, rfl, o_r0_12, a_r1_12, f2_12, a_r2_12, f4_12, a_r3_12, f6_12, a_r4_12, f8_12, a_r5_12, f10_12, f11_12, -⟩ := (hG.1 _ _ _ _ hk_12).hX9 rfl
      obtain rfl := fe_r (hq_12 0 (by decide))
      have o_r0_1 := o_r0_12
      obtain rfl := fe_r (hq_12 2 (by decide))
      have hn9 := gI_n hD ((E_5).1 _ _ aa_8) a_r2_12
      subst hn9
      have a_r2_1 := a_r2_12
      obtain rfl := fe_r (hq_12 3 (by decide))
      have hn9 := gI_n hD ((E_5).1 _ _ aa_9) a_r3_12
      subst hn9
      have a_r3_1 := a_r3_12
      obtain rfl := fe_r (hq_12 4 (by decide))
      have hn9 := gI_n hD ((E_5).1 _ _ aa_10) a_r4_12
      subst hn9
      have a_r4_1 := a_r4_12
      obtain rfl := fe_r (hq_12 5 (by decide))
      have hn9 := gI_n hD ((E_5).1 _ _ aa_11) a_r5_12
      subst hn9
      have a_r5_1 := a_r5_12
      refine va_get (D := gD g) (ci := 8) (v := .ref r2_1) (C := RX9) (T := TX9) (N := 6) hx hb hts inX9 hown hK hP k_1 hk_12 rfl 2 (by decide) (hts _ kw_1566) (fun _ h9 => h9) rfl dX9_findMarked_4 ?_
      obtain ⟨k_13, f_13, hk_13⟩ := gI_of a_r2_1
      obtain ⟨z_14, ez_14⟩ : ∃ z : Int32, Int32.ofNat n2_1 = z := ⟨_, rfl⟩
      refine va_alen (v := z_14) hx hb hK hP k_13 2 hk_13 rfl ez_14 dX9_findMarked_7 ?_
      refine lv_icmp_ge (tgt := 24) hx hb dX9_findMarked_8 (by decide) (fun c_15 => ?_) (fun c_15 => ?_)
      · refine lv_iconst (v := 0) hx hb dX9_findMarked_24 (by decide) ?_
        refine lv_istore_n (lv' := [(1, .int 0), (0, .ref h0)]) hx hb dX9_findMarked_25 rfl hl (by decide) rfl (fun ls hl => ?_)
        have J_26 : ∀ (n9 : Nat) (v1_16 : Int32) (ws_18 : va_W) (H : Heap) (locs : List Loc) (ls : Array Slot), (2147483647 - v1_16.toInt).toNat = n9 → 0 ≤ v1_16.toInt → gE ws_4 ws_18 → gF [] [(8, 2)] none ws_4 ws_18 → Good g ws_18 → va_P (gD g) cl0 ws_18 H → va_D A ws_18 → va_S A s.heap H locs → lv_has ls 4 [(0, .ref h0), (1, .int v1_16)] → W p l e (headSpec (wt yX9_findMarked cX9_findMarked 4 none) ({ frames := 2, cells := 0, slots := 0, locals := 43 })).room s m ([.ref h0] : List Value).toArray below meth c H locs (0) (0) (MQ below (va_Qv (fun (u9 : va_W) => True) (gQ1 g [] [(8, 2)] none A ws) A) ([.ref h0] : List Value).toArray s (0) (0) A) (F0 m 26 ls []) := by
          intro n9
          induction n9 using Nat.strongRecOn with
          | ind n9 ih_26 =>
            intro v1_16 ws_18 H locs ls hm9 iv_17 E_19 Fr_20 hG hP hD hS hl
            subst hm9
            have aa_21 := a_r1_12
            have aa_22 := a_r2_1
            have aa_23 := a_r3_1
            have aa_24 := a_r4_1
            have aa_25 := a_r5_1
            have o_h0 := E_19.1 _ _ o_h0
            refine lv_iload_n hx hb dX9_findMarked_26 rfl (lv_at hl 1 rfl) ?_
            refine lv_aload_n hx hb dX9_findMarked_27 rfl (lv_at hl 0 rfl) ?_
            obtain ⟨fs9, hk_26, hq_26⟩ := ((gF.a (F' := []) Fr_20 (fun _ h => h))) _ _ _ hk_12
            obtain ⟨r0_26, r1_26, n1_26, r2_26, n2_26, r3_26, n3_26, r4_26, n4_26, r5_26, n5_26, rfl, o_r0_26, a_r1_26, f2_26, a_r2_26, f4_26, a_r3_26, f6_26, a_r4_26, f8_26, a_r5_26, f10_26, f11_26, -⟩ := (hG.1 _ _ _ _ hk_26).hX9 rfl
            obtain rfl := fe_r (hq_26 0 (by decide))
            have o_r0_1 := o_r0_26
            obtain rfl := fe_r (hq_26 2 (by decide))
            have hn9 := gI_n hD ((E_19).1 _ _ aa_22) a_r2_26
            subst hn9
            have a_r2_1 := a_r2_26
            obtain rfl := fe_r (hq_26 3 (by decide))
            have hn9 := gI_n hD ((E_19).1 _ _ aa_23) a_r3_26
            subst hn9
            have a_r3_1 := a_r3_26
            obtain rfl := fe_r (hq_26 4 (by decide))
            have hn9 := gI_n hD ((E_19).1 _ _ aa_24) a_r4_26
            subst hn9
            have a_r4_1 := a_r4_26
            obtain rfl := fe_r (hq_26 5 (by decide))
            have hn9 := gI_n hD ((E_19).1 _ _ aa_25) a_r5_26
            subst hn9
            have a_r5_1 := a_r5_26
            refine va_get (D := gD g) (ci := 8) (v := .ref r0_1) (C := RX9) (T := TX9) (N := 6) hx hb hts inX9 hown hK hP k_1 hk_26 rfl 0 (by decide) (hts _ kw_1552) (fun _ h9 => h9) rfl dX9_findMarked_28 ?_
            obtain ⟨k_27, fs9, hk_27⟩ := gC_of o_r0_1
            obtain ⟨r0_27, n0_27, r1_27, n1_27, c2_27, r3_27, n3_27, c4_27, r5_27, n5_27, r6_27, n6_27, r7_27, n7_27, r8_27, n8_27, c9_27, c10_27, c11_27, v12_27, v13_27, v14_27, rfl, a_r0_27, f1_27, a_r1_27, f3_27, a_r3_27, f5_27, a_r5_27, f7_27, a_r6_27, f9_27, a_r7_27, f11_27, a_r8_27, f13_27, o_v12_27, o_v13_27, o_v14_27, f17_27, f18_27, f19_27, f20_27, f21_27, f22_27, f23_27, f24_27, f25_27, f26_27, f27_27, f28_27, f29_27, -⟩ := (hG.1 _ _ _ _ hk_27).hX8 rfl
            refine va_get (D := gD g) (ci := 7) (v := .int c2_27) (C := RX8) (T := TX8) (N := 15) hx hb hts inX8 hown hK hP k_27 hk_27 rfl 2 (by decide) (hts _ kw_1553) (fun _ h9 => h9) rfl dX9_findMarked_31 ?_
            refine lv_icmp_ge (tgt := 78) hx hb dX9_findMarked_34 (by decide) (fun c_28 => ?_) (fun c_28 => ?_)
            · refine lv_iconst (v := 0) hx hb dX9_findMarked_78 (by decide) ?_
              refine lv_istore_n (lv' := [(1, .int 0), (0, .ref h0)]) hx hb dX9_findMarked_79 rfl hl (by decide) rfl (fun ls hl => ?_)
              have J_80 : ∀ (n9 : Nat) (v1_29 : Int32) (ws_31 : va_W) (H : Heap) (locs : List Loc) (ls : Array Slot), (2147483647 - v1_29.toInt).toNat = n9 → 0 ≤ v1_29.toInt → gE ws_18 ws_31 → gF [] [(8, 2)] none ws_18 ws_31 → Good g ws_31 → va_P (gD g) cl0 ws_31 H → va_D A ws_31 → va_S A s.heap H locs → lv_has ls 4 [(0, .ref h0), (1, .int v1_29)] → W p l e (headSpec (wt yX9_findMarked cX9_findMarked 4 none) ({ frames := 2, cells := 0, slots := 0, locals := 43 })).room s m ([.ref h0] : List Value).toArray below meth c H locs (0) (0) (MQ below (va_Qv (fun (u9 : va_W) => True) (gQ1 g [] [(8, 2)] none A ws) A) ([.ref h0] : List Value).toArray s (0) (0) A) (F0 m 80 ls []) := by
                intro n9
                induction n9 using Nat.strongRecOn with
                | ind n9 ih_80 =>
                  intro v1_29 ws_31 H locs ls hm9 iv_30 E_32 Fr_33 hG hP hD hS hl
                  subst hm9
                  have aa_34 := a_r1_26
                  have aa_35 := a_r2_1
                  have aa_36 := a_r3_1
                  have aa_37 := a_r4_1
                  have aa_38 := a_r5_1
                  have aa_39 := a_r0_27
                  have aa_40 := a_r1_27
                  have aa_41 := a_r3_27
                  have aa_42 := a_r5_27
                  have aa_43 := a_r6_27
                  have aa_44 := a_r7_27
                  have aa_45 := a_r8_27
                  have o_h0 := E_32.1 _ _ o_h0
                  refine lv_iload_n hx hb dX9_findMarked_80 rfl (lv_at hl 1 rfl) ?_
                  refine lv_aload_n hx hb dX9_findMarked_81 rfl (lv_at hl 0 rfl) ?_
                  obtain ⟨fs9, hk_46, hq_46⟩ := ((gF.a (F' := []) Fr_33 (fun _ h => h))) _ _ _ hk_26
                  obtain ⟨r0_46, r1_46, n1_46, r2_46, n2_46, r3_46, n3_46, r4_46, n4_46, r5_46, n5_46, rfl, o_r0_46, a_r1_46, f2_46, a_r2_46, f4_46, a_r3_46, f6_46, a_r4_46, f8_46, a_r5_46, f10_46, f11_46, -⟩ := (hG.1 _ _ _ _ hk_46).hX9 rfl
                  obtain rfl := fe_r (hq_46 0 (by decide))
                  have o_r0_1 := o_r0_46
                  obtain rfl := fe_r (hq_46 2 (by decide))
                  have hn9 := gI_n hD ((E_32).1 _ _ aa_35) a_r2_46
                  subst hn9
                  have a_r2_1 := a_r2_46
                  obtain rfl := fe_r (hq_46 3 (by decide))
                  have hn9 := gI_n hD ((E_32).1 _ _ aa_36) a_r3_46
                  subst hn9
                  have a_r3_1 := a_r3_46
                  obtain rfl := fe_r (hq_46 4 (by decide))
                  have hn9 := gI_n hD ((E_32).1 _ _ aa_37) a_r4_46
                  subst hn9
                  have a_r4_1 := a_r4_46
                  obtain rfl := fe_r (hq_46 5 (by decide))
                  have hn9 := gI_n hD ((E_32).1 _ _ aa_38) a_r5_46
                  subst hn9
                  have a_r5_1 := a_r5_46
                  refine va_get (D := gD g) (ci := 8) (v := .ref r0_1) (C := RX9) (T := TX9) (N := 6) hx hb hts inX9 hown hK hP k_1 hk_46 rfl 0 (by decide) (hts _ kw_1552) (fun _ h9 => h9) rfl dX9_findMarked_82 ?_
                  obtain ⟨fs9, hk_47, hq_47⟩ := ((gF.a (F' := []) Fr_33 (fun _ h => h))) _ _ _ hk_27
                  obtain ⟨r0_47, n0_47, r1_47, n1_47, c2_47, r3_47, n3_47, c4_47, r5_47, n5_47, r6_47, n6_47, r7_47, n7_47, r8_47, n8_47, c9_47, c10_47, c11_47, v12_47, v13_47, v14_47, rfl, a_r0_47, f1_47, a_r1_47, f3_47, a_r3_47, f5_47, a_r5_47, f7_47, a_r6_47, f9_47, a_r7_47, f11_47, a_r8_47, f13_47, o_v12_47, o_v13_47, o_v14_47, f17_47, f18_47, f19_47, f20_47, f21_47, f22_47, f23_47, f24_47, f25_47, f26_47, f27_47, f28_47, f29_47, -⟩ := (hG.1 _ _ _ _ hk_47).hX8 rfl
                  obtain rfl := fe_i (hq_47 2 (by decide))
                  obtain rfl := fe_r (hq_47 5 (by decide))
                  have hn9 := gI_n hD ((E_32).1 _ _ aa_42) a_r5_47
                  subst hn9
                  have a_r5_27 := a_r5_47
                  obtain rfl := fe_r (hq_47 6 (by decide))
                  have hn9 := gI_n hD ((E_32).1 _ _ aa_43) a_r6_47
                  subst hn9
                  have a_r6_27 := a_r6_47
                  obtain rfl := fe_r (hq_47 7 (by decide))
                  have hn9 := gI_n hD ((E_32).1 _ _ aa_44) a_r7_47
                  subst hn9
                  have a_r7_27 := a_r7_47
                  obtain rfl := fe_i (hq_47 9 (by decide))
                  refine va_get (D := gD g) (ci := 7) (v := .int c9_27) (C := RX8) (T := TX8) (N := 15) hx hb hts inX8 hown hK hP k_27 hk_47 rfl 9 (by decide) (hts _ kw_1570) (fun _ h9 => h9) rfl dX9_findMarked_85 ?_
                  refine lv_icmp_ge (tgt := 136) hx hb dX9_findMarked_88 (by decide) (fun c_48 => ?_) (fun c_48 => ?_)
                  · refine W.widen (k := 0) (n := 0) (Nat.le_of_ble_eq_true rfl) (Nat.le_of_ble_eq_true rfl) ?_
                    exact W.vret hx hb hr (fun t9 ht9 hW9 => ⟨⟨ws_31, rfl, trivial, ⟨(E_5.tr (E_19.tr E_32)), (gF.tr Fr_6 (gF.tr Fr_20 Fr_33)), hG, by rw [ht9]; exact hP, hD⟩⟩, hS.F ht9⟩) hS.2.2 dX9_findMarked_136
                  · refine lv_aload_n hx hb dX9_findMarked_91 rfl (lv_at hl 0 rfl) ?_
                    refine lv_aload_n hx hb dX9_findMarked_92 rfl (lv_at hl 0 rfl) ?_
                    refine va_get (D := gD g) (ci := 8) (v := .ref r0_1) (C := RX9) (T := TX9) (N := 6) hx hb hts inX9 hown hK hP k_1 hk_46 rfl 0 (by decide) (hts _ kw_1552) (fun _ h9 => h9) rfl dX9_findMarked_93 ?_
                    refine va_get (D := gD g) (ci := 7) (v := .ref r5_27) (C := RX8) (T := TX8) (N := 15) hx hb hts inX8 hown hK hP k_27 hk_47 rfl 5 (by decide) (hts _ kw_1571) (fun _ h9 => h9) rfl dX9_findMarked_96 ?_
                    refine lv_iload_n hx hb dX9_findMarked_99 rfl (lv_at hl 1 rfl) ?_
                    obtain ⟨k_49, f_49, hk_49⟩ := gI_of a_r5_27
                    refine va_iald hx hb hK hP k_49 1 hk_49 rfl (i_in2 (by have q_f7_27 := f7_27; have q_f23_27 := f23_27; have q_f24_27 := f24_27; have q_f25_27 := f25_27; have q_f27_27 := f27_27; have q_f29_27 := f29_27; have q_iv_30 := iv_30; have q_f25_47 := f25_47; have q_c_48 := i_nle c_48; have q_f9_27 := f9_27; have q_f11_27 := f11_27; have q_f13_27 := f13_27; have q_f26_27 := f26_27; have q_f13_47 := f13_47; have g_c9_27 := i_rg c9_27; have g_v1_29 := i_rg v1_29; omega)) dX9_findMarked_100 ?_
                    refine lv_topi (fun z_50 ez_50 => ?_)
                    have hFc := gfree hD hS hA
                    refine va_callv (va_runV (As := [.int z_50]) (rest := []) ⟨hx, hb, hml, hown, hts⟩ (m_X9_mark l g H.size ws_31 h0 (z_50) hG o_h0 (gP_of hD hk_46 (fun p90 q90 e90 g90 => by cases e90; have z90 := gI_n hD a_r2_1 g90; subst z90; exact (by have q_f4_1 := f4_1; have q_fq_a := fq_a; have q_z_14 := i_len ez_14 f4_12; have q_c_15 := i_le c_15; have g_v1_2 := i_rg v1_2; have g_z_14 := i_rg z_14; omega))) (gP_of hD hk_46 (fun p90 q90 e90 g90 => by cases e90; have z90 := gI_n hD a_r3_1 g90; subst z90; exact (by have q_f6_1 := f6_1; have q_fq_b := fq_b; omega))) (gP_of hD hk_46 (fun p90 q90 e90 g90 => by cases e90; have z90 := gI_n hD a_r4_1 g90; subst z90; exact (by have q_f8_1 := f8_1; have q_fq_d := fq_d; omega))) (gP_of hD hk_46 (fun p90 q90 e90 g90 => by cases e90; have z90 := gI_n hD a_r5_1 g90; subst z90; exact (by have q_f10_1 := f10_1; have q_fq_f := fq_f; omega)))) (cwV 1 hts (gd_V kw_1569 kw_1690 kw_1691 kw_404 kw_1689) rfl rfl rfl (by decide +kernel) ⟨Nat.le_of_ble_eq_true rfl, Nat.le_of_ble_eq_true rfl⟩) ⟨gblind, va_recv hK hP (ci := 8) (q0 := k_1) rfl hk_46, fun U hU hW9 => gmk hU hW9 hP hK hD hex hE hS hFc⟩ rfl rfl hl.1 rfl (lv_room (Nat.le_of_ble_eq_true rfl)) dX9_findMarked_101 ⟨Nat.le_of_ble_eq_true rfl, Nat.le_of_ble_eq_true rfl⟩) hS (fun q _ h => hFc q h) hFc (fun  ws_51 t9 H1 locs ht9 hvm9 hw9 hB9 hz9 hk9 hS => ?_)
                    obtain ⟨E_52, Fr_53, hG, hP1, hD1⟩ := hB9
                    have hP : va_P (gD g) cl0 ws_51 H1 := by rw [← ht9]; exact hP1
                    have hD : va_D A ws_51 := hD1.weaken (fun _ _ _ h => hFc _ h)
                    clear hP1 hD1 hz9 hk9 hvm9 ht9 hw9
                    generalize H1 = H at hP hS ⊢
                    have aa_56 := a_r1_46
                    have aa_57 := a_r2_1
                    have aa_58 := a_r3_1
                    have aa_59 := a_r4_1
                    have aa_60 := a_r5_1
                    have aa_61 := a_r0_47
                    have aa_62 := a_r1_47
                    have aa_63 := a_r3_47
                    have aa_64 := a_r5_27
                    have aa_65 := a_r6_27
                    have aa_66 := a_r7_27
                    have aa_67 := a_r8_47
                    have o_h0 := E_52.1 _ _ o_h0
                    refine lv_aload_n hx hb dX9_findMarked_104 rfl (lv_at hl 0 rfl) ?_
                    refine lv_aload_n hx hb dX9_findMarked_105 rfl (lv_at hl 0 rfl) ?_
                    obtain ⟨fs9, hk_68, hq_68⟩ := ((gF.a (F' := []) Fr_53 (fun _ h => h))) _ _ _ hk_46
                    obtain ⟨r0_68, r1_68, n1_68, r2_68, n2_68, r3_68, n3_68, r4_68, n4_68, r5_68, n5_68, rfl, o_r0_68, a_r1_68, f2_68, a_r2_68, f4_68, a_r3_68, f6_68, a_r4_68, f8_68, a_r5_68, f10_68, f11_68, -⟩ := (hG.1 _ _ _ _ hk_68).hX9 rfl
                    obtain rfl := fe_r (hq_68 0 (by decide))
                    have o_r0_1 := o_r0_68
                    obtain rfl := fe_r (hq_68 2 (by decide))
                    have hn9 := gI_n hD ((E_52).1 _ _ aa_57) a_r2_68
                    subst hn9
                    have a_r2_1 := a_r2_68
                    obtain rfl := fe_r (hq_68 3 (by decide))
                    have hn9 := gI_n hD ((E_52).1 _ _ aa_58) a_r3_68
                    subst hn9
                    have a_r3_1 := a_r3_68
                    obtain rfl := fe_r (hq_68 4 (by decide))
                    have hn9 := gI_n hD ((E_52).1 _ _ aa_59) a_r4_68
                    subst hn9
                    have a_r4_1 := a_r4_68
                    obtain rfl := fe_r (hq_68 5 (by decide))
                    have hn9 := gI_n hD ((E_52).1 _ _ aa_60) a_r5_68
                    subst hn9
                    have a_r5_1 := a_r5_68
                    refine va_get (D := gD g) (ci := 8) (v := .ref r0_1) (C := RX9) (T := TX9) (N := 6) hx hb hts inX9 hown hK hP k_1 hk_68 rfl 0 (by decide) (hts _ kw_1552) (fun _ h9 => h9) rfl dX9_findMarked_106 ?_
                    obtain ⟨fs9, hk_69, hq_69⟩ := ((gF.a (F' := []) Fr_53 (fun _ h => h))) _ _ _ hk_47
                    obtain ⟨r0_69, n0_69, r1_69, n1_69, c2_69, r3_69, n3_69, c4_69, r5_69, n5_69, r6_69, n6_69, r7_69, n7_69, r8_69, n8_69, c9_69, c10_69, c11_69, v12_69, v13_69, v14_69, rfl, a_r0_69, f1_69, a_r1_69, f3_69, a_r3_69, f5_69, a_r5_69, f7_69, a_r6_69, f9_69, a_r7_69, f11_69, a_r8_69, f13_69, o_v12_69, o_v13_69, o_v14_69, f17_69, f18_69, f19_69, f20_69, f21_69, f22_69, f23_69, f24_69, f25_69, f26_69, f27_69, f28_69, f29_69, -⟩ := (hG.1 _ _ _ _ hk_69).hX8 rfl
                    obtain rfl := fe_i (hq_69 2 (by decide))
                    obtain rfl := fe_r (hq_69 5 (by decide))
                    have hn9 := gI_n hD ((E_52).1 _ _ aa_64) a_r5_69
                    subst hn9
                    have a_r5_27 := a_r5_69
                    obtain rfl := fe_r (hq_69 6 (by decide))
                    have hn9 := gI_n hD ((E_52).1 _ _ aa_65) a_r6_69
                    subst hn9
                    have a_r6_27 := a_r6_69
                    obtain rfl := fe_r (hq_69 7 (by decide))
                    have hn9 := gI_n hD ((E_52).1 _ _ aa_66) a_r7_69
                    subst hn9
                    have a_r7_27 := a_r7_69
                    obtain rfl := fe_i (hq_69 9 (by decide))
                    refine va_get (D := gD g) (ci := 7) (v := .ref r6_27) (C := RX8) (T := TX8) (N := 15) hx hb hts inX8 hown hK hP k_27 hk_69 rfl 6 (by decide) (hts _ kw_1572) (fun _ h9 => h9) rfl dX9_findMarked_109 ?_
                    refine lv_iload_n hx hb dX9_findMarked_112 rfl (lv_at hl 1 rfl) ?_
                    obtain ⟨k_70, f_70, hk_70⟩ := gI_of a_r6_27
                    refine va_iald hx hb hK hP k_70 1 hk_70 rfl (i_in2 (by have q_f9_27 := f9_27; have q_f23_27 := f23_27; have q_iv_30 := iv_30; have q_c_48 := i_nle c_48; have q_f7_27 := f7_27; have q_f24_27 := f24_27; have q_f25_27 := f25_27; have q_f26_27 := f26_27; have q_f27_27 := f27_27; have q_f29_27 := f29_27; have q_f25_47 := f25_47; have q_f25_69 := f25_69; have g_c9_27 := i_rg c9_27; have g_v1_29 := i_rg v1_29; omega)) dX9_findMarked_113 ?_
                    refine lv_topi (fun z_71 ez_71 => ?_)
                    have hFc := gfree hD hS hA
                    refine va_callv (va_runV (As := [.int z_71]) (rest := []) ⟨hx, hb, hml, hown, hts⟩ (m_X9_mark l g H.size ws_51 h0 (z_71) hG o_h0 (gP_of hD hk_68 (fun p90 q90 e90 g90 => by cases e90; have z90 := gI_n hD a_r2_1 g90; subst z90; exact (by have q_f4_1 := f4_1; have q_fq_a := fq_a; have q_z_14 := i_len ez_14 f4_12; have q_c_15 := i_le c_15; have g_v1_2 := i_rg v1_2; have g_z_14 := i_rg z_14; omega))) (gP_of hD hk_68 (fun p90 q90 e90 g90 => by cases e90; have z90 := gI_n hD a_r3_1 g90; subst z90; exact (by have q_f6_1 := f6_1; have q_fq_b := fq_b; omega))) (gP_of hD hk_68 (fun p90 q90 e90 g90 => by cases e90; have z90 := gI_n hD a_r4_1 g90; subst z90; exact (by have q_f8_1 := f8_1; have q_fq_d := fq_d; omega))) (gP_of hD hk_68 (fun p90 q90 e90 g90 => by cases e90; have z90 := gI_n hD a_r5_1 g90; subst z90; exact (by have q_f10_1 := f10_1; have q_fq_f := fq_f; omega)))) (cwV 1 hts (gd_V kw_1569 kw_1690 kw_1691 kw_404 kw_1689) rfl rfl rfl (by decide +kernel) ⟨Nat.le_of_ble_eq_true rfl, Nat.le_of_ble_eq_true rfl⟩) ⟨gblind, va_recv hK hP (ci := 8) (q0 := k_1) rfl hk_68, fun U hU hW9 => gmk hU hW9 hP hK hD hex hE hS hFc⟩ rfl rfl hl.1 rfl (lv_room (Nat.le_of_ble_eq_true rfl)) dX9_findMarked_114 ⟨Nat.le_of_ble_eq_true rfl, Nat.le_of_ble_eq_true rfl⟩) hS (fun q _ h => hFc q h) hFc (fun  ws_72 t9 H1 locs ht9 hvm9 hw9 hB9 hz9 hk9 hS => ?_)
                    obtain ⟨E_73, Fr_74, hG, hP1, hD1⟩ := hB9
                    have hP : va_P (gD g) cl0 ws_72 H1 := by rw [← ht9]; exact hP1
                    have hD : va_D A ws_72 := hD1.weaken (fun _ _ _ h => hFc _ h)
                    clear hP1 hD1 hz9 hk9 hvm9 ht9 hw9
                    generalize H1 = H at hP hS ⊢
                    have aa_77 := a_r1_68
                    have aa_78 := a_r2_1
                    have aa_79 := a_r3_1
                    have aa_80 := a_r4_1
                    have aa_81 := a_r5_1
                    have aa_82 := a_r0_69
                    have aa_83 := a_r1_69
                    have aa_84 := a_r3_69
                    have aa_85 := a_r5_27
                    have aa_86 := a_r6_27
                    have aa_87 := a_r7_27
                    have aa_88 := a_r8_69
                    have o_h0 := E_73.1 _ _ o_h0
                    refine lv_aload_n hx hb dX9_findMarked_117 rfl (lv_at hl 0 rfl) ?_
                    refine lv_aload_n hx hb dX9_findMarked_118 rfl (lv_at hl 0 rfl) ?_
                    obtain ⟨fs9, hk_89, hq_89⟩ := ((gF.a (F' := []) Fr_74 (fun _ h => h))) _ _ _ hk_68
                    obtain ⟨r0_89, r1_89, n1_89, r2_89, n2_89, r3_89, n3_89, r4_89, n4_89, r5_89, n5_89, rfl, o_r0_89, a_r1_89, f2_89, a_r2_89, f4_89, a_r3_89, f6_89, a_r4_89, f8_89, a_r5_89, f10_89, f11_89, -⟩ := (hG.1 _ _ _ _ hk_89).hX9 rfl
                    obtain rfl := fe_r (hq_89 0 (by decide))
                    have o_r0_1 := o_r0_89
                    obtain rfl := fe_r (hq_89 2 (by decide))
                    have hn9 := gI_n hD ((E_73).1 _ _ aa_78) a_r2_89
                    subst hn9
                    have a_r2_1 := a_r2_89
                    obtain rfl := fe_r (hq_89 3 (by decide))
                    have hn9 := gI_n hD ((E_73).1 _ _ aa_79) a_r3_89
                    subst hn9
                    have a_r3_1 := a_r3_89
                    obtain rfl := fe_r (hq_89 4 (by decide))
                    have hn9 := gI_n hD ((E_73).1 _ _ aa_80) a_r4_89
                    subst hn9
                    have a_r4_1 := a_r4_89
                    obtain rfl := fe_r (hq_89 5 (by decide))
                    have hn9 := gI_n hD ((E_73).1 _ _ aa_81) a_r5_89
                    subst hn9
                    have a_r5_1 := a_r5_89
                    refine va_get (D := gD g) (ci := 8) (v := .ref r0_1) (C := RX9) (T := TX9) (N := 6) hx hb hts inX9 hown hK hP k_1 hk_89 rfl 0 (by decide) (hts _ kw_1552) (fun _ h9 => h9) rfl dX9_findMarked_119 ?_
                    obtain ⟨fs9, hk_90, hq_90⟩ := ((gF.a (F' := []) Fr_74 (fun _ h => h))) _ _ _ hk_69
                    obtain ⟨r0_90, n0_90, r1_90, n1_90, c2_90, r3_90, n3_90, c4_90, r5_90, n5_90, r6_90, n6_90, r7_90, n7_90, r8_90, n8_90, c9_90, c10_90, c11_90, v12_90, v13_90, v14_90, rfl, a_r0_90, f1_90, a_r1_90, f3_90, a_r3_90, f5_90, a_r5_90, f7_90, a_r6_90, f9_90, a_r7_90, f11_90, a_r8_90, f13_90, o_v12_90, o_v13_90, o_v14_90, f17_90, f18_90, f19_90, f20_90, f21_90, f22_90, f23_90, f24_90, f25_90, f26_90, f27_90, f28_90, f29_90, -⟩ := (hG.1 _ _ _ _ hk_90).hX8 rfl
                    obtain rfl := fe_i (hq_90 2 (by decide))
                    obtain rfl := fe_r (hq_90 5 (by decide))
                    have hn9 := gI_n hD ((E_73).1 _ _ aa_85) a_r5_90
                    subst hn9
                    have a_r5_27 := a_r5_90
                    obtain rfl := fe_r (hq_90 6 (by decide))
                    have hn9 := gI_n hD ((E_73).1 _ _ aa_86) a_r6_90
                    subst hn9
                    have a_r6_27 := a_r6_90
                    obtain rfl := fe_r (hq_90 7 (by decide))
                    have hn9 := gI_n hD ((E_73).1 _ _ aa_87) a_r7_90
                    subst hn9
                    have a_r7_27 := a_r7_90
                    obtain rfl := fe_i (hq_90 9 (by decide))
                    refine va_get (D := gD g) (ci := 7) (v := .ref r7_27) (C := RX8) (T := TX8) (N := 15) hx hb hts inX8 hown hK hP k_27 hk_90 rfl 7 (by decide) (hts _ kw_1573) (fun _ h9 => h9) rfl dX9_findMarked_122 ?_
                    refine lv_iload_n hx hb dX9_findMarked_125 rfl (lv_at hl 1 rfl) ?_
                    obtain ⟨k_91, f_91, hk_91⟩ := gI_of a_r7_27
                    refine va_iald hx hb hK hP k_91 1 hk_91 rfl (i_in2 (by have q_f11_27 := f11_27; have q_f24_27 := f24_27; have q_iv_30 := iv_30; have q_c_48 := i_nle c_48; have q_f7_27 := f7_27; have q_f23_27 := f23_27; have q_f25_27 := f25_27; have q_f26_27 := f26_27; have q_f27_27 := f27_27; have q_f29_27 := f29_27; have q_f25_47 := f25_47; have q_f25_69 := f25_69; have q_f25_90 := f25_90; have g_c9_27 := i_rg c9_27; have g_v1_29 := i_rg v1_29; omega)) dX9_findMarked_126 ?_
                    refine lv_topi (fun z_92 ez_92 => ?_)
                    have hFc := gfree hD hS hA
                    refine va_callv (va_runV (As := [.int z_92]) (rest := []) ⟨hx, hb, hml, hown, hts⟩ (m_X9_mark l g H.size ws_72 h0 (z_92) hG o_h0 (gP_of hD hk_89 (fun p90 q90 e90 g90 => by cases e90; have z90 := gI_n hD a_r2_1 g90; subst z90; exact (by have q_f4_1 := f4_1; have q_fq_a := fq_a; have q_z_14 := i_len ez_14 f4_12; have q_c_15 := i_le c_15; have g_v1_2 := i_rg v1_2; have g_z_14 := i_rg z_14; omega))) (gP_of hD hk_89 (fun p90 q90 e90 g90 => by cases e90; have z90 := gI_n hD a_r3_1 g90; subst z90; exact (by have q_f6_1 := f6_1; have q_fq_b := fq_b; omega))) (gP_of hD hk_89 (fun p90 q90 e90 g90 => by cases e90; have z90 := gI_n hD a_r4_1 g90; subst z90; exact (by have q_f8_1 := f8_1; have q_fq_d := fq_d; omega))) (gP_of hD hk_89 (fun p90 q90 e90 g90 => by cases e90; have z90 := gI_n hD a_r5_1 g90; subst z90; exact (by have q_f10_1 := f10_1; have q_fq_f := fq_f; omega)))) (cwV 1 hts (gd_V kw_1569 kw_1690 kw_1691 kw_404 kw_1689) rfl rfl rfl (by decide +kernel) ⟨Nat.le_of_ble_eq_true rfl, Nat.le_of_ble_eq_true rfl⟩) ⟨gblind, va_recv hK hP (ci := 8) (q0 := k_1) rfl hk_89, fun U hU hW9 => gmk hU hW9 hP hK hD hex hE hS hFc⟩ rfl rfl hl.1 rfl (lv_room (Nat.le_of_ble_eq_true rfl)) dX9_findMarked_127 ⟨Nat.le_of_ble_eq_true rfl, Nat.le_of_ble_eq_true rfl⟩) hS (fun q _ h => hFc q h) hFc (fun  ws_93 t9 H1 locs ht9 hvm9 hw9 hB9 hz9 hk9 hS => ?_)
                    obtain ⟨E_94, Fr_95, hG, hP1, hD1⟩ := hB9
                    have hP : va_P (gD g) cl0 ws_93 H1 := by rw [← ht9]; exact hP1
                    have hD : va_D A ws_93 := hD1.weaken (fun _ _ _ h => hFc _ h)
                    clear hP1 hD1 hz9 hk9 hvm9 ht9 hw9
                    generalize H1 = H at hP hS ⊢
                    have aa_98 := a_r1_89
                    have aa_99 := a_r2_1
                    have aa_100 := a_r3_1
                    have aa_101 := a_r4_1
                    have aa_102 := a_r5_1
                    have aa_103 := a_r0_90
                    have aa_104 := a_r1_90
                    have aa_105 := a_r3_90
                    have aa_106 := a_r5_27
                    have aa_107 := a_r6_27
                    have aa_108 := a_r7_27
                    have aa_109 := a_r8_90
                    have o_h0 := E_94.1 _ _ o_h0
                    obtain ⟨z_110, ez_110⟩ : ∃ z : Int32, v1_29 + Int32.ofInt 1 = z := ⟨_, rfl⟩
                    refine lv_iinc (v := z_110) (lv' := [(1, .int z_110), (0, .ref h0)]) hx hb dX9_findMarked_130 hl (k := 1) rfl ez_110 (by decide) rfl (fun ls hl => ?_)
                    refine lv_goto (tgt := 80) hx hb dX9_findMarked_133 (by decide) ?_
                    exact ih_80 _ (by obtain ⟨u_z_110, q_z_110⟩ := i_iz ez_110 (by decide) (by decide); have q_iv_30 := iv_30; have q_c_48 := i_nle c_48; have g_c9_27 := i_rg c9_27; have g_v1_29 := i_rg v1_29; have g_z_110 := i_rg z_110; omega) (z_110) ws_93 H locs ls rfl (by obtain ⟨u_z_110, q_z_110⟩ := i_iz ez_110 (by decide) (by decide); have q_iv_30 := iv_30; have q_c_48 := i_nle c_48; have g_c9_27 := i_rg c9_27; have g_v1_29 := i_rg v1_29; have g_z_110 := i_rg z_110; omega) ((E_32.tr (E_52.tr (E_73.tr E_94)))) ((gF.tr Fr_33 (gF.tr Fr_53 (gF.tr Fr_74 Fr_95)))) hG hP hD hS (lv_sub hl [1, 0] rfl)
              exact J_80 _ (0) ws_18 H locs ls rfl (by have e0 : (0 : Int32).toInt = 0 := (by decide); omega) (gE.rf) (gF.rf) hG hP hD hS (lv_sub hl [1, 0] rfl)
            · refine lv_aload_n hx hb dX9_findMarked_37 rfl (lv_at hl 0 rfl) ?_
              refine va_get (D := gD g) (ci := 8) (v := .ref r0_1) (C := RX9) (T := TX9) (N := 6) hx hb hts inX9 hown hK hP k_1 hk_26 rfl 0 (by decide) (hts _ kw_1552) (fun _ h9 => h9) rfl dX9_findMarked_38 ?_
              refine lv_iload_n hx hb dX9_findMarked_41 rfl (lv_at hl 1 rfl) ?_
              have hFc := gfree hD hS hA
              refine va_calli (va_runV (As := [.int v1_16]) (rest := []) ⟨hx, hb, hml, hown, hts⟩ (m_X8_targetCount l g H.size ws_18 r0_1 (v1_16) hG o_r0_1) (cwV 1 hts (gd_V kw_1567 kw_1541 kw_1542 kw_782 kw_1540) rfl rfl rfl (by decide +kernel) ⟨Nat.le_of_ble_eq_true rfl, Nat.le_of_ble_eq_true rfl⟩) ⟨gblind, va_recv hK hP (ci := 7) (q0 := k_27) rfl hk_27, fun U hU hW9 => gmk hU hW9 hP hK hD hex hE hS hFc⟩ rfl rfl hl.1 rfl (lv_room (Nat.le_of_ble_eq_true rfl)) dX9_findMarked_42 ⟨Nat.le_of_ble_eq_true rfl, Nat.le_of_ble_eq_true rfl⟩) hS (fun q _ h => hFc q h) hFc (fun r_111 u9 t9 H1 locs ht9 hvm9 hw9 hB9 hz9 hk9 hS => ?_)
              have hP : va_P (gD g) cl0 ws_18 H1 := by rw [← ht9]; exact hB9.1
              clear hB9 hz9 hk9 hvm9 ht9 hw9
              generalize H1 = H at hP hS ⊢
              refine lv_istore_n (lv' := [(2, .int r_111), (0, .ref h0), (1, .int v1_16)]) hx hb dX9_findMarked_45 rfl hl (by decide) rfl (fun ls hl => ?_)
              refine lv_iconst (v := 0) hx hb dX9_findMarked_46 (by decide) ?_
              refine lv_istore_n (lv' := [(3, .int 0), (2, .int r_111), (0, .ref h0), (1, .int v1_16)]) hx hb dX9_findMarked_47 rfl hl (by decide) rfl (fun ls hl => ?_)
              have J_48 : ∀ (n9 : Nat) (v3_112 : Int32) (ws_114 : va_W) (H : Heap) (locs : List Loc) (ls : Array Slot), (2147483647 - v3_112.toInt).toNat = n9 → 0 ≤ v3_112.toInt → gE ws_18 ws_114 → gF [] [(8, 2)] none ws_18 ws_114 → Good g ws_114 → va_P (gD g) cl0 ws_114 H → va_D A ws_114 → va_S A s.heap H locs → lv_has ls 4 [(0, .ref h0), (1, .int v1_16), (2, .int r_111), (3, .int v3_112)] → W p l e (headSpec (wt yX9_findMarked cX9_findMarked 4 none) ({ frames := 2, cells := 0, slots := 0, locals := 43 })).room s m ([.ref h0] : List Value).toArray below meth c H locs (0) (0) (MQ below (va_Qv (fun (u9 : va_W) => True) (gQ1 g [] [(8, 2)] none A ws) A) ([.ref h0] : List Value).toArray s (0) (0) A) (F0 m 48 ls []) := by
                intro n9
                induction n9 using Nat.strongRecOn with
                | ind n9 ih_48 =>
                  intro v3_112 ws_114 H locs ls hm9 iv_113 E_115 Fr_116 hG hP hD hS hl
                  subst hm9
                  have aa_117 := a_r1_26
                  have aa_118 := a_r2_1
                  have aa_119 := a_r3_1
                  have aa_120 := a_r4_1
                  have aa_121 := a_r5_1
                  have aa_122 := a_r0_27
                  have aa_123 := a_r1_27
                  have aa_124 := a_r3_27
                  have aa_125 := a_r5_27
                  have aa_126 := a_r6_27
                  have aa_127 := a_r7_27
                  have aa_128 := a_r8_27
                  have o_h0 := E_115.1 _ _ o_h0
                  refine lv_iload_n hx hb dX9_findMarked_48 rfl (lv_at hl 3 rfl) ?_
                  refine lv_iload_n hx hb dX9_findMarked_49 rfl (lv_at hl 2 rfl) ?_
                  refine lv_icmp_ge (tgt := 72) hx hb dX9_findMarked_50 (by decide) (fun c_129 => ?_) (fun c_129 => ?_)
                  · obtain ⟨z_130, ez_130⟩ : ∃ z : Int32, v1_16 + Int32.ofInt 1 = z := ⟨_, rfl⟩
                    refine lv_iinc (v := z_130) (lv' := [(1, .int z_130), (0, .ref h0), (2, .int r_111), (3, .int v3_112)]) hx hb dX9_findMarked_72 hl (k := 1) rfl ez_130 (by decide) rfl (fun ls hl => ?_)
                    refine lv_goto (tgt := 26) hx hb dX9_findMarked_75 (by decide) ?_
                    exact ih_26 _ (by obtain ⟨u_z_130, q_z_130⟩ := i_iz ez_130 (by decide) (by decide); have q_iv_17 := iv_17; have q_c_28 := i_nle c_28; have g_c2_27 := i_rg c2_27; have g_v1_16 := i_rg v1_16; have g_z_130 := i_rg z_130; omega) (z_130) ws_114 H locs ls rfl (by obtain ⟨u_z_130, q_z_130⟩ := i_iz ez_130 (by decide) (by decide); have q_iv_17 := iv_17; have q_c_28 := i_nle c_28; have g_c2_27 := i_rg c2_27; have g_v1_16 := i_rg v1_16; have g_z_130 := i_rg z_130; omega) ((E_19.tr E_115)) ((gF.tr Fr_20 Fr_116)) hG hP hD hS (lv_sub hl [1, 0] rfl)
                  · refine lv_aload_n hx hb dX9_findMarked_53 rfl (lv_at hl 0 rfl) ?_
                    refine lv_aload_n hx hb dX9_findMarked_54 rfl (lv_at hl 0 rfl) ?_
                    obtain ⟨fs9, hk_131, hq_131⟩ := ((gF.a (F' := []) Fr_116 (fun _ h => h))) _ _ _ hk_26
                    obtain ⟨r0_131, r1_131, n1_131, r2_131, n2_131, r3_131, n3_131, r4_131, n4_131, r5_131, n5_131, rfl, o_r0_131, a_r1_131, f2_131, a_r2_131, f4_131, a_r3_131, f6_131, a_r4_131, f8_131, a_r5_131, f10_131, f11_131, -⟩ := (hG.1 _ _ _ _ hk_131).hX9 rfl
                    obtain rfl := fe_r (hq_131 0 (by decide))
                    have o_r0_1 := o_r0_131
                    obtain rfl := fe_r (hq_131 2 (by decide))
                    have hn9 := gI_n hD ((E_115).1 _ _ aa_118) a_r2_131
                    subst hn9
                    have a_r2_1 := a_r2_131
                    obtain rfl := fe_r (hq_131 3 (by decide))
                    have hn9 := gI_n hD ((E_115).1 _ _ aa_119) a_r3_131
                    subst hn9
                    have a_r3_1 := a_r3_131
                    obtain rfl := fe_r (hq_131 4 (by decide))
                    have hn9 := gI_n hD ((E_115).1 _ _ aa_120) a_r4_131
                    subst hn9
                    have a_r4_1 := a_r4_131
                    obtain rfl := fe_r (hq_131 5 (by decide))
                    have hn9 := gI_n hD ((E_115).1 _ _ aa_121) a_r5_131
                    subst hn9
                    have a_r5_1 := a_r5_131
                    refine va_get (D := gD g) (ci := 8) (v := .ref r0_1) (C := RX9) (T := TX9) (N := 6) hx hb hts inX9 hown hK hP k_1 hk_131 rfl 0 (by decide) (hts _ kw_1552) (fun _ h9 => h9) rfl dX9_findMarked_55 ?_
                    refine lv_iload_n hx hb dX9_findMarked_58 rfl (lv_at hl 1 rfl) ?_
                    refine lv_iload_n hx hb dX9_findMarked_59 rfl (lv_at hl 3 rfl) ?_
                    have hFc := gfree hD hS hA
                    obtain ⟨k_132, fs_132, hk_132⟩ := gC_of o_r0_1
                    refine va_calli (va_runV (As := [.int v1_16, .int v3_112]) (rest := [.ref h0]) ⟨hx, hb, hml, hown, hts⟩ (m_X8_targetAt l g H.size ws_114 r0_1 (v1_16) (v3_112) hG o_r0_1) (cwV 2 hts (gd_V kw_1568 kw_1537 kw_1538 kw_782 kw_1536) rfl rfl rfl (by decide +kernel) ⟨Nat.le_of_ble_eq_true rfl, Nat.le_of_ble_eq_true rfl⟩) ⟨gblind, va_recv hK hP (ci := 7) (q0 := k_132) rfl hk_132, fun U hU hW9 => gmk hU hW9 hP hK hD hex hE hS hFc⟩ rfl rfl hl.1 rfl (lv_room (Nat.le_of_ble_eq_true rfl)) dX9_findMarked_60 ⟨Nat.le_of_ble_eq_true rfl, Nat.le_of_ble_eq_true rfl⟩) hS (fun q _ h => hFc q h) hFc (fun r_133 u9 t9 H1 locs ht9 hvm9 hw9 hB9 hz9 hk9 hS => ?_)
                    have hP : va_P (gD g) cl0 ws_114 H1 := by rw [← ht9]; exact hB9.1
                    clear hB9 hz9 hk9 hvm9 ht9 hw9
                    generalize H1 = H at hP hS ⊢
                    have hFc := gfree hD hS hA
                    refine va_callv (va_runV (As := [.int r_133]) (rest := []) ⟨hx, hb, hml, hown, hts⟩ (m_X9_mark l g H.size ws_114 h0 (r_133) hG o_h0 (gP_of hD hk_131 (fun p90 q90 e90 g90 => by cases e90; have z90 := gI_n hD a_r2_1 g90; subst z90; exact (by have q_f4_1 := f4_1; have q_fq_a := fq_a; have q_z_14 := i_len ez_14 f4_12; have q_c_15 := i_le c_15; have g_v1_2 := i_rg v1_2; have g_z_14 := i_rg z_14; omega))) (gP_of hD hk_131 (fun p90 q90 e90 g90 => by cases e90; have z90 := gI_n hD a_r3_1 g90; subst z90; exact (by have q_f6_1 := f6_1; have q_fq_b := fq_b; omega))) (gP_of hD hk_131 (fun p90 q90 e90 g90 => by cases e90; have z90 := gI_n hD a_r4_1 g90; subst z90; exact (by have q_f8_1 := f8_1; have q_fq_d := fq_d; omega))) (gP_of hD hk_131 (fun p90 q90 e90 g90 => by cases e90; have z90 := gI_n hD a_r5_1 g90; subst z90; exact (by have q_f10_1 := f10_1; have q_fq_f := fq_f; omega)))) (cwV 1 hts (gd_V kw_1569 kw_1690 kw_1691 kw_404 kw_1689) rfl rfl rfl (by decide +kernel) ⟨Nat.le_of_ble_eq_true rfl, Nat.le_of_ble_eq_true rfl⟩) ⟨gblind, va_recv hK hP (ci := 8) (q0 := k_1) rfl hk_131, fun U hU hW9 => gmk hU hW9 hP hK hD hex hE hS hFc⟩ rfl rfl hl.1 rfl (lv_room (Nat.le_of_ble_eq_true rfl)) dX9_findMarked_63 ⟨Nat.le_of_ble_eq_true rfl, Nat.le_of_ble_eq_true rfl⟩) hS (fun q _ h => hFc q h) hFc (fun  ws_134 t9 H1 locs ht9 hvm9 hw9 hB9 hz9 hk9 hS => ?_)
                    obtain ⟨E_135, Fr_136, hG, hP1, hD1⟩ := hB9
                    have hP : va_P (gD g) cl0 ws_134 H1 := by rw [← ht9]; exact hP1
                    have hD : va_D A ws_134 := hD1.weaken (fun _ _ _ h => hFc _ h)
                    clear hP1 hD1 hz9 hk9 hvm9 ht9 hw9
                    generalize H1 = H at hP hS ⊢
                    have aa_139 := a_r1_131
                    have aa_140 := a_r2_1
                    have aa_141 := a_r3_1
                    have aa_142 := a_r4_1
                    have aa_143 := a_r5_1
                    have o_h0 := E_135.1 _ _ o_h0
                    obtain ⟨z_144, ez_144⟩ : ∃ z : Int32, v3_112 + Int32.ofInt 1 = z := ⟨_, rfl⟩
                    refine lv_iinc (v := z_144) (lv' := [(3, .int z_144), (0, .ref h0), (1, .int v1_16), (2, .int r_111)]) hx hb dX9_findMarked_66 hl (k := 3) rfl ez_144 (by decide) rfl (fun ls hl => ?_)
                    refine lv_goto (tgt := 48) hx hb dX9_findMarked_69 (by decide) ?_
                    exact ih_48 _ (by obtain ⟨u_z_144, q_z_144⟩ := i_iz ez_144 (by decide) (by decide); have q_iv_113 := iv_113; have q_c_129 := i_nle c_129; have g_r_111 := i_rg r_111; have g_v3_112 := i_rg v3_112; have g_z_144 := i_rg z_144; omega) (z_144) ws_134 H locs ls rfl (by obtain ⟨u_z_144, q_z_144⟩ := i_iz ez_144 (by decide) (by decide); have q_iv_113 := iv_113; have q_c_129 := i_nle c_129; have g_r_111 := i_rg r_111; have g_v3_112 := i_rg v3_112; have g_z_144 := i_rg z_144; omega) ((E_115.tr E_135)) ((gF.tr Fr_116 Fr_136)) hG hP hD hS (lv_sub hl [1, 2, 3, 0] rfl)
              exact J_48 _ (0) ws_18 H locs ls rfl (by have e0 : (0 : Int32).toInt = 0 := (by decide); omega) (gE.rf) (gF.rf) hG hP hD hS (lv_sub hl [2, 3, 1, 0] rfl)
        exact J_26 _ (0) ws_4 H locs ls rfl (by have e0 : (0 : Int32).toInt = 0 := (by decide); omega) (gE.rf) (gF.rf) hG hP hD hS (lv_sub hl [1, 0] rfl)
      · refine lv_aload_n hx hb dX9_findMarked_11 rfl (lv_at hl 0 rfl) ?_
        refine va_get (D := gD g) (ci := 8) (v := .ref r2_1) (C := RX9) (T := TX9) (N := 6) hx hb hts inX9 hown hK hP k_1 hk_12 rfl 2 (by decide) (hts _ kw_1566) (fun _ h9 => h9) rfl dX9_findMarked_12 ?_
        refine lv_iload_n hx hb dX9_findMarked_15 rfl (lv_at hl 1 rfl) ?_
        refine lv_iconst (v := 0) hx hb dX9_findMarked_16 (by decide) ?_
        have hC9 : hol ws_4 r2_1 [(8, 2)] := (hol_u hG.u hk_12 (j := 2) rfl a_r2_1 (by decide))
        have hS9 : holS ws_4 r2_1 none := holS_n
        refine va_zast hx hb hK hP hD hS k_13 2 hk_13 rfl (i_in2 (by have q_f4_1 := f4_1; have q_fq_a := fq_a; have q_iv_3 := iv_3; have q_z_14 := i_len ez_14 f4_12; have q_c_15 := i_nle c_15; have g_v1_2 := i_rg v1_2; have g_z_14 := i_rg z_14; omega)) dX9_findMarked_17 (fun H locs hP hD hS => ?_)
        obtain ⟨ws_145, e_ws_145⟩ : ∃ z, z = ws_4.set k_13 (r2_1, .inl (g.cZ, n2_1, .inl (upd f_13 (v1_2 : Int32).toNatClampNeg (vp_nar .boolean 0)))) := ⟨_, rfl⟩
        have hP : va_P (gD g) cl0 ws_145 H := by rw [e_ws_145]; exact hP
        have hD : va_D A ws_145 := by rw [e_ws_145]; exact hD
        have E_146 : gE ws_4 ws_145 := gE_ari e_ws_145 hk_13
        have hG : Good g ws_145 := Good_arZ e_ws_145 hk_13 hG
        have Fr_147 : gF [] [(8, 2)] none ws_4 ws_145 := gF_ar e_ws_145 hk_13 rfl hC9 hS9
        have hk_12 := gset_arO e_ws_145 hk_13 hk_12
        have o_h0 := E_146.1 _ _ o_h0
        have a_r1_12 := E_146.1 _ _ a_r1_12
        have o_r0_1 := E_146.1 _ _ o_r0_1
        have a_r2_1 := E_146.1 _ _ a_r2_1
        have a_r3_1 := E_146.1 _ _ a_r3_1
        have a_r4_1 := E_146.1 _ _ a_r4_1
        have a_r5_1 := E_146.1 _ _ a_r5_1
        obtain ⟨z_148, ez_148⟩ : ∃ z : Int32, v1_2 + Int32.ofInt 1 = z := ⟨_, rfl⟩
        refine lv_iinc (v := z_148) (lv' := [(1, .int z_148), (0, .ref h0)]) hx hb dX9_findMarked_18 hl (k := 1) rfl ez_148 (by decide) rfl (fun ls hl => ?_)
        refine lv_goto (tgt := 2) hx hb dX9_findMarked_21 (by decide) ?_
        exact ih_2 _ (by obtain ⟨u_z_148, q_z_148⟩ := i_iz ez_148 (by decide) (by decide); have q_iv_3 := iv_3; have q_c_15 := i_nle c_15; have g_v1_2 := i_rg v1_2; have g_z_14 := i_rg z_14; have g_z_148 := i_rg z_148; omega) (z_148) ws_145 H locs ls rfl (by obtain ⟨u_z_148, q_z_148⟩ := i_iz ez_148 (by decide) (by decide); have q_iv_3 := iv_3; have q_c_15 := i_nle c_15; have g_v1_2 := i_rg v1_2; have g_z_14 := i_rg z_14; have g_z_148 := i_rg z_148; omega) ((E_5.tr E_146)) ((gF.tr Fr_6 Fr_147)) hG hP hD hS (lv_sub hl [1, 0] rfl)
  exact J_2 _ (0) ws _ _ ls rfl (by have e0 : (0 : Int32).toInt = 0 := (by decide); omega) (gE.rf) (gF.rf) hG hP hD hS (lv_sub hl [1, 0] rfl)
set_option maxHeartbeats 1000000 in
set_option maxRecDepth 100000 in
theorem m_X9_liveBehind (l : Launch) (g : Gm) (sz : Nat) (ws : va_W) (h0 : Nat) (x1 : Int32) (hG : Good g ws) (o_h0 : gC ws h0 8) (fp_a : gP ws h0 (fun fs => ∀ (rn n : Nat), fs[2]? = some (.ref rn) → gI ws rn g.cZ n → 1297 ≤ n)) (fp_b : gP ws h0 (fun fs => ∀ (rn n : Nat), fs[3]? = some (.ref rn) → gI ws rn g.cZ n → 1297 ≤ n)) (fp_d : gP ws h0 (fun fs => ∀ (rn n : Nat), fs[4]? = some (.ref rn) → gI ws rn g.cI n → 1297 ≤ n)) (fp_f : gP ws h0 (fun fs => ∀ (rn n : Nat), fs[5]? = some (.ref rn) → gI ws rn g.cI n → 1297 ≤ n)) : Met l yX9_liveBehind (wt yX9_liveBehind cX9_liveBehind 5 (some .int)) ({ frames := 2, cells := 0, slots := 0, locals := 43 }) (va_Pc [.ref h0, .int x1] (st_G g sz ws)) (va_Qi (fun (r : Int32) (u9 : Unit) => True) (gQ0 g (va_A ws sz) ws) (va_A ws sz)) (0) (0) (va_A ws sz) := by
  refine Met.ofW (cc := cX9_liveBehind) (maxL := 5) (ret := (some .int)) (by decide) rfl ?_
  intro p e s m args below meth c s₁ B hml hv
  obtain ⟨rfl, hsz, hP, hK, hD0, hex, hE⟩ := hv
  have hx := B.exec
  have hb := B.bytes
  have hr := B.returns
  have hts0 := atoms_spec (ws := wt yX9_liveBehind cX9_liveBehind 5 (some .int)) B.pre
  have hts : ∀ w ∈ tb, w.before _ s = true := fun w h => hts0 w (List.mem_cons_of_mem _ h)
  have hown : s.vm.findClass RX9 = some m.cls := findClass_of_methodNamed B.named
  subst hsz
  have hD := hD0.self (sz := s.heap.size)
  generalize hAe : va_A ws s.heap.size = A at hD hE ⊢
  have hA : ∀ q : Nat, s.heap.size ≤ q → A q := fun q h => by rw [← hAe]; exact Or.inr h
  have hS : va_S A s.heap s.heap [] := va_S.rf
  have hl := lv_entry ([.ref h0, .int x1]) (n := 5) (Nat.le_of_ble_eq_true rfl)
  rw [lg_entry_eq]
  generalize (lg_sl ([.ref h0, .int x1]) ++ List.replicate (5 - (lg_sl ([.ref h0, .int x1])).length) Slot.unset).toArray = ls at hl ⊢
  have hl : lv_has ls 5 [(0, .ref h0), (1, .int x1)] := hl
  obtain ⟨k_1, fs9, hk_1⟩ := gC_of o_h0
  obtain ⟨r0_1, r1_1, n1_1, r2_1, n2_1, r3_1, n3_1, r4_1, n4_1, r5_1, n5_1, rfl, o_r0_1, a_r1_1, f2_1, a_r2_1, f4_1, a_r3_1, f6_1, a_r4_1, f8_1, a_r5_1, f10_1, f11_1, -⟩ := (hG.1 _ _ _ _ hk_1).hX9 rfl
  have fq_a := fp_a _ _ _ hk_1 _ _ rfl a_r2_1
  have fq_b := fp_b _ _ _ hk_1 _ _ rfl a_r3_1
  have fq_d := fp_d _ _ _ hk_1 _ _ rfl a_r4_1
  have fq_f := fp_f _ _ _ hk_1 _ _ rfl a_r5_1
  refine lv_aload_n hx hb dX9_liveBehind_0 rfl (lv_at hl 0 rfl) ?_
  refine va_get (D := gD g) (ci := 8) (v := .ref r0_1) (C := RX9) (T := TX9) (N := 6) hx hb hts inX9 hown hK hP k_1 hk_1 rfl 0 (by decide) (hts _ kw_1552) (fun _ h9 => h9) rfl dX9_liveBehind_1 ?_
  refine lv_iload_n hx hb dX9_liveBehind_4 rfl (lv_at hl 1 rfl) ?_
  have hFc := gfree hD hS hA
  obtain ⟨k_2, fs_2, hk_2⟩ := gC_of o_r0_1
  refine va_calli (va_runV (As := [.int x1]) (rest := []) ⟨hx, hb, hml, hown, hts⟩ (m_X8_opAt l g s.heap.size ws r0_1 (x1) hG o_r0_1) (cwV 1 hts (gd_V kw_1596 kw_1513 kw_1514 kw_782 kw_1512) rfl rfl rfl (by decide +kernel) ⟨Nat.le_of_ble_eq_true rfl, Nat.le_of_ble_eq_true rfl⟩) ⟨gblind, va_recv hK hP (ci := 7) (q0 := k_2) rfl hk_2, fun U hU hW9 => gmk hU hW9 hP hK hD hex hE hS hFc⟩ rfl rfl hl.1 rfl (lv_room (Nat.le_of_ble_eq_true rfl)) dX9_liveBehind_5 ⟨Nat.le_of_ble_eq_true rfl, Nat.le_of_ble_eq_true rfl⟩) hS (fun q _ h => hFc q h) hFc (fun r_3 u9 t9 H1 locs ht9 hvm9 hw9 hB9 hz9 hk9 hS => ?_)
  have hP : va_P (gD g) cl0 ws H1 := by rw [← ht9]; exact hB9.1
  clear hB9 hz9 hk9 hvm9 ht9 hw9
  generalize H1 = H at hP hS ⊢
  have hFc := gfree hD hS hA
  refine va_calli (va_runS (As := [.int r_3]) (rest := []) ⟨hx, hb, hml, hown, hts⟩ (m_X6_goesOn l g H.size ws (r_3) hG ) (va_cwS 1 hts (gd_S kw_1672 kw_1219 kw_1207 kw_1218) rfl rfl rfl (by decide +kernel) ⟨Nat.le_of_ble_eq_true rfl, Nat.le_of_ble_eq_true rfl⟩) ⟨gblind, fun U hU hW9 => gmk hU hW9 hP hK hD hex hE hS hFc⟩ rfl rfl hl.1 rfl (lv_room (Nat.le_of_ble_eq_true rfl)) dX9_liveBehind_8 ⟨Nat.le_of_ble_eq_true rfl, Nat.le_of_ble_eq_true rfl⟩) hS (fun q _ h => hFc q h) hFc (fun r_4 u9 t9 H1 locs ht9 hvm9 hw9 hB9 hz9 hk9 hS => ?_)
  have hP : va_P (gD g) cl0 ws H1 := by rw [← ht9]; exact hB9.1
  have hz_r_4 : r_4 = 0 ∨ r_4 = 1 := hw9
  clear hB9 hz9 hk9 hvm9 ht9 hw9
  generalize H1 = H at hP hS ⊢
  have J_25 : ∀ (t_5 : Int32) (H : Heap) (locs : List Loc) (ls : Array Slot), va_P (gD g) cl0 ws H → va_D A ws → va_S A s.heap H locs → lv_has ls 5 [(0, .ref h0), (1, .int x1)] → W p l e (headSpec (wt yX9_liveBehind cX9_liveBehind 5 (some .int)) ({ frames := 2, cells := 0, slots := 0, locals := 43 })).room s m ([.ref h0, .int x1] : List Value).toArray below meth c H locs (0) (0) (MQ below (va_Qi (fun (r : Int32) (u9 : Unit) => True) (gQ0 g A ws) A) ([.ref h0, .int x1] : List Value).toArray s (0) (0) A) (F0 m 25 ls [.int t_5]) := by
    intro t_5 H locs ls  hP hD hS hl
    refine lv_istore_n (lv' := [(2, .int t_5), (0, .ref h0), (1, .int x1)]) hx hb dX9_liveBehind_25 rfl hl (by decide) rfl (fun ls hl => ?_)
    refine lv_aload_n hx hb dX9_liveBehind_26 rfl (lv_at hl 1 rfl) ?_
    refine va_get (D := gD g) (ci := 8) (v := .ref r0_1) (C := RX9) (T := TX9) (N := 6) hx hb hts inX9 hown hK hP k_1 hk_1 rfl 0 (by decide) (hts _ kw_1552) (fun _ h9 => h9) rfl dX9_liveBehind_27 ?_
    refine lv_iload_n hx hb dX9_liveBehind_30 rfl (lv_at hl 2 rfl) ?_
    have hFc := gfree hD hS hA
    obtain ⟨k_8, fs_8, hk_8⟩ := gC_of o_r0_1
    refine va_calli (va_runV (As := [.int x1]) (rest := []) ⟨hx, hb, hml, hown, hts⟩ (m_X8_targetCount l g H.size ws r0_1 (x1) hG o_r0_1) (cwV 1 hts (gd_V kw_1567 kw_1541 kw_1542 kw_782 kw_1540) rfl rfl rfl (by decide +kernel) ⟨Nat.le_of_ble_eq_true rfl, Nat.le_of_ble_eq_true rfl⟩) ⟨gblind, va_recv hK hP (ci := 7) (q0 := k_8) rfl hk_8, fun U hU hW9 => gmk hU hW9 hP hK hD hex hE hS hFc⟩ rfl rfl hl.1 rfl (lv_room (Nat.le_of_ble_eq_true rfl)) dX9_liveBehind_31 ⟨Nat.le_of_ble_eq_true rfl, Nat.le_of_ble_eq_true rfl⟩) hS (fun q _ h => hFc q h) hFc (fun r_9 u9 t9 H1 locs ht9 hvm9 hw9 hB9 hz9 hk9 hS => ?_)
    have hP : va_P (gD g) cl0 ws H1 := by rw [← ht9]; exact hB9.1
    clear hB9 hz9 hk9 hvm9 ht9 hw9
    generalize H1 = H at hP hS ⊢
    refine lv_istore_n (lv' := [(3, .int r_9), (2, .int t_5), (0, .ref h0), (1, .int x1)]) hx hb dX9_liveBehind_34 rfl hl (by decide) rfl (fun ls hl => ?_)
    refine lv_iconst (v := 0) hx hb dX9_liveBehind_35 (by decide) ?_
    refine lv_istore (lv' := [(4, .int 0), (3, .int r_9), (2, .int t_5), (0, .ref h0), (1, .int x1)]) hx hb dX9_liveBehind_36 hl (by decide) rfl (fun ls hl => ?_)
    have J_38 : ∀ (n9 : Nat) (v2_10 : Int32) (v4_11 : Int32) (H : Heap) (locs : List Loc) (ls : Array Slot), (2147483647 - v4_11.toInt).toNat = n9 → 0 ≤ v4_11.toInt → va_P (gD g) cl0 ws H → va_D A ws → va_S A s.heap H locs → lv_has ls 5 [(0, .ref h0), (1, .int x1), (2, .int v2_10), (3, .int r_9), (4, .int v4_11)] → W p l e (headSpec (wt yX9_liveBehind cX9_liveBehind 5 (some .int)) ({ frames := 2, cells := 0, slots := 0, locals := 43 })).room s m ([.ref h0, .int x1] : List Value).toArray below meth c H locs (0) (0) (MQ below (va_Qi (fun (r : Int32) (u9 : Unit) => True) (gQ0 g A ws) A) ([.ref h0, .int x1] : List Value).toArray s (0) (0) A) (F0 m 38 ls []) := by
      intro n9
      induction n9 using Nat.strongRecOn with
      | ind n9 ih_38 =>
        intro v2_10 v4_11 H locs ls hm9 iv_12 hP hD hS hl
        subst hm9
        refine lv_iload hx hb dX9_liveBehind_38 (lv_at hl 4 rfl) ?_
        refine lv_iload_n hx hb dX9_liveBehind_40 rfl (lv_at hl 3 rfl) ?_
        refine lv_icmp_ge (tgt := 67) hx hb dX9_liveBehind_41 (by decide) (fun c_15 => ?_) (fun c_15 => ?_)
        · refine lv_iload_n hx hb dX9_liveBehind_67 rfl (lv_at hl 2 rfl) ?_
          refine W.widen (k := 0) (n := 0) (Nat.le_of_ble_eq_true rfl) (Nat.le_of_ble_eq_true rfl) ?_
          exact W.iret (v := v2_10) hx hb hr (fun t9 ht9 hW9 => ⟨⟨_, (), rfl, trivial, ⟨by rw [ht9]; exact hP, hD⟩⟩, hS.F ht9⟩) hS.2.2 dX9_liveBehind_68
        · refine lv_iload_n hx hb dX9_liveBehind_44 rfl (lv_at hl 2 rfl) ?_
          refine lv_aload_n hx hb dX9_liveBehind_45 rfl (lv_at hl 0 rfl) ?_
          refine lv_aload_n hx hb dX9_liveBehind_46 rfl (lv_at hl 0 rfl) ?_
          refine va_get (D := gD g) (ci := 8) (v := .ref r0_1) (C := RX9) (T := TX9) (N := 6) hx hb hts inX9 hown hK hP k_1 hk_1 rfl 0 (by decide) (hts _ kw_1552) (fun _ h9 => h9) rfl dX9_liveBehind_47 ?_
          refine lv_iload_n hx hb dX9_liveBehind_50 rfl (lv_at hl 1 rfl) ?_
          refine lv_iload hx hb dX9_liveBehind_51 (lv_at hl 4 rfl) ?_
          have hFc := gfree hD hS hA
          obtain ⟨k_16, fs_16, hk_16⟩ := gC_of o_r0_1
          refine va_calli (va_runV (As := [.int x1, .int v4_11]) (rest := [.ref h0, .int v2_10]) ⟨hx, hb, hml, hown, hts⟩ (m_X8_targetAt l g H.size ws r0_1 (x1) (v4_11) hG o_r0_1) (cwV 2 hts (gd_V kw_1568 kw_1537 kw_1538 kw_782 kw_1536) rfl rfl rfl (by decide +kernel) ⟨Nat.le_of_ble_eq_true rfl, Nat.le_of_ble_eq_true rfl⟩) ⟨gblind, va_recv hK hP (ci := 7) (q0 := k_16) rfl hk_16, fun U hU hW9 => gmk hU hW9 hP hK hD hex hE hS hFc⟩ rfl rfl hl.1 rfl (lv_room (Nat.le_of_ble_eq_true rfl)) dX9_liveBehind_53 ⟨Nat.le_of_ble_eq_true rfl, Nat.le_of_ble_eq_true rfl⟩) hS (fun q _ h => hFc q h) hFc (fun r_17 u9 t9 H1 locs ht9 hvm9 hw9 hB9 hz9 hk9 hS => ?_)
          have hP : va_P (gD g) cl0 ws H1 := by rw [← ht9]; exact hB9.1
          clear hB9 hz9 hk9 hvm9 ht9 hw9
          generalize H1 = H at hP hS ⊢
          have hFc := gfree hD hS hA
          refine va_calli (va_runV (As := [.int r_17]) (rest := [.int v2_10]) ⟨hx, hb, hml, hown, hts⟩ (m_X9_liveAt l g H.size ws h0 (r_17) hG o_h0 (gP_of hD hk_1 (fun p90 q90 e90 g90 => by cases e90; have z90 := gI_n hD a_r2_1 g90; subst z90; exact (by have q_f4_1 := f4_1; have q_fq_a := fq_a; omega))) (gP_of hD hk_1 (fun p90 q90 e90 g90 => by cases e90; have z90 := gI_n hD a_r3_1 g90; subst z90; exact (by have q_f6_1 := f6_1; have q_fq_b := fq_b; omega))) (gP_of hD hk_1 (fun p90 q90 e90 g90 => by cases e90; have z90 := gI_n hD a_r4_1 g90; subst z90; exact (by have q_f8_1 := f8_1; have q_fq_d := fq_d; omega))) (gP_of hD hk_1 (fun p90 q90 e90 g90 => by cases e90; have z90 := gI_n hD a_r5_1 g90; subst z90; exact (by have q_f10_1 := f10_1; have q_fq_f := fq_f; omega)))) (cwV 1 hts (gd_V kw_1668 kw_1661 kw_1662 kw_404 kw_1660) rfl rfl rfl (by decide +kernel) ⟨Nat.le_of_ble_eq_true rfl, Nat.le_of_ble_eq_true rfl⟩) ⟨gblind, va_recv hK hP (ci := 8) (q0 := k_1) rfl hk_1, fun U hU hW9 => gmk hU hW9 hP hK hD hex hE hS hFc⟩ rfl rfl hl.1 rfl (lv_room (Nat.le_of_ble_eq_true rfl)) dX9_liveBehind_56 ⟨Nat.le_of_ble_eq_true rfl, Nat.le_of_ble_eq_true rfl⟩) hS (fun q _ h => hFc q h) hFc (fun r_18 u9 t9 H1 locs ht9 hvm9 hw9 hB9 hz9 hk9 hS => ?_)
          have hP : va_P (gD g) cl0 ws H1 := by rw [← ht9]; exact hB9.1
          clear hB9 hz9 hk9 hvm9 ht9 hw9
          generalize H1 = H at hP hS ⊢
          refine lv_ior hx hb dX9_liveBehind_59 ?_
          refine lv_topi (fun z_19 ez_19 => ?_)
          refine lv_istore_n (lv' := [(2, .int z_19), (0, .ref h0), (1, .int x1), (3, .int r_9), (4, .int v4_11)]) hx hb dX9_liveBehind_60 rfl hl (by decide) rfl (fun ls hl => ?_)
          obtain ⟨z_20, ez_20⟩ : ∃ z : Int32, v4_11 + Int32.ofInt 1 = z := ⟨_, rfl⟩
          refine lv_iinc (v := z_20) (lv' := [(4, .int z_20), (2, .int z_19), (0, .ref h0), (1, .int x1), (3, .int r_9)]) hx hb dX9_liveBehind_61 hl (k := 4) rfl ez_20 (by decide) rfl (fun ls hl => ?_)
          refine lv_goto (tgt := 38) hx hb dX9_liveBehind_64 (by decide) ?_
          exact ih_38 _ (by obtain ⟨u_z_20, q_z_20⟩ := i_iz ez_20 (by decide) (by decide); have q_iv_12 := iv_12; have q_c_15 := i_nle c_15; have g_r_9 := i_rg r_9; have g_v4_11 := i_rg v4_11; have g_z_19 := i_rg z_19; have g_z_20 := i_rg z_20; omega) (z_19) (z_20) H locs ls rfl (by obtain ⟨u_z_20, q_z_20⟩ := i_iz ez_20 (by decide) (by decide); have q_iv_12 := iv_12; have q_c_15 := i_nle c_15; have g_r_9 := i_rg r_9; have g_v4_11 := i_rg v4_11; have g_z_20 := i_rg z_20; omega) hP hD hS (lv_sub hl [2, 3, 1, 4, 0] rfl)
    exact J_38 _ (t_5) (0) H locs ls rfl (by have e0 : (0 : Int32).toInt = 0 := (by decide); omega) hP hD hS (lv_sub hl [3, 4, 2, 1, 0] rfl)
  refine lv_if_eq (tgt := 24) hx hb dX9_liveBehind_11 (by decide) (fun c_21 => ?_) (fun c_21 => ?_)
  · refine lv_iconst (v := 0) hx hb dX9_liveBehind_24 (by decide) ?_
    exact J_25 (0) H locs ls  hP hD hS (lv_sub hl [0, 1] rfl)
  · refine lv_aload_n hx hb dX9_liveBehind_14 rfl (lv_at hl 0 rfl) ?_
    refine lv_iload_n hx hb dX9_liveBehind_15 rfl (lv_at hl 1 rfl) ?_
    refine lv_iconst (v := 1) hx hb dX9_liveBehind_16 (by decide) ?_
    refine lv_iadd hx hb dX9_liveBehind_17 ?_
    refine lv_topi (fun z_22 ez_22 => ?_)
    have hFc := gfree hD hS hA
    refine va_calli (va_runV (As := [.int z_22]) (rest := []) ⟨hx, hb, hml, hown, hts⟩ (m_X9_liveAt l g H.size ws h0 (z_22) hG o_h0 (gP_of hD hk_1 (fun p90 q90 e90 g90 => by cases e90; have z90 := gI_n hD a_r2_1 g90; subst z90; exact (by have q_f4_1 := f4_1; have q_fq_a := fq_a; omega))) (gP_of hD hk_1 (fun p90 q90 e90 g90 => by cases e90; have z90 := gI_n hD a_r3_1 g90; subst z90; exact (by have q_f6_1 := f6_1; have q_fq_b := fq_b; omega))) (gP_of hD hk_1 (fun p90 q90 e90 g90 => by cases e90; have z90 := gI_n hD a_r4_1 g90; subst z90; exact (by have q_f8_1 := f8_1; have q_fq_d := fq_d; omega))) (gP_of hD hk_1 (fun p90 q90 e90 g90 => by cases e90; have z90 := gI_n hD a_r5_1 g90; subst z90; exact (by have q_f10_1 := f10_1; have q_fq_f := fq_f; omega)))) (cwV 1 hts (gd_V kw_1668 kw_1661 kw_1662 kw_404 kw_1660) rfl rfl rfl (by decide +kernel) ⟨Nat.le_of_ble_eq_true rfl, Nat.le_of_ble_eq_true rfl⟩) ⟨gblind, va_recv hK hP (ci := 8) (q0 := k_1) rfl hk_1, fun U hU hW9 => gmk hU hW9 hP hK hD hex hE hS hFc⟩ rfl rfl hl.1 rfl (lv_room (Nat.le_of_ble_eq_true rfl)) dX9_liveBehind_18 ⟨Nat.le_of_ble_eq_true rfl, Nat.le_of_ble_eq_true rfl⟩) hS (fun q _ h => hFc q h) hFc (fun r_23 u9 t9 H1 locs ht9 hvm9 hw9 hB9 hz9 hk9 hS => ?_)
    have hP : va_P (gD g) cl0 ws H1 := by rw [← ht9]; exact hB9.1
    clear hB9 hz9 hk9 hvm9 ht9 hw9
    generalize H1 = H at hP hS ⊢
    refine lv_goto (tgt := 25) hx hb dX9_liveBehind_21 (by decide) ?_
    exact J_25 (r_23) H locs ls  hP hD hS (lv_sub hl [0, 1] rfl)
set_option maxHeartbeats 1000000 in
set_option maxRecDepth 100000 in
theorem m_X9_findReached (l : Launch) (g : Gm) (sz : Nat) (ws : va_W) (h0 : Nat) (hG : Good g ws) (o_h0 : gC ws h0 8) (fp_a : gP ws h0 (fun fs => ∀ (rn n : Nat), fs[2]? = some (.ref rn) → gI ws rn g.cZ n → 1297 ≤ n)) (fp_b : gP ws h0 (fun fs => ∀ (rn n : Nat), fs[3]? = some (.ref rn) → gI ws rn g.cZ n → 1297 ≤ n)) (fp_d : gP ws h0 (fun fs => ∀ (rn n : Nat), fs[4]? = some (.ref rn) → gI ws rn g.cI n → 1297 ≤ n)) (fp_f : gP ws h0 (fun fs => ∀ (rn n : Nat), fs[5]? = some (.ref rn) → gI ws rn g.cI n → 1297 ≤ n)) : Met l yX9_findReached (wt yX9_findReached cX9_findReached 4 none) ({ frames := 3, cells := 0, slots := 0, locals := 67 }) (va_Pc [.ref h0] (st_G g sz ws)) (va_Qv (fun (u9 : va_W) => True) (gQ1 g [] [(8, 3)] none (va_A ws sz) ws) (va_A ws sz)) (0) (0) (va_A ws sz) := by
  refine Met.ofW (cc := cX9_findReached) (maxL := 4) (ret := none) (by decide) rfl ?_
  intro p e s m args below meth c s₁ B hml hv
  obtain ⟨rfl, hsz, hP, hK, hD0, hex, hE⟩ := hv
  have hx := B.exec
  have hb := B.bytes
  have hr := B.returns
  have hts0 := atoms_spec (ws := wt yX9_findReached cX9_findReached 4 none) B.pre
  have hts : ∀ w ∈ tb, w.before _ s = true := fun w h => hts0 w (List.mem_cons_of_mem _ h)
  have hown : s.vm.findClass RX9 = some m.cls := findClass_of_methodNamed B.named
  subst hsz
  have hD := hD0.self (sz := s.heap.size)
  generalize hAe : va_A ws s.heap.size = A at hD hE ⊢
  have hA : ∀ q : Nat, s.heap.size ≤ q → A q := fun q h => by rw [← hAe]; exact Or.inr h
  have hS : va_S A s.heap s.heap [] := va_S.rf
  have hl := lv_entry ([.ref h0]) (n := 4) (Nat.le_of_ble_eq_true rfl)
  rw [lg_entry_eq]
  generalize (lg_sl ([.ref h0]) ++ List.replicate (4 - (lg_sl ([.ref h0])).length) Slot.unset).toArray = ls at hl ⊢
  have hl : lv_has ls 4 [(0, .ref h0)] := hl
  obtain ⟨k_1, fs9, hk_1⟩ := gC_of o_h0
  obtain ⟨r0_1, r1_1, n1_1, r2_1, n2_1, r3_1, n3_1, r4_1, n4_1, r5_1, n5_1, rfl, o_r0_1, a_r1_1, f2_1, a_r2_1, f4_1, a_r3_1, f6_1, a_r4_1, f8_1, a_r5_1, f10_1, f11_1, -⟩ := (hG.1 _ _ _ _ hk_1).hX9 rfl
  have fq_a := fp_a _ _ _ hk_1 _ _ rfl a_r2_1
  have fq_b := fp_b _ _ _ hk_1 _ _ rfl a_r3_1
  have fq_d := fp_d _ _ _ hk_1 _ _ rfl a_r4_1
  have fq_f := fp_f _ _ _ hk_1 _ _ rfl a_r5_1
  refine lv_iconst (v := 0) hx hb dX9_findReached_0 (by decide) ?_
  refine lv_istore_n (lv' := [(1, .int 0), (0, .ref h0)]) hx hb dX9_findReached_1 rfl hl (by decide) rfl (fun ls hl => ?_)
  have J_2 : ∀ (n9 : Nat) (v1_2 : Int32) (ws_4 : va_W) (H : Heap) (locs : List Loc) (ls : Array Slot), (2147483647 - v1_2.toInt).toNat = n9 → 0 ≤ v1_2.toInt → gE ws ws_4 → gF [] [(8, 3)] none ws ws_4 → Good g ws_4 → va_P (gD g) cl0 ws_4 H → va_D A ws_4 → va_S A s.heap H locs → lv_has ls 4 [(0, .ref h0), (1, .int v1_2)] → W p l e (headSpec (wt yX9_findReached cX9_findReached 4 none) ({ frames := 3, cells := 0, slots := 0, locals := 67 })).room s m ([.ref h0] : List Value).toArray below meth c H locs (0) (0) (MQ below (va_Qv (fun (u9 : va_W) => True) (gQ1 g [] [(8, 3)] none A ws) A) ([.ref h0] : List Value).toArray s (0) (0) A) (F0 m 2 ls []) := by
    intro n9
    induction n9 using Nat.strongRecOn with
    | ind n9 ih_2 =>
      intro v1_2 ws_4 H locs ls hm9 iv_3 E_5 Fr_6 hG hP hD hS hl
      subst hm9
      have aa_7 := a_r1_1
      have aa_8 := a_r2_1
      have aa_9 := a_r3_1
      have aa_10 := a_r4_1
      have aa_11 := a_r5_1
      have o_h0 := E_5.1 _ _ o_h0
      refine lv_iload_n hx hb dX9_findReached_2 rfl (lv_at hl 1 rfl) ?_
      refine lv_aload_n hx hb dX9_findReached_3 rfl (lv_at hl 0 rfl) ?_
      obtain ⟨fs9, hk_12, hq_12⟩ := ((gF.a (F' := []) Fr_6 (fun _ h => h))) _ _ _ hk_1
      obtain ⟨r0_12, r1_12, n1_12, r2_12, n2_12, r3_12, n3_12, r4_12, n4_12, r5_12, n5_12, rfl, o_r0_12, a_r1_12, f2_12, a_r2_12, f4_12, a_r3_12, f6_12, a_r4_12, f8_12, a_r5_12, f10_12, f11_12, -⟩ := (hG.1 _ _ _ _ hk_12).hX9 rfl
      obtain rfl := fe_r (hq_12 0 (by decide))
      have o_r0_1 := o_r0_12
      obtain rfl := fe_r (hq_12 2 (by decide))
      have hn9 := gI_n hD ((E_5).1 _ _ aa_8) a_r2_12
      subst hn9
      have a_r2_1 := a_r2_12
      obtain rfl := fe_r (hq_12 3 (by decide))
      have hn9 := gI_n hD ((E_5).1 _ _ aa_9) a_r3_12
      subst hn9
      have a_r3_1 := a_r3_12
      obtain rfl := fe_r (hq_12 4 (by decide))
      have hn9 := gI_n hD ((E_5).1 _ _ aa_10) a_r4_12
      subst hn9
      have a_r4_1 := a_r4_12
      obtain rfl := fe_r (hq_12 5 (by decide))
      have hn9 := gI_n hD ((E_5).1 _ _ aa_11) a_r5_12
      subst hn9
      have a_r5_1 := a_r5_12
      refine va_get (D := gD g) (ci := 8) (v := .ref r3_1) (C := RX9) (T := TX9) (N := 6) hx hb hts inX9 hown hK hP k_1 hk_12 rfl 3 (by decide) (hts _ kw_1554) (fun _ h9 => h9) rfl dX9_findReached_4 ?_
      obtain ⟨k_13, f_13, hk_13⟩ := gI_of a_r3_1
      obtain ⟨z_14, ez_14⟩ : ∃ z : Int32, Int32.ofNat n3_1 = z := ⟨_, rfl⟩
      refine va_alen (v := z_14) hx hb hK hP k_13 2 hk_13 rfl ez_14 dX9_findReached_7 ?_
      refine lv_icmp_ge (tgt := 32) hx hb dX9_findReached_8 (by decide) (fun c_15 => ?_) (fun c_15 => ?_)
      · refine lv_iconst (v := 1) hx hb dX9_findReached_32 (by decide) ?_
        refine lv_istore_n (lv' := [(1, .int 1), (0, .ref h0)]) hx hb dX9_findReached_33 rfl hl (by decide) rfl (fun ls hl => ?_)
        refine lv_iconst (v := 0) hx hb dX9_findReached_34 (by decide) ?_
        refine lv_istore_n (lv' := [(2, .int 0), (1, .int 1), (0, .ref h0)]) hx hb dX9_findReached_35 rfl hl (by decide) rfl (fun ls hl => ?_)
        have J_36 : ∀ (n9 : Nat) (v1_16 : Int32) (v2_17 : Int32) (ws_19 : va_W) (H : Heap) (locs : List Loc) (ls : Array Slot), (2147483647 - v2_17.toInt).toNat = n9 → 0 ≤ v2_17.toInt → gE ws_4 ws_19 → gF [] [(8, 3)] none ws_4 ws_19 → Good g ws_19 → va_P (gD g) cl0 ws_19 H → va_D A ws_19 → va_S A s.heap H locs → lv_has ls 4 [(0, .ref h0), (1, .int v1_16), (2, .int v2_17)] → W p l e (headSpec (wt yX9_findReached cX9_findReached 4 none) ({ frames := 3, cells := 0, slots := 0, locals := 67 })).room s m ([.ref h0] : List Value).toArray below meth c H locs (0) (0) (MQ below (va_Qv (fun (u9 : va_W) => True) (gQ1 g [] [(8, 3)] none A ws) A) ([.ref h0] : List Value).toArray s (0) (0) A) (F0 m 36 ls []) := by
          intro n9
          induction n9 using Nat.strongRecOn with
          | ind n9 ih_36 =>
            intro v1_16 v2_17 ws_19 H locs ls hm9 iv_18 E_20 Fr_21 hG hP hD hS hl
            subst hm9
            have aa_22 := a_r1_12
            have aa_23 := a_r2_1
            have aa_24 := a_r3_1
            have aa_25 := a_r4_1
            have aa_26 := a_r5_1
            have o_h0 := E_20.1 _ _ o_h0
            refine lv_iload_n hx hb dX9_findReached_36 rfl (lv_at hl 1 rfl) ?_
            have J_90 : ∀  (H : Heap) (locs : List Loc) (ls : Array Slot), va_P (gD g) cl0 ws_19 H → va_D A ws_19 → va_S A s.heap H locs → lv_has ls 4 [] → W p l e (headSpec (wt yX9_findReached cX9_findReached 4 none) ({ frames := 3, cells := 0, slots := 0, locals := 67 })).room s m ([.ref h0] : List Value).toArray below meth c H locs (0) (0) (MQ below (va_Qv (fun (u9 : va_W) => True) (gQ1 g [] [(8, 3)] none A ws) A) ([.ref h0] : List Value).toArray s (0) (0) A) (F0 m 90 ls []) := by
              intro  H locs ls  hP hD hS hl
              refine W.widen (k := 0) (n := 0) (Nat.le_of_ble_eq_true rfl) (Nat.le_of_ble_eq_true rfl) ?_
              exact W.vret hx hb hr (fun t9 ht9 hW9 => ⟨⟨ws_19, rfl, trivial, ⟨(E_5.tr E_20), (gF.tr Fr_6 Fr_21), hG, by rw [ht9]; exact hP, hD⟩⟩, hS.F ht9⟩) hS.2.2 dX9_findReached_90
            refine lv_if_eq (tgt := 90) hx hb dX9_findReached_37 (by decide) (fun c_29 => ?_) (fun c_29 => ?_)
            · exact J_90  H locs ls  hP hD hS (lv_sub hl [] rfl)
            · refine lv_iload_n hx hb dX9_findReached_40 rfl (lv_at hl 2 rfl) ?_
              refine lv_ldc hx hb hown (hts _ kw_1561) dX9_findReached_41 ?_
              refine lv_icmp_ge (tgt := 90) hx hb dX9_findReached_43 (by decide) (fun c_30 => ?_) (fun c_30 => ?_)
              · exact J_90  H locs ls  hP hD hS (lv_sub hl [] rfl)
              · refine lv_iconst (v := 0) hx hb dX9_findReached_46 (by decide) ?_
                refine lv_istore_n (lv' := [(1, .int 0), (0, .ref h0), (2, .int v2_17)]) hx hb dX9_findReached_47 rfl hl (by decide) rfl (fun ls hl => ?_)
                refine lv_iconst (v := 0) hx hb dX9_findReached_48 (by decide) ?_
                refine lv_istore_n (lv' := [(3, .int 0), (1, .int 0), (0, .ref h0), (2, .int v2_17)]) hx hb dX9_findReached_49 rfl hl (by decide) rfl (fun ls hl => ?_)
                have J_50 : ∀ (n9 : Nat) (v1_31 : Int32) (v3_32 : Int32) (ws_34 : va_W) (H : Heap) (locs : List Loc) (ls : Array Slot), (2147483647 - v3_32.toInt).toNat = n9 → 0 ≤ v3_32.toInt → gE ws_19 ws_34 → gF [] [(8, 3)] none ws_19 ws_34 → Good g ws_34 → va_P (gD g) cl0 ws_34 H → va_D A ws_34 → va_S A s.heap H locs → lv_has ls 4 [(0, .ref h0), (1, .int v1_31), (2, .int v2_17), (3, .int v3_32)] → W p l e (headSpec (wt yX9_findReached cX9_findReached 4 none) ({ frames := 3, cells := 0, slots := 0, locals := 67 })).room s m ([.ref h0] : List Value).toArray below meth c H locs (0) (0) (MQ below (va_Qv (fun (u9 : va_W) => True) (gQ1 g [] [(8, 3)] none A ws) A) ([.ref h0] : List Value).toArray s (0) (0) A) (F0 m 50 ls []) := by
                  intro n9
                  induction n9 using Nat.strongRecOn with
                  | ind n9 ih_50 =>
                    intro v1_31 v3_32 ws_34 H locs ls hm9 iv_33 E_35 Fr_36 hG hP hD hS hl
                    subst hm9
                    have o_h0 := E_35.1 _ _ o_h0
                    refine lv_iload_n hx hb dX9_findReached_50 rfl (lv_at hl 3 rfl) ?_
                    refine lv_aload_n hx hb dX9_findReached_51 rfl (lv_at hl 0 rfl) ?_
                    obtain ⟨fs9, hk_37, hq_37⟩ := ((gA.tr (gF.a (F' := []) Fr_21 (fun _ h => h)) (gF.a (F' := []) Fr_36 (fun _ h => h)))) _ _ _ hk_12
                    obtain ⟨r0_37, r1_37, n1_37, r2_37, n2_37, r3_37, n3_37, r4_37, n4_37, r5_37, n5_37, rfl, o_r0_37, a_r1_37, f2_37, a_r2_37, f4_37, a_r3_37, f6_37, a_r4_37, f8_37, a_r5_37, f10_37, f11_37, -⟩ := (hG.1 _ _ _ _ hk_37).hX9 rfl
                    obtain rfl := fe_r (hq_37 0 (by decide))
                    have o_r0_1 := o_r0_37
                    obtain rfl := fe_r (hq_37 2 (by decide))
                    have hn9 := gI_n hD (((E_20.tr E_35)).1 _ _ aa_23) a_r2_37
                    subst hn9
                    have a_r2_1 := a_r2_37
                    obtain rfl := fe_r (hq_37 3 (by decide))
                    have hn9 := gI_n hD (((E_20.tr E_35)).1 _ _ aa_24) a_r3_37
                    subst hn9
                    have a_r3_1 := a_r3_37
                    obtain rfl := fe_r (hq_37 4 (by decide))
                    have hn9 := gI_n hD (((E_20.tr E_35)).1 _ _ aa_25) a_r4_37
                    subst hn9
                    have a_r4_1 := a_r4_37
                    obtain rfl := fe_r (hq_37 5 (by decide))
                    have hn9 := gI_n hD (((E_20.tr E_35)).1 _ _ aa_26) a_r5_37
                    subst hn9
                    have a_r5_1 := a_r5_37
                    refine va_get (D := gD g) (ci := 8) (v := .ref r0_1) (C := RX9) (T := TX9) (N := 6) hx hb hts inX9 hown hK hP k_1 hk_37 rfl 0 (by decide) (hts _ kw_1552) (fun _ h9 => h9) rfl dX9_findReached_52 ?_
                    obtain ⟨k_38, fs9, hk_38⟩ := gC_of o_r0_1
                    obtain ⟨r0_38, n0_38, r1_38, n1_38, c2_38, r3_38, n3_38, c4_38, r5_38, n5_38, r6_38, n6_38, r7_38, n7_38, r8_38, n8_38, c9_38, c10_38, c11_38, v12_38, v13_38, v14_38, rfl, a_r0_38, f1_38, a_r1_38, f3_38, a_r3_38, f5_38, a_r5_38, f7_38, a_r6_38, f9_38, a_r7_38, f11_38, a_r8_38, f13_38, o_v12_38, o_v13_38, o_v14_38, f17_38, f18_38, f19_38, f20_38, f21_38, f22_38, f23_38, f24_38, f25_38, f26_38, f27_38, f28_38, f29_38, -⟩ := (hG.1 _ _ _ _ hk_38).hX8 rfl
                    refine va_get (D := gD g) (ci := 7) (v := .int c2_38) (C := RX8) (T := TX8) (N := 15) hx hb hts inX8 hown hK hP k_38 hk_38 rfl 2 (by decide) (hts _ kw_1553) (fun _ h9 => h9) rfl dX9_findReached_55 ?_
                    refine lv_icmp_ge (tgt := 84) hx hb dX9_findReached_58 (by decide) (fun c_39 => ?_) (fun c_39 => ?_)
                    · obtain ⟨z_40, ez_40⟩ : ∃ z : Int32, v2_17 + Int32.ofInt 1 = z := ⟨_, rfl⟩
                      refine lv_iinc (v := z_40) (lv' := [(2, .int z_40), (0, .ref h0), (1, .int v1_31), (3, .int v3_32)]) hx hb dX9_findReached_84 hl (k := 2) rfl ez_40 (by decide) rfl (fun ls hl => ?_)
                      refine lv_goto (tgt := 36) hx hb dX9_findReached_87 (by decide) ?_
                      exact ih_36 _ (by have e1000000 : (1000000 : Int32).toInt = 1000000 := (by decide); obtain ⟨u_z_40, q_z_40⟩ := i_iz ez_40 (by decide) (by decide); have q_iv_18 := iv_18; have q_c_30 := i_nle c_30; have g_v1_31 := i_rg v1_31; have g_v2_17 := i_rg v2_17; have g_z_40 := i_rg z_40; omega) (v1_31) (z_40) ws_34 H locs ls rfl (by have e1000000 : (1000000 : Int32).toInt = 1000000 := (by decide); obtain ⟨u_z_40, q_z_40⟩ := i_iz ez_40 (by decide) (by decide); have q_iv_18 := iv_18; have q_c_30 := i_nle c_30; have g_v2_17 := i_rg v2_17; have g_z_40 := i_rg z_40; omega) ((E_20.tr E_35)) ((gF.tr Fr_21 Fr_36)) hG hP hD hS (lv_sub hl [1, 2, 0] rfl)
                    · refine lv_aload_n hx hb dX9_findReached_61 rfl (lv_at hl 0 rfl) ?_
                      refine va_get (D := gD g) (ci := 8) (v := .ref r3_1) (C := RX9) (T := TX9) (N := 6) hx hb hts inX9 hown hK hP k_1 hk_37 rfl 3 (by decide) (hts _ kw_1554) (fun _ h9 => h9) rfl dX9_findReached_62 ?_
                      refine lv_iload_n hx hb dX9_findReached_65 rfl (lv_at hl 3 rfl) ?_
                      obtain ⟨k_41, f_41, hk_41⟩ := gI_of a_r3_1
                      refine va_zald hx hb hK hP k_41 2 hk_41 rfl (i_in2 (by have q_f6_1 := f6_1; have q_fq_b := fq_b; have q_z_14 := i_len ez_14 f6_12; have q_iv_33 := iv_33; have q_c_39 := i_nle c_39; have q_c_15 := i_le c_15; have q_f19_38 := f19_38; have q_f20_38 := f20_38; have g_c2_38 := i_rg c2_38; have g_v1_2 := i_rg v1_2; have g_v3_32 := i_rg v3_32; have g_z_14 := i_rg z_14; omega)) dX9_findReached_66 ?_
                      refine lv_topi (fun z_42 ez_42 => ?_)
                      have J_78 : ∀ (v1_43 : Int32) (ws_44 : va_W) (H : Heap) (locs : List Loc) (ls : Array Slot), gE ws_34 ws_44 → gF [] [(8, 3)] none ws_34 ws_44 → Good g ws_44 → va_P (gD g) cl0 ws_44 H → va_D A ws_44 → va_S A s.heap H locs → lv_has ls 4 [(0, .ref h0), (1, .int v1_43), (2, .int v2_17), (3, .int v3_32)] → W p l e (headSpec (wt yX9_findReached cX9_findReached 4 none) ({ frames := 3, cells := 0, slots := 0, locals := 67 })).room s m ([.ref h0] : List Value).toArray below meth c H locs (0) (0) (MQ below (va_Qv (fun (u9 : va_W) => True) (gQ1 g [] [(8, 3)] none A ws) A) ([.ref h0] : List Value).toArray s (0) (0) A) (F0 m 78 ls []) := by
                        intro v1_43 ws_44 H locs ls  E_45 Fr_46 hG hP hD hS hl
                        have aa_47 := a_r1_37
                        have aa_48 := a_r2_1
                        have aa_49 := a_r3_1
                        have aa_50 := a_r4_1
                        have aa_51 := a_r5_1
                        have aa_52 := a_r0_38
                        have aa_53 := a_r1_38
                        have aa_54 := a_r3_38
                        have aa_55 := a_r5_38
                        have aa_56 := a_r6_38
                        have aa_57 := a_r7_38
                        have aa_58 := a_r8_38
                        have o_h0 := E_45.1 _ _ o_h0
                        obtain ⟨z_59, ez_59⟩ : ∃ z : Int32, v3_32 + Int32.ofInt 1 = z := ⟨_, rfl⟩
                        refine lv_iinc (v := z_59) (lv' := [(3, .int z_59), (0, .ref h0), (1, .int v1_43), (2, .int v2_17)]) hx hb dX9_findReached_78 hl (k := 3) rfl ez_59 (by decide) rfl (fun ls hl => ?_)
                        refine lv_goto (tgt := 50) hx hb dX9_findReached_81 (by decide) ?_
                        exact ih_50 _ (by obtain ⟨u_z_59, q_z_59⟩ := i_iz ez_59 (by decide) (by decide); have q_iv_33 := iv_33; have q_c_39 := i_nle c_39; have g_c2_38 := i_rg c2_38; have g_v1_43 := i_rg v1_43; have g_v3_32 := i_rg v3_32; have g_z_59 := i_rg z_59; omega) (v1_43) (z_59) ws_44 H locs ls rfl (by obtain ⟨u_z_59, q_z_59⟩ := i_iz ez_59 (by decide) (by decide); have q_iv_33 := iv_33; have q_c_39 := i_nle c_39; have g_c2_38 := i_rg c2_38; have g_v3_32 := i_rg v3_32; have g_z_59 := i_rg z_59; omega) ((E_35.tr E_45)) ((gF.tr Fr_36 Fr_46)) hG hP hD hS (lv_sub hl [1, 2, 3, 0] rfl)
                      refine lv_if_eq (tgt := 78) hx hb dX9_findReached_67 (by decide) (fun c_60 => ?_) (fun c_60 => ?_)
                      · exact J_78 (v1_31) ws_34 H locs ls (gE.rf) (gF.rf) hG hP hD hS (lv_sub hl [0, 1, 2, 3] rfl)
                      · refine lv_iload_n hx hb dX9_findReached_70 rfl (lv_at hl 1 rfl) ?_
                        refine lv_aload_n hx hb dX9_findReached_71 rfl (lv_at hl 0 rfl) ?_
                        refine lv_iload_n hx hb dX9_findReached_72 rfl (lv_at hl 3 rfl) ?_
                        have hFc := gfree hD hS hA
                        refine va_calli (va_runV (As := [.int v3_32]) (rest := [.int v1_31]) ⟨hx, hb, hml, hown, hts⟩ (m_X9_reachFrom l g H.size ws_34 h0 (v3_32) hG o_h0 (gP_of hD hk_37 (fun p90 q90 e90 g90 => by cases e90; have z90 := gI_n hD a_r2_1 g90; subst z90; exact (by have q_f4_1 := f4_1; have q_fq_a := fq_a; omega))) (gP_of hD hk_37 (fun p90 q90 e90 g90 => by cases e90; have z90 := gI_n hD a_r3_1 g90; subst z90; exact (by have q_f6_1 := f6_1; have q_fq_b := fq_b; have q_z_14 := i_len ez_14 f6_12; have q_c_15 := i_le c_15; have g_v1_2 := i_rg v1_2; have g_z_14 := i_rg z_14; omega))) (gP_of hD hk_37 (fun p90 q90 e90 g90 => by cases e90; have z90 := gI_n hD a_r4_1 g90; subst z90; exact (by have q_f8_1 := f8_1; have q_fq_d := fq_d; omega))) (gP_of hD hk_37 (fun p90 q90 e90 g90 => by cases e90; have z90 := gI_n hD a_r5_1 g90; subst z90; exact (by have q_f10_1 := f10_1; have q_fq_f := fq_f; omega)))) (cwV 1 hts (gd_V kw_1577 kw_1715 kw_1716 kw_404 kw_1714) rfl rfl rfl (by decide +kernel) ⟨Nat.le_of_ble_eq_true rfl, Nat.le_of_ble_eq_true rfl⟩) ⟨gblind, va_recv hK hP (ci := 8) (q0 := k_1) rfl hk_37, fun U hU hW9 => gmk hU hW9 hP hK hD hex hE hS hFc⟩ rfl rfl hl.1 rfl (lv_room (Nat.le_of_ble_eq_true rfl)) dX9_findReached_73 ⟨Nat.le_of_ble_eq_true rfl, Nat.le_of_ble_eq_true rfl⟩) hS (fun q _ h => hFc q h) hFc (fun r_61 ws_62 t9 H1 locs ht9 hvm9 hw9 hB9 hz9 hk9 hS => ?_)
                        obtain ⟨E_63, Fr_64, hG, hP1, hD1⟩ := hB9
                        have hP : va_P (gD g) cl0 ws_62 H1 := by rw [← ht9]; exact hP1
                        have hD : va_D A ws_62 := hD1.weaken (fun _ _ _ h => hFc _ h)
                        have hz_r_61 : r_61 = 0 ∨ r_61 = 1 := hw9
                        clear hP1 hD1 hz9 hk9 hvm9 ht9 hw9
                        generalize H1 = H at hP hS ⊢
                        have aa_67 := a_r1_37
                        have aa_68 := a_r2_1
                        have aa_69 := a_r3_1
                        have aa_70 := a_r4_1
                        have aa_71 := a_r5_1
                        have aa_72 := a_r0_38
                        have aa_73 := a_r1_38
                        have aa_74 := a_r3_38
                        have aa_75 := a_r5_38
                        have aa_76 := a_r6_38
                        have aa_77 := a_r7_38
                        have aa_78 := a_r8_38
                        have o_h0 := E_63.1 _ _ o_h0
                        refine lv_ior hx hb dX9_findReached_76 ?_
                        refine lv_topi (fun z_79 ez_79 => ?_)
                        refine lv_istore_n (lv' := [(1, .int z_79), (0, .ref h0), (2, .int v2_17), (3, .int v3_32)]) hx hb dX9_findReached_77 rfl hl (by decide) rfl (fun ls hl => ?_)
                        exact J_78 (z_79) ws_62 H locs ls (E_63) (Fr_64) hG hP hD hS (lv_sub hl [1, 0, 2, 3] rfl)
                exact J_50 _ (0) (0) ws_19 H locs ls rfl (by have e0 : (0 : Int32).toInt = 0 := (by decide); omega) (gE.rf) (gF.rf) hG hP hD hS (lv_sub hl [2, 1, 3, 0] rfl)
        exact J_36 _ (1) (0) ws_4 H locs ls rfl (by have e0 : (0 : Int32).toInt = 0 := (by decide); omega) (gE.rf) (gF.rf) hG hP hD hS (lv_sub hl [2, 1, 0] rfl)
      · refine lv_aload_n hx hb dX9_findReached_11 rfl (lv_at hl 0 rfl) ?_
        refine va_get (D := gD g) (ci := 8) (v := .ref r3_1) (C := RX9) (T := TX9) (N := 6) hx hb hts inX9 hown hK hP k_1 hk_12 rfl 3 (by decide) (hts _ kw_1554) (fun _ h9 => h9) rfl dX9_findReached_12 ?_
        refine lv_iload_n hx hb dX9_findReached_15 rfl (lv_at hl 1 rfl) ?_
        refine lv_iload_n hx hb dX9_findReached_16 rfl (lv_at hl 1 rfl) ?_
        have J_25 : ∀ (t_80 : Int32) (H : Heap) (locs : List Loc) (ls : Array Slot), t_80 = 0 ∨ t_80 = 1 → va_P (gD g) cl0 ws_4 H → va_D A ws_4 → va_S A s.heap H locs → lv_has ls 4 [(0, .ref h0), (1, .int v1_2)] → W p l e (headSpec (wt yX9_findReached cX9_findReached 4 none) ({ frames := 3, cells := 0, slots := 0, locals := 67 })).room s m ([.ref h0] : List Value).toArray below meth c H locs (0) (0) (MQ below (va_Qv (fun (u9 : va_W) => True) (gQ1 g [] [(8, 3)] none A ws) A) ([.ref h0] : List Value).toArray s (0) (0) A) (F0 m 25 ls [.int t_80, .int v1_2, .ref r3_1]) := by
          intro t_80 H locs ls iv_81 hP hD hS hl
          have hz_t_80 := iv_81
          have hC9 : hol ws_4 r3_1 [(8, 3)] := (hol_u hG.u hk_12 (j := 3) rfl a_r3_1 (by decide))
          have hS9 : holS ws_4 r3_1 none := holS_n
          refine va_zast hx hb hK hP hD hS k_13 2 hk_13 rfl (i_in2 (by have q_f6_1 := f6_1; have q_fq_b := fq_b; have q_iv_3 := iv_3; have q_z_14 := i_len ez_14 f6_12; have q_c_15 := i_nle c_15; have g_v1_2 := i_rg v1_2; have g_z_14 := i_rg z_14; omega)) dX9_findReached_25 (fun H locs hP hD hS => ?_)
          obtain ⟨ws_84, e_ws_84⟩ : ∃ z, z = ws_4.set k_13 (r3_1, .inl (g.cZ, n3_1, .inl (upd f_13 (v1_2 : Int32).toNatClampNeg (vp_nar .boolean t_80)))) := ⟨_, rfl⟩
          have hP : va_P (gD g) cl0 ws_84 H := by rw [e_ws_84]; exact hP
          have hD : va_D A ws_84 := by rw [e_ws_84]; exact hD
          have E_85 : gE ws_4 ws_84 := gE_ari e_ws_84 hk_13
          have hG : Good g ws_84 := Good_arZ e_ws_84 hk_13 hG
          have Fr_86 : gF [] [(8, 3)] none ws_4 ws_84 := gF_ar e_ws_84 hk_13 rfl hC9 hS9
          have hk_12 := gset_arO e_ws_84 hk_13 hk_12
          have o_h0 := E_85.1 _ _ o_h0
          have a_r1_12 := E_85.1 _ _ a_r1_12
          have o_r0_1 := E_85.1 _ _ o_r0_1
          have a_r2_1 := E_85.1 _ _ a_r2_1
          have a_r3_1 := E_85.1 _ _ a_r3_1
          have a_r4_1 := E_85.1 _ _ a_r4_1
          have a_r5_1 := E_85.1 _ _ a_r5_1
          obtain ⟨z_87, ez_87⟩ : ∃ z : Int32, v1_2 + Int32.ofInt 1 = z := ⟨_, rfl⟩
          refine lv_iinc (v := z_87) (lv' := [(1, .int z_87), (0, .ref h0)]) hx hb dX9_findReached_26 hl (k := 1) rfl ez_87 (by decide) rfl (fun ls hl => ?_)
          refine lv_goto (tgt := 2) hx hb dX9_findReached_29 (by decide) ?_
          exact ih_2 _ (by obtain ⟨u_z_87, q_z_87⟩ := i_iz ez_87 (by decide) (by decide); have q_iv_3 := iv_3; have q_c_15 := i_nle c_15; have g_v1_2 := i_rg v1_2; have g_z_14 := i_rg z_14; have g_z_87 := i_rg z_87; omega) (z_87) ws_84 H locs ls rfl (by obtain ⟨u_z_87, q_z_87⟩ := i_iz ez_87 (by decide) (by decide); have q_iv_3 := iv_3; have q_c_15 := i_nle c_15; have g_v1_2 := i_rg v1_2; have g_z_14 := i_rg z_14; have g_z_87 := i_rg z_87; omega) ((E_5.tr E_85)) ((gF.tr Fr_6 Fr_86)) hG hP hD hS (lv_sub hl [1, 0] rfl)
        refine lv_if_ne (tgt := 24) hx hb dX9_findReached_17 (by decide) (fun c_88 => ?_) (fun c_88 => ?_)
        · refine lv_iconst (v := 0) hx hb dX9_findReached_24 (by decide) ?_
          exact J_25 (0) H locs ls (Or.inl rfl) hP hD hS (lv_sub hl [0, 1] rfl)
        · refine lv_iconst (v := 1) hx hb dX9_findReached_20 (by decide) ?_
          refine lv_goto (tgt := 25) hx hb dX9_findReached_21 (by decide) ?_
          exact J_25 (1) H locs ls (Or.inr rfl) hP hD hS (lv_sub hl [0, 1] rfl)
  exact J_2 _ (0) ws _ _ ls rfl (by have e0 : (0 : Int32).toInt = 0 := (by decide); omega) (gE.rf) (gF.rf) hG hP hD hS (lv_sub hl [1, 0] rfl)
set_option maxHeartbeats 1000000 in
set_option maxRecDepth 100000 in
theorem m_X9_isPassedOn (l : Launch) (g : Gm) (sz : Nat) (ws : va_W) (h0 : Nat) (x1 : Int32) (hG : Good g ws) (o_h0 : gC ws h0 8) (fp_a : gP ws h0 (fun fs => ∀ (rn n : Nat), fs[2]? = some (.ref rn) → gI ws rn g.cZ n → 1297 ≤ n)) (fp_b : gP ws h0 (fun fs => ∀ (rn n : Nat), fs[3]? = some (.ref rn) → gI ws rn g.cZ n → 1297 ≤ n)) (fp_d : gP ws h0 (fun fs => ∀ (rn n : Nat), fs[4]? = some (.ref rn) → gI ws rn g.cI n → 1297 ≤ n)) (fp_f : gP ws h0 (fun fs => ∀ (rn n : Nat), fs[5]? = some (.ref rn) → gI ws rn g.cI n → 1297 ≤ n)) : Met l yX9_isPassedOn (wt yX9_isPassedOn cX9_isPassedOn 5 (some .boolean)) ({ frames := 3, cells := 0, slots := 0, locals := 67 }) (va_Pc [.ref h0, .int x1] (st_G g sz ws)) (va_Qi (fun (r : Int32) (u9 : Unit) => r = 0 ∨ r = 1) (gQ0 g (va_A ws sz) ws) (va_A ws sz)) (0) (0) (va_A ws sz) := by
  refine Met.ofW (cc := cX9_isPassedOn) (maxL := 5) (ret := (some .boolean)) (by decide) rfl ?_
  intro p e s m args below meth c s₁ B hml hv
  obtain ⟨rfl, hsz, hP, hK, hD0, hex, hE⟩ := hv
  have hx := B.exec
  have hb := B.bytes
  have hr := B.returns
  have hts0 := atoms_spec (ws := wt yX9_isPassedOn cX9_isPassedOn 5 (some .boolean)) B.pre
  have hts : ∀ w ∈ tb, w.before _ s = true := fun w h => hts0 w (List.mem_cons_of_mem _ h)
  have hown : s.vm.findClass RX9 = some m.cls := findClass_of_methodNamed B.named
  subst hsz
  have hD := hD0.self (sz := s.heap.size)
  generalize hAe : va_A ws s.heap.size = A at hD hE ⊢
  have hA : ∀ q : Nat, s.heap.size ≤ q → A q := fun q h => by rw [← hAe]; exact Or.inr h
  have hS : va_S A s.heap s.heap [] := va_S.rf
  have hl := lv_entry ([.ref h0, .int x1]) (n := 5) (Nat.le_of_ble_eq_true rfl)
  rw [lg_entry_eq]
  generalize (lg_sl ([.ref h0, .int x1]) ++ List.replicate (5 - (lg_sl ([.ref h0, .int x1])).length) Slot.unset).toArray = ls at hl ⊢
  have hl : lv_has ls 5 [(0, .ref h0), (1, .int x1)] := hl
  obtain ⟨k_1, fs9, hk_1⟩ := gC_of o_h0
  obtain ⟨r0_1, r1_1, n1_1, r2_1, n2_1, r3_1, n3_1, r4_1, n4_1, r5_1, n5_1, rfl, o_r0_1, a_r1_1, f2_1, a_r2_1, f4_1, a_r3_1, f6_1, a_r4_1, f8_1, a_r5_1, f10_1, f11_1, -⟩ := (hG.1 _ _ _ _ hk_1).hX9 rfl
  have fq_a := fp_a _ _ _ hk_1 _ _ rfl a_r2_1
  have fq_b := fp_b _ _ _ hk_1 _ _ rfl a_r3_1
  have fq_d := fp_d _ _ _ hk_1 _ _ rfl a_r4_1
  have fq_f := fp_f _ _ _ hk_1 _ _ rfl a_r5_1
  refine lv_aload_n hx hb dX9_isPassedOn_0 rfl (lv_at hl 0 rfl) ?_
  refine va_get (D := gD g) (ci := 8) (v := .ref r0_1) (C := RX9) (T := TX9) (N := 6) hx hb hts inX9 hown hK hP k_1 hk_1 rfl 0 (by decide) (hts _ kw_1552) (fun _ h9 => h9) rfl dX9_isPassedOn_1 ?_
  refine lv_iload_n hx hb dX9_isPassedOn_4 rfl (lv_at hl 1 rfl) ?_
  have hFc := gfree hD hS hA
  obtain ⟨k_2, fs_2, hk_2⟩ := gC_of o_r0_1
  refine va_calli (va_runV (As := [.int x1]) (rest := []) ⟨hx, hb, hml, hown, hts⟩ (m_X8_opAt l g s.heap.size ws r0_1 (x1) hG o_r0_1) (cwV 1 hts (gd_V kw_1596 kw_1513 kw_1514 kw_782 kw_1512) rfl rfl rfl (by decide +kernel) ⟨Nat.le_of_ble_eq_true rfl, Nat.le_of_ble_eq_true rfl⟩) ⟨gblind, va_recv hK hP (ci := 7) (q0 := k_2) rfl hk_2, fun U hU hW9 => gmk hU hW9 hP hK hD hex hE hS hFc⟩ rfl rfl hl.1 rfl (lv_room (Nat.le_of_ble_eq_true rfl)) dX9_isPassedOn_5 ⟨Nat.le_of_ble_eq_true rfl, Nat.le_of_ble_eq_true rfl⟩) hS (fun q _ h => hFc q h) hFc (fun r_3 u9 t9 H1 locs ht9 hvm9 hw9 hB9 hz9 hk9 hS => ?_)
  have hP : va_P (gD g) cl0 ws H1 := by rw [← ht9]; exact hB9.1
  clear hB9 hz9 hk9 hvm9 ht9 hw9
  generalize H1 = H at hP hS ⊢
  refine lv_istore_n (lv' := [(2, .int r_3), (0, .ref h0), (1, .int x1)]) hx hb dX9_isPassedOn_8 rfl hl (by decide) rfl (fun ls hl => ?_)
  refine lv_aload_n hx hb dX9_isPassedOn_9 rfl (lv_at hl 1 rfl) ?_
  refine va_get (D := gD g) (ci := 8) (v := .ref r0_1) (C := RX9) (T := TX9) (N := 6) hx hb hts inX9 hown hK hP k_1 hk_1 rfl 0 (by decide) (hts _ kw_1552) (fun _ h9 => h9) rfl dX9_isPassedOn_10 ?_
  refine lv_iload_n hx hb dX9_isPassedOn_13 rfl (lv_at hl 2 rfl) ?_
  refine lv_iconst (v := 1) hx hb dX9_isPassedOn_14 (by decide) ?_
  refine lv_iadd hx hb dX9_isPassedOn_15 ?_
  refine lv_topi (fun z_4 ez_4 => ?_)
  have hFc := gfree hD hS hA
  obtain ⟨k_5, fs_5, hk_5⟩ := gC_of o_r0_1
  refine va_calli (va_runV (As := [.int z_4]) (rest := []) ⟨hx, hb, hml, hown, hts⟩ (m_X8_opAt l g H.size ws r0_1 (z_4) hG o_r0_1) (cwV 1 hts (gd_V kw_1596 kw_1513 kw_1514 kw_782 kw_1512) rfl rfl rfl (by decide +kernel) ⟨Nat.le_of_ble_eq_true rfl, Nat.le_of_ble_eq_true rfl⟩) ⟨gblind, va_recv hK hP (ci := 7) (q0 := k_5) rfl hk_5, fun U hU hW9 => gmk hU hW9 hP hK hD hex hE hS hFc⟩ rfl rfl hl.1 rfl (lv_room (Nat.le_of_ble_eq_true rfl)) dX9_isPassedOn_16 ⟨Nat.le_of_ble_eq_true rfl, Nat.le_of_ble_eq_true rfl⟩) hS (fun q _ h => hFc q h) hFc (fun r_6 u9 t9 H1 locs ht9 hvm9 hw9 hB9 hz9 hk9 hS => ?_)
  have hP : va_P (gD g) cl0 ws H1 := by rw [← ht9]; exact hB9.1
  clear hB9 hz9 hk9 hvm9 ht9 hw9
  generalize H1 = H at hP hS ⊢
  refine lv_istore_n (lv' := [(3, .int r_6), (2, .int r_3), (0, .ref h0), (1, .int x1)]) hx hb dX9_isPassedOn_19 rfl hl (by decide) rfl (fun ls hl => ?_)
  refine lv_iload_n hx hb dX9_isPassedOn_20 rfl (lv_at hl 1 rfl) ?_
  refine lv_bipush (v := 54) hx hb dX9_isPassedOn_21 (by decide) ?_
  have J_61 : ∀ (t_7 : Int32) (H : Heap) (locs : List Loc) (ls : Array Slot), t_7 = 0 ∨ t_7 = 1 → va_P (gD g) cl0 ws H → va_D A ws → va_S A s.heap H locs → lv_has ls 5 [(0, .ref h0), (1, .int x1)] → W p l e (headSpec (wt yX9_isPassedOn cX9_isPassedOn 5 (some .boolean)) ({ frames := 3, cells := 0, slots := 0, locals := 67 })).room s m ([.ref h0, .int x1] : List Value).toArray below meth c H locs (0) (0) (MQ below (va_Qi (fun (r : Int32) (u9 : Unit) => r = 0 ∨ r = 1) (gQ0 g A ws) A) ([.ref h0, .int x1] : List Value).toArray s (0) (0) A) (F0 m 61 ls [.int t_7]) := by
    intro t_7 H locs ls iv_8 hP hD hS hl
    have hz_t_7 := iv_8
    refine lv_istore (lv' := [(4, .int t_7), (0, .ref h0), (1, .int x1)]) hx hb dX9_isPassedOn_61 hl (by decide) rfl (fun ls hl => ?_)
    refine lv_iload hx hb dX9_isPassedOn_63 (lv_at hl 0 rfl) ?_
    have J_110 : ∀ (t_11 : Int32) (H : Heap) (locs : List Loc) (ls : Array Slot), t_11 = 0 ∨ t_11 = 1 → va_P (gD g) cl0 ws H → va_D A ws → va_S A s.heap H locs → lv_has ls 5 [] → W p l e (headSpec (wt yX9_isPassedOn cX9_isPassedOn 5 (some .boolean)) ({ frames := 3, cells := 0, slots := 0, locals := 67 })).room s m ([.ref h0, .int x1] : List Value).toArray below meth c H locs (0) (0) (MQ below (va_Qi (fun (r : Int32) (u9 : Unit) => r = 0 ∨ r = 1) (gQ0 g A ws) A) ([.ref h0, .int x1] : List Value).toArray s (0) (0) A) (F0 m 110 ls [.int t_11]) := by
      intro t_11 H locs ls iv_12 hP hD hS hl
      have hz_t_11 := iv_12
      refine W.widen (k := 0) (n := 0) (Nat.le_of_ble_eq_true rfl) (Nat.le_of_ble_eq_true rfl) ?_
      exact W.zret (v := t_11) hx hb hr (nz hz_t_11) (fun t9 ht9 hW9 => ⟨⟨_, (), rfl, hz_t_11, ⟨by rw [ht9]; exact hP, hD⟩⟩, hS.F ht9⟩) hS.2.2 dX9_isPassedOn_110
    have J_109 : ∀  (H : Heap) (locs : List Loc) (ls : Array Slot), va_P (gD g) cl0 ws H → va_D A ws → va_S A s.heap H locs → lv_has ls 5 [] → W p l e (headSpec (wt yX9_isPassedOn cX9_isPassedOn 5 (some .boolean)) ({ frames := 3, cells := 0, slots := 0, locals := 67 })).room s m ([.ref h0, .int x1] : List Value).toArray below meth c H locs (0) (0) (MQ below (va_Qi (fun (r : Int32) (u9 : Unit) => r = 0 ∨ r = 1) (gQ0 g A ws) A) ([.ref h0, .int x1] : List Value).toArray s (0) (0) A) (F0 m 109 ls []) := by
      intro  H locs ls  hP hD hS hl
      refine lv_iconst (v := 0) hx hb dX9_isPassedOn_109 (by decide) ?_
      exact J_110 (0) H locs ls (Or.inl rfl) hP hD hS (lv_sub hl [] rfl)
    refine lv_if_eq (tgt := 109) hx hb dX9_isPassedOn_65 (by decide) (fun c_17 => ?_) (fun c_17 => ?_)
    · exact J_109  H locs ls  hP hD hS (lv_sub hl [] rfl)
    · refine lv_aload_n hx hb dX9_isPassedOn_68 rfl (lv_at hl 1 rfl) ?_
      refine va_get (D := gD g) (ci := 8) (v := .ref r0_1) (C := RX9) (T := TX9) (N := 6) hx hb hts inX9 hown hK hP k_1 hk_1 rfl 0 (by decide) (hts _ kw_1552) (fun _ h9 => h9) rfl dX9_isPassedOn_69 ?_
      refine lv_iload_n hx hb dX9_isPassedOn_72 rfl (lv_at hl 2 rfl) ?_
      have hFc := gfree hD hS hA
      obtain ⟨k_18, fs_18, hk_18⟩ := gC_of o_r0_1
      refine va_calli (va_runV (As := [.int x1]) (rest := []) ⟨hx, hb, hml, hown, hts⟩ (m_X8_localOf l g H.size ws r0_1 (x1) hG o_r0_1) (cwV 1 hts (gd_V kw_1643 kw_1509 kw_1510 kw_782 kw_1508) rfl rfl rfl (by decide +kernel) ⟨Nat.le_of_ble_eq_true rfl, Nat.le_of_ble_eq_true rfl⟩) ⟨gblind, va_recv hK hP (ci := 7) (q0 := k_18) rfl hk_18, fun U hU hW9 => gmk hU hW9 hP hK hD hex hE hS hFc⟩ rfl rfl hl.1 rfl (lv_room (Nat.le_of_ble_eq_true rfl)) dX9_isPassedOn_73 ⟨Nat.le_of_ble_eq_true rfl, Nat.le_of_ble_eq_true rfl⟩) hS (fun q _ h => hFc q h) hFc (fun r_19 u9 t9 H1 locs ht9 hvm9 hw9 hB9 hz9 hk9 hS => ?_)
      have hP : va_P (gD g) cl0 ws H1 := by rw [← ht9]; exact hB9.1
      clear hB9 hz9 hk9 hvm9 ht9 hw9
      generalize H1 = H at hP hS ⊢
      refine lv_aload_n hx hb dX9_isPassedOn_76 rfl (lv_at hl 1 rfl) ?_
      refine va_get (D := gD g) (ci := 8) (v := .ref r0_1) (C := RX9) (T := TX9) (N := 6) hx hb hts inX9 hown hK hP k_1 hk_1 rfl 0 (by decide) (hts _ kw_1552) (fun _ h9 => h9) rfl dX9_isPassedOn_77 ?_
      refine lv_iload_n hx hb dX9_isPassedOn_80 rfl (lv_at hl 2 rfl) ?_
      refine lv_iconst (v := 1) hx hb dX9_isPassedOn_81 (by decide) ?_
      refine lv_iadd hx hb dX9_isPassedOn_82 ?_
      refine lv_topi (fun z_20 ez_20 => ?_)
      have hFc := gfree hD hS hA
      obtain ⟨k_21, fs_21, hk_21⟩ := gC_of o_r0_1
      refine va_calli (va_runV (As := [.int z_20]) (rest := [.int r_19]) ⟨hx, hb, hml, hown, hts⟩ (m_X8_localOf l g H.size ws r0_1 (z_20) hG o_r0_1) (cwV 1 hts (gd_V kw_1643 kw_1509 kw_1510 kw_782 kw_1508) rfl rfl rfl (by decide +kernel) ⟨Nat.le_of_ble_eq_true rfl, Nat.le_of_ble_eq_true rfl⟩) ⟨gblind, va_recv hK hP (ci := 7) (q0 := k_21) rfl hk_21, fun U hU hW9 => gmk hU hW9 hP hK hD hex hE hS hFc⟩ rfl rfl hl.1 rfl (lv_room (Nat.le_of_ble_eq_true rfl)) dX9_isPassedOn_83 ⟨Nat.le_of_ble_eq_true rfl, Nat.le_of_ble_eq_true rfl⟩) hS (fun q _ h => hFc q h) hFc (fun r_22 u9 t9 H1 locs ht9 hvm9 hw9 hB9 hz9 hk9 hS => ?_)
      have hP : va_P (gD g) cl0 ws H1 := by rw [← ht9]; exact hB9.1
      clear hB9 hz9 hk9 hvm9 ht9 hw9
      generalize H1 = H at hP hS ⊢
      refine lv_icmp_ne (tgt := 109) hx hb dX9_isPassedOn_86 (by decide) (fun c_23 => ?_) (fun c_23 => ?_)
      · exact J_109  H locs ls  hP hD hS (lv_sub hl [] rfl)
      · refine lv_aload_n hx hb dX9_isPassedOn_89 rfl (lv_at hl 1 rfl) ?_
        refine lv_iload_n hx hb dX9_isPassedOn_90 rfl (lv_at hl 2 rfl) ?_
        refine lv_iconst (v := 1) hx hb dX9_isPassedOn_91 (by decide) ?_
        refine lv_iadd hx hb dX9_isPassedOn_92 ?_
        refine lv_topi (fun z_24 ez_24 => ?_)
        have hFc := gfree hD hS hA
        refine va_calli (va_runV (As := [.int z_24]) (rest := []) ⟨hx, hb, hml, hown, hts⟩ (m_X9_liveBehind l g H.size ws h0 (z_24) hG o_h0 (gP_of hD hk_1 (fun p90 q90 e90 g90 => by cases e90; have z90 := gI_n hD a_r2_1 g90; subst z90; exact (by have q_f4_1 := f4_1; have q_fq_a := fq_a; omega))) (gP_of hD hk_1 (fun p90 q90 e90 g90 => by cases e90; have z90 := gI_n hD a_r3_1 g90; subst z90; exact (by have q_f6_1 := f6_1; have q_fq_b := fq_b; omega))) (gP_of hD hk_1 (fun p90 q90 e90 g90 => by cases e90; have z90 := gI_n hD a_r4_1 g90; subst z90; exact (by have q_f8_1 := f8_1; have q_fq_d := fq_d; omega))) (gP_of hD hk_1 (fun p90 q90 e90 g90 => by cases e90; have z90 := gI_n hD a_r5_1 g90; subst z90; exact (by have q_f10_1 := f10_1; have q_fq_f := fq_f; omega)))) (cwV 1 hts (gd_V kw_1598 kw_1670 kw_1671 kw_404 kw_1669) rfl rfl rfl (by decide +kernel) ⟨Nat.le_of_ble_eq_true rfl, Nat.le_of_ble_eq_true rfl⟩) ⟨gblind, va_recv hK hP (ci := 8) (q0 := k_1) rfl hk_1, fun U hU hW9 => gmk hU hW9 hP hK hD hex hE hS hFc⟩ rfl rfl hl.1 rfl (lv_room (Nat.le_of_ble_eq_true rfl)) dX9_isPassedOn_93 ⟨Nat.le_of_ble_eq_true rfl, Nat.le_of_ble_eq_true rfl⟩) hS (fun q _ h => hFc q h) hFc (fun r_25 u9 t9 H1 locs ht9 hvm9 hw9 hB9 hz9 hk9 hS => ?_)
        have hP : va_P (gD g) cl0 ws H1 := by rw [← ht9]; exact hB9.1
        clear hB9 hz9 hk9 hvm9 ht9 hw9
        generalize H1 = H at hP hS ⊢
        refine lv_aload_n hx hb dX9_isPassedOn_96 rfl (lv_at hl 1 rfl) ?_
        refine lv_iload_n hx hb dX9_isPassedOn_97 rfl (lv_at hl 2 rfl) ?_
        have hFc := gfree hD hS hA
        refine va_calli (va_runV (As := [.int x1]) (rest := [.int r_25]) ⟨hx, hb, hml, hown, hts⟩ (m_X9_localBits l g H.size ws h0 (x1) hG o_h0) (cwV 1 hts (gd_V kw_1599 kw_1674 kw_1675 kw_404 kw_1673) rfl rfl rfl (by decide +kernel) ⟨Nat.le_of_ble_eq_true rfl, Nat.le_of_ble_eq_true rfl⟩) ⟨gblind, va_recv hK hP (ci := 8) (q0 := k_1) rfl hk_1, fun U hU hW9 => gmk hU hW9 hP hK hD hex hE hS hFc⟩ rfl rfl hl.1 rfl (lv_room (Nat.le_of_ble_eq_true rfl)) dX9_isPassedOn_98 ⟨Nat.le_of_ble_eq_true rfl, Nat.le_of_ble_eq_true rfl⟩) hS (fun q _ h => hFc q h) hFc (fun r_26 u9 t9 H1 locs ht9 hvm9 hw9 hB9 hz9 hk9 hS => ?_)
        have hP : va_P (gD g) cl0 ws H1 := by rw [← ht9]; exact hB9.1
        clear hB9 hz9 hk9 hvm9 ht9 hw9
        generalize H1 = H at hP hS ⊢
        refine lv_iand hx hb dX9_isPassedOn_101 ?_
        refine lv_topi (fun z_27 ez_27 => ?_)
        refine lv_if_ne (tgt := 109) hx hb dX9_isPassedOn_102 (by decide) (fun c_28 => ?_) (fun c_28 => ?_)
        · exact J_109  H locs ls  hP hD hS (lv_sub hl [] rfl)
        · refine lv_iconst (v := 1) hx hb dX9_isPassedOn_105 (by decide) ?_
          refine lv_goto (tgt := 110) hx hb dX9_isPassedOn_106 (by decide) ?_
          exact J_110 (1) H locs ls (Or.inr rfl) hP hD hS (lv_sub hl [] rfl)
  have J_56 : ∀  (H : Heap) (locs : List Loc) (ls : Array Slot), va_P (gD g) cl0 ws H → va_D A ws → va_S A s.heap H locs → lv_has ls 5 [(0, .ref h0), (1, .int x1)] → W p l e (headSpec (wt yX9_isPassedOn cX9_isPassedOn 5 (some .boolean)) ({ frames := 3, cells := 0, slots := 0, locals := 67 })).room s m ([.ref h0, .int x1] : List Value).toArray below meth c H locs (0) (0) (MQ below (va_Qi (fun (r : Int32) (u9 : Unit) => r = 0 ∨ r = 1) (gQ0 g A ws) A) ([.ref h0, .int x1] : List Value).toArray s (0) (0) A) (F0 m 56 ls []) := by
    intro  H locs ls  hP hD hS hl
    refine lv_iconst (v := 1) hx hb dX9_isPassedOn_56 (by decide) ?_
    refine lv_goto (tgt := 61) hx hb dX9_isPassedOn_57 (by decide) ?_
    exact J_61 (1) H locs ls (Or.inr rfl) hP hD hS (lv_sub hl [0, 1] rfl)
  have J_32 : ∀  (H : Heap) (locs : List Loc) (ls : Array Slot), va_P (gD g) cl0 ws H → va_D A ws → va_S A s.heap H locs → lv_has ls 5 [(0, .ref h0), (1, .int x1), (2, .int r_3), (3, .int r_6)] → W p l e (headSpec (wt yX9_isPassedOn cX9_isPassedOn 5 (some .boolean)) ({ frames := 3, cells := 0, slots := 0, locals := 67 })).room s m ([.ref h0, .int x1] : List Value).toArray below meth c H locs (0) (0) (MQ below (va_Qi (fun (r : Int32) (u9 : Unit) => r = 0 ∨ r = 1) (gQ0 g A ws) A) ([.ref h0, .int x1] : List Value).toArray s (0) (0) A) (F0 m 32 ls []) := by
    intro  H locs ls  hP hD hS hl
    refine lv_iload_n hx hb dX9_isPassedOn_32 rfl (lv_at hl 2 rfl) ?_
    refine lv_bipush (v := 55) hx hb dX9_isPassedOn_33 (by decide) ?_
    have J_44 : ∀  (H : Heap) (locs : List Loc) (ls : Array Slot), va_P (gD g) cl0 ws H → va_D A ws → va_S A s.heap H locs → lv_has ls 5 [(0, .ref h0), (1, .int x1), (2, .int r_3), (3, .int r_6)] → W p l e (headSpec (wt yX9_isPassedOn cX9_isPassedOn 5 (some .boolean)) ({ frames := 3, cells := 0, slots := 0, locals := 67 })).room s m ([.ref h0, .int x1] : List Value).toArray below meth c H locs (0) (0) (MQ below (va_Qi (fun (r : Int32) (u9 : Unit) => r = 0 ∨ r = 1) (gQ0 g A ws) A) ([.ref h0, .int x1] : List Value).toArray s (0) (0) A) (F0 m 44 ls []) := by
      intro  H locs ls  hP hD hS hl
      refine lv_iload_n hx hb dX9_isPassedOn_44 rfl (lv_at hl 2 rfl) ?_
      refine lv_bipush (v := 58) hx hb dX9_isPassedOn_45 (by decide) ?_
      have J_60 : ∀  (H : Heap) (locs : List Loc) (ls : Array Slot), va_P (gD g) cl0 ws H → va_D A ws → va_S A s.heap H locs → lv_has ls 5 [(0, .ref h0), (1, .int x1)] → W p l e (headSpec (wt yX9_isPassedOn cX9_isPassedOn 5 (some .boolean)) ({ frames := 3, cells := 0, slots := 0, locals := 67 })).room s m ([.ref h0, .int x1] : List Value).toArray below meth c H locs (0) (0) (MQ below (va_Qi (fun (r : Int32) (u9 : Unit) => r = 0 ∨ r = 1) (gQ0 g A ws) A) ([.ref h0, .int x1] : List Value).toArray s (0) (0) A) (F0 m 60 ls []) := by
        intro  H locs ls  hP hD hS hl
        refine lv_iconst (v := 0) hx hb dX9_isPassedOn_60 (by decide) ?_
        exact J_61 (0) H locs ls (Or.inl rfl) hP hD hS (lv_sub hl [0, 1] rfl)
      refine lv_icmp_ne (tgt := 60) hx hb dX9_isPassedOn_47 (by decide) (fun c_37 => ?_) (fun c_37 => ?_)
      · exact J_60  H locs ls  hP hD hS (lv_sub hl [0, 1] rfl)
      · refine lv_iload_n hx hb dX9_isPassedOn_50 rfl (lv_at hl 3 rfl) ?_
        refine lv_bipush (v := 25) hx hb dX9_isPassedOn_51 (by decide) ?_
        refine lv_icmp_ne (tgt := 60) hx hb dX9_isPassedOn_53 (by decide) (fun c_38 => ?_) (fun c_38 => ?_)
        · exact J_60  H locs ls  hP hD hS (lv_sub hl [0, 1] rfl)
        · exact J_56  H locs ls  hP hD hS (lv_sub hl [0, 1] rfl)
    refine lv_icmp_ne (tgt := 44) hx hb dX9_isPassedOn_35 (by decide) (fun c_39 => ?_) (fun c_39 => ?_)
    · exact J_44  H locs ls  hP hD hS (lv_sub hl [0, 1, 2, 3] rfl)
    · refine lv_iload_n hx hb dX9_isPassedOn_38 rfl (lv_at hl 3 rfl) ?_
      refine lv_bipush (v := 22) hx hb dX9_isPassedOn_39 (by decide) ?_
      refine lv_icmp_eq (tgt := 56) hx hb dX9_isPassedOn_41 (by decide) (fun c_40 => ?_) (fun c_40 => ?_)
      · exact J_56  H locs ls  hP hD hS (lv_sub hl [0, 1] rfl)
      · exact J_44  H locs ls  hP hD hS (lv_sub hl [0, 1, 2, 3] rfl)
  refine lv_icmp_ne (tgt := 32) hx hb dX9_isPassedOn_23 (by decide) (fun c_41 => ?_) (fun c_41 => ?_)
  · exact J_32  H locs ls  hP hD hS (lv_sub hl [2, 3, 1, 0] rfl)
  · refine lv_iload_n hx hb dX9_isPassedOn_26 rfl (lv_at hl 0 rfl) ?_
    refine lv_bipush (v := 21) hx hb dX9_isPassedOn_27 (by decide) ?_
    refine lv_icmp_eq (tgt := 56) hx hb dX9_isPassedOn_29 (by decide) (fun c_42 => ?_) (fun c_42 => ?_)
    · exact J_56  H locs ls  hP hD hS (lv_sub hl [2, 3] rfl)
    · exact J_32  H locs ls  hP hD hS (lv_sub hl [2, 3, 1, 0] rfl)
set_option maxHeartbeats 1000000 in
set_option maxRecDepth 100000 in
theorem m_X9_isDeadStoreDone (l : Launch) (g : Gm) (sz : Nat) (ws : va_W) (h0 : Nat) (x1 : Int32) (hG : Good g ws) (o_h0 : gC ws h0 8) (fp_a : gP ws h0 (fun fs => ∀ (rn n : Nat), fs[2]? = some (.ref rn) → gI ws rn g.cZ n → 1297 ≤ n)) (fp_b : gP ws h0 (fun fs => ∀ (rn n : Nat), fs[3]? = some (.ref rn) → gI ws rn g.cZ n → 1297 ≤ n)) (fp_d : gP ws h0 (fun fs => ∀ (rn n : Nat), fs[4]? = some (.ref rn) → gI ws rn g.cI n → 1297 ≤ n)) (fp_f : gP ws h0 (fun fs => ∀ (rn n : Nat), fs[5]? = some (.ref rn) → gI ws rn g.cI n → 1297 ≤ n)) (p0 : 0 ≤ x1.toInt) (px : x1.toInt ≤ 1300) : Met l yX9_isDeadStoreDone (wt yX9_isDeadStoreDone cX9_isDeadStoreDone 3 (some .boolean)) ({ frames := 3, cells := 0, slots := 0, locals := 74 }) (va_Pc [.ref h0, .int x1] (st_G g sz ws)) (va_Qi (fun (r : Int32) (u9 : va_W) => r = 0 ∨ r = 1) (gQ1 g [(7, 2), (7, 9)] [(7, 0), (7, 1), (7, 3), (7, 5), (7, 6), (7, 7), (7, 8)] none (va_A ws sz) ws) (va_A ws sz)) (0) (0) (va_A ws sz) := by
  refine Met.ofW (cc := cX9_isDeadStoreDone) (maxL := 3) (ret := (some .boolean)) (by decide) rfl ?_
  intro p e s m args below meth c s₁ B hml hv
  obtain ⟨rfl, hsz, hP, hK, hD0, hex, hE⟩ := hv
  have hx := B.exec
  have hb := B.bytes
  have hr := B.returns
  have hts0 := atoms_spec (ws := wt yX9_isDeadStoreDone cX9_isDeadStoreDone 3 (some .boolean)) B.pre
  have hts : ∀ w ∈ tb, w.before _ s = true := fun w h => hts0 w (List.mem_cons_of_mem _ h)
  have hown : s.vm.findClass RX9 = some m.cls := findClass_of_methodNamed B.named
  subst hsz
  have hD := hD0.self (sz := s.heap.size)
  generalize hAe : va_A ws s.heap.size = A at hD hE ⊢
  have hA : ∀ q : Nat, s.heap.size ≤ q → A q := fun q h => by rw [← hAe]; exact Or.inr h
  have hS : va_S A s.heap s.heap [] := va_S.rf
  have hl := lv_entry ([.ref h0, .int x1]) (n := 3) (Nat.le_of_ble_eq_true rfl)
  rw [lg_entry_eq]
  generalize (lg_sl ([.ref h0, .int x1]) ++ List.replicate (3 - (lg_sl ([.ref h0, .int x1])).length) Slot.unset).toArray = ls at hl ⊢
  have hl : lv_has ls 3 [(0, .ref h0), (1, .int x1)] := hl
  obtain ⟨k_1, fs9, hk_1⟩ := gC_of o_h0
  obtain ⟨r0_1, r1_1, n1_1, r2_1, n2_1, r3_1, n3_1, r4_1, n4_1, r5_1, n5_1, rfl, o_r0_1, a_r1_1, f2_1, a_r2_1, f4_1, a_r3_1, f6_1, a_r4_1, f8_1, a_r5_1, f10_1, f11_1, -⟩ := (hG.1 _ _ _ _ hk_1).hX9 rfl
  have fq_a := fp_a _ _ _ hk_1 _ _ rfl a_r2_1
  have fq_b := fp_b _ _ _ hk_1 _ _ rfl a_r3_1
  have fq_d := fp_d _ _ _ hk_1 _ _ rfl a_r4_1
  have fq_f := fp_f _ _ _ hk_1 _ _ rfl a_r5_1
  refine lv_aload_n hx hb dX9_isDeadStoreDone_0 rfl (lv_at hl 0 rfl) ?_
  refine va_get (D := gD g) (ci := 8) (v := .ref r0_1) (C := RX9) (T := TX9) (N := 6) hx hb hts inX9 hown hK hP k_1 hk_1 rfl 0 (by decide) (hts _ kw_1552) (fun _ h9 => h9) rfl dX9_isDeadStoreDone_1 ?_
  refine lv_iload_n hx hb dX9_isDeadStoreDone_4 rfl (lv_at hl 1 rfl) ?_
  have hFc := gfree hD hS hA
  obtain ⟨k_2, fs_2, hk_2⟩ := gC_of o_r0_1
  refine va_calli (va_runV (As := [.int x1]) (rest := []) ⟨hx, hb, hml, hown, hts⟩ (m_X8_opAt l g s.heap.size ws r0_1 (x1) hG o_r0_1) (cwV 1 hts (gd_V kw_1596 kw_1513 kw_1514 kw_782 kw_1512) rfl rfl rfl (by decide +kernel) ⟨Nat.le_of_ble_eq_true rfl, Nat.le_of_ble_eq_true rfl⟩) ⟨gblind, va_recv hK hP (ci := 7) (q0 := k_2) rfl hk_2, fun U hU hW9 => gmk hU hW9 hP hK hD hex hE hS hFc⟩ rfl rfl hl.1 rfl (lv_room (Nat.le_of_ble_eq_true rfl)) dX9_isDeadStoreDone_5 ⟨Nat.le_of_ble_eq_true rfl, Nat.le_of_ble_eq_true rfl⟩) hS (fun q _ h => hFc q h) hFc (fun r_3 u9 t9 H1 locs ht9 hvm9 hw9 hB9 hz9 hk9 hS => ?_)
  have hP : va_P (gD g) cl0 ws H1 := by rw [← ht9]; exact hB9.1
  clear hB9 hz9 hk9 hvm9 ht9 hw9
  generalize H1 = H at hP hS ⊢
  refine lv_istore_n (lv' := [(2, .int r_3), (0, .ref h0), (1, .int x1)]) hx hb dX9_isDeadStoreDone_8 rfl hl (by decide) rfl (fun ls hl => ?_)
  refine lv_iload_n hx hb dX9_isDeadStoreDone_9 rfl (lv_at hl 0 rfl) ?_
  refine lv_sipush (v := 132) hx hb dX9_isDeadStoreDone_10 (by decide) ?_
  have J_37 : ∀  (H : Heap) (locs : List Loc) (ls : Array Slot), va_P (gD g) cl0 ws H → va_D A ws → va_S A s.heap H locs → lv_has ls 3 [] → W p l e (headSpec (wt yX9_isDeadStoreDone cX9_isDeadStoreDone 3 (some .boolean)) ({ frames := 3, cells := 0, slots := 0, locals := 74 })).room s m ([.ref h0, .int x1] : List Value).toArray below meth c H locs (0) (0) (MQ below (va_Qi (fun (r : Int32) (u9 : va_W) => r = 0 ∨ r = 1) (gQ1 g [(7, 2), (7, 9)] [(7, 0), (7, 1), (7, 3), (7, 5), (7, 6), (7, 7), (7, 8)] none A ws) A) ([.ref h0, .int x1] : List Value).toArray s (0) (0) A) (F0 m 37 ls []) := by
    intro  H locs ls  hP hD hS hl
    refine lv_iconst (v := 0) hx hb dX9_isDeadStoreDone_37 (by decide) ?_
    refine W.widen (k := 0) (n := 0) (Nat.le_of_ble_eq_true rfl) (Nat.le_of_ble_eq_true rfl) ?_
    exact W.zret (v := 0) hx hb hr (nz (Or.inl rfl)) (fun t9 ht9 hW9 => ⟨⟨_, ws, rfl, (Or.inl rfl), ⟨gE.rf, gF.rf, hG, by rw [ht9]; exact hP, hD⟩⟩, hS.F ht9⟩) hS.2.2 dX9_isDeadStoreDone_38
  have J_23 : ∀  (H : Heap) (locs : List Loc) (ls : Array Slot), va_P (gD g) cl0 ws H → va_D A ws → va_S A s.heap H locs → lv_has ls 3 [(0, .ref h0), (1, .int x1), (2, .int r_3)] → W p l e (headSpec (wt yX9_isDeadStoreDone cX9_isDeadStoreDone 3 (some .boolean)) ({ frames := 3, cells := 0, slots := 0, locals := 74 })).room s m ([.ref h0, .int x1] : List Value).toArray below meth c H locs (0) (0) (MQ below (va_Qi (fun (r : Int32) (u9 : va_W) => r = 0 ∨ r = 1) (gQ1 g [(7, 2), (7, 9)] [(7, 0), (7, 1), (7, 3), (7, 5), (7, 6), (7, 7), (7, 8)] none A ws) A) ([.ref h0, .int x1] : List Value).toArray s (0) (0) A) (F0 m 23 ls []) := by
    intro  H locs ls  hP hD hS hl
    refine lv_aload_n hx hb dX9_isDeadStoreDone_23 rfl (lv_at hl 0 rfl) ?_
    refine lv_iload_n hx hb dX9_isDeadStoreDone_24 rfl (lv_at hl 1 rfl) ?_
    have hFc := gfree hD hS hA
    refine va_calli (va_runV (As := [.int x1]) (rest := []) ⟨hx, hb, hml, hown, hts⟩ (m_X9_liveBehind l g H.size ws h0 (x1) hG o_h0 (gP_of hD hk_1 (fun p90 q90 e90 g90 => by cases e90; have z90 := gI_n hD a_r2_1 g90; subst z90; exact (by have q_f4_1 := f4_1; have q_fq_a := fq_a; omega))) (gP_of hD hk_1 (fun p90 q90 e90 g90 => by cases e90; have z90 := gI_n hD a_r3_1 g90; subst z90; exact (by have q_f6_1 := f6_1; have q_fq_b := fq_b; omega))) (gP_of hD hk_1 (fun p90 q90 e90 g90 => by cases e90; have z90 := gI_n hD a_r4_1 g90; subst z90; exact (by have q_f8_1 := f8_1; have q_fq_d := fq_d; omega))) (gP_of hD hk_1 (fun p90 q90 e90 g90 => by cases e90; have z90 := gI_n hD a_r5_1 g90; subst z90; exact (by have q_f10_1 := f10_1; have q_fq_f := fq_f; omega)))) (cwV 1 hts (gd_V kw_1598 kw_1670 kw_1671 kw_404 kw_1669) rfl rfl rfl (by decide +kernel) ⟨Nat.le_of_ble_eq_true rfl, Nat.le_of_ble_eq_true rfl⟩) ⟨gblind, va_recv hK hP (ci := 8) (q0 := k_1) rfl hk_1, fun U hU hW9 => gmk hU hW9 hP hK hD hex hE hS hFc⟩ rfl rfl hl.1 rfl (lv_room (Nat.le_of_ble_eq_true rfl)) dX9_isDeadStoreDone_25 ⟨Nat.le_of_ble_eq_true rfl, Nat.le_of_ble_eq_true rfl⟩) hS (fun q _ h => hFc q h) hFc (fun r_8 u9 t9 H1 locs ht9 hvm9 hw9 hB9 hz9 hk9 hS => ?_)
    have hP : va_P (gD g) cl0 ws H1 := by rw [← ht9]; exact hB9.1
    clear hB9 hz9 hk9 hvm9 ht9 hw9
    generalize H1 = H at hP hS ⊢
    refine lv_aload_n hx hb dX9_isDeadStoreDone_28 rfl (lv_at hl 0 rfl) ?_
    refine lv_iload_n hx hb dX9_isDeadStoreDone_29 rfl (lv_at hl 1 rfl) ?_
    have hFc := gfree hD hS hA
    refine va_calli (va_runV (As := [.int x1]) (rest := [.int r_8]) ⟨hx, hb, hml, hown, hts⟩ (m_X9_localBits l g H.size ws h0 (x1) hG o_h0) (cwV 1 hts (gd_V kw_1599 kw_1674 kw_1675 kw_404 kw_1673) rfl rfl rfl (by decide +kernel) ⟨Nat.le_of_ble_eq_true rfl, Nat.le_of_ble_eq_true rfl⟩) ⟨gblind, va_recv hK hP (ci := 8) (q0 := k_1) rfl hk_1, fun U hU hW9 => gmk hU hW9 hP hK hD hex hE hS hFc⟩ rfl rfl hl.1 rfl (lv_room (Nat.le_of_ble_eq_true rfl)) dX9_isDeadStoreDone_30 ⟨Nat.le_of_ble_eq_true rfl, Nat.le_of_ble_eq_true rfl⟩) hS (fun q _ h => hFc q h) hFc (fun r_9 u9 t9 H1 locs ht9 hvm9 hw9 hB9 hz9 hk9 hS => ?_)
    have hP : va_P (gD g) cl0 ws H1 := by rw [← ht9]; exact hB9.1
    clear hB9 hz9 hk9 hvm9 ht9 hw9
    generalize H1 = H at hP hS ⊢
    refine lv_iand hx hb dX9_isDeadStoreDone_33 ?_
    refine lv_topi (fun z_10 ez_10 => ?_)
    refine lv_if_eq (tgt := 39) hx hb dX9_isDeadStoreDone_34 (by decide) (fun c_11 => ?_) (fun c_11 => ?_)
    · refine lv_iload_n hx hb dX9_isDeadStoreDone_39 rfl (lv_at hl 2 rfl) ?_
      refine lv_sipush (v := 132) hx hb dX9_isDeadStoreDone_40 (by decide) ?_
      have J_80 : ∀ (ws_12 : va_W) (H : Heap) (locs : List Loc) (ls : Array Slot), gE ws ws_12 → gF [(7, 2), (7, 9)] [(7, 0), (7, 1), (7, 3), (7, 5), (7, 6), (7, 7), (7, 8)] none ws ws_12 → Good g ws_12 → va_P (gD g) cl0 ws_12 H → va_D A ws_12 → va_S A s.heap H locs → lv_has ls 3 [] → W p l e (headSpec (wt yX9_isDeadStoreDone cX9_isDeadStoreDone 3 (some .boolean)) ({ frames := 3, cells := 0, slots := 0, locals := 74 })).room s m ([.ref h0, .int x1] : List Value).toArray below meth c H locs (0) (0) (MQ below (va_Qi (fun (r : Int32) (u9 : va_W) => r = 0 ∨ r = 1) (gQ1 g [(7, 2), (7, 9)] [(7, 0), (7, 1), (7, 3), (7, 5), (7, 6), (7, 7), (7, 8)] none A ws) A) ([.ref h0, .int x1] : List Value).toArray s (0) (0) A) (F0 m 80 ls []) := by
        intro ws_12 H locs ls  E_13 Fr_14 hG hP hD hS hl
        have aa_15 := a_r1_1
        have aa_16 := a_r2_1
        have aa_17 := a_r3_1
        have aa_18 := a_r4_1
        have aa_19 := a_r5_1
        have o_h0 := E_13.1 _ _ o_h0
        refine lv_iconst (v := 1) hx hb dX9_isDeadStoreDone_80 (by decide) ?_
        refine W.widen (k := 0) (n := 0) (Nat.le_of_ble_eq_true rfl) (Nat.le_of_ble_eq_true rfl) ?_
        exact W.zret (v := 1) hx hb hr (nz (Or.inr rfl)) (fun t9 ht9 hW9 => ⟨⟨_, ws_12, rfl, (Or.inr rfl), ⟨E_13, Fr_14, hG, by rw [ht9]; exact hP, hD⟩⟩, hS.F ht9⟩) hS.2.2 dX9_isDeadStoreDone_81
      refine lv_icmp_ne (tgt := 58) hx hb dX9_isDeadStoreDone_43 (by decide) (fun c_20 => ?_) (fun c_20 => ?_)
      · refine lv_aload_n hx hb dX9_isDeadStoreDone_58 rfl (lv_at hl 0 rfl) ?_
        refine va_get (D := gD g) (ci := 8) (v := .ref r0_1) (C := RX9) (T := TX9) (N := 6) hx hb hts inX9 hown hK hP k_1 hk_1 rfl 0 (by decide) (hts _ kw_1552) (fun _ h9 => h9) rfl dX9_isDeadStoreDone_59 ?_
        refine lv_iload_n hx hb dX9_isDeadStoreDone_62 rfl (lv_at hl 1 rfl) ?_
        refine lv_iload_n hx hb dX9_isDeadStoreDone_63 rfl (lv_at hl 2 rfl) ?_
        refine lv_bipush (v := 55) hx hb dX9_isDeadStoreDone_64 (by decide) ?_
        have J_76 : ∀ (t_21 : Int32) (H : Heap) (locs : List Loc) (ls : Array Slot), 87 ≤ t_21.toInt ∧ t_21.toInt ≤ 88 → va_P (gD g) cl0 ws H → va_D A ws → va_S A s.heap H locs → lv_has ls 3 [] → W p l e (headSpec (wt yX9_isDeadStoreDone cX9_isDeadStoreDone 3 (some .boolean)) ({ frames := 3, cells := 0, slots := 0, locals := 74 })).room s m ([.ref h0, .int x1] : List Value).toArray below meth c H locs (0) (0) (MQ below (va_Qi (fun (r : Int32) (u9 : va_W) => r = 0 ∨ r = 1) (gQ1 g [(7, 2), (7, 9)] [(7, 0), (7, 1), (7, 3), (7, 5), (7, 6), (7, 7), (7, 8)] none A ws) A) ([.ref h0, .int x1] : List Value).toArray s (0) (0) A) (F0 m 76 ls [.int t_21, .int x1, .ref r0_1]) := by
          intro t_21 H locs ls iv_22 hP hD hS hl
          refine lv_lconst (v := 0) hx hb dX9_isDeadStoreDone_76 (by decide) ?_
          have hFc := gfree hD hS hA
          obtain ⟨k_25, fs_25, hk_25⟩ := gC_of o_r0_1
          refine va_callv (va_runV (As := [.int x1, .int t_21, .long 0]) (rest := []) ⟨hx, hb, hml, hown, hts⟩ (m_X8_set l g H.size ws r0_1 (x1) (t_21) (0) hG o_r0_1) (cwV 3 hts (gd_V kw_1600 kw_1523 kw_1524 kw_782 kw_1522) rfl rfl rfl (by decide +kernel) ⟨Nat.le_of_ble_eq_true rfl, Nat.le_of_ble_eq_true rfl⟩) ⟨gblind, va_recv hK hP (ci := 7) (q0 := k_25) rfl hk_25, fun U hU hW9 => gmk hU hW9 hP hK hD hex hE hS hFc⟩ rfl rfl hl.1 rfl (lv_room (Nat.le_of_ble_eq_true rfl)) dX9_isDeadStoreDone_77 ⟨Nat.le_of_ble_eq_true rfl, Nat.le_of_ble_eq_true rfl⟩) hS (fun q _ h => hFc q h) hFc (fun  ws_26 t9 H1 locs ht9 hvm9 hw9 hB9 hz9 hk9 hS => ?_)
          obtain ⟨E_27, Fr_28, hG, hP1, hD1⟩ := hB9
          have hP : va_P (gD g) cl0 ws_26 H1 := by rw [← ht9]; exact hP1
          have hD : va_D A ws_26 := hD1.weaken (fun _ _ _ h => hFc _ h)
          clear hP1 hD1 hz9 hk9 hvm9 ht9 hw9
          generalize H1 = H at hP hS ⊢
          have aa_31 := a_r1_1
          have aa_32 := a_r2_1
          have aa_33 := a_r3_1
          have aa_34 := a_r4_1
          have aa_35 := a_r5_1
          have o_h0 := E_27.1 _ _ o_h0
          exact J_80 ws_26 H locs ls (E_27) ((gF.mo (F' := [(7, 2), (7, 9)]) (C' := [(7, 0), (7, 1), (7, 3), (7, 5), (7, 6), (7, 7), (7, 8)]) (S' := none) Fr_28 (fun _ h => absurd h List.not_mem_nil) (by decide) (Or.inl rfl))) hG hP hD hS (lv_sub hl [] rfl)
        refine lv_icmp_ne (tgt := 74) hx hb dX9_isDeadStoreDone_66 (by decide) (fun c_36 => ?_) (fun c_36 => ?_)
        · refine lv_bipush (v := 87) hx hb dX9_isDeadStoreDone_74 (by decide) ?_
          exact J_76 (87) H locs ls (by have e87 : (87 : Int32).toInt = 87 := (by decide); have q_p0 := p0; have q_px := px; have g_x1 := i_rg x1; omega) hP hD hS (lv_sub hl [] rfl)
        · refine lv_bipush (v := 88) hx hb dX9_isDeadStoreDone_69 (by decide) ?_
          refine lv_goto (tgt := 76) hx hb dX9_isDeadStoreDone_71 (by decide) ?_
          exact J_76 (88) H locs ls (by have e88 : (88 : Int32).toInt = 88 := (by decide); have q_p0 := p0; have q_px := px; have g_x1 := i_rg x1; omega) hP hD hS (lv_sub hl [] rfl)
      · refine lv_aload_n hx hb dX9_isDeadStoreDone_46 rfl (lv_at hl 0 rfl) ?_
        refine va_get (D := gD g) (ci := 8) (v := .ref r0_1) (C := RX9) (T := TX9) (N := 6) hx hb hts inX9 hown hK hP k_1 hk_1 rfl 0 (by decide) (hts _ kw_1552) (fun _ h9 => h9) rfl dX9_isDeadStoreDone_47 ?_
        refine lv_iload_n hx hb dX9_isDeadStoreDone_50 rfl (lv_at hl 1 rfl) ?_
        refine lv_iconst (v := 1) hx hb dX9_isDeadStoreDone_51 (by decide) ?_
        have hFc := gfree hD hS hA
        obtain ⟨k_37, fs_37, hk_37⟩ := gC_of o_r0_1
        refine va_callv (va_runV (As := [.int x1, .int 1]) (rest := []) ⟨hx, hb, hml, hown, hts⟩ (m_X8_remove l g H.size ws r0_1 (x1) (1) hG o_r0_1 (by have q_p0 := p0; have q_px := px; have g_x1 := i_rg x1; omega) (by have e1 : (1 : Int32).toInt = 1 := (by decide); omega)) (cwV 2 hts (gd_V kw_1555 kw_1516 kw_1517 kw_782 kw_1515) rfl rfl rfl (by decide +kernel) ⟨Nat.le_of_ble_eq_true rfl, Nat.le_of_ble_eq_true rfl⟩) ⟨gblind, va_recv hK hP (ci := 7) (q0 := k_37) rfl hk_37, fun U hU hW9 => gmk hU hW9 hP hK hD hex hE hS hFc⟩ rfl rfl hl.1 rfl (lv_room (Nat.le_of_ble_eq_true rfl)) dX9_isDeadStoreDone_52 ⟨Nat.le_of_ble_eq_true rfl, Nat.le_of_ble_eq_true rfl⟩) hS (fun q _ h => hFc q h) hFc (fun  ws_38 t9 H1 locs ht9 hvm9 hw9 hB9 hz9 hk9 hS => ?_)
        obtain ⟨E_39, Fr_40, hG, hP1, hD1⟩ := hB9
        have hP : va_P (gD g) cl0 ws_38 H1 := by rw [← ht9]; exact hP1
        have hD : va_D A ws_38 := hD1.weaken (fun _ _ _ h => hFc _ h)
        clear hP1 hD1 hz9 hk9 hvm9 ht9 hw9
        generalize H1 = H at hP hS ⊢
        have aa_43 := a_r1_1
        have aa_44 := a_r2_1
        have aa_45 := a_r3_1
        have aa_46 := a_r4_1
        have aa_47 := a_r5_1
        have o_h0 := E_39.1 _ _ o_h0
        refine lv_goto (tgt := 80) hx hb dX9_isDeadStoreDone_55 (by decide) ?_
        exact J_80 ws_38 H locs ls (E_39) ((gF.mo (F' := [(7, 2), (7, 9)]) (C' := [(7, 0), (7, 1), (7, 3), (7, 5), (7, 6), (7, 7), (7, 8)]) (S' := none) Fr_40 (fun _ h => h) (fun _ h => h) (Or.inl rfl))) hG hP hD hS (lv_sub hl [] rfl)
    · exact J_37  H locs ls  hP hD hS (lv_sub hl [] rfl)
  refine lv_icmp_eq (tgt := 23) hx hb dX9_isDeadStoreDone_13 (by decide) (fun c_48 => ?_) (fun c_48 => ?_)
  · exact J_23  H locs ls  hP hD hS (lv_sub hl [1, 2, 0] rfl)
  · refine lv_iload_n hx hb dX9_isDeadStoreDone_16 rfl (lv_at hl 0 rfl) ?_
    have hFc := gfree hD hS hA
    refine va_calli (va_runS (As := [.int r_3]) (rest := []) ⟨hx, hb, hml, hown, hts⟩ (m_X6_isStore l g H.size ws (r_3) hG ) (va_cwS 1 hts (gd_S kw_1597 kw_1231 kw_1207 kw_1230) rfl rfl rfl (by decide +kernel) ⟨Nat.le_of_ble_eq_true rfl, Nat.le_of_ble_eq_true rfl⟩) ⟨gblind, fun U hU hW9 => gmk hU hW9 hP hK hD hex hE hS hFc⟩ rfl rfl hl.1 rfl (lv_room (Nat.le_of_ble_eq_true rfl)) dX9_isDeadStoreDone_17 ⟨Nat.le_of_ble_eq_true rfl, Nat.le_of_ble_eq_true rfl⟩) hS (fun q _ h => hFc q h) hFc (fun r_49 u9 t9 H1 locs ht9 hvm9 hw9 hB9 hz9 hk9 hS => ?_)
    have hP : va_P (gD g) cl0 ws H1 := by rw [← ht9]; exact hB9.1
    have hz_r_49 : r_49 = 0 ∨ r_49 = 1 := hw9
    clear hB9 hz9 hk9 hvm9 ht9 hw9
    generalize H1 = H at hP hS ⊢
    refine lv_if_eq (tgt := 37) hx hb dX9_isDeadStoreDone_20 (by decide) (fun c_50 => ?_) (fun c_50 => ?_)
    · exact J_37  H locs ls  hP hD hS (lv_sub hl [] rfl)
    · exact J_23  H locs ls  hP hD hS (lv_sub hl [1, 2, 0] rfl)
set_option maxHeartbeats 1000000 in
set_option maxRecDepth 100000 in
theorem m_X9_liveBefore (l : Launch) (g : Gm) (sz : Nat) (ws : va_W) (h0 : Nat) (x1 : Int32) (hG : Good g ws) (o_h0 : gC ws h0 8) (fp_a : gP ws h0 (fun fs => ∀ (rn n : Nat), fs[2]? = some (.ref rn) → gI ws rn g.cZ n → 1297 ≤ n)) (fp_b : gP ws h0 (fun fs => ∀ (rn n : Nat), fs[3]? = some (.ref rn) → gI ws rn g.cZ n → 1297 ≤ n)) (fp_d : gP ws h0 (fun fs => ∀ (rn n : Nat), fs[4]? = some (.ref rn) → gI ws rn g.cI n → 1297 ≤ n)) (fp_f : gP ws h0 (fun fs => ∀ (rn n : Nat), fs[5]? = some (.ref rn) → gI ws rn g.cI n → 1297 ≤ n)) : Met l yX9_liveBefore (wt yX9_liveBefore cX9_liveBefore 5 (some .int)) ({ frames := 3, cells := 0, slots := 0, locals := 67 }) (va_Pc [.ref h0, .int x1] (st_G g sz ws)) (va_Qi (fun (r : Int32) (u9 : Unit) => True) (gQ0 g (va_A ws sz) ws) (va_A ws sz)) (0) (0) (va_A ws sz) := by
  refine Met.ofW (cc := cX9_liveBefore) (maxL := 5) (ret := (some .int)) (by decide) rfl ?_
  intro p e s m args below meth c s₁ B hml hv
  obtain ⟨rfl, hsz, hP, hK, hD0, hex, hE⟩ := hv
  have hx := B.exec
  have hb := B.bytes
  have hr := B.returns
  have hts0 := atoms_spec (ws := wt yX9_liveBefore cX9_liveBefore 5 (some .int)) B.pre
  have hts : ∀ w ∈ tb, w.before _ s = true := fun w h => hts0 w (List.mem_cons_of_mem _ h)
  have hown : s.vm.findClass RX9 = some m.cls := findClass_of_methodNamed B.named
  subst hsz
  have hD := hD0.self (sz := s.heap.size)
  generalize hAe : va_A ws s.heap.size = A at hD hE ⊢
  have hA : ∀ q : Nat, s.heap.size ≤ q → A q := fun q h => by rw [← hAe]; exact Or.inr h
  have hS : va_S A s.heap s.heap [] := va_S.rf
  have hl := lv_entry ([.ref h0, .int x1]) (n := 5) (Nat.le_of_ble_eq_true rfl)
  rw [lg_entry_eq]
  generalize (lg_sl ([.ref h0, .int x1]) ++ List.replicate (5 - (lg_sl ([.ref h0, .int x1])).length) Slot.unset).toArray = ls at hl ⊢
  have hl : lv_has ls 5 [(0, .ref h0), (1, .int x1)] := hl
  obtain ⟨k_1, fs9, hk_1⟩ := gC_of o_h0
  obtain ⟨r0_1, r1_1, n1_1, r2_1, n2_1, r3_1, n3_1, r4_1, n4_1, r5_1, n5_1, rfl, o_r0_1, a_r1_1, f2_1, a_r2_1, f4_1, a_r3_1, f6_1, a_r4_1, f8_1, a_r5_1, f10_1, f11_1, -⟩ := (hG.1 _ _ _ _ hk_1).hX9 rfl
  have fq_a := fp_a _ _ _ hk_1 _ _ rfl a_r2_1
  have fq_b := fp_b _ _ _ hk_1 _ _ rfl a_r3_1
  have fq_d := fp_d _ _ _ hk_1 _ _ rfl a_r4_1
  have fq_f := fp_f _ _ _ hk_1 _ _ rfl a_r5_1
  refine lv_aload_n hx hb dX9_liveBefore_0 rfl (lv_at hl 0 rfl) ?_
  refine va_get (D := gD g) (ci := 8) (v := .ref r0_1) (C := RX9) (T := TX9) (N := 6) hx hb hts inX9 hown hK hP k_1 hk_1 rfl 0 (by decide) (hts _ kw_1552) (fun _ h9 => h9) rfl dX9_liveBefore_1 ?_
  refine lv_iload_n hx hb dX9_liveBefore_4 rfl (lv_at hl 1 rfl) ?_
  have hFc := gfree hD hS hA
  obtain ⟨k_2, fs_2, hk_2⟩ := gC_of o_r0_1
  refine va_calli (va_runV (As := [.int x1]) (rest := []) ⟨hx, hb, hml, hown, hts⟩ (m_X8_opAt l g s.heap.size ws r0_1 (x1) hG o_r0_1) (cwV 1 hts (gd_V kw_1596 kw_1513 kw_1514 kw_782 kw_1512) rfl rfl rfl (by decide +kernel) ⟨Nat.le_of_ble_eq_true rfl, Nat.le_of_ble_eq_true rfl⟩) ⟨gblind, va_recv hK hP (ci := 7) (q0 := k_2) rfl hk_2, fun U hU hW9 => gmk hU hW9 hP hK hD hex hE hS hFc⟩ rfl rfl hl.1 rfl (lv_room (Nat.le_of_ble_eq_true rfl)) dX9_liveBefore_5 ⟨Nat.le_of_ble_eq_true rfl, Nat.le_of_ble_eq_true rfl⟩) hS (fun q _ h => hFc q h) hFc (fun r_3 u9 t9 H1 locs ht9 hvm9 hw9 hB9 hz9 hk9 hS => ?_)
  have hP : va_P (gD g) cl0 ws H1 := by rw [← ht9]; exact hB9.1
  clear hB9 hz9 hk9 hvm9 ht9 hw9
  generalize H1 = H at hP hS ⊢
  refine lv_istore_n (lv' := [(2, .int r_3), (0, .ref h0), (1, .int x1)]) hx hb dX9_liveBefore_8 rfl hl (by decide) rfl (fun ls hl => ?_)
  refine lv_aload_n hx hb dX9_liveBefore_9 rfl (lv_at hl 1 rfl) ?_
  refine lv_iload_n hx hb dX9_liveBefore_10 rfl (lv_at hl 2 rfl) ?_
  have hFc := gfree hD hS hA
  refine va_calli (va_runV (As := [.int x1]) (rest := []) ⟨hx, hb, hml, hown, hts⟩ (m_X9_liveBehind l g H.size ws h0 (x1) hG o_h0 (gP_of hD hk_1 (fun p90 q90 e90 g90 => by cases e90; have z90 := gI_n hD a_r2_1 g90; subst z90; exact (by have q_f4_1 := f4_1; have q_fq_a := fq_a; omega))) (gP_of hD hk_1 (fun p90 q90 e90 g90 => by cases e90; have z90 := gI_n hD a_r3_1 g90; subst z90; exact (by have q_f6_1 := f6_1; have q_fq_b := fq_b; omega))) (gP_of hD hk_1 (fun p90 q90 e90 g90 => by cases e90; have z90 := gI_n hD a_r4_1 g90; subst z90; exact (by have q_f8_1 := f8_1; have q_fq_d := fq_d; omega))) (gP_of hD hk_1 (fun p90 q90 e90 g90 => by cases e90; have z90 := gI_n hD a_r5_1 g90; subst z90; exact (by have q_f10_1 := f10_1; have q_fq_f := fq_f; omega)))) (cwV 1 hts (gd_V kw_1598 kw_1670 kw_1671 kw_404 kw_1669) rfl rfl rfl (by decide +kernel) ⟨Nat.le_of_ble_eq_true rfl, Nat.le_of_ble_eq_true rfl⟩) ⟨gblind, va_recv hK hP (ci := 8) (q0 := k_1) rfl hk_1, fun U hU hW9 => gmk hU hW9 hP hK hD hex hE hS hFc⟩ rfl rfl hl.1 rfl (lv_room (Nat.le_of_ble_eq_true rfl)) dX9_liveBefore_11 ⟨Nat.le_of_ble_eq_true rfl, Nat.le_of_ble_eq_true rfl⟩) hS (fun q _ h => hFc q h) hFc (fun r_4 u9 t9 H1 locs ht9 hvm9 hw9 hB9 hz9 hk9 hS => ?_)
  have hP : va_P (gD g) cl0 ws H1 := by rw [← ht9]; exact hB9.1
  clear hB9 hz9 hk9 hvm9 ht9 hw9
  generalize H1 = H at hP hS ⊢
  refine lv_istore_n (lv' := [(3, .int r_4), (2, .int r_3), (0, .ref h0), (1, .int x1)]) hx hb dX9_liveBefore_14 rfl hl (by decide) rfl (fun ls hl => ?_)
  refine lv_iload_n hx hb dX9_liveBefore_15 rfl (lv_at hl 1 rfl) ?_
  have hFc := gfree hD hS hA
  refine va_calli (va_runS (As := [.int r_3]) (rest := []) ⟨hx, hb, hml, hown, hts⟩ (m_X6_isStore l g H.size ws (r_3) hG ) (va_cwS 1 hts (gd_S kw_1597 kw_1231 kw_1207 kw_1230) rfl rfl rfl (by decide +kernel) ⟨Nat.le_of_ble_eq_true rfl, Nat.le_of_ble_eq_true rfl⟩) ⟨gblind, fun U hU hW9 => gmk hU hW9 hP hK hD hex hE hS hFc⟩ rfl rfl hl.1 rfl (lv_room (Nat.le_of_ble_eq_true rfl)) dX9_liveBefore_16 ⟨Nat.le_of_ble_eq_true rfl, Nat.le_of_ble_eq_true rfl⟩) hS (fun q _ h => hFc q h) hFc (fun r_5 u9 t9 H1 locs ht9 hvm9 hw9 hB9 hz9 hk9 hS => ?_)
  have hP : va_P (gD g) cl0 ws H1 := by rw [← ht9]; exact hB9.1
  have hz_r_5 : r_5 = 0 ∨ r_5 = 1 := hw9
  clear hB9 hz9 hk9 hvm9 ht9 hw9
  generalize H1 = H at hP hS ⊢
  have J_50 : ∀ (v3_6 : Int32) (H : Heap) (locs : List Loc) (ls : Array Slot), va_P (gD g) cl0 ws H → va_D A ws → va_S A s.heap H locs → lv_has ls 5 [(0, .ref h0), (1, .int x1), (3, .int v3_6)] → W p l e (headSpec (wt yX9_liveBefore cX9_liveBefore 5 (some .int)) ({ frames := 3, cells := 0, slots := 0, locals := 67 })).room s m ([.ref h0, .int x1] : List Value).toArray below meth c H locs (0) (0) (MQ below (va_Qi (fun (r : Int32) (u9 : Unit) => True) (gQ0 g A ws) A) ([.ref h0, .int x1] : List Value).toArray s (0) (0) A) (F0 m 50 ls []) := by
    intro v3_6 H locs ls  hP hD hS hl
    refine lv_iconst (v := 0) hx hb dX9_liveBefore_50 (by decide) ?_
    refine lv_istore (lv' := [(4, .int 0), (0, .ref h0), (1, .int x1), (3, .int v3_6)]) hx hb dX9_liveBefore_51 hl (by decide) rfl (fun ls hl => ?_)
    have J_53 : ∀ (n9 : Nat) (v3_9 : Int32) (v4_10 : Int32) (H : Heap) (locs : List Loc) (ls : Array Slot), (2147483647 - v4_10.toInt).toNat = n9 → 0 ≤ v4_10.toInt → va_P (gD g) cl0 ws H → va_D A ws → va_S A s.heap H locs → lv_has ls 5 [(0, .ref h0), (1, .int x1), (3, .int v3_9), (4, .int v4_10)] → W p l e (headSpec (wt yX9_liveBefore cX9_liveBefore 5 (some .int)) ({ frames := 3, cells := 0, slots := 0, locals := 67 })).room s m ([.ref h0, .int x1] : List Value).toArray below meth c H locs (0) (0) (MQ below (va_Qi (fun (r : Int32) (u9 : Unit) => True) (gQ0 g A ws) A) ([.ref h0, .int x1] : List Value).toArray s (0) (0) A) (F0 m 53 ls []) := by
      intro n9
      induction n9 using Nat.strongRecOn with
      | ind n9 ih_53 =>
        intro v3_9 v4_10 H locs ls hm9 iv_11 hP hD hS hl
        subst hm9
        refine lv_iload hx hb dX9_liveBefore_53 (lv_at hl 3 rfl) ?_
        refine lv_aload_n hx hb dX9_liveBefore_55 rfl (lv_at hl 0 rfl) ?_
        refine va_get (D := gD g) (ci := 8) (v := .ref r0_1) (C := RX9) (T := TX9) (N := 6) hx hb hts inX9 hown hK hP k_1 hk_1 rfl 0 (by decide) (hts _ kw_1552) (fun _ h9 => h9) rfl dX9_liveBefore_56 ?_
        obtain ⟨k_14, fs9, hk_14⟩ := gC_of o_r0_1
        obtain ⟨r0_14, n0_14, r1_14, n1_14, c2_14, r3_14, n3_14, c4_14, r5_14, n5_14, r6_14, n6_14, r7_14, n7_14, r8_14, n8_14, c9_14, c10_14, c11_14, v12_14, v13_14, v14_14, rfl, a_r0_14, f1_14, a_r1_14, f3_14, a_r3_14, f5_14, a_r5_14, f7_14, a_r6_14, f9_14, a_r7_14, f11_14, a_r8_14, f13_14, o_v12_14, o_v13_14, o_v14_14, f17_14, f18_14, f19_14, f20_14, f21_14, f22_14, f23_14, f24_14, f25_14, f26_14, f27_14, f28_14, f29_14, -⟩ := (hG.1 _ _ _ _ hk_14).hX8 rfl
        refine va_get (D := gD g) (ci := 7) (v := .int c9_14) (C := RX8) (T := TX8) (N := 15) hx hb hts inX8 hown hK hP k_14 hk_14 rfl 9 (by decide) (hts _ kw_1570) (fun _ h9 => h9) rfl dX9_liveBefore_59 ?_
        refine lv_icmp_ge (tgt := 101) hx hb dX9_liveBefore_62 (by decide) (fun c_15 => ?_) (fun c_15 => ?_)
        · refine lv_iload_n hx hb dX9_liveBefore_101 rfl (lv_at hl 2 rfl) ?_
          refine W.widen (k := 0) (n := 0) (Nat.le_of_ble_eq_true rfl) (Nat.le_of_ble_eq_true rfl) ?_
          exact W.iret (v := v3_9) hx hb hr (fun t9 ht9 hW9 => ⟨⟨_, (), rfl, trivial, ⟨by rw [ht9]; exact hP, hD⟩⟩, hS.F ht9⟩) hS.2.2 dX9_liveBefore_102
        · refine lv_aload_n hx hb dX9_liveBefore_65 rfl (lv_at hl 0 rfl) ?_
          refine va_get (D := gD g) (ci := 8) (v := .ref r0_1) (C := RX9) (T := TX9) (N := 6) hx hb hts inX9 hown hK hP k_1 hk_1 rfl 0 (by decide) (hts _ kw_1552) (fun _ h9 => h9) rfl dX9_liveBefore_66 ?_
          refine lv_iload hx hb dX9_liveBefore_69 (lv_at hl 3 rfl) ?_
          refine lv_iload_n hx hb dX9_liveBefore_71 rfl (lv_at hl 1 rfl) ?_
          have hFc := gfree hD hS hA
          refine va_calli (va_runV (As := [.int v4_10, .int x1]) (rest := []) ⟨hx, hb, hml, hown, hts⟩ (m_X8_catchHas l g H.size ws r0_1 (v4_10) (x1) hG o_r0_1) (cwV 2 hts (gd_V kw_1667 kw_1483 kw_1484 kw_782 kw_1482) rfl rfl rfl (by decide +kernel) ⟨Nat.le_of_ble_eq_true rfl, Nat.le_of_ble_eq_true rfl⟩) ⟨gblind, va_recv hK hP (ci := 7) (q0 := k_14) rfl hk_14, fun U hU hW9 => gmk hU hW9 hP hK hD hex hE hS hFc⟩ rfl rfl hl.1 rfl (lv_room (Nat.le_of_ble_eq_true rfl)) dX9_liveBefore_72 ⟨Nat.le_of_ble_eq_true rfl, Nat.le_of_ble_eq_true rfl⟩) hS (fun q _ h => hFc q h) hFc (fun r_16 u9 t9 H1 locs ht9 hvm9 hw9 hB9 hz9 hk9 hS => ?_)
          have hP : va_P (gD g) cl0 ws H1 := by rw [← ht9]; exact hB9.1
          have hz_r_16 : r_16 = 0 ∨ r_16 = 1 := hw9
          clear hB9 hz9 hk9 hvm9 ht9 hw9
          generalize H1 = H at hP hS ⊢
          have J_95 : ∀ (v3_17 : Int32) (H : Heap) (locs : List Loc) (ls : Array Slot), va_P (gD g) cl0 ws H → va_D A ws → va_S A s.heap H locs → lv_has ls 5 [(0, .ref h0), (1, .int x1), (3, .int v3_17), (4, .int v4_10)] → W p l e (headSpec (wt yX9_liveBefore cX9_liveBefore 5 (some .int)) ({ frames := 3, cells := 0, slots := 0, locals := 67 })).room s m ([.ref h0, .int x1] : List Value).toArray below meth c H locs (0) (0) (MQ below (va_Qi (fun (r : Int32) (u9 : Unit) => True) (gQ0 g A ws) A) ([.ref h0, .int x1] : List Value).toArray s (0) (0) A) (F0 m 95 ls []) := by
            intro v3_17 H locs ls  hP hD hS hl
            obtain ⟨z_20, ez_20⟩ : ∃ z : Int32, v4_10 + Int32.ofInt 1 = z := ⟨_, rfl⟩
            refine lv_iinc (v := z_20) (lv' := [(4, .int z_20), (0, .ref h0), (1, .int x1), (3, .int v3_17)]) hx hb dX9_liveBefore_95 hl (k := 3) rfl ez_20 (by decide) rfl (fun ls hl => ?_)
            refine lv_goto (tgt := 53) hx hb dX9_liveBefore_98 (by decide) ?_
            exact ih_53 _ (by obtain ⟨u_z_20, q_z_20⟩ := i_iz ez_20 (by decide) (by decide); have q_iv_11 := iv_11; have q_c_15 := i_nle c_15; have g_c9_14 := i_rg c9_14; have g_v3_17 := i_rg v3_17; have g_v4_10 := i_rg v4_10; have g_z_20 := i_rg z_20; omega) (v3_17) (z_20) H locs ls rfl (by obtain ⟨u_z_20, q_z_20⟩ := i_iz ez_20 (by decide) (by decide); have q_iv_11 := iv_11; have q_c_15 := i_nle c_15; have g_c9_14 := i_rg c9_14; have g_v4_10 := i_rg v4_10; have g_z_20 := i_rg z_20; omega) hP hD hS (lv_sub hl [1, 2, 3, 0] rfl)
          refine lv_if_eq (tgt := 95) hx hb dX9_liveBefore_75 (by decide) (fun c_21 => ?_) (fun c_21 => ?_)
          · exact J_95 (v3_9) H locs ls  hP hD hS (lv_sub hl [0, 1, 2, 3] rfl)
          · refine lv_iload_n hx hb dX9_liveBefore_78 rfl (lv_at hl 2 rfl) ?_
            refine lv_aload_n hx hb dX9_liveBefore_79 rfl (lv_at hl 0 rfl) ?_
            refine lv_aload_n hx hb dX9_liveBefore_80 rfl (lv_at hl 0 rfl) ?_
            refine va_get (D := gD g) (ci := 8) (v := .ref r0_1) (C := RX9) (T := TX9) (N := 6) hx hb hts inX9 hown hK hP k_1 hk_1 rfl 0 (by decide) (hts _ kw_1552) (fun _ h9 => h9) rfl dX9_liveBefore_81 ?_
            refine va_get (D := gD g) (ci := 7) (v := .ref r7_14) (C := RX8) (T := TX8) (N := 15) hx hb hts inX8 hown hK hP k_14 hk_14 rfl 7 (by decide) (hts _ kw_1573) (fun _ h9 => h9) rfl dX9_liveBefore_84 ?_
            refine lv_iload hx hb dX9_liveBefore_87 (lv_at hl 3 rfl) ?_
            obtain ⟨k_22, f_22, hk_22⟩ := gI_of a_r7_14
            refine va_iald hx hb hK hP k_22 1 hk_22 rfl (i_in2 (by have q_iv_11 := iv_11; have q_f11_14 := f11_14; have q_f24_14 := f24_14; have q_c_15 := i_nle c_15; have q_f7_14 := f7_14; have q_f23_14 := f23_14; have q_f25_14 := f25_14; have q_f26_14 := f26_14; have q_f27_14 := f27_14; have q_f29_14 := f29_14; have g_c9_14 := i_rg c9_14; have g_v4_10 := i_rg v4_10; omega)) dX9_liveBefore_89 ?_
            refine lv_topi (fun z_23 ez_23 => ?_)
            have hFc := gfree hD hS hA
            refine va_calli (va_runV (As := [.int z_23]) (rest := [.int v3_9]) ⟨hx, hb, hml, hown, hts⟩ (m_X9_liveAt l g H.size ws h0 (z_23) hG o_h0 (gP_of hD hk_1 (fun p90 q90 e90 g90 => by cases e90; have z90 := gI_n hD a_r2_1 g90; subst z90; exact (by have q_f4_1 := f4_1; have q_fq_a := fq_a; omega))) (gP_of hD hk_1 (fun p90 q90 e90 g90 => by cases e90; have z90 := gI_n hD a_r3_1 g90; subst z90; exact (by have q_f6_1 := f6_1; have q_fq_b := fq_b; omega))) (gP_of hD hk_1 (fun p90 q90 e90 g90 => by cases e90; have z90 := gI_n hD a_r4_1 g90; subst z90; exact (by have q_f8_1 := f8_1; have q_fq_d := fq_d; omega))) (gP_of hD hk_1 (fun p90 q90 e90 g90 => by cases e90; have z90 := gI_n hD a_r5_1 g90; subst z90; exact (by have q_f10_1 := f10_1; have q_fq_f := fq_f; omega)))) (cwV 1 hts (gd_V kw_1668 kw_1661 kw_1662 kw_404 kw_1660) rfl rfl rfl (by decide +kernel) ⟨Nat.le_of_ble_eq_true rfl, Nat.le_of_ble_eq_true rfl⟩) ⟨gblind, va_recv hK hP (ci := 8) (q0 := k_1) rfl hk_1, fun U hU hW9 => gmk hU hW9 hP hK hD hex hE hS hFc⟩ rfl rfl hl.1 rfl (lv_room (Nat.le_of_ble_eq_true rfl)) dX9_liveBefore_90 ⟨Nat.le_of_ble_eq_true rfl, Nat.le_of_ble_eq_true rfl⟩) hS (fun q _ h => hFc q h) hFc (fun r_24 u9 t9 H1 locs ht9 hvm9 hw9 hB9 hz9 hk9 hS => ?_)
            have hP : va_P (gD g) cl0 ws H1 := by rw [← ht9]; exact hB9.1
            clear hB9 hz9 hk9 hvm9 ht9 hw9
            generalize H1 = H at hP hS ⊢
            refine lv_ior hx hb dX9_liveBefore_93 ?_
            refine lv_topi (fun z_25 ez_25 => ?_)
            refine lv_istore_n (lv' := [(3, .int z_25), (0, .ref h0), (1, .int x1), (4, .int v4_10)]) hx hb dX9_liveBefore_94 rfl hl (by decide) rfl (fun ls hl => ?_)
            exact J_95 (z_25) H locs ls  hP hD hS (lv_sub hl [1, 2, 0, 3] rfl)
    exact J_53 _ (v3_6) (0) H locs ls rfl (by have e0 : (0 : Int32).toInt = 0 := (by decide); omega) hP hD hS (lv_sub hl [1, 2, 3, 0] rfl)
  refine lv_if_eq (tgt := 35) hx hb dX9_liveBefore_19 (by decide) (fun c_26 => ?_) (fun c_26 => ?_)
  · refine lv_iload_n hx hb dX9_liveBefore_35 rfl (lv_at hl 1 rfl) ?_
    have hFc := gfree hD hS hA
    refine va_calli (va_runS (As := [.int r_3]) (rest := []) ⟨hx, hb, hml, hown, hts⟩ (m_X6_usesLocal l g H.size ws (r_3) hG ) (va_cwS 1 hts (gd_S kw_1666 kw_1260 kw_1207 kw_1259) rfl rfl rfl (by decide +kernel) ⟨Nat.le_of_ble_eq_true rfl, Nat.le_of_ble_eq_true rfl⟩) ⟨gblind, fun U hU hW9 => gmk hU hW9 hP hK hD hex hE hS hFc⟩ rfl rfl hl.1 rfl (lv_room (Nat.le_of_ble_eq_true rfl)) dX9_liveBefore_36 ⟨Nat.le_of_ble_eq_true rfl, Nat.le_of_ble_eq_true rfl⟩) hS (fun q _ h => hFc q h) hFc (fun r_27 u9 t9 H1 locs ht9 hvm9 hw9 hB9 hz9 hk9 hS => ?_)
    have hP : va_P (gD g) cl0 ws H1 := by rw [← ht9]; exact hB9.1
    have hz_r_27 : r_27 = 0 ∨ r_27 = 1 := hw9
    clear hB9 hz9 hk9 hvm9 ht9 hw9
    generalize H1 = H at hP hS ⊢
    refine lv_if_eq (tgt := 50) hx hb dX9_liveBefore_39 (by decide) (fun c_28 => ?_) (fun c_28 => ?_)
    · exact J_50 (r_4) H locs ls  hP hD hS (lv_sub hl [2, 3, 0] rfl)
    · refine lv_iload_n hx hb dX9_liveBefore_42 rfl (lv_at hl 0 rfl) ?_
      refine lv_aload_n hx hb dX9_liveBefore_43 rfl (lv_at hl 2 rfl) ?_
      refine lv_iload_n hx hb dX9_liveBefore_44 rfl (lv_at hl 3 rfl) ?_
      have hFc := gfree hD hS hA
      refine va_calli (va_runV (As := [.int x1]) (rest := [.int r_4]) ⟨hx, hb, hml, hown, hts⟩ (m_X9_localBits l g H.size ws h0 (x1) hG o_h0) (cwV 1 hts (gd_V kw_1599 kw_1674 kw_1675 kw_404 kw_1673) rfl rfl rfl (by decide +kernel) ⟨Nat.le_of_ble_eq_true rfl, Nat.le_of_ble_eq_true rfl⟩) ⟨gblind, va_recv hK hP (ci := 8) (q0 := k_1) rfl hk_1, fun U hU hW9 => gmk hU hW9 hP hK hD hex hE hS hFc⟩ rfl rfl hl.1 rfl (lv_room (Nat.le_of_ble_eq_true rfl)) dX9_liveBefore_45 ⟨Nat.le_of_ble_eq_true rfl, Nat.le_of_ble_eq_true rfl⟩) hS (fun q _ h => hFc q h) hFc (fun r_29 u9 t9 H1 locs ht9 hvm9 hw9 hB9 hz9 hk9 hS => ?_)
      have hP : va_P (gD g) cl0 ws H1 := by rw [← ht9]; exact hB9.1
      clear hB9 hz9 hk9 hvm9 ht9 hw9
      generalize H1 = H at hP hS ⊢
      refine lv_ior hx hb dX9_liveBefore_48 ?_
      refine lv_topi (fun z_30 ez_30 => ?_)
      refine lv_istore_n (lv' := [(3, .int z_30), (2, .int r_3), (0, .ref h0), (1, .int x1)]) hx hb dX9_liveBefore_49 rfl hl (by decide) rfl (fun ls hl => ?_)
      exact J_50 (z_30) H locs ls  hP hD hS (lv_sub hl [2, 3, 0] rfl)
  · refine lv_iload_n hx hb dX9_liveBefore_22 rfl (lv_at hl 0 rfl) ?_
    refine lv_aload_n hx hb dX9_liveBefore_23 rfl (lv_at hl 2 rfl) ?_
    refine lv_iload_n hx hb dX9_liveBefore_24 rfl (lv_at hl 3 rfl) ?_
    have hFc := gfree hD hS hA
    refine va_calli (va_runV (As := [.int x1]) (rest := [.int r_4]) ⟨hx, hb, hml, hown, hts⟩ (m_X9_localBits l g H.size ws h0 (x1) hG o_h0) (cwV 1 hts (gd_V kw_1599 kw_1674 kw_1675 kw_404 kw_1673) rfl rfl rfl (by decide +kernel) ⟨Nat.le_of_ble_eq_true rfl, Nat.le_of_ble_eq_true rfl⟩) ⟨gblind, va_recv hK hP (ci := 8) (q0 := k_1) rfl hk_1, fun U hU hW9 => gmk hU hW9 hP hK hD hex hE hS hFc⟩ rfl rfl hl.1 rfl (lv_room (Nat.le_of_ble_eq_true rfl)) dX9_liveBefore_25 ⟨Nat.le_of_ble_eq_true rfl, Nat.le_of_ble_eq_true rfl⟩) hS (fun q _ h => hFc q h) hFc (fun r_31 u9 t9 H1 locs ht9 hvm9 hw9 hB9 hz9 hk9 hS => ?_)
    have hP : va_P (gD g) cl0 ws H1 := by rw [← ht9]; exact hB9.1
    clear hB9 hz9 hk9 hvm9 ht9 hw9
    generalize H1 = H at hP hS ⊢
    refine lv_iconst (v := (-1)) hx hb dX9_liveBefore_28 (by decide) ?_
    refine lv_ixor hx hb dX9_liveBefore_29 ?_
    refine lv_topi (fun z_32 ez_32 => ?_)
    refine lv_iand hx hb dX9_liveBefore_30 ?_
    refine lv_topi (fun z_33 ez_33 => ?_)
    refine lv_istore_n (lv' := [(3, .int z_33), (2, .int r_3), (0, .ref h0), (1, .int x1)]) hx hb dX9_liveBefore_31 rfl hl (by decide) rfl (fun ls hl => ?_)
    refine lv_goto (tgt := 50) hx hb dX9_liveBefore_32 (by decide) ?_
    exact J_50 (z_33) H locs ls  hP hD hS (lv_sub hl [2, 3, 0] rfl)
set_option maxHeartbeats 1000000 in
set_option maxRecDepth 100000 in
theorem m_X9_isDone (l : Launch) (g : Gm) (sz : Nat) (ws : va_W) (h0 : Nat) (x1 : Int32) (x2 : Int32) (hG : Good g ws) (o_h0 : gC ws h0 8) (fp_a : gP ws h0 (fun fs => ∀ (rn n : Nat), fs[2]? = some (.ref rn) → gI ws rn g.cZ n → 1297 ≤ n)) (fp_b : gP ws h0 (fun fs => ∀ (rn n : Nat), fs[3]? = some (.ref rn) → gI ws rn g.cZ n → 1297 ≤ n)) (fp_d : gP ws h0 (fun fs => ∀ (rn n : Nat), fs[4]? = some (.ref rn) → gI ws rn g.cI n → 1297 ≤ n)) (fp_f : gP ws h0 (fun fs => ∀ (rn n : Nat), fs[5]? = some (.ref rn) → gI ws rn g.cI n → 1297 ≤ n)) (p0 : 0 ≤ x2.toInt) (px : x2.toInt ≤ 1300) : Met l yX9_isDone (wt yX9_isDone cX9_isDone 3 (some .boolean)) ({ frames := 4, cells := 0, slots := 0, locals := 98 }) (va_Pc [.ref h0, .int x1, .int x2] (st_G g sz ws)) (va_Qi (fun (r : Int32) (u9 : va_W) => r = 0 ∨ r = 1) (gQ1 g [(7, 2), (7, 9)] [(7, 0), (7, 1), (7, 3), (7, 5), (7, 6), (7, 7), (7, 8)] none (va_A ws sz) ws) (va_A ws sz)) (0) (0) (va_A ws sz) := by
  refine Met.ofW (cc := cX9_isDone) (maxL := 3) (ret := (some .boolean)) (by decide) rfl ?_
  intro p e s m args below meth c s₁ B hml hv
  obtain ⟨rfl, hsz, hP, hK, hD0, hex, hE⟩ := hv
  have hx := B.exec
  have hb := B.bytes
  have hr := B.returns
  have hts0 := atoms_spec (ws := wt yX9_isDone cX9_isDone 3 (some .boolean)) B.pre
  have hts : ∀ w ∈ tb, w.before _ s = true := fun w h => hts0 w (List.mem_cons_of_mem _ h)
  have hown : s.vm.findClass RX9 = some m.cls := findClass_of_methodNamed B.named
  subst hsz
  have hD := hD0.self (sz := s.heap.size)
  generalize hAe : va_A ws s.heap.size = A at hD hE ⊢
  have hA : ∀ q : Nat, s.heap.size ≤ q → A q := fun q h => by rw [← hAe]; exact Or.inr h
  have hS : va_S A s.heap s.heap [] := va_S.rf
  have hl := lv_entry ([.ref h0, .int x1, .int x2]) (n := 3) (Nat.le_of_ble_eq_true rfl)
  rw [lg_entry_eq]
  generalize (lg_sl ([.ref h0, .int x1, .int x2]) ++ List.replicate (3 - (lg_sl ([.ref h0, .int x1, .int x2])).length) Slot.unset).toArray = ls at hl ⊢
  have hl : lv_has ls 3 [(0, .ref h0), (1, .int x1), (2, .int x2)] := hl
  obtain ⟨k_1, fs9, hk_1⟩ := gC_of o_h0
  obtain ⟨r0_1, r1_1, n1_1, r2_1, n2_1, r3_1, n3_1, r4_1, n4_1, r5_1, n5_1, rfl, o_r0_1, a_r1_1, f2_1, a_r2_1, f4_1, a_r3_1, f6_1, a_r4_1, f8_1, a_r5_1, f10_1, f11_1, -⟩ := (hG.1 _ _ _ _ hk_1).hX9 rfl
  have fq_a := fp_a _ _ _ hk_1 _ _ rfl a_r2_1
  have fq_b := fp_b _ _ _ hk_1 _ _ rfl a_r3_1
  have fq_d := fp_d _ _ _ hk_1 _ _ rfl a_r4_1
  have fq_f := fp_f _ _ _ hk_1 _ _ rfl a_r5_1
  refine lv_iload_n hx hb dX9_isDone_0 rfl (lv_at hl 1 rfl) ?_
  refine lv_iconst (v := 2) hx hb dX9_isDone_1 (by decide) ?_
  refine lv_icmp_ne (tgt := 11) hx hb dX9_isDone_2 (by decide) (fun c_2 => ?_) (fun c_2 => ?_)
  · refine lv_iload_n hx hb dX9_isDone_11 rfl (lv_at hl 2 rfl) ?_
    refine lv_aload_n hx hb dX9_isDone_12 rfl (lv_at hl 0 rfl) ?_
    refine va_get (D := gD g) (ci := 8) (v := .ref r0_1) (C := RX9) (T := TX9) (N := 6) hx hb hts inX9 hown hK hP k_1 hk_1 rfl 0 (by decide) (hts _ kw_1552) (fun _ h9 => h9) rfl dX9_isDone_13 ?_
    obtain ⟨k_3, fs9, hk_3⟩ := gC_of o_r0_1
    obtain ⟨r0_3, n0_3, r1_3, n1_3, c2_3, r3_3, n3_3, c4_3, r5_3, n5_3, r6_3, n6_3, r7_3, n7_3, r8_3, n8_3, c9_3, c10_3, c11_3, v12_3, v13_3, v14_3, rfl, a_r0_3, f1_3, a_r1_3, f3_3, a_r3_3, f5_3, a_r5_3, f7_3, a_r6_3, f9_3, a_r7_3, f11_3, a_r8_3, f13_3, o_v12_3, o_v13_3, o_v14_3, f17_3, f18_3, f19_3, f20_3, f21_3, f22_3, f23_3, f24_3, f25_3, f26_3, f27_3, f28_3, f29_3, -⟩ := (hG.1 _ _ _ _ hk_3).hX8 rfl
    refine va_get (D := gD g) (ci := 7) (v := .int c2_3) (C := RX8) (T := TX8) (N := 15) hx hb hts inX8 hown hK hP k_3 hk_3 rfl 2 (by decide) (hts _ kw_1553) (fun _ h9 => h9) rfl dX9_isDone_16 ?_
    refine lv_iconst (v := 1) hx hb dX9_isDone_19 (by decide) ?_
    refine lv_isub hx hb dX9_isDone_20 ?_
    refine lv_topi (fun z_4 ez_4 => ?_)
    refine lv_icmp_lt (tgt := 26) hx hb dX9_isDone_21 (by decide) (fun c_5 => ?_) (fun c_5 => ?_)
    · refine lv_iload_n hx hb dX9_isDone_26 rfl (lv_at hl 1 rfl) ?_
      have K_27_257 : W p l e (headSpec (wt yX9_isDone cX9_isDone 3 (some .boolean)) ({ frames := 4, cells := 0, slots := 0, locals := 98 })).room s m ([.ref h0, .int x1, .int x2] : List Value).toArray below meth c s.heap [] (0) (0) (MQ below (va_Qi (fun (r : Int32) (u9 : va_W) => r = 0 ∨ r = 1) (gQ1 g [(7, 2), (7, 9)] [(7, 0), (7, 1), (7, 3), (7, 5), (7, 6), (7, 7), (7, 8)] none A ws) A) ([.ref h0, .int x1, .int x2] : List Value).toArray s (0) (0) A) (F0 m 257 ls []) := by
        refine lv_aload_n hx hb dX9_isDone_257 rfl (lv_at hl 0 rfl) ?_
        refine lv_iload_n hx hb dX9_isDone_258 rfl (lv_at hl 2 rfl) ?_
        have hFc := gfree hD hS hA
        refine va_calli (va_runV (As := [.int x2]) (rest := []) ⟨hx, hb, hml, hown, hts⟩ (m_X9_isDeadStoreDone l g s.heap.size ws h0 (x2) hG o_h0 (gP_of hD hk_1 (fun p90 q90 e90 g90 => by cases e90; have z90 := gI_n hD a_r2_1 g90; subst z90; exact (by have q_f4_1 := f4_1; have q_fq_a := fq_a; omega))) (gP_of hD hk_1 (fun p90 q90 e90 g90 => by cases e90; have z90 := gI_n hD a_r3_1 g90; subst z90; exact (by have q_f6_1 := f6_1; have q_fq_b := fq_b; omega))) (gP_of hD hk_1 (fun p90 q90 e90 g90 => by cases e90; have z90 := gI_n hD a_r4_1 g90; subst z90; exact (by have q_f8_1 := f8_1; have q_fq_d := fq_d; omega))) (gP_of hD hk_1 (fun p90 q90 e90 g90 => by cases e90; have z90 := gI_n hD a_r5_1 g90; subst z90; exact (by have q_f10_1 := f10_1; have q_fq_f := fq_f; omega))) (by have e1 : (1 : Int32).toInt = 1 := (by decide); have q_p0 := p0; have q_px := px; have q_c_5 := i_lt c_5; obtain ⟨u_z_4, q_z_4⟩ := i_sub ez_4; have g_c2_3 := i_rg c2_3; have g_x2 := i_rg x2; have g_z_4 := i_rg z_4; omega) (by have e1 : (1 : Int32).toInt = 1 := (by decide); have q_p0 := p0; have q_px := px; have q_c_5 := i_lt c_5; obtain ⟨u_z_4, q_z_4⟩ := i_sub ez_4; have g_c2_3 := i_rg c2_3; have g_x2 := i_rg x2; have g_z_4 := i_rg z_4; omega)) (cwV 1 hts (gd_V kw_1614 kw_1594 kw_1595 kw_404 kw_1593) rfl rfl rfl (by decide +kernel) ⟨Nat.le_of_ble_eq_true rfl, Nat.le_of_ble_eq_true rfl⟩) ⟨gblind, va_recv hK hP (ci := 8) (q0 := k_1) rfl hk_1, fun U hU hW9 => gmk hU hW9 hP hK hD hex hE hS hFc⟩ rfl rfl hl.1 rfl (lv_room (Nat.le_of_ble_eq_true rfl)) dX9_isDone_259 ⟨Nat.le_of_ble_eq_true rfl, Nat.le_of_ble_eq_true rfl⟩) hS (fun q _ h => hFc q h) hFc (fun r_6 ws_7 t9 H1 locs ht9 hvm9 hw9 hB9 hz9 hk9 hS => ?_)
        obtain ⟨E_8, Fr_9, hG, hP1, hD1⟩ := hB9
        have hP : va_P (gD g) cl0 ws_7 H1 := by rw [← ht9]; exact hP1
        have hD : va_D A ws_7 := hD1.weaken (fun _ _ _ h => hFc _ h)
        have hz_r_6 : r_6 = 0 ∨ r_6 = 1 := hw9
        clear hP1 hD1 hz9 hk9 hvm9 ht9 hw9
        generalize H1 = H at hP hS ⊢
        have aa_12 := a_r1_1
        have aa_13 := a_r2_1
        have aa_14 := a_r3_1
        have aa_15 := a_r4_1
        have aa_16 := a_r5_1
        have aa_17 := a_r0_3
        have aa_18 := a_r1_3
        have aa_19 := a_r3_3
        have aa_20 := a_r5_3
        have aa_21 := a_r6_3
        have aa_22 := a_r7_3
        have aa_23 := a_r8_3
        have o_h0 := E_8.1 _ _ o_h0
        refine W.widen (k := 0) (n := 0) (Nat.le_of_ble_eq_true rfl) (Nat.le_of_ble_eq_true rfl) ?_
        exact W.zret (v := r_6) hx hb hr (nz hz_r_6) (fun t9 ht9 hW9 => ⟨⟨_, ws_7, rfl, hz_r_6, ⟨E_8, Fr_9, hG, by rw [ht9]; exact hP, hD⟩⟩, hS.F ht9⟩) hS.2.2 dX9_isDone_262
      have K_27_72 : W p l e (headSpec (wt yX9_isDone cX9_isDone 3 (some .boolean)) ({ frames := 4, cells := 0, slots := 0, locals := 98 })).room s m ([.ref h0, .int x1, .int x2] : List Value).toArray below meth c s.heap [] (0) (0) (MQ below (va_Qi (fun (r : Int32) (u9 : va_W) => r = 0 ∨ r = 1) (gQ1 g [(7, 2), (7, 9)] [(7, 0), (7, 1), (7, 3), (7, 5), (7, 6), (7, 7), (7, 8)] none A ws) A) ([.ref h0, .int x1, .int x2] : List Value).toArray s (0) (0) A) (F0 m 72 ls []) := by
        refine lv_aload_n hx hb dX9_isDone_72 rfl (lv_at hl 0 rfl) ?_
        refine va_get (D := gD g) (ci := 8) (v := .ref r0_1) (C := RX9) (T := TX9) (N := 6) hx hb hts inX9 hown hK hP k_1 hk_1 rfl 0 (by decide) (hts _ kw_1552) (fun _ h9 => h9) rfl dX9_isDone_73 ?_
        refine lv_iload_n hx hb dX9_isDone_76 rfl (lv_at hl 2 rfl) ?_
        have hFc := gfree hD hS hA
        refine va_calli (va_runV (As := [.int x2]) (rest := []) ⟨hx, hb, hml, hown, hts⟩ (m_X8_opAt l g s.heap.size ws r0_1 (x2) hG o_r0_1) (cwV 1 hts (gd_V kw_1596 kw_1513 kw_1514 kw_782 kw_1512) rfl rfl rfl (by decide +kernel) ⟨Nat.le_of_ble_eq_true rfl, Nat.le_of_ble_eq_true rfl⟩) ⟨gblind, va_recv hK hP (ci := 7) (q0 := k_3) rfl hk_3, fun U hU hW9 => gmk hU hW9 hP hK hD hex hE hS hFc⟩ rfl rfl hl.1 rfl (lv_room (Nat.le_of_ble_eq_true rfl)) dX9_isDone_77 ⟨Nat.le_of_ble_eq_true rfl, Nat.le_of_ble_eq_true rfl⟩) hS (fun q _ h => hFc q h) hFc (fun r_24 u9 t9 H1 locs ht9 hvm9 hw9 hB9 hz9 hk9 hS => ?_)
        have hP : va_P (gD g) cl0 ws H1 := by rw [← ht9]; exact hB9.1
        clear hB9 hz9 hk9 hvm9 ht9 hw9
        generalize H1 = H at hP hS ⊢
        refine lv_sipush (v := 167) hx hb dX9_isDone_80 (by decide) ?_
        have J_116 : ∀ (t_25 : Int32) (ws_27 : va_W) (H : Heap) (locs : List Loc) (ls : Array Slot), t_25 = 0 ∨ t_25 = 1 → gE ws ws_27 → gF [(7, 2), (7, 9)] [(7, 0), (7, 1), (7, 3), (7, 5), (7, 6), (7, 7), (7, 8)] none ws ws_27 → Good g ws_27 → va_P (gD g) cl0 ws_27 H → va_D A ws_27 → va_S A s.heap H locs → lv_has ls 3 [] → W p l e (headSpec (wt yX9_isDone cX9_isDone 3 (some .boolean)) ({ frames := 4, cells := 0, slots := 0, locals := 98 })).room s m ([.ref h0, .int x1, .int x2] : List Value).toArray below meth c H locs (0) (0) (MQ below (va_Qi (fun (r : Int32) (u9 : va_W) => r = 0 ∨ r = 1) (gQ1 g [(7, 2), (7, 9)] [(7, 0), (7, 1), (7, 3), (7, 5), (7, 6), (7, 7), (7, 8)] none A ws) A) ([.ref h0, .int x1, .int x2] : List Value).toArray s (0) (0) A) (F0 m 116 ls [.int t_25]) := by
          intro t_25 ws_27 H locs ls iv_26 E_28 Fr_29 hG hP hD hS hl
          have hz_t_25 := iv_26
          have aa_30 := a_r1_1
          have aa_31 := a_r2_1
          have aa_32 := a_r3_1
          have aa_33 := a_r4_1
          have aa_34 := a_r5_1
          have aa_35 := a_r0_3
          have aa_36 := a_r1_3
          have aa_37 := a_r3_3
          have aa_38 := a_r5_3
          have aa_39 := a_r6_3
          have aa_40 := a_r7_3
          have aa_41 := a_r8_3
          have o_h0 := E_28.1 _ _ o_h0
          refine W.widen (k := 0) (n := 0) (Nat.le_of_ble_eq_true rfl) (Nat.le_of_ble_eq_true rfl) ?_
          exact W.zret (v := t_25) hx hb hr (nz hz_t_25) (fun t9 ht9 hW9 => ⟨⟨_, ws_27, rfl, hz_t_25, ⟨E_28, Fr_29, hG, by rw [ht9]; exact hP, hD⟩⟩, hS.F ht9⟩) hS.2.2 dX9_isDone_116
        have J_115 : ∀ (ws_42 : va_W) (H : Heap) (locs : List Loc) (ls : Array Slot), gE ws ws_42 → gF [(7, 2), (7, 9)] [(7, 0), (7, 1), (7, 3), (7, 5), (7, 6), (7, 7), (7, 8)] none ws ws_42 → Good g ws_42 → va_P (gD g) cl0 ws_42 H → va_D A ws_42 → va_S A s.heap H locs → lv_has ls 3 [] → W p l e (headSpec (wt yX9_isDone cX9_isDone 3 (some .boolean)) ({ frames := 4, cells := 0, slots := 0, locals := 98 })).room s m ([.ref h0, .int x1, .int x2] : List Value).toArray below meth c H locs (0) (0) (MQ below (va_Qi (fun (r : Int32) (u9 : va_W) => r = 0 ∨ r = 1) (gQ1 g [(7, 2), (7, 9)] [(7, 0), (7, 1), (7, 3), (7, 5), (7, 6), (7, 7), (7, 8)] none A ws) A) ([.ref h0, .int x1, .int x2] : List Value).toArray s (0) (0) A) (F0 m 115 ls []) := by
          intro ws_42 H locs ls  E_43 Fr_44 hG hP hD hS hl
          have aa_45 := a_r1_1
          have aa_46 := a_r2_1
          have aa_47 := a_r3_1
          have aa_48 := a_r4_1
          have aa_49 := a_r5_1
          have aa_50 := a_r0_3
          have aa_51 := a_r1_3
          have aa_52 := a_r3_3
          have aa_53 := a_r5_3
          have aa_54 := a_r6_3
          have aa_55 := a_r7_3
          have aa_56 := a_r8_3
          have o_h0 := E_43.1 _ _ o_h0
          refine lv_iconst (v := 0) hx hb dX9_isDone_115 (by decide) ?_
          exact J_116 (0) ws_42 H locs ls (Or.inl rfl) (E_43) (Fr_44) hG hP hD hS (lv_sub hl [] rfl)
        refine lv_icmp_ne (tgt := 115) hx hb dX9_isDone_83 (by decide) (fun c_57 => ?_) (fun c_57 => ?_)
        · exact J_115 ws H locs ls (gE.rf) (gF.rf) hG hP hD hS (lv_sub hl [] rfl)
        · refine lv_aload_n hx hb dX9_isDone_86 rfl (lv_at hl 0 rfl) ?_
          refine va_get (D := gD g) (ci := 8) (v := .ref r0_1) (C := RX9) (T := TX9) (N := 6) hx hb hts inX9 hown hK hP k_1 hk_1 rfl 0 (by decide) (hts _ kw_1552) (fun _ h9 => h9) rfl dX9_isDone_87 ?_
          refine lv_iload_n hx hb dX9_isDone_90 rfl (lv_at hl 2 rfl) ?_
          have hFc := gfree hD hS hA
          refine va_calll (va_runV (As := [.int x2]) (rest := []) ⟨hx, hb, hml, hown, hts⟩ (m_X8_argAt l g H.size ws r0_1 (x2) hG o_r0_1) (cwV 1 hts (gd_V kw_1605 kw_1476 kw_1477 kw_782 kw_1475) rfl rfl rfl (by decide +kernel) ⟨Nat.le_of_ble_eq_true rfl, Nat.le_of_ble_eq_true rfl⟩) ⟨gblind, va_recv hK hP (ci := 7) (q0 := k_3) rfl hk_3, fun U hU hW9 => gmk hU hW9 hP hK hD hex hE hS hFc⟩ rfl rfl hl.1 rfl (lv_room (Nat.le_of_ble_eq_true rfl)) dX9_isDone_91 ⟨Nat.le_of_ble_eq_true rfl, Nat.le_of_ble_eq_true rfl⟩) hS (fun q _ h => hFc q h) hFc (fun r_58 u9 t9 H1 locs ht9 hvm9 hw9 hB9 hz9 hk9 hS => ?_)
          have hP : va_P (gD g) cl0 ws H1 := by rw [← ht9]; exact hB9.1
          clear hB9 hz9 hk9 hvm9 ht9 hw9
          generalize H1 = H at hP hS ⊢
          refine lv_iload_n hx hb dX9_isDone_94 rfl (lv_at hl 2 rfl) ?_
          refine lv_iconst (v := 1) hx hb dX9_isDone_95 (by decide) ?_
          refine lv_iadd hx hb dX9_isDone_96 ?_
          refine lv_topi (fun z_59 ez_59 => ?_)
          obtain ⟨z_60, ez_60⟩ : ∃ y : Int64, (z_59 : Int32).toInt64 = y := ⟨_, rfl⟩
          refine lv_i2l (v := z_60) hx hb dX9_isDone_97 ez_60 ?_
          refine W.lcmp hx hb dX9_isDone_98 ?_
          refine lv_topi (fun z_61 ez_61 => ?_)
          refine lv_if_ne (tgt := 115) hx hb dX9_isDone_99 (by decide) (fun c_62 => ?_) (fun c_62 => ?_)
          · exact J_115 ws H locs ls (gE.rf) (gF.rf) hG hP hD hS (lv_sub hl [] rfl)
          · refine lv_aload_n hx hb dX9_isDone_102 rfl (lv_at hl 0 rfl) ?_
            refine lv_iload_n hx hb dX9_isDone_103 rfl (lv_at hl 2 rfl) ?_
            refine lv_iconst (v := 1) hx hb dX9_isDone_104 (by decide) ?_
            have hFc := gfree hD hS hA
            refine va_calli (va_runV (As := [.int x2, .int 1]) (rest := []) ⟨hx, hb, hml, hown, hts⟩ (m_X9_isDropped l g H.size ws h0 (x2) (1) hG o_h0 (by have e1 : (1 : Int32).toInt = 1 := (by decide); have q_p0 := p0; have q_px := px; have q_c_5 := i_lt c_5; obtain ⟨u_z_59, q_z_59⟩ := i_add ez_59; obtain ⟨u_z_4, q_z_4⟩ := i_sub ez_4; have q_z_60 := l_of ez_60; have g_c2_3 := i_rg c2_3; have g_x2 := i_rg x2; have g_z_4 := i_rg z_4; have g_z_59 := i_rg z_59; omega) (by have e1 : (1 : Int32).toInt = 1 := (by decide); omega)) (cwV 2 hts (gd_V kw_1606 kw_1616 kw_1617 kw_404 kw_1615) rfl rfl rfl (by decide +kernel) ⟨Nat.le_of_ble_eq_true rfl, Nat.le_of_ble_eq_true rfl⟩) ⟨gblind, va_recv hK hP (ci := 8) (q0 := k_1) rfl hk_1, fun U hU hW9 => gmk hU hW9 hP hK hD hex hE hS hFc⟩ rfl rfl hl.1 rfl (lv_room (Nat.le_of_ble_eq_true rfl)) dX9_isDone_105 ⟨Nat.le_of_ble_eq_true rfl, Nat.le_of_ble_eq_true rfl⟩) hS (fun q _ h => hFc q h) hFc (fun r_63 ws_64 t9 H1 locs ht9 hvm9 hw9 hB9 hz9 hk9 hS => ?_)
            obtain ⟨E_65, Fr_66, hG, hP1, hD1⟩ := hB9
            have hP : va_P (gD g) cl0 ws_64 H1 := by rw [← ht9]; exact hP1
            have hD : va_D A ws_64 := hD1.weaken (fun _ _ _ h => hFc _ h)
            have hz_r_63 : r_63 = 0 ∨ r_63 = 1 := hw9
            clear hP1 hD1 hz9 hk9 hvm9 ht9 hw9
            generalize H1 = H at hP hS ⊢
            have aa_69 := a_r1_1
            have aa_70 := a_r2_1
            have aa_71 := a_r3_1
            have aa_72 := a_r4_1
            have aa_73 := a_r5_1
            have aa_74 := a_r0_3
            have aa_75 := a_r1_3
            have aa_76 := a_r3_3
            have aa_77 := a_r5_3
            have aa_78 := a_r6_3
            have aa_79 := a_r7_3
            have aa_80 := a_r8_3
            have o_h0 := E_65.1 _ _ o_h0
            refine lv_if_eq (tgt := 115) hx hb dX9_isDone_108 (by decide) (fun c_81 => ?_) (fun c_81 => ?_)
            · exact J_115 ws_64 H locs ls (E_65) (Fr_66) hG hP hD hS (lv_sub hl [] rfl)
            · refine lv_iconst (v := 1) hx hb dX9_isDone_111 (by decide) ?_
              refine lv_goto (tgt := 116) hx hb dX9_isDone_112 (by decide) ?_
              exact J_116 (1) ws_64 H locs ls (Or.inr rfl) (E_65) (Fr_66) hG hP hD hS (lv_sub hl [] rfl)
      have K_27_117 : W p l e (headSpec (wt yX9_isDone cX9_isDone 3 (some .boolean)) ({ frames := 4, cells := 0, slots := 0, locals := 98 })).room s m ([.ref h0, .int x1, .int x2] : List Value).toArray below meth c s.heap [] (0) (0) (MQ below (va_Qi (fun (r : Int32) (u9 : va_W) => r = 0 ∨ r = 1) (gQ1 g [(7, 2), (7, 9)] [(7, 0), (7, 1), (7, 3), (7, 5), (7, 6), (7, 7), (7, 8)] none A ws) A) ([.ref h0, .int x1, .int x2] : List Value).toArray s (0) (0) A) (F0 m 117 ls []) := by
        refine lv_aload_n hx hb dX9_isDone_117 rfl (lv_at hl 0 rfl) ?_
        refine va_get (D := gD g) (ci := 8) (v := .ref r0_1) (C := RX9) (T := TX9) (N := 6) hx hb hts inX9 hown hK hP k_1 hk_1 rfl 0 (by decide) (hts _ kw_1552) (fun _ h9 => h9) rfl dX9_isDone_118 ?_
        refine lv_iload_n hx hb dX9_isDone_121 rfl (lv_at hl 2 rfl) ?_
        have hFc := gfree hD hS hA
        refine va_calli (va_runV (As := [.int x2]) (rest := []) ⟨hx, hb, hml, hown, hts⟩ (m_X8_opAt l g s.heap.size ws r0_1 (x2) hG o_r0_1) (cwV 1 hts (gd_V kw_1596 kw_1513 kw_1514 kw_782 kw_1512) rfl rfl rfl (by decide +kernel) ⟨Nat.le_of_ble_eq_true rfl, Nat.le_of_ble_eq_true rfl⟩) ⟨gblind, va_recv hK hP (ci := 7) (q0 := k_3) rfl hk_3, fun U hU hW9 => gmk hU hW9 hP hK hD hex hE hS hFc⟩ rfl rfl hl.1 rfl (lv_room (Nat.le_of_ble_eq_true rfl)) dX9_isDone_122 ⟨Nat.le_of_ble_eq_true rfl, Nat.le_of_ble_eq_true rfl⟩) hS (fun q _ h => hFc q h) hFc (fun r_82 u9 t9 H1 locs ht9 hvm9 hw9 hB9 hz9 hk9 hS => ?_)
        have hP : va_P (gD g) cl0 ws H1 := by rw [← ht9]; exact hB9.1
        clear hB9 hz9 hk9 hvm9 ht9 hw9
        generalize H1 = H at hP hS ⊢
        have J_142 : ∀ (t_83 : Int32) (ws_85 : va_W) (H : Heap) (locs : List Loc) (ls : Array Slot), t_83 = 0 ∨ t_83 = 1 → gE ws ws_85 → gF [(7, 2), (7, 9)] [(7, 0), (7, 1), (7, 3), (7, 5), (7, 6), (7, 7), (7, 8)] none ws ws_85 → Good g ws_85 → va_P (gD g) cl0 ws_85 H → va_D A ws_85 → va_S A s.heap H locs → lv_has ls 3 [] → W p l e (headSpec (wt yX9_isDone cX9_isDone 3 (some .boolean)) ({ frames := 4, cells := 0, slots := 0, locals := 98 })).room s m ([.ref h0, .int x1, .int x2] : List Value).toArray below meth c H locs (0) (0) (MQ below (va_Qi (fun (r : Int32) (u9 : va_W) => r = 0 ∨ r = 1) (gQ1 g [(7, 2), (7, 9)] [(7, 0), (7, 1), (7, 3), (7, 5), (7, 6), (7, 7), (7, 8)] none A ws) A) ([.ref h0, .int x1, .int x2] : List Value).toArray s (0) (0) A) (F0 m 142 ls [.int t_83]) := by
          intro t_83 ws_85 H locs ls iv_84 E_86 Fr_87 hG hP hD hS hl
          have hz_t_83 := iv_84
          have aa_88 := a_r1_1
          have aa_89 := a_r2_1
          have aa_90 := a_r3_1
          have aa_91 := a_r4_1
          have aa_92 := a_r5_1
          have aa_93 := a_r0_3
          have aa_94 := a_r1_3
          have aa_95 := a_r3_3
          have aa_96 := a_r5_3
          have aa_97 := a_r6_3
          have aa_98 := a_r7_3
          have aa_99 := a_r8_3
          have o_h0 := E_86.1 _ _ o_h0
          refine W.widen (k := 0) (n := 0) (Nat.le_of_ble_eq_true rfl) (Nat.le_of_ble_eq_true rfl) ?_
          exact W.zret (v := t_83) hx hb hr (nz hz_t_83) (fun t9 ht9 hW9 => ⟨⟨_, ws_85, rfl, hz_t_83, ⟨E_86, Fr_87, hG, by rw [ht9]; exact hP, hD⟩⟩, hS.F ht9⟩) hS.2.2 dX9_isDone_142
        have J_141 : ∀ (ws_100 : va_W) (H : Heap) (locs : List Loc) (ls : Array Slot), gE ws ws_100 → gF [(7, 2), (7, 9)] [(7, 0), (7, 1), (7, 3), (7, 5), (7, 6), (7, 7), (7, 8)] none ws ws_100 → Good g ws_100 → va_P (gD g) cl0 ws_100 H → va_D A ws_100 → va_S A s.heap H locs → lv_has ls 3 [] → W p l e (headSpec (wt yX9_isDone cX9_isDone 3 (some .boolean)) ({ frames := 4, cells := 0, slots := 0, locals := 98 })).room s m ([.ref h0, .int x1, .int x2] : List Value).toArray below meth c H locs (0) (0) (MQ below (va_Qi (fun (r : Int32) (u9 : va_W) => r = 0 ∨ r = 1) (gQ1 g [(7, 2), (7, 9)] [(7, 0), (7, 1), (7, 3), (7, 5), (7, 6), (7, 7), (7, 8)] none A ws) A) ([.ref h0, .int x1, .int x2] : List Value).toArray s (0) (0) A) (F0 m 141 ls []) := by
          intro ws_100 H locs ls  E_101 Fr_102 hG hP hD hS hl
          have aa_103 := a_r1_1
          have aa_104 := a_r2_1
          have aa_105 := a_r3_1
          have aa_106 := a_r4_1
          have aa_107 := a_r5_1
          have aa_108 := a_r0_3
          have aa_109 := a_r1_3
          have aa_110 := a_r3_3
          have aa_111 := a_r5_3
          have aa_112 := a_r6_3
          have aa_113 := a_r7_3
          have aa_114 := a_r8_3
          have o_h0 := E_101.1 _ _ o_h0
          refine lv_iconst (v := 0) hx hb dX9_isDone_141 (by decide) ?_
          exact J_142 (0) ws_100 H locs ls (Or.inl rfl) (E_101) (Fr_102) hG hP hD hS (lv_sub hl [] rfl)
        refine lv_if_ne (tgt := 141) hx hb dX9_isDone_125 (by decide) (fun c_115 => ?_) (fun c_115 => ?_)
        · exact J_141 ws H locs ls (gE.rf) (gF.rf) hG hP hD hS (lv_sub hl [] rfl)
        · refine lv_aload_n hx hb dX9_isDone_128 rfl (lv_at hl 0 rfl) ?_
          refine lv_iload_n hx hb dX9_isDone_129 rfl (lv_at hl 2 rfl) ?_
          refine lv_iconst (v := 1) hx hb dX9_isDone_130 (by decide) ?_
          have hFc := gfree hD hS hA
          refine va_calli (va_runV (As := [.int x2, .int 1]) (rest := []) ⟨hx, hb, hml, hown, hts⟩ (m_X9_isDropped l g H.size ws h0 (x2) (1) hG o_h0 (by have e1 : (1 : Int32).toInt = 1 := (by decide); have q_p0 := p0; have q_px := px; have q_c_5 := i_lt c_5; obtain ⟨u_z_4, q_z_4⟩ := i_sub ez_4; have g_c2_3 := i_rg c2_3; have g_x2 := i_rg x2; have g_z_4 := i_rg z_4; omega) (by have e1 : (1 : Int32).toInt = 1 := (by decide); omega)) (cwV 2 hts (gd_V kw_1606 kw_1616 kw_1617 kw_404 kw_1615) rfl rfl rfl (by decide +kernel) ⟨Nat.le_of_ble_eq_true rfl, Nat.le_of_ble_eq_true rfl⟩) ⟨gblind, va_recv hK hP (ci := 8) (q0 := k_1) rfl hk_1, fun U hU hW9 => gmk hU hW9 hP hK hD hex hE hS hFc⟩ rfl rfl hl.1 rfl (lv_room (Nat.le_of_ble_eq_true rfl)) dX9_isDone_131 ⟨Nat.le_of_ble_eq_true rfl, Nat.le_of_ble_eq_true rfl⟩) hS (fun q _ h => hFc q h) hFc (fun r_116 ws_117 t9 H1 locs ht9 hvm9 hw9 hB9 hz9 hk9 hS => ?_)
          obtain ⟨E_118, Fr_119, hG, hP1, hD1⟩ := hB9
          have hP : va_P (gD g) cl0 ws_117 H1 := by rw [← ht9]; exact hP1
          have hD : va_D A ws_117 := hD1.weaken (fun _ _ _ h => hFc _ h)
          have hz_r_116 : r_116 = 0 ∨ r_116 = 1 := hw9
          clear hP1 hD1 hz9 hk9 hvm9 ht9 hw9
          generalize H1 = H at hP hS ⊢
          have aa_122 := a_r1_1
          have aa_123 := a_r2_1
          have aa_124 := a_r3_1
          have aa_125 := a_r4_1
          have aa_126 := a_r5_1
          have aa_127 := a_r0_3
          have aa_128 := a_r1_3
          have aa_129 := a_r3_3
          have aa_130 := a_r5_3
          have aa_131 := a_r6_3
          have aa_132 := a_r7_3
          have aa_133 := a_r8_3
          have o_h0 := E_118.1 _ _ o_h0
          refine lv_if_eq (tgt := 141) hx hb dX9_isDone_134 (by decide) (fun c_134 => ?_) (fun c_134 => ?_)
          · exact J_141 ws_117 H locs ls (E_118) (Fr_119) hG hP hD hS (lv_sub hl [] rfl)
          · refine lv_iconst (v := 1) hx hb dX9_isDone_137 (by decide) ?_
            refine lv_goto (tgt := 142) hx hb dX9_isDone_138 (by decide) ?_
            exact J_142 (1) ws_117 H locs ls (Or.inr rfl) (E_118) (Fr_119) hG hP hD hS (lv_sub hl [] rfl)
      have K_27_143 : W p l e (headSpec (wt yX9_isDone cX9_isDone 3 (some .boolean)) ({ frames := 4, cells := 0, slots := 0, locals := 98 })).room s m ([.ref h0, .int x1, .int x2] : List Value).toArray below meth c s.heap [] (0) (0) (MQ below (va_Qi (fun (r : Int32) (u9 : va_W) => r = 0 ∨ r = 1) (gQ1 g [(7, 2), (7, 9)] [(7, 0), (7, 1), (7, 3), (7, 5), (7, 6), (7, 7), (7, 8)] none A ws) A) ([.ref h0, .int x1, .int x2] : List Value).toArray s (0) (0) A) (F0 m 143 ls []) := by
        refine lv_aload_n hx hb dX9_isDone_143 rfl (lv_at hl 0 rfl) ?_
        refine lv_iload_n hx hb dX9_isDone_144 rfl (lv_at hl 2 rfl) ?_
        have hFc := gfree hD hS hA
        refine va_calli (va_runV (As := [.int x2]) (rest := []) ⟨hx, hb, hml, hown, hts⟩ (m_X9_isFolded l g s.heap.size ws h0 (x2) hG o_h0 (gP_of hD hk_1 (fun p90 q90 e90 g90 => by cases e90; have z90 := gI_n hD a_r2_1 g90; subst z90; exact (by have q_f4_1 := f4_1; have q_fq_a := fq_a; omega))) (gP_of hD hk_1 (fun p90 q90 e90 g90 => by cases e90; have z90 := gI_n hD a_r3_1 g90; subst z90; exact (by have q_f6_1 := f6_1; have q_fq_b := fq_b; omega))) (gP_of hD hk_1 (fun p90 q90 e90 g90 => by cases e90; have z90 := gI_n hD a_r4_1 g90; subst z90; exact (by have q_f8_1 := f8_1; have q_fq_d := fq_d; omega))) (gP_of hD hk_1 (fun p90 q90 e90 g90 => by cases e90; have z90 := gI_n hD a_r5_1 g90; subst z90; exact (by have q_f10_1 := f10_1; have q_fq_f := fq_f; omega))) (by have e1 : (1 : Int32).toInt = 1 := (by decide); have q_p0 := p0; have q_px := px; have q_c_5 := i_lt c_5; obtain ⟨u_z_4, q_z_4⟩ := i_sub ez_4; have g_c2_3 := i_rg c2_3; have g_x2 := i_rg x2; have g_z_4 := i_rg z_4; omega) (by have e1 : (1 : Int32).toInt = 1 := (by decide); have q_p0 := p0; have q_px := px; have q_c_5 := i_lt c_5; obtain ⟨u_z_4, q_z_4⟩ := i_sub ez_4; have g_c2_3 := i_rg c2_3; have g_x2 := i_rg x2; have g_z_4 := i_rg z_4; omega)) (cwV 1 hts (gd_V kw_1607 kw_1619 kw_1620 kw_404 kw_1618) rfl rfl rfl (by decide +kernel) ⟨Nat.le_of_ble_eq_true rfl, Nat.le_of_ble_eq_true rfl⟩) ⟨gblind, va_recv hK hP (ci := 8) (q0 := k_1) rfl hk_1, fun U hU hW9 => gmk hU hW9 hP hK hD hex hE hS hFc⟩ rfl rfl hl.1 rfl (lv_room (Nat.le_of_ble_eq_true rfl)) dX9_isDone_145 ⟨Nat.le_of_ble_eq_true rfl, Nat.le_of_ble_eq_true rfl⟩) hS (fun q _ h => hFc q h) hFc (fun r_135 ws_136 t9 H1 locs ht9 hvm9 hw9 hB9 hz9 hk9 hS => ?_)
        obtain ⟨E_137, Fr_138, hG, hP1, hD1⟩ := hB9
        have hP : va_P (gD g) cl0 ws_136 H1 := by rw [← ht9]; exact hP1
        have hD : va_D A ws_136 := hD1.weaken (fun _ _ _ h => hFc _ h)
        have hz_r_135 : r_135 = 0 ∨ r_135 = 1 := hw9
        clear hP1 hD1 hz9 hk9 hvm9 ht9 hw9
        generalize H1 = H at hP hS ⊢
        have aa_141 := a_r1_1
        have aa_142 := a_r2_1
        have aa_143 := a_r3_1
        have aa_144 := a_r4_1
        have aa_145 := a_r5_1
        have aa_146 := a_r0_3
        have aa_147 := a_r1_3
        have aa_148 := a_r3_3
        have aa_149 := a_r5_3
        have aa_150 := a_r6_3
        have aa_151 := a_r7_3
        have aa_152 := a_r8_3
        have o_h0 := E_137.1 _ _ o_h0
        refine W.widen (k := 0) (n := 0) (Nat.le_of_ble_eq_true rfl) (Nat.le_of_ble_eq_true rfl) ?_
        exact W.zret (v := r_135) hx hb hr (nz hz_r_135) (fun t9 ht9 hW9 => ⟨⟨_, ws_136, rfl, hz_r_135, ⟨E_137, Fr_138, hG, by rw [ht9]; exact hP, hD⟩⟩, hS.F ht9⟩) hS.2.2 dX9_isDone_148
      have K_27_149 : W p l e (headSpec (wt yX9_isDone cX9_isDone 3 (some .boolean)) ({ frames := 4, cells := 0, slots := 0, locals := 98 })).room s m ([.ref h0, .int x1, .int x2] : List Value).toArray below meth c s.heap [] (0) (0) (MQ below (va_Qi (fun (r : Int32) (u9 : va_W) => r = 0 ∨ r = 1) (gQ1 g [(7, 2), (7, 9)] [(7, 0), (7, 1), (7, 3), (7, 5), (7, 6), (7, 7), (7, 8)] none A ws) A) ([.ref h0, .int x1, .int x2] : List Value).toArray s (0) (0) A) (F0 m 149 ls []) := by
        refine lv_aload_n hx hb dX9_isDone_149 rfl (lv_at hl 0 rfl) ?_
        refine lv_iload_n hx hb dX9_isDone_150 rfl (lv_at hl 2 rfl) ?_
        have hFc := gfree hD hS hA
        refine va_calli (va_runV (As := [.int x2]) (rest := []) ⟨hx, hb, hml, hown, hts⟩ (m_X9_isUnaryFolded l g s.heap.size ws h0 (x2) hG o_h0 (gP_of hD hk_1 (fun p90 q90 e90 g90 => by cases e90; have z90 := gI_n hD a_r2_1 g90; subst z90; exact (by have q_f4_1 := f4_1; have q_fq_a := fq_a; omega))) (gP_of hD hk_1 (fun p90 q90 e90 g90 => by cases e90; have z90 := gI_n hD a_r3_1 g90; subst z90; exact (by have q_f6_1 := f6_1; have q_fq_b := fq_b; omega))) (gP_of hD hk_1 (fun p90 q90 e90 g90 => by cases e90; have z90 := gI_n hD a_r4_1 g90; subst z90; exact (by have q_f8_1 := f8_1; have q_fq_d := fq_d; omega))) (gP_of hD hk_1 (fun p90 q90 e90 g90 => by cases e90; have z90 := gI_n hD a_r5_1 g90; subst z90; exact (by have q_f10_1 := f10_1; have q_fq_f := fq_f; omega))) (by have e1 : (1 : Int32).toInt = 1 := (by decide); have q_p0 := p0; have q_px := px; have q_c_5 := i_lt c_5; obtain ⟨u_z_4, q_z_4⟩ := i_sub ez_4; have g_c2_3 := i_rg c2_3; have g_x2 := i_rg x2; have g_z_4 := i_rg z_4; omega) (by have e1 : (1 : Int32).toInt = 1 := (by decide); have q_p0 := p0; have q_px := px; have q_c_5 := i_lt c_5; obtain ⟨u_z_4, q_z_4⟩ := i_sub ez_4; have g_c2_3 := i_rg c2_3; have g_x2 := i_rg x2; have g_z_4 := i_rg z_4; omega)) (cwV 1 hts (gd_V kw_1608 kw_1653 kw_1654 kw_404 kw_1652) rfl rfl rfl (by decide +kernel) ⟨Nat.le_of_ble_eq_true rfl, Nat.le_of_ble_eq_true rfl⟩) ⟨gblind, va_recv hK hP (ci := 8) (q0 := k_1) rfl hk_1, fun U hU hW9 => gmk hU hW9 hP hK hD hex hE hS hFc⟩ rfl rfl hl.1 rfl (lv_room (Nat.le_of_ble_eq_true rfl)) dX9_isDone_151 ⟨Nat.le_of_ble_eq_true rfl, Nat.le_of_ble_eq_true rfl⟩) hS (fun q _ h => hFc q h) hFc (fun r_153 ws_154 t9 H1 locs ht9 hvm9 hw9 hB9 hz9 hk9 hS => ?_)
        obtain ⟨E_155, Fr_156, hG, hP1, hD1⟩ := hB9
        have hP : va_P (gD g) cl0 ws_154 H1 := by rw [← ht9]; exact hP1
        have hD : va_D A ws_154 := hD1.weaken (fun _ _ _ h => hFc _ h)
        have hz_r_153 : r_153 = 0 ∨ r_153 = 1 := hw9
        clear hP1 hD1 hz9 hk9 hvm9 ht9 hw9
        generalize H1 = H at hP hS ⊢
        have aa_159 := a_r1_1
        have aa_160 := a_r2_1
        have aa_161 := a_r3_1
        have aa_162 := a_r4_1
        have aa_163 := a_r5_1
        have aa_164 := a_r0_3
        have aa_165 := a_r1_3
        have aa_166 := a_r3_3
        have aa_167 := a_r5_3
        have aa_168 := a_r6_3
        have aa_169 := a_r7_3
        have aa_170 := a_r8_3
        have o_h0 := E_155.1 _ _ o_h0
        refine W.widen (k := 0) (n := 0) (Nat.le_of_ble_eq_true rfl) (Nat.le_of_ble_eq_true rfl) ?_
        exact W.zret (v := r_153) hx hb hr (nz hz_r_153) (fun t9 ht9 hW9 => ⟨⟨_, ws_154, rfl, hz_r_153, ⟨E_155, Fr_156, hG, by rw [ht9]; exact hP, hD⟩⟩, hS.F ht9⟩) hS.2.2 dX9_isDone_154
      have K_27_155 : W p l e (headSpec (wt yX9_isDone cX9_isDone 3 (some .boolean)) ({ frames := 4, cells := 0, slots := 0, locals := 98 })).room s m ([.ref h0, .int x1, .int x2] : List Value).toArray below meth c s.heap [] (0) (0) (MQ below (va_Qi (fun (r : Int32) (u9 : va_W) => r = 0 ∨ r = 1) (gQ1 g [(7, 2), (7, 9)] [(7, 0), (7, 1), (7, 3), (7, 5), (7, 6), (7, 7), (7, 8)] none A ws) A) ([.ref h0, .int x1, .int x2] : List Value).toArray s (0) (0) A) (F0 m 155 ls []) := by
        refine lv_aload_n hx hb dX9_isDone_155 rfl (lv_at hl 0 rfl) ?_
        refine lv_iload_n hx hb dX9_isDone_156 rfl (lv_at hl 2 rfl) ?_
        have hFc := gfree hD hS hA
        refine va_calli (va_runV (As := [.int x2]) (rest := []) ⟨hx, hb, hml, hown, hts⟩ (m_X9_isJumpDecided l g s.heap.size ws h0 (x2) hG o_h0 (gP_of hD hk_1 (fun p90 q90 e90 g90 => by cases e90; have z90 := gI_n hD a_r2_1 g90; subst z90; exact (by have q_f4_1 := f4_1; have q_fq_a := fq_a; omega))) (gP_of hD hk_1 (fun p90 q90 e90 g90 => by cases e90; have z90 := gI_n hD a_r3_1 g90; subst z90; exact (by have q_f6_1 := f6_1; have q_fq_b := fq_b; omega))) (gP_of hD hk_1 (fun p90 q90 e90 g90 => by cases e90; have z90 := gI_n hD a_r4_1 g90; subst z90; exact (by have q_f8_1 := f8_1; have q_fq_d := fq_d; omega))) (gP_of hD hk_1 (fun p90 q90 e90 g90 => by cases e90; have z90 := gI_n hD a_r5_1 g90; subst z90; exact (by have q_f10_1 := f10_1; have q_fq_f := fq_f; omega))) (by have e1 : (1 : Int32).toInt = 1 := (by decide); have q_p0 := p0; have q_px := px; have q_c_5 := i_lt c_5; obtain ⟨u_z_4, q_z_4⟩ := i_sub ez_4; have g_c2_3 := i_rg c2_3; have g_x2 := i_rg x2; have g_z_4 := i_rg z_4; omega) (by have e1 : (1 : Int32).toInt = 1 := (by decide); have q_p0 := p0; have q_px := px; have q_c_5 := i_lt c_5; obtain ⟨u_z_4, q_z_4⟩ := i_sub ez_4; have g_c2_3 := i_rg c2_3; have g_x2 := i_rg x2; have g_z_4 := i_rg z_4; omega)) (cwV 1 hts (gd_V kw_1609 kw_1629 kw_1630 kw_404 kw_1628) rfl rfl rfl (by decide +kernel) ⟨Nat.le_of_ble_eq_true rfl, Nat.le_of_ble_eq_true rfl⟩) ⟨gblind, va_recv hK hP (ci := 8) (q0 := k_1) rfl hk_1, fun U hU hW9 => gmk hU hW9 hP hK hD hex hE hS hFc⟩ rfl rfl hl.1 rfl (lv_room (Nat.le_of_ble_eq_true rfl)) dX9_isDone_157 ⟨Nat.le_of_ble_eq_true rfl, Nat.le_of_ble_eq_true rfl⟩) hS (fun q _ h => hFc q h) hFc (fun r_171 ws_172 t9 H1 locs ht9 hvm9 hw9 hB9 hz9 hk9 hS => ?_)
        obtain ⟨E_173, Fr_174, hG, hP1, hD1⟩ := hB9
        have hP : va_P (gD g) cl0 ws_172 H1 := by rw [← ht9]; exact hP1
        have hD : va_D A ws_172 := hD1.weaken (fun _ _ _ h => hFc _ h)
        have hz_r_171 : r_171 = 0 ∨ r_171 = 1 := hw9
        clear hP1 hD1 hz9 hk9 hvm9 ht9 hw9
        generalize H1 = H at hP hS ⊢
        have aa_177 := a_r1_1
        have aa_178 := a_r2_1
        have aa_179 := a_r3_1
        have aa_180 := a_r4_1
        have aa_181 := a_r5_1
        have aa_182 := a_r0_3
        have aa_183 := a_r1_3
        have aa_184 := a_r3_3
        have aa_185 := a_r5_3
        have aa_186 := a_r6_3
        have aa_187 := a_r7_3
        have aa_188 := a_r8_3
        have o_h0 := E_173.1 _ _ o_h0
        refine W.widen (k := 0) (n := 0) (Nat.le_of_ble_eq_true rfl) (Nat.le_of_ble_eq_true rfl) ?_
        exact W.zret (v := r_171) hx hb hr (nz hz_r_171) (fun t9 ht9 hW9 => ⟨⟨_, ws_172, rfl, hz_r_171, ⟨E_173, Fr_174, hG, by rw [ht9]; exact hP, hD⟩⟩, hS.F ht9⟩) hS.2.2 dX9_isDone_160
      have K_27_161 : W p l e (headSpec (wt yX9_isDone cX9_isDone 3 (some .boolean)) ({ frames := 4, cells := 0, slots := 0, locals := 98 })).room s m ([.ref h0, .int x1, .int x2] : List Value).toArray below meth c s.heap [] (0) (0) (MQ below (va_Qi (fun (r : Int32) (u9 : va_W) => r = 0 ∨ r = 1) (gQ1 g [(7, 2), (7, 9)] [(7, 0), (7, 1), (7, 3), (7, 5), (7, 6), (7, 7), (7, 8)] none A ws) A) ([.ref h0, .int x1, .int x2] : List Value).toArray s (0) (0) A) (F0 m 161 ls []) := by
        refine lv_aload_n hx hb dX9_isDone_161 rfl (lv_at hl 0 rfl) ?_
        refine lv_iload_n hx hb dX9_isDone_162 rfl (lv_at hl 2 rfl) ?_
        refine lv_iconst (v := 2) hx hb dX9_isDone_163 (by decide) ?_
        have hFc := gfree hD hS hA
        refine va_calli (va_runV (As := [.int x2, .int 2]) (rest := []) ⟨hx, hb, hml, hown, hts⟩ (m_X9_isWindow l g s.heap.size ws h0 (x2) (2) hG o_h0 (gP_of hD hk_1 (fun p90 q90 e90 g90 => by cases e90; have z90 := gI_n hD a_r2_1 g90; subst z90; exact (by have q_f4_1 := f4_1; have q_fq_a := fq_a; omega))) (gP_of hD hk_1 (fun p90 q90 e90 g90 => by cases e90; have z90 := gI_n hD a_r3_1 g90; subst z90; exact (by have q_f6_1 := f6_1; have q_fq_b := fq_b; omega))) (gP_of hD hk_1 (fun p90 q90 e90 g90 => by cases e90; have z90 := gI_n hD a_r4_1 g90; subst z90; exact (by have q_f8_1 := f8_1; have q_fq_d := fq_d; omega))) (gP_of hD hk_1 (fun p90 q90 e90 g90 => by cases e90; have z90 := gI_n hD a_r5_1 g90; subst z90; exact (by have q_f10_1 := f10_1; have q_fq_f := fq_f; omega))) (by have e1 : (1 : Int32).toInt = 1 := (by decide); have q_p0 := p0; have q_px := px; have q_c_5 := i_lt c_5; obtain ⟨u_z_4, q_z_4⟩ := i_sub ez_4; have g_c2_3 := i_rg c2_3; have g_x2 := i_rg x2; have g_z_4 := i_rg z_4; omega) (by have e1 : (1 : Int32).toInt = 1 := (by decide); have q_p0 := p0; have q_px := px; have q_c_5 := i_lt c_5; obtain ⟨u_z_4, q_z_4⟩ := i_sub ez_4; have g_c2_3 := i_rg c2_3; have g_x2 := i_rg x2; have g_z_4 := i_rg z_4; omega) (by have e2 : (2 : Int32).toInt = 2 := (by decide); omega)) (cwV 2 hts (gd_V kw_1610 kw_1658 kw_1659 kw_404 kw_1657) rfl rfl rfl (by decide +kernel) ⟨Nat.le_of_ble_eq_true rfl, Nat.le_of_ble_eq_true rfl⟩) ⟨gblind, va_recv hK hP (ci := 8) (q0 := k_1) rfl hk_1, fun U hU hW9 => gmk hU hW9 hP hK hD hex hE hS hFc⟩ rfl rfl hl.1 rfl (lv_room (Nat.le_of_ble_eq_true rfl)) dX9_isDone_164 ⟨Nat.le_of_ble_eq_true rfl, Nat.le_of_ble_eq_true rfl⟩) hS (fun q _ h => hFc q h) hFc (fun r_189 u9 t9 H1 locs ht9 hvm9 hw9 hB9 hz9 hk9 hS => ?_)
        have hP : va_P (gD g) cl0 ws H1 := by rw [← ht9]; exact hB9.1
        have hz_r_189 : r_189 = 0 ∨ r_189 = 1 := hw9
        clear hB9 hz9 hk9 hvm9 ht9 hw9
        generalize H1 = H at hP hS ⊢
        have J_192 : ∀ (t_190 : Int32) (ws_192 : va_W) (H : Heap) (locs : List Loc) (ls : Array Slot), t_190 = 0 ∨ t_190 = 1 → gE ws ws_192 → gF [(7, 2), (7, 9)] [(7, 0), (7, 1), (7, 3), (7, 5), (7, 6), (7, 7), (7, 8)] none ws ws_192 → Good g ws_192 → va_P (gD g) cl0 ws_192 H → va_D A ws_192 → va_S A s.heap H locs → lv_has ls 3 [] → W p l e (headSpec (wt yX9_isDone cX9_isDone 3 (some .boolean)) ({ frames := 4, cells := 0, slots := 0, locals := 98 })).room s m ([.ref h0, .int x1, .int x2] : List Value).toArray below meth c H locs (0) (0) (MQ below (va_Qi (fun (r : Int32) (u9 : va_W) => r = 0 ∨ r = 1) (gQ1 g [(7, 2), (7, 9)] [(7, 0), (7, 1), (7, 3), (7, 5), (7, 6), (7, 7), (7, 8)] none A ws) A) ([.ref h0, .int x1, .int x2] : List Value).toArray s (0) (0) A) (F0 m 192 ls [.int t_190]) := by
          intro t_190 ws_192 H locs ls iv_191 E_193 Fr_194 hG hP hD hS hl
          have hz_t_190 := iv_191
          have aa_195 := a_r1_1
          have aa_196 := a_r2_1
          have aa_197 := a_r3_1
          have aa_198 := a_r4_1
          have aa_199 := a_r5_1
          have aa_200 := a_r0_3
          have aa_201 := a_r1_3
          have aa_202 := a_r3_3
          have aa_203 := a_r5_3
          have aa_204 := a_r6_3
          have aa_205 := a_r7_3
          have aa_206 := a_r8_3
          have o_h0 := E_193.1 _ _ o_h0
          refine W.widen (k := 0) (n := 0) (Nat.le_of_ble_eq_true rfl) (Nat.le_of_ble_eq_true rfl) ?_
          exact W.zret (v := t_190) hx hb hr (nz hz_t_190) (fun t9 ht9 hW9 => ⟨⟨_, ws_192, rfl, hz_t_190, ⟨E_193, Fr_194, hG, by rw [ht9]; exact hP, hD⟩⟩, hS.F ht9⟩) hS.2.2 dX9_isDone_192
        have J_191 : ∀ (ws_207 : va_W) (H : Heap) (locs : List Loc) (ls : Array Slot), gE ws ws_207 → gF [(7, 2), (7, 9)] [(7, 0), (7, 1), (7, 3), (7, 5), (7, 6), (7, 7), (7, 8)] none ws ws_207 → Good g ws_207 → va_P (gD g) cl0 ws_207 H → va_D A ws_207 → va_S A s.heap H locs → lv_has ls 3 [] → W p l e (headSpec (wt yX9_isDone cX9_isDone 3 (some .boolean)) ({ frames := 4, cells := 0, slots := 0, locals := 98 })).room s m ([.ref h0, .int x1, .int x2] : List Value).toArray below meth c H locs (0) (0) (MQ below (va_Qi (fun (r : Int32) (u9 : va_W) => r = 0 ∨ r = 1) (gQ1 g [(7, 2), (7, 9)] [(7, 0), (7, 1), (7, 3), (7, 5), (7, 6), (7, 7), (7, 8)] none A ws) A) ([.ref h0, .int x1, .int x2] : List Value).toArray s (0) (0) A) (F0 m 191 ls []) := by
          intro ws_207 H locs ls  E_208 Fr_209 hG hP hD hS hl
          have aa_210 := a_r1_1
          have aa_211 := a_r2_1
          have aa_212 := a_r3_1
          have aa_213 := a_r4_1
          have aa_214 := a_r5_1
          have aa_215 := a_r0_3
          have aa_216 := a_r1_3
          have aa_217 := a_r3_3
          have aa_218 := a_r5_3
          have aa_219 := a_r6_3
          have aa_220 := a_r7_3
          have aa_221 := a_r8_3
          have o_h0 := E_208.1 _ _ o_h0
          refine lv_iconst (v := 0) hx hb dX9_isDone_191 (by decide) ?_
          exact J_192 (0) ws_207 H locs ls (Or.inl rfl) (E_208) (Fr_209) hG hP hD hS (lv_sub hl [] rfl)
        refine lv_if_eq (tgt := 191) hx hb dX9_isDone_167 (by decide) (fun c_222 => ?_) (fun c_222 => ?_)
        · exact J_191 ws H locs ls (gE.rf) (gF.rf) hG hP hD hS (lv_sub hl [] rfl)
        · refine lv_aload_n hx hb dX9_isDone_170 rfl (lv_at hl 0 rfl) ?_
          refine lv_iload_n hx hb dX9_isDone_171 rfl (lv_at hl 2 rfl) ?_
          have hFc := gfree hD hS hA
          refine va_calli (va_runV (As := [.int x2]) (rest := []) ⟨hx, hb, hml, hown, hts⟩ (m_X9_isNeutral l g H.size ws h0 (x2) hG o_h0) (cwV 1 hts (gd_V kw_1611 kw_1633 kw_1634 kw_404 kw_1632) rfl rfl rfl (by decide +kernel) ⟨Nat.le_of_ble_eq_true rfl, Nat.le_of_ble_eq_true rfl⟩) ⟨gblind, va_recv hK hP (ci := 8) (q0 := k_1) rfl hk_1, fun U hU hW9 => gmk hU hW9 hP hK hD hex hE hS hFc⟩ rfl rfl hl.1 rfl (lv_room (Nat.le_of_ble_eq_true rfl)) dX9_isDone_172 ⟨Nat.le_of_ble_eq_true rfl, Nat.le_of_ble_eq_true rfl⟩) hS (fun q _ h => hFc q h) hFc (fun r_223 u9 t9 H1 locs ht9 hvm9 hw9 hB9 hz9 hk9 hS => ?_)
          have hP : va_P (gD g) cl0 ws H1 := by rw [← ht9]; exact hB9.1
          have hz_r_223 : r_223 = 0 ∨ r_223 = 1 := hw9
          clear hB9 hz9 hk9 hvm9 ht9 hw9
          generalize H1 = H at hP hS ⊢
          refine lv_if_eq (tgt := 191) hx hb dX9_isDone_175 (by decide) (fun c_224 => ?_) (fun c_224 => ?_)
          · exact J_191 ws H locs ls (gE.rf) (gF.rf) hG hP hD hS (lv_sub hl [] rfl)
          · refine lv_aload_n hx hb dX9_isDone_178 rfl (lv_at hl 0 rfl) ?_
            refine lv_iload_n hx hb dX9_isDone_179 rfl (lv_at hl 2 rfl) ?_
            refine lv_iconst (v := 2) hx hb dX9_isDone_180 (by decide) ?_
            have hFc := gfree hD hS hA
            refine va_calli (va_runV (As := [.int x2, .int 2]) (rest := []) ⟨hx, hb, hml, hown, hts⟩ (m_X9_isDropped l g H.size ws h0 (x2) (2) hG o_h0 (by have e1 : (1 : Int32).toInt = 1 := (by decide); have q_p0 := p0; have q_px := px; have q_c_5 := i_lt c_5; obtain ⟨u_z_4, q_z_4⟩ := i_sub ez_4; have g_c2_3 := i_rg c2_3; have g_x2 := i_rg x2; have g_z_4 := i_rg z_4; omega) (by have e2 : (2 : Int32).toInt = 2 := (by decide); omega)) (cwV 2 hts (gd_V kw_1606 kw_1616 kw_1617 kw_404 kw_1615) rfl rfl rfl (by decide +kernel) ⟨Nat.le_of_ble_eq_true rfl, Nat.le_of_ble_eq_true rfl⟩) ⟨gblind, va_recv hK hP (ci := 8) (q0 := k_1) rfl hk_1, fun U hU hW9 => gmk hU hW9 hP hK hD hex hE hS hFc⟩ rfl rfl hl.1 rfl (lv_room (Nat.le_of_ble_eq_true rfl)) dX9_isDone_181 ⟨Nat.le_of_ble_eq_true rfl, Nat.le_of_ble_eq_true rfl⟩) hS (fun q _ h => hFc q h) hFc (fun r_225 ws_226 t9 H1 locs ht9 hvm9 hw9 hB9 hz9 hk9 hS => ?_)
            obtain ⟨E_227, Fr_228, hG, hP1, hD1⟩ := hB9
            have hP : va_P (gD g) cl0 ws_226 H1 := by rw [← ht9]; exact hP1
            have hD : va_D A ws_226 := hD1.weaken (fun _ _ _ h => hFc _ h)
            have hz_r_225 : r_225 = 0 ∨ r_225 = 1 := hw9
            clear hP1 hD1 hz9 hk9 hvm9 ht9 hw9
            generalize H1 = H at hP hS ⊢
            have aa_231 := a_r1_1
            have aa_232 := a_r2_1
            have aa_233 := a_r3_1
            have aa_234 := a_r4_1
            have aa_235 := a_r5_1
            have aa_236 := a_r0_3
            have aa_237 := a_r1_3
            have aa_238 := a_r3_3
            have aa_239 := a_r5_3
            have aa_240 := a_r6_3
            have aa_241 := a_r7_3
            have aa_242 := a_r8_3
            have o_h0 := E_227.1 _ _ o_h0
            refine lv_if_eq (tgt := 191) hx hb dX9_isDone_184 (by decide) (fun c_243 => ?_) (fun c_243 => ?_)
            · exact J_191 ws_226 H locs ls (E_227) (Fr_228) hG hP hD hS (lv_sub hl [] rfl)
            · refine lv_iconst (v := 1) hx hb dX9_isDone_187 (by decide) ?_
              refine lv_goto (tgt := 192) hx hb dX9_isDone_188 (by decide) ?_
              exact J_192 (1) ws_226 H locs ls (Or.inr rfl) (E_227) (Fr_228) hG hP hD hS (lv_sub hl [] rfl)
      have K_27_193 : W p l e (headSpec (wt yX9_isDone cX9_isDone 3 (some .boolean)) ({ frames := 4, cells := 0, slots := 0, locals := 98 })).room s m ([.ref h0, .int x1, .int x2] : List Value).toArray below meth c s.heap [] (0) (0) (MQ below (va_Qi (fun (r : Int32) (u9 : va_W) => r = 0 ∨ r = 1) (gQ1 g [(7, 2), (7, 9)] [(7, 0), (7, 1), (7, 3), (7, 5), (7, 6), (7, 7), (7, 8)] none A ws) A) ([.ref h0, .int x1, .int x2] : List Value).toArray s (0) (0) A) (F0 m 193 ls []) := by
        refine lv_aload_n hx hb dX9_isDone_193 rfl (lv_at hl 0 rfl) ?_
        refine lv_iload_n hx hb dX9_isDone_194 rfl (lv_at hl 2 rfl) ?_
        refine lv_iconst (v := 2) hx hb dX9_isDone_195 (by decide) ?_
        have hFc := gfree hD hS hA
        refine va_calli (va_runV (As := [.int x2, .int 2]) (rest := []) ⟨hx, hb, hml, hown, hts⟩ (m_X9_isWindow l g s.heap.size ws h0 (x2) (2) hG o_h0 (gP_of hD hk_1 (fun p90 q90 e90 g90 => by cases e90; have z90 := gI_n hD a_r2_1 g90; subst z90; exact (by have q_f4_1 := f4_1; have q_fq_a := fq_a; omega))) (gP_of hD hk_1 (fun p90 q90 e90 g90 => by cases e90; have z90 := gI_n hD a_r3_1 g90; subst z90; exact (by have q_f6_1 := f6_1; have q_fq_b := fq_b; omega))) (gP_of hD hk_1 (fun p90 q90 e90 g90 => by cases e90; have z90 := gI_n hD a_r4_1 g90; subst z90; exact (by have q_f8_1 := f8_1; have q_fq_d := fq_d; omega))) (gP_of hD hk_1 (fun p90 q90 e90 g90 => by cases e90; have z90 := gI_n hD a_r5_1 g90; subst z90; exact (by have q_f10_1 := f10_1; have q_fq_f := fq_f; omega))) (by have e1 : (1 : Int32).toInt = 1 := (by decide); have q_p0 := p0; have q_px := px; have q_c_5 := i_lt c_5; obtain ⟨u_z_4, q_z_4⟩ := i_sub ez_4; have g_c2_3 := i_rg c2_3; have g_x2 := i_rg x2; have g_z_4 := i_rg z_4; omega) (by have e1 : (1 : Int32).toInt = 1 := (by decide); have q_p0 := p0; have q_px := px; have q_c_5 := i_lt c_5; obtain ⟨u_z_4, q_z_4⟩ := i_sub ez_4; have g_c2_3 := i_rg c2_3; have g_x2 := i_rg x2; have g_z_4 := i_rg z_4; omega) (by have e2 : (2 : Int32).toInt = 2 := (by decide); omega)) (cwV 2 hts (gd_V kw_1610 kw_1658 kw_1659 kw_404 kw_1657) rfl rfl rfl (by decide +kernel) ⟨Nat.le_of_ble_eq_true rfl, Nat.le_of_ble_eq_true rfl⟩) ⟨gblind, va_recv hK hP (ci := 8) (q0 := k_1) rfl hk_1, fun U hU hW9 => gmk hU hW9 hP hK hD hex hE hS hFc⟩ rfl rfl hl.1 rfl (lv_room (Nat.le_of_ble_eq_true rfl)) dX9_isDone_196 ⟨Nat.le_of_ble_eq_true rfl, Nat.le_of_ble_eq_true rfl⟩) hS (fun q _ h => hFc q h) hFc (fun r_244 u9 t9 H1 locs ht9 hvm9 hw9 hB9 hz9 hk9 hS => ?_)
        have hP : va_P (gD g) cl0 ws H1 := by rw [← ht9]; exact hB9.1
        have hz_r_244 : r_244 = 0 ∨ r_244 = 1 := hw9
        clear hB9 hz9 hk9 hvm9 ht9 hw9
        generalize H1 = H at hP hS ⊢
        have J_224 : ∀ (t_245 : Int32) (ws_247 : va_W) (H : Heap) (locs : List Loc) (ls : Array Slot), t_245 = 0 ∨ t_245 = 1 → gE ws ws_247 → gF [(7, 2), (7, 9)] [(7, 0), (7, 1), (7, 3), (7, 5), (7, 6), (7, 7), (7, 8)] none ws ws_247 → Good g ws_247 → va_P (gD g) cl0 ws_247 H → va_D A ws_247 → va_S A s.heap H locs → lv_has ls 3 [] → W p l e (headSpec (wt yX9_isDone cX9_isDone 3 (some .boolean)) ({ frames := 4, cells := 0, slots := 0, locals := 98 })).room s m ([.ref h0, .int x1, .int x2] : List Value).toArray below meth c H locs (0) (0) (MQ below (va_Qi (fun (r : Int32) (u9 : va_W) => r = 0 ∨ r = 1) (gQ1 g [(7, 2), (7, 9)] [(7, 0), (7, 1), (7, 3), (7, 5), (7, 6), (7, 7), (7, 8)] none A ws) A) ([.ref h0, .int x1, .int x2] : List Value).toArray s (0) (0) A) (F0 m 224 ls [.int t_245]) := by
          intro t_245 ws_247 H locs ls iv_246 E_248 Fr_249 hG hP hD hS hl
          have hz_t_245 := iv_246
          have aa_250 := a_r1_1
          have aa_251 := a_r2_1
          have aa_252 := a_r3_1
          have aa_253 := a_r4_1
          have aa_254 := a_r5_1
          have aa_255 := a_r0_3
          have aa_256 := a_r1_3
          have aa_257 := a_r3_3
          have aa_258 := a_r5_3
          have aa_259 := a_r6_3
          have aa_260 := a_r7_3
          have aa_261 := a_r8_3
          have o_h0 := E_248.1 _ _ o_h0
          refine W.widen (k := 0) (n := 0) (Nat.le_of_ble_eq_true rfl) (Nat.le_of_ble_eq_true rfl) ?_
          exact W.zret (v := t_245) hx hb hr (nz hz_t_245) (fun t9 ht9 hW9 => ⟨⟨_, ws_247, rfl, hz_t_245, ⟨E_248, Fr_249, hG, by rw [ht9]; exact hP, hD⟩⟩, hS.F ht9⟩) hS.2.2 dX9_isDone_224
        have J_223 : ∀ (ws_262 : va_W) (H : Heap) (locs : List Loc) (ls : Array Slot), gE ws ws_262 → gF [(7, 2), (7, 9)] [(7, 0), (7, 1), (7, 3), (7, 5), (7, 6), (7, 7), (7, 8)] none ws ws_262 → Good g ws_262 → va_P (gD g) cl0 ws_262 H → va_D A ws_262 → va_S A s.heap H locs → lv_has ls 3 [] → W p l e (headSpec (wt yX9_isDone cX9_isDone 3 (some .boolean)) ({ frames := 4, cells := 0, slots := 0, locals := 98 })).room s m ([.ref h0, .int x1, .int x2] : List Value).toArray below meth c H locs (0) (0) (MQ below (va_Qi (fun (r : Int32) (u9 : va_W) => r = 0 ∨ r = 1) (gQ1 g [(7, 2), (7, 9)] [(7, 0), (7, 1), (7, 3), (7, 5), (7, 6), (7, 7), (7, 8)] none A ws) A) ([.ref h0, .int x1, .int x2] : List Value).toArray s (0) (0) A) (F0 m 223 ls []) := by
          intro ws_262 H locs ls  E_263 Fr_264 hG hP hD hS hl
          have aa_265 := a_r1_1
          have aa_266 := a_r2_1
          have aa_267 := a_r3_1
          have aa_268 := a_r4_1
          have aa_269 := a_r5_1
          have aa_270 := a_r0_3
          have aa_271 := a_r1_3
          have aa_272 := a_r3_3
          have aa_273 := a_r5_3
          have aa_274 := a_r6_3
          have aa_275 := a_r7_3
          have aa_276 := a_r8_3
          have o_h0 := E_263.1 _ _ o_h0
          refine lv_iconst (v := 0) hx hb dX9_isDone_223 (by decide) ?_
          exact J_224 (0) ws_262 H locs ls (Or.inl rfl) (E_263) (Fr_264) hG hP hD hS (lv_sub hl [] rfl)
        refine lv_if_eq (tgt := 223) hx hb dX9_isDone_199 (by decide) (fun c_277 => ?_) (fun c_277 => ?_)
        · exact J_223 ws H locs ls (gE.rf) (gF.rf) hG hP hD hS (lv_sub hl [] rfl)
        · refine lv_aload_n hx hb dX9_isDone_202 rfl (lv_at hl 0 rfl) ?_
          refine lv_iload_n hx hb dX9_isDone_203 rfl (lv_at hl 2 rfl) ?_
          have hFc := gfree hD hS hA
          refine va_calli (va_runV (As := [.int x2]) (rest := []) ⟨hx, hb, hml, hown, hts⟩ (m_X9_isPopped l g H.size ws h0 (x2) hG o_h0) (cwV 1 hts (gd_V kw_1612 kw_1645 kw_1646 kw_404 kw_1644) rfl rfl rfl (by decide +kernel) ⟨Nat.le_of_ble_eq_true rfl, Nat.le_of_ble_eq_true rfl⟩) ⟨gblind, va_recv hK hP (ci := 8) (q0 := k_1) rfl hk_1, fun U hU hW9 => gmk hU hW9 hP hK hD hex hE hS hFc⟩ rfl rfl hl.1 rfl (lv_room (Nat.le_of_ble_eq_true rfl)) dX9_isDone_204 ⟨Nat.le_of_ble_eq_true rfl, Nat.le_of_ble_eq_true rfl⟩) hS (fun q _ h => hFc q h) hFc (fun r_278 u9 t9 H1 locs ht9 hvm9 hw9 hB9 hz9 hk9 hS => ?_)
          have hP : va_P (gD g) cl0 ws H1 := by rw [← ht9]; exact hB9.1
          have hz_r_278 : r_278 = 0 ∨ r_278 = 1 := hw9
          clear hB9 hz9 hk9 hvm9 ht9 hw9
          generalize H1 = H at hP hS ⊢
          refine lv_if_eq (tgt := 223) hx hb dX9_isDone_207 (by decide) (fun c_279 => ?_) (fun c_279 => ?_)
          · exact J_223 ws H locs ls (gE.rf) (gF.rf) hG hP hD hS (lv_sub hl [] rfl)
          · refine lv_aload_n hx hb dX9_isDone_210 rfl (lv_at hl 0 rfl) ?_
            refine lv_iload_n hx hb dX9_isDone_211 rfl (lv_at hl 2 rfl) ?_
            refine lv_iconst (v := 2) hx hb dX9_isDone_212 (by decide) ?_
            have hFc := gfree hD hS hA
            refine va_calli (va_runV (As := [.int x2, .int 2]) (rest := []) ⟨hx, hb, hml, hown, hts⟩ (m_X9_isDropped l g H.size ws h0 (x2) (2) hG o_h0 (by have e1 : (1 : Int32).toInt = 1 := (by decide); have q_p0 := p0; have q_px := px; have q_c_5 := i_lt c_5; obtain ⟨u_z_4, q_z_4⟩ := i_sub ez_4; have g_c2_3 := i_rg c2_3; have g_x2 := i_rg x2; have g_z_4 := i_rg z_4; omega) (by have e2 : (2 : Int32).toInt = 2 := (by decide); omega)) (cwV 2 hts (gd_V kw_1606 kw_1616 kw_1617 kw_404 kw_1615) rfl rfl rfl (by decide +kernel) ⟨Nat.le_of_ble_eq_true rfl, Nat.le_of_ble_eq_true rfl⟩) ⟨gblind, va_recv hK hP (ci := 8) (q0 := k_1) rfl hk_1, fun U hU hW9 => gmk hU hW9 hP hK hD hex hE hS hFc⟩ rfl rfl hl.1 rfl (lv_room (Nat.le_of_ble_eq_true rfl)) dX9_isDone_213 ⟨Nat.le_of_ble_eq_true rfl, Nat.le_of_ble_eq_true rfl⟩) hS (fun q _ h => hFc q h) hFc (fun r_280 ws_281 t9 H1 locs ht9 hvm9 hw9 hB9 hz9 hk9 hS => ?_)
            obtain ⟨E_282, Fr_283, hG, hP1, hD1⟩ := hB9
            have hP : va_P (gD g) cl0 ws_281 H1 := by rw [← ht9]; exact hP1
            have hD : va_D A ws_281 := hD1.weaken (fun _ _ _ h => hFc _ h)
            have hz_r_280 : r_280 = 0 ∨ r_280 = 1 := hw9
            clear hP1 hD1 hz9 hk9 hvm9 ht9 hw9
            generalize H1 = H at hP hS ⊢
            have aa_286 := a_r1_1
            have aa_287 := a_r2_1
            have aa_288 := a_r3_1
            have aa_289 := a_r4_1
            have aa_290 := a_r5_1
            have aa_291 := a_r0_3
            have aa_292 := a_r1_3
            have aa_293 := a_r3_3
            have aa_294 := a_r5_3
            have aa_295 := a_r6_3
            have aa_296 := a_r7_3
            have aa_297 := a_r8_3
            have o_h0 := E_282.1 _ _ o_h0
            refine lv_if_eq (tgt := 223) hx hb dX9_isDone_216 (by decide) (fun c_298 => ?_) (fun c_298 => ?_)
            · exact J_223 ws_281 H locs ls (E_282) (Fr_283) hG hP hD hS (lv_sub hl [] rfl)
            · refine lv_iconst (v := 1) hx hb dX9_isDone_219 (by decide) ?_
              refine lv_goto (tgt := 224) hx hb dX9_isDone_220 (by decide) ?_
              exact J_224 (1) ws_281 H locs ls (Or.inr rfl) (E_282) (Fr_283) hG hP hD hS (lv_sub hl [] rfl)
      have K_27_225 : W p l e (headSpec (wt yX9_isDone cX9_isDone 3 (some .boolean)) ({ frames := 4, cells := 0, slots := 0, locals := 98 })).room s m ([.ref h0, .int x1, .int x2] : List Value).toArray below meth c s.heap [] (0) (0) (MQ below (va_Qi (fun (r : Int32) (u9 : va_W) => r = 0 ∨ r = 1) (gQ1 g [(7, 2), (7, 9)] [(7, 0), (7, 1), (7, 3), (7, 5), (7, 6), (7, 7), (7, 8)] none A ws) A) ([.ref h0, .int x1, .int x2] : List Value).toArray s (0) (0) A) (F0 m 225 ls []) := by
        refine lv_aload_n hx hb dX9_isDone_225 rfl (lv_at hl 0 rfl) ?_
        refine lv_iload_n hx hb dX9_isDone_226 rfl (lv_at hl 2 rfl) ?_
        refine lv_iconst (v := 2) hx hb dX9_isDone_227 (by decide) ?_
        have hFc := gfree hD hS hA
        refine va_calli (va_runV (As := [.int x2, .int 2]) (rest := []) ⟨hx, hb, hml, hown, hts⟩ (m_X9_isWindow l g s.heap.size ws h0 (x2) (2) hG o_h0 (gP_of hD hk_1 (fun p90 q90 e90 g90 => by cases e90; have z90 := gI_n hD a_r2_1 g90; subst z90; exact (by have q_f4_1 := f4_1; have q_fq_a := fq_a; omega))) (gP_of hD hk_1 (fun p90 q90 e90 g90 => by cases e90; have z90 := gI_n hD a_r3_1 g90; subst z90; exact (by have q_f6_1 := f6_1; have q_fq_b := fq_b; omega))) (gP_of hD hk_1 (fun p90 q90 e90 g90 => by cases e90; have z90 := gI_n hD a_r4_1 g90; subst z90; exact (by have q_f8_1 := f8_1; have q_fq_d := fq_d; omega))) (gP_of hD hk_1 (fun p90 q90 e90 g90 => by cases e90; have z90 := gI_n hD a_r5_1 g90; subst z90; exact (by have q_f10_1 := f10_1; have q_fq_f := fq_f; omega))) (by have e1 : (1 : Int32).toInt = 1 := (by decide); have q_p0 := p0; have q_px := px; have q_c_5 := i_lt c_5; obtain ⟨u_z_4, q_z_4⟩ := i_sub ez_4; have g_c2_3 := i_rg c2_3; have g_x2 := i_rg x2; have g_z_4 := i_rg z_4; omega) (by have e1 : (1 : Int32).toInt = 1 := (by decide); have q_p0 := p0; have q_px := px; have q_c_5 := i_lt c_5; obtain ⟨u_z_4, q_z_4⟩ := i_sub ez_4; have g_c2_3 := i_rg c2_3; have g_x2 := i_rg x2; have g_z_4 := i_rg z_4; omega) (by have e2 : (2 : Int32).toInt = 2 := (by decide); omega)) (cwV 2 hts (gd_V kw_1610 kw_1658 kw_1659 kw_404 kw_1657) rfl rfl rfl (by decide +kernel) ⟨Nat.le_of_ble_eq_true rfl, Nat.le_of_ble_eq_true rfl⟩) ⟨gblind, va_recv hK hP (ci := 8) (q0 := k_1) rfl hk_1, fun U hU hW9 => gmk hU hW9 hP hK hD hex hE hS hFc⟩ rfl rfl hl.1 rfl (lv_room (Nat.le_of_ble_eq_true rfl)) dX9_isDone_228 ⟨Nat.le_of_ble_eq_true rfl, Nat.le_of_ble_eq_true rfl⟩) hS (fun q _ h => hFc q h) hFc (fun r_299 u9 t9 H1 locs ht9 hvm9 hw9 hB9 hz9 hk9 hS => ?_)
        have hP : va_P (gD g) cl0 ws H1 := by rw [← ht9]; exact hB9.1
        have hz_r_299 : r_299 = 0 ∨ r_299 = 1 := hw9
        clear hB9 hz9 hk9 hvm9 ht9 hw9
        generalize H1 = H at hP hS ⊢
        have J_256 : ∀ (t_300 : Int32) (ws_302 : va_W) (H : Heap) (locs : List Loc) (ls : Array Slot), t_300 = 0 ∨ t_300 = 1 → gE ws ws_302 → gF [(7, 2), (7, 9)] [(7, 0), (7, 1), (7, 3), (7, 5), (7, 6), (7, 7), (7, 8)] none ws ws_302 → Good g ws_302 → va_P (gD g) cl0 ws_302 H → va_D A ws_302 → va_S A s.heap H locs → lv_has ls 3 [] → W p l e (headSpec (wt yX9_isDone cX9_isDone 3 (some .boolean)) ({ frames := 4, cells := 0, slots := 0, locals := 98 })).room s m ([.ref h0, .int x1, .int x2] : List Value).toArray below meth c H locs (0) (0) (MQ below (va_Qi (fun (r : Int32) (u9 : va_W) => r = 0 ∨ r = 1) (gQ1 g [(7, 2), (7, 9)] [(7, 0), (7, 1), (7, 3), (7, 5), (7, 6), (7, 7), (7, 8)] none A ws) A) ([.ref h0, .int x1, .int x2] : List Value).toArray s (0) (0) A) (F0 m 256 ls [.int t_300]) := by
          intro t_300 ws_302 H locs ls iv_301 E_303 Fr_304 hG hP hD hS hl
          have hz_t_300 := iv_301
          have aa_305 := a_r1_1
          have aa_306 := a_r2_1
          have aa_307 := a_r3_1
          have aa_308 := a_r4_1
          have aa_309 := a_r5_1
          have aa_310 := a_r0_3
          have aa_311 := a_r1_3
          have aa_312 := a_r3_3
          have aa_313 := a_r5_3
          have aa_314 := a_r6_3
          have aa_315 := a_r7_3
          have aa_316 := a_r8_3
          have o_h0 := E_303.1 _ _ o_h0
          refine W.widen (k := 0) (n := 0) (Nat.le_of_ble_eq_true rfl) (Nat.le_of_ble_eq_true rfl) ?_
          exact W.zret (v := t_300) hx hb hr (nz hz_t_300) (fun t9 ht9 hW9 => ⟨⟨_, ws_302, rfl, hz_t_300, ⟨E_303, Fr_304, hG, by rw [ht9]; exact hP, hD⟩⟩, hS.F ht9⟩) hS.2.2 dX9_isDone_256
        have J_255 : ∀ (ws_317 : va_W) (H : Heap) (locs : List Loc) (ls : Array Slot), gE ws ws_317 → gF [(7, 2), (7, 9)] [(7, 0), (7, 1), (7, 3), (7, 5), (7, 6), (7, 7), (7, 8)] none ws ws_317 → Good g ws_317 → va_P (gD g) cl0 ws_317 H → va_D A ws_317 → va_S A s.heap H locs → lv_has ls 3 [] → W p l e (headSpec (wt yX9_isDone cX9_isDone 3 (some .boolean)) ({ frames := 4, cells := 0, slots := 0, locals := 98 })).room s m ([.ref h0, .int x1, .int x2] : List Value).toArray below meth c H locs (0) (0) (MQ below (va_Qi (fun (r : Int32) (u9 : va_W) => r = 0 ∨ r = 1) (gQ1 g [(7, 2), (7, 9)] [(7, 0), (7, 1), (7, 3), (7, 5), (7, 6), (7, 7), (7, 8)] none A ws) A) ([.ref h0, .int x1, .int x2] : List Value).toArray s (0) (0) A) (F0 m 255 ls []) := by
          intro ws_317 H locs ls  E_318 Fr_319 hG hP hD hS hl
          have aa_320 := a_r1_1
          have aa_321 := a_r2_1
          have aa_322 := a_r3_1
          have aa_323 := a_r4_1
          have aa_324 := a_r5_1
          have aa_325 := a_r0_3
          have aa_326 := a_r1_3
          have aa_327 := a_r3_3
          have aa_328 := a_r5_3
          have aa_329 := a_r6_3
          have aa_330 := a_r7_3
          have aa_331 := a_r8_3
          have o_h0 := E_318.1 _ _ o_h0
          refine lv_iconst (v := 0) hx hb dX9_isDone_255 (by decide) ?_
          exact J_256 (0) ws_317 H locs ls (Or.inl rfl) (E_318) (Fr_319) hG hP hD hS (lv_sub hl [] rfl)
        refine lv_if_eq (tgt := 255) hx hb dX9_isDone_231 (by decide) (fun c_332 => ?_) (fun c_332 => ?_)
        · exact J_255 ws H locs ls (gE.rf) (gF.rf) hG hP hD hS (lv_sub hl [] rfl)
        · refine lv_aload_n hx hb dX9_isDone_234 rfl (lv_at hl 0 rfl) ?_
          refine lv_iload_n hx hb dX9_isDone_235 rfl (lv_at hl 2 rfl) ?_
          have hFc := gfree hD hS hA
          refine va_calli (va_runV (As := [.int x2]) (rest := []) ⟨hx, hb, hml, hown, hts⟩ (m_X9_isPassedOn l g H.size ws h0 (x2) hG o_h0 (gP_of hD hk_1 (fun p90 q90 e90 g90 => by cases e90; have z90 := gI_n hD a_r2_1 g90; subst z90; exact (by have q_f4_1 := f4_1; have q_fq_a := fq_a; omega))) (gP_of hD hk_1 (fun p90 q90 e90 g90 => by cases e90; have z90 := gI_n hD a_r3_1 g90; subst z90; exact (by have q_f6_1 := f6_1; have q_fq_b := fq_b; omega))) (gP_of hD hk_1 (fun p90 q90 e90 g90 => by cases e90; have z90 := gI_n hD a_r4_1 g90; subst z90; exact (by have q_f8_1 := f8_1; have q_fq_d := fq_d; omega))) (gP_of hD hk_1 (fun p90 q90 e90 g90 => by cases e90; have z90 := gI_n hD a_r5_1 g90; subst z90; exact (by have q_f10_1 := f10_1; have q_fq_f := fq_f; omega)))) (cwV 1 hts (gd_V kw_1613 kw_1641 kw_1642 kw_404 kw_1640) rfl rfl rfl (by decide +kernel) ⟨Nat.le_of_ble_eq_true rfl, Nat.le_of_ble_eq_true rfl⟩) ⟨gblind, va_recv hK hP (ci := 8) (q0 := k_1) rfl hk_1, fun U hU hW9 => gmk hU hW9 hP hK hD hex hE hS hFc⟩ rfl rfl hl.1 rfl (lv_room (Nat.le_of_ble_eq_true rfl)) dX9_isDone_236 ⟨Nat.le_of_ble_eq_true rfl, Nat.le_of_ble_eq_true rfl⟩) hS (fun q _ h => hFc q h) hFc (fun r_333 u9 t9 H1 locs ht9 hvm9 hw9 hB9 hz9 hk9 hS => ?_)
          have hP : va_P (gD g) cl0 ws H1 := by rw [← ht9]; exact hB9.1
          have hz_r_333 : r_333 = 0 ∨ r_333 = 1 := hw9
          clear hB9 hz9 hk9 hvm9 ht9 hw9
          generalize H1 = H at hP hS ⊢
          refine lv_if_eq (tgt := 255) hx hb dX9_isDone_239 (by decide) (fun c_334 => ?_) (fun c_334 => ?_)
          · exact J_255 ws H locs ls (gE.rf) (gF.rf) hG hP hD hS (lv_sub hl [] rfl)
          · refine lv_aload_n hx hb dX9_isDone_242 rfl (lv_at hl 0 rfl) ?_
            refine lv_iload_n hx hb dX9_isDone_243 rfl (lv_at hl 2 rfl) ?_
            refine lv_iconst (v := 2) hx hb dX9_isDone_244 (by decide) ?_
            have hFc := gfree hD hS hA
            refine va_calli (va_runV (As := [.int x2, .int 2]) (rest := []) ⟨hx, hb, hml, hown, hts⟩ (m_X9_isDropped l g H.size ws h0 (x2) (2) hG o_h0 (by have e1 : (1 : Int32).toInt = 1 := (by decide); have q_p0 := p0; have q_px := px; have q_c_5 := i_lt c_5; obtain ⟨u_z_4, q_z_4⟩ := i_sub ez_4; have g_c2_3 := i_rg c2_3; have g_x2 := i_rg x2; have g_z_4 := i_rg z_4; omega) (by have e2 : (2 : Int32).toInt = 2 := (by decide); omega)) (cwV 2 hts (gd_V kw_1606 kw_1616 kw_1617 kw_404 kw_1615) rfl rfl rfl (by decide +kernel) ⟨Nat.le_of_ble_eq_true rfl, Nat.le_of_ble_eq_true rfl⟩) ⟨gblind, va_recv hK hP (ci := 8) (q0 := k_1) rfl hk_1, fun U hU hW9 => gmk hU hW9 hP hK hD hex hE hS hFc⟩ rfl rfl hl.1 rfl (lv_room (Nat.le_of_ble_eq_true rfl)) dX9_isDone_245 ⟨Nat.le_of_ble_eq_true rfl, Nat.le_of_ble_eq_true rfl⟩) hS (fun q _ h => hFc q h) hFc (fun r_335 ws_336 t9 H1 locs ht9 hvm9 hw9 hB9 hz9 hk9 hS => ?_)
            obtain ⟨E_337, Fr_338, hG, hP1, hD1⟩ := hB9
            have hP : va_P (gD g) cl0 ws_336 H1 := by rw [← ht9]; exact hP1
            have hD : va_D A ws_336 := hD1.weaken (fun _ _ _ h => hFc _ h)
            have hz_r_335 : r_335 = 0 ∨ r_335 = 1 := hw9
            clear hP1 hD1 hz9 hk9 hvm9 ht9 hw9
            generalize H1 = H at hP hS ⊢
            have aa_341 := a_r1_1
            have aa_342 := a_r2_1
            have aa_343 := a_r3_1
            have aa_344 := a_r4_1
            have aa_345 := a_r5_1
            have aa_346 := a_r0_3
            have aa_347 := a_r1_3
            have aa_348 := a_r3_3
            have aa_349 := a_r5_3
            have aa_350 := a_r6_3
            have aa_351 := a_r7_3
            have aa_352 := a_r8_3
            have o_h0 := E_337.1 _ _ o_h0
            refine lv_if_eq (tgt := 255) hx hb dX9_isDone_248 (by decide) (fun c_353 => ?_) (fun c_353 => ?_)
            · exact J_255 ws_336 H locs ls (E_337) (Fr_338) hG hP hD hS (lv_sub hl [] rfl)
            · refine lv_iconst (v := 1) hx hb dX9_isDone_251 (by decide) ?_
              refine lv_goto (tgt := 256) hx hb dX9_isDone_252 (by decide) ?_
              exact J_256 (1) ws_336 H locs ls (Or.inr rfl) (E_337) (Fr_338) hG hP hD hS (lv_sub hl [] rfl)
      rcases Classical.em ((x1 : Int32).toInt < 3 ∨ 10 < (x1 : Int32).toInt) with c9 | c9
      · exact lv_tableOut (tgt := 257) hx hb dX9_isDone_27 c9 (by decide) K_27_257
      · rcases (show (x1 : Int32).toInt = 3 ∨ (x1 : Int32).toInt = 4 ∨ (x1 : Int32).toInt = 5 ∨ (x1 : Int32).toInt = 6 ∨ (x1 : Int32).toInt = 7 ∨ (x1 : Int32).toInt = 8 ∨ (x1 : Int32).toInt = 9 ∨ (x1 : Int32).toInt = 10 by omega) with c9 | c9 | c9 | c9 | c9 | c9 | c9 | c9
        · exact lv_tableIn (off := 45) (tgt := 72) hx hb dX9_isDone_27 (by rw [c9]; decide) (by rw [c9]; decide) (by rw [c9]; rfl) (by decide) K_27_72
        · exact lv_tableIn (off := 90) (tgt := 117) hx hb dX9_isDone_27 (by rw [c9]; decide) (by rw [c9]; decide) (by rw [c9]; rfl) (by decide) K_27_117
        · exact lv_tableIn (off := 116) (tgt := 143) hx hb dX9_isDone_27 (by rw [c9]; decide) (by rw [c9]; decide) (by rw [c9]; rfl) (by decide) K_27_143
        · exact lv_tableIn (off := 122) (tgt := 149) hx hb dX9_isDone_27 (by rw [c9]; decide) (by rw [c9]; decide) (by rw [c9]; rfl) (by decide) K_27_149
        · exact lv_tableIn (off := 128) (tgt := 155) hx hb dX9_isDone_27 (by rw [c9]; decide) (by rw [c9]; decide) (by rw [c9]; rfl) (by decide) K_27_155
        · exact lv_tableIn (off := 134) (tgt := 161) hx hb dX9_isDone_27 (by rw [c9]; decide) (by rw [c9]; decide) (by rw [c9]; rfl) (by decide) K_27_161
        · exact lv_tableIn (off := 166) (tgt := 193) hx hb dX9_isDone_27 (by rw [c9]; decide) (by rw [c9]; decide) (by rw [c9]; rfl) (by decide) K_27_193
        · exact lv_tableIn (off := 198) (tgt := 225) hx hb dX9_isDone_27 (by rw [c9]; decide) (by rw [c9]; decide) (by rw [c9]; rfl) (by decide) K_27_225
    · refine lv_iconst (v := 0) hx hb dX9_isDone_24 (by decide) ?_
      refine W.widen (k := 0) (n := 0) (Nat.le_of_ble_eq_true rfl) (Nat.le_of_ble_eq_true rfl) ?_
      exact W.zret (v := 0) hx hb hr (nz (Or.inl rfl)) (fun t9 ht9 hW9 => ⟨⟨_, ws, rfl, (Or.inl rfl), ⟨gE.rf, gF.rf, hG, by rw [ht9]; exact hP, hD⟩⟩, hS.F ht9⟩) hS.2.2 dX9_isDone_25
  · refine lv_aload_n hx hb dX9_isDone_5 rfl (lv_at hl 0 rfl) ?_
    refine lv_iload_n hx hb dX9_isDone_6 rfl (lv_at hl 2 rfl) ?_
    have hFc := gfree hD hS hA
    refine va_calli (va_runV (As := [.int x2]) (rest := []) ⟨hx, hb, hml, hown, hts⟩ (m_X9_isRedirected l g s.heap.size ws h0 (x2) hG o_h0) (cwV 1 hts (gd_V kw_1604 kw_1649 kw_1650 kw_404 kw_1648) rfl rfl rfl (by decide +kernel) ⟨Nat.le_of_ble_eq_true rfl, Nat.le_of_ble_eq_true rfl⟩) ⟨gblind, va_recv hK hP (ci := 8) (q0 := k_1) rfl hk_1, fun U hU hW9 => gmk hU hW9 hP hK hD hex hE hS hFc⟩ rfl rfl hl.1 rfl (lv_room (Nat.le_of_ble_eq_true rfl)) dX9_isDone_7 ⟨Nat.le_of_ble_eq_true rfl, Nat.le_of_ble_eq_true rfl⟩) hS (fun q _ h => hFc q h) hFc (fun r_354 ws_355 t9 H1 locs ht9 hvm9 hw9 hB9 hz9 hk9 hS => ?_)
    obtain ⟨E_356, Fr_357, hG, hP1, hD1⟩ := hB9
    have hP : va_P (gD g) cl0 ws_355 H1 := by rw [← ht9]; exact hP1
    have hD : va_D A ws_355 := hD1.weaken (fun _ _ _ h => hFc _ h)
    have hz_r_354 : r_354 = 0 ∨ r_354 = 1 := hw9
    clear hP1 hD1 hz9 hk9 hvm9 ht9 hw9
    generalize H1 = H at hP hS ⊢
    have aa_360 := a_r1_1
    have aa_361 := a_r2_1
    have aa_362 := a_r3_1
    have aa_363 := a_r4_1
    have aa_364 := a_r5_1
    have o_h0 := E_356.1 _ _ o_h0
    refine W.widen (k := 0) (n := 0) (Nat.le_of_ble_eq_true rfl) (Nat.le_of_ble_eq_true rfl) ?_
    exact W.zret (v := r_354) hx hb hr (nz hz_r_354) (fun t9 ht9 hW9 => ⟨⟨_, ws_355, rfl, hz_r_354, ⟨E_356, (gF.mo (F' := [(7, 2), (7, 9)]) (C' := [(7, 0), (7, 1), (7, 3), (7, 5), (7, 6), (7, 7), (7, 8)]) (S' := none) Fr_357 (fun _ h => absurd h List.not_mem_nil) (by decide) (Or.inr rfl)), hG, by rw [ht9]; exact hP, hD⟩⟩, hS.F ht9⟩) hS.2.2 dX9_isDone_10
set_option maxHeartbeats 1000000 in
set_option maxRecDepth 100000 in
theorem m_X9_dropUnreached (l : Launch) (g : Gm) (sz : Nat) (ws : va_W) (h0 : Nat) (hG : Good g ws) (o_h0 : gC ws h0 8) (fp_a : gP ws h0 (fun fs => ∀ (rn n : Nat), fs[2]? = some (.ref rn) → gI ws rn g.cZ n → 1297 ≤ n)) (fp_b : gP ws h0 (fun fs => ∀ (rn n : Nat), fs[3]? = some (.ref rn) → gI ws rn g.cZ n → 1297 ≤ n)) (fp_d : gP ws h0 (fun fs => ∀ (rn n : Nat), fs[4]? = some (.ref rn) → gI ws rn g.cI n → 1297 ≤ n)) (fp_f : gP ws h0 (fun fs => ∀ (rn n : Nat), fs[5]? = some (.ref rn) → gI ws rn g.cI n → 1297 ≤ n)) : Met l yX9_dropUnreached (wt yX9_dropUnreached cX9_dropUnreached 5 (some .boolean)) ({ frames := 4, cells := 0, slots := 0, locals := 90 }) (va_Pc [.ref h0] (st_G g sz ws)) (va_Qi (fun (r : Int32) (u9 : va_W) => r = 0 ∨ r = 1) (gQ1 g [(7, 2), (7, 9)] [(7, 0), (7, 1), (7, 3), (7, 5), (7, 6), (7, 7), (7, 8), (8, 1), (8, 3)] none (va_A ws sz) ws) (va_A ws sz)) (0) (0) (va_A ws sz) := by
  refine Met.ofW (cc := cX9_dropUnreached) (maxL := 5) (ret := (some .boolean)) (by decide) rfl ?_
  intro p e s m args below meth c s₁ B hml hv
  obtain ⟨rfl, hsz, hP, hK, hD0, hex, hE⟩ := hv
  have hx := B.exec
  have hb := B.bytes
  have hr := B.returns
  have hts0 := atoms_spec (ws := wt yX9_dropUnreached cX9_dropUnreached 5 (some .boolean)) B.pre
  have hts : ∀ w ∈ tb, w.before _ s = true := fun w h => hts0 w (List.mem_cons_of_mem _ h)
  have hown : s.vm.findClass RX9 = some m.cls := findClass_of_methodNamed B.named
  subst hsz
  have hD := hD0.self (sz := s.heap.size)
  generalize hAe : va_A ws s.heap.size = A at hD hE ⊢
  have hA : ∀ q : Nat, s.heap.size ≤ q → A q := fun q h => by rw [← hAe]; exact Or.inr h
  have hS : va_S A s.heap s.heap [] := va_S.rf
  have hl := lv_entry ([.ref h0]) (n := 5) (Nat.le_of_ble_eq_true rfl)
  rw [lg_entry_eq]
  generalize (lg_sl ([.ref h0]) ++ List.replicate (5 - (lg_sl ([.ref h0])).length) Slot.unset).toArray = ls at hl ⊢
  have hl : lv_has ls 5 [(0, .ref h0)] := hl
  obtain ⟨k_1, fs9, hk_1⟩ := gC_of o_h0
  obtain ⟨r0_1, r1_1, n1_1, r2_1, n2_1, r3_1, n3_1, r4_1, n4_1, r5_1, n5_1, rfl, o_r0_1, a_r1_1, f2_1, a_r2_1, f4_1, a_r3_1, f6_1, a_r4_1, f8_1, a_r5_1, f10_1, f11_1, -⟩ := (hG.1 _ _ _ _ hk_1).hX9 rfl
  have fq_a := fp_a _ _ _ hk_1 _ _ rfl a_r2_1
  have fq_b := fp_b _ _ _ hk_1 _ _ rfl a_r3_1
  have fq_d := fp_d _ _ _ hk_1 _ _ rfl a_r4_1
  have fq_f := fp_f _ _ _ hk_1 _ _ rfl a_r5_1
  refine lv_aload_n hx hb dX9_dropUnreached_0 rfl (lv_at hl 0 rfl) ?_
  have hFc := gfree hD hS hA
  refine va_callv (va_runV (As := []) (rest := []) ⟨hx, hb, hml, hown, hts⟩ (m_X9_findReached l g s.heap.size ws h0 hG o_h0 (gP_of hD hk_1 (fun p90 q90 e90 g90 => by cases e90; have z90 := gI_n hD a_r2_1 g90; subst z90; exact (by have q_f4_1 := f4_1; have q_fq_a := fq_a; omega))) (gP_of hD hk_1 (fun p90 q90 e90 g90 => by cases e90; have z90 := gI_n hD a_r3_1 g90; subst z90; exact (by have q_f6_1 := f6_1; have q_fq_b := fq_b; omega))) (gP_of hD hk_1 (fun p90 q90 e90 g90 => by cases e90; have z90 := gI_n hD a_r4_1 g90; subst z90; exact (by have q_f8_1 := f8_1; have q_fq_d := fq_d; omega))) (gP_of hD hk_1 (fun p90 q90 e90 g90 => by cases e90; have z90 := gI_n hD a_r5_1 g90; subst z90; exact (by have q_f10_1 := f10_1; have q_fq_f := fq_f; omega)))) (cwV 0 hts (gd_V kw_1551 kw_1575 kw_1576 kw_404 kw_1574) rfl rfl rfl (by decide +kernel) ⟨Nat.le_of_ble_eq_true rfl, Nat.le_of_ble_eq_true rfl⟩) ⟨gblind, va_recv hK hP (ci := 8) (q0 := k_1) rfl hk_1, fun U hU hW9 => gmk hU hW9 hP hK hD hex hE hS hFc⟩ rfl rfl hl.1 rfl (lv_room (Nat.le_of_ble_eq_true rfl)) dX9_dropUnreached_1 ⟨Nat.le_of_ble_eq_true rfl, Nat.le_of_ble_eq_true rfl⟩) hS (fun q _ h => hFc q h) hFc (fun  ws_2 t9 H1 locs ht9 hvm9 hw9 hB9 hz9 hk9 hS => ?_)
  obtain ⟨E_3, Fr_4, hG, hP1, hD1⟩ := hB9
  have hP : va_P (gD g) cl0 ws_2 H1 := by rw [← ht9]; exact hP1
  have hD : va_D A ws_2 := hD1.weaken (fun _ _ _ h => hFc _ h)
  clear hP1 hD1 hz9 hk9 hvm9 ht9 hw9
  generalize H1 = H at hP hS ⊢
  have aa_7 := a_r1_1
  have aa_8 := a_r2_1
  have aa_9 := a_r3_1
  have aa_10 := a_r4_1
  have aa_11 := a_r5_1
  have o_h0 := E_3.1 _ _ o_h0
  refine lv_iconst (v := 0) hx hb dX9_dropUnreached_4 (by decide) ?_
  refine lv_istore_n (lv' := [(1, .int 0), (0, .ref h0)]) hx hb dX9_dropUnreached_5 rfl hl (by decide) rfl (fun ls hl => ?_)
  refine lv_iconst (v := 0) hx hb dX9_dropUnreached_6 (by decide) ?_
  refine lv_istore_n (lv' := [(2, .int 0), (1, .int 0), (0, .ref h0)]) hx hb dX9_dropUnreached_7 rfl hl (by decide) rfl (fun ls hl => ?_)
  refine lv_aload_n hx hb dX9_dropUnreached_8 rfl (lv_at hl 2 rfl) ?_
  obtain ⟨fs9, hk_12, hq_12⟩ := ((gF.a (F' := []) Fr_4 (fun _ h => h))) _ _ _ hk_1
  obtain ⟨r0_12, r1_12, n1_12, r2_12, n2_12, r3_12, n3_12, r4_12, n4_12, r5_12, n5_12, rfl, o_r0_12, a_r1_12, f2_12, a_r2_12, f4_12, a_r3_12, f6_12, a_r4_12, f8_12, a_r5_12, f10_12, f11_12, -⟩ := (hG.1 _ _ _ _ hk_12).hX9 rfl
  obtain rfl := fe_r (hq_12 0 (by decide))
  have o_r0_1 := o_r0_12
  obtain rfl := fe_r (hq_12 1 (by decide))
  have hn9 := gI_n hD ((E_3).1 _ _ aa_7) a_r1_12
  subst hn9
  have a_r1_1 := a_r1_12
  obtain rfl := fe_r (hq_12 2 (by decide))
  have hn9 := gI_n hD ((E_3).1 _ _ aa_8) a_r2_12
  subst hn9
  have a_r2_1 := a_r2_12
  obtain rfl := fe_r (hq_12 3 (by decide))
  have hn9 := gI_n hD ((E_3).1 _ _ aa_9) a_r3_12
  subst hn9
  have a_r3_1 := a_r3_12
  obtain rfl := fe_r (hq_12 4 (by decide))
  have hn9 := gI_n hD ((E_3).1 _ _ aa_10) a_r4_12
  subst hn9
  have a_r4_1 := a_r4_12
  obtain rfl := fe_r (hq_12 5 (by decide))
  have hn9 := gI_n hD ((E_3).1 _ _ aa_11) a_r5_12
  subst hn9
  have a_r5_1 := a_r5_12
  refine va_get (D := gD g) (ci := 8) (v := .ref r0_1) (C := RX9) (T := TX9) (N := 6) hx hb hts inX9 hown hK hP k_1 hk_12 rfl 0 (by decide) (hts _ kw_1552) (fun _ h9 => h9) rfl dX9_dropUnreached_9 ?_
  obtain ⟨k_13, fs9, hk_13⟩ := gC_of o_r0_1
  obtain ⟨r0_13, n0_13, r1_13, n1_13, c2_13, r3_13, n3_13, c4_13, r5_13, n5_13, r6_13, n6_13, r7_13, n7_13, r8_13, n8_13, c9_13, c10_13, c11_13, v12_13, v13_13, v14_13, rfl, a_r0_13, f1_13, a_r1_13, f3_13, a_r3_13, f5_13, a_r5_13, f7_13, a_r6_13, f9_13, a_r7_13, f11_13, a_r8_13, f13_13, o_v12_13, o_v13_13, o_v14_13, f17_13, f18_13, f19_13, f20_13, f21_13, f22_13, f23_13, f24_13, f25_13, f26_13, f27_13, f28_13, f29_13, -⟩ := (hG.1 _ _ _ _ hk_13).hX8 rfl
  refine va_get (D := gD g) (ci := 7) (v := .int c2_13) (C := RX8) (T := TX8) (N := 15) hx hb hts inX8 hown hK hP k_13 hk_13 rfl 2 (by decide) (hts _ kw_1553) (fun _ h9 => h9) rfl dX9_dropUnreached_12 ?_
  refine lv_istore_n (lv' := [(3, .int c2_13), (2, .int 0), (1, .int 0), (0, .ref h0)]) hx hb dX9_dropUnreached_15 rfl hl (by decide) rfl (fun ls hl => ?_)
  refine lv_iconst (v := 0) hx hb dX9_dropUnreached_16 (by decide) ?_
  refine lv_istore (lv' := [(4, .int 0), (3, .int c2_13), (2, .int 0), (1, .int 0), (0, .ref h0)]) hx hb dX9_dropUnreached_17 hl (by decide) rfl (fun ls hl => ?_)
  have J_19 : ∀ (n9 : Nat) (v1_14 : Int32) (v2_16 : Int32) (v4_17 : Int32) (ws_20 : va_W) (H : Heap) (locs : List Loc) (ls : Array Slot), (2147483647 - v4_17.toInt).toNat = n9 → v1_14 = 0 ∨ v1_14 = 1 → 0 ≤ v4_17.toInt → 0 ≤ v2_16.toInt ∧ v2_16.toInt ≤ v4_17.toInt → gE ws_2 ws_20 → gF [(7, 2), (7, 9)] [(7, 0), (7, 1), (7, 3), (7, 5), (7, 6), (7, 7), (7, 8), (8, 1)] none ws_2 ws_20 → Good g ws_20 → va_P (gD g) cl0 ws_20 H → va_D A ws_20 → va_S A s.heap H locs → lv_has ls 5 [(0, .ref h0), (1, .int v1_14), (2, .int v2_16), (3, .int c2_13), (4, .int v4_17)] → W p l e (headSpec (wt yX9_dropUnreached cX9_dropUnreached 5 (some .boolean)) ({ frames := 4, cells := 0, slots := 0, locals := 90 })).room s m ([.ref h0] : List Value).toArray below meth c H locs (0) (0) (MQ below (va_Qi (fun (r : Int32) (u9 : va_W) => r = 0 ∨ r = 1) (gQ1 g [(7, 2), (7, 9)] [(7, 0), (7, 1), (7, 3), (7, 5), (7, 6), (7, 7), (7, 8), (8, 1), (8, 3)] none A ws) A) ([.ref h0] : List Value).toArray s (0) (0) A) (F0 m 19 ls []) := by
    intro n9
    induction n9 using Nat.strongRecOn with
    | ind n9 ih_19 =>
      intro v1_14 v2_16 v4_17 ws_20 H locs ls hm9 iv_15 iv_18 iv_19 E_21 Fr_22 hG hP hD hS hl
      subst hm9
      have hz_v1_14 := iv_15
      have aa_23 := a_r1_1
      have aa_24 := a_r2_1
      have aa_25 := a_r3_1
      have aa_26 := a_r4_1
      have aa_27 := a_r5_1
      have aa_28 := a_r0_13
      have aa_29 := a_r1_13
      have aa_30 := a_r3_13
      have aa_31 := a_r5_13
      have aa_32 := a_r6_13
      have aa_33 := a_r7_13
      have aa_34 := a_r8_13
      have o_h0 := E_21.1 _ _ o_h0
      refine lv_iload hx hb dX9_dropUnreached_19 (lv_at hl 4 rfl) ?_
      refine lv_iload_n hx hb dX9_dropUnreached_21 rfl (lv_at hl 3 rfl) ?_
      refine lv_icmp_ge (tgt := 68) hx hb dX9_dropUnreached_22 (by decide) (fun c_35 => ?_) (fun c_35 => ?_)
      · refine lv_iload_n hx hb dX9_dropUnreached_68 rfl (lv_at hl 1 rfl) ?_
        refine W.widen (k := 0) (n := 0) (Nat.le_of_ble_eq_true rfl) (Nat.le_of_ble_eq_true rfl) ?_
        exact W.zret (v := v1_14) hx hb hr (nz hz_v1_14) (fun t9 ht9 hW9 => ⟨⟨_, ws_20, rfl, hz_v1_14, ⟨(E_3.tr E_21), (gF.tr (gF.mo (F' := [(7, 2), (7, 9)]) (C' := [(7, 0), (7, 1), (7, 3), (7, 5), (7, 6), (7, 7), (7, 8), (8, 1), (8, 3)]) (S' := none) Fr_4 (fun _ h => absurd h List.not_mem_nil) (by decide) (Or.inr rfl)) (gF.mo (F' := [(7, 2), (7, 9)]) (C' := [(7, 0), (7, 1), (7, 3), (7, 5), (7, 6), (7, 7), (7, 8), (8, 1), (8, 3)]) (S' := none) Fr_22 (fun _ h => h) (by decide) (Or.inr rfl))), hG, by rw [ht9]; exact hP, hD⟩⟩, hS.F ht9⟩) hS.2.2 dX9_dropUnreached_69
      · refine lv_aload_n hx hb dX9_dropUnreached_25 rfl (lv_at hl 0 rfl) ?_
        obtain ⟨fs9, hk_36, hq_36⟩ := ((gF.a (F' := [(7, 2), (7, 9)]) Fr_22 (fun _ h => h))) _ _ _ hk_12
        obtain ⟨r0_36, r1_36, n1_36, r2_36, n2_36, r3_36, n3_36, r4_36, n4_36, r5_36, n5_36, rfl, o_r0_36, a_r1_36, f2_36, a_r2_36, f4_36, a_r3_36, f6_36, a_r4_36, f8_36, a_r5_36, f10_36, f11_36, -⟩ := (hG.1 _ _ _ _ hk_36).hX9 rfl
        obtain rfl := fe_r (hq_36 0 (by decide))
        have o_r0_1 := o_r0_36
        obtain rfl := fe_r (hq_36 1 (by decide))
        have hn9 := gI_n hD ((E_21).1 _ _ aa_23) a_r1_36
        subst hn9
        have a_r1_1 := a_r1_36
        obtain rfl := fe_r (hq_36 2 (by decide))
        have hn9 := gI_n hD ((E_21).1 _ _ aa_24) a_r2_36
        subst hn9
        have a_r2_1 := a_r2_36
        obtain rfl := fe_r (hq_36 3 (by decide))
        have hn9 := gI_n hD ((E_21).1 _ _ aa_25) a_r3_36
        subst hn9
        have a_r3_1 := a_r3_36
        obtain rfl := fe_r (hq_36 4 (by decide))
        have hn9 := gI_n hD ((E_21).1 _ _ aa_26) a_r4_36
        subst hn9
        have a_r4_1 := a_r4_36
        obtain rfl := fe_r (hq_36 5 (by decide))
        have hn9 := gI_n hD ((E_21).1 _ _ aa_27) a_r5_36
        subst hn9
        have a_r5_1 := a_r5_36
        refine va_get (D := gD g) (ci := 8) (v := .ref r3_1) (C := RX9) (T := TX9) (N := 6) hx hb hts inX9 hown hK hP k_1 hk_36 rfl 3 (by decide) (hts _ kw_1554) (fun _ h9 => h9) rfl dX9_dropUnreached_26 ?_
        refine lv_iload hx hb dX9_dropUnreached_29 (lv_at hl 4 rfl) ?_
        obtain ⟨k_37, f_37, hk_37⟩ := gI_of a_r3_1
        refine va_zald hx hb hK hP k_37 2 hk_37 rfl (i_in2 (by have q_f6_1 := f6_1; have q_fq_b := fq_b; have q_iv_18 := iv_18; have q_iv_19 := iv_19; have q_c_35 := i_nle c_35; have q_f19_13 := f19_13; have q_f20_13 := f20_13; have q_f1_13 := f1_13; have q_f17_13 := f17_13; have q_f18_13 := f18_13; have g_c2_13 := i_rg c2_13; have g_v2_16 := i_rg v2_16; have g_v4_17 := i_rg v4_17; omega)) dX9_dropUnreached_31 ?_
        refine lv_topi (fun z_38 ez_38 => ?_)
        have J_62 : ∀ (v1_39 : Int32) (v2_41 : Int32) (ws_43 : va_W) (H : Heap) (locs : List Loc) (ls : Array Slot), v1_39 = 0 ∨ v1_39 = 1 → 0 ≤ v2_41.toInt ∧ v2_41.toInt ≤ v4_17.toInt + 1 → gE ws_20 ws_43 → gF [(7, 2), (7, 9)] [(7, 0), (7, 1), (7, 3), (7, 5), (7, 6), (7, 7), (7, 8), (8, 1)] none ws_20 ws_43 → Good g ws_43 → va_P (gD g) cl0 ws_43 H → va_D A ws_43 → va_S A s.heap H locs → lv_has ls 5 [(0, .ref h0), (1, .int v1_39), (2, .int v2_41), (3, .int c2_13), (4, .int v4_17)] → W p l e (headSpec (wt yX9_dropUnreached cX9_dropUnreached 5 (some .boolean)) ({ frames := 4, cells := 0, slots := 0, locals := 90 })).room s m ([.ref h0] : List Value).toArray below meth c H locs (0) (0) (MQ below (va_Qi (fun (r : Int32) (u9 : va_W) => r = 0 ∨ r = 1) (gQ1 g [(7, 2), (7, 9)] [(7, 0), (7, 1), (7, 3), (7, 5), (7, 6), (7, 7), (7, 8), (8, 1), (8, 3)] none A ws) A) ([.ref h0] : List Value).toArray s (0) (0) A) (F0 m 62 ls []) := by
          intro v1_39 v2_41 ws_43 H locs ls iv_40 iv_42 E_44 Fr_45 hG hP hD hS hl
          have hz_v1_39 := iv_40
          have aa_46 := a_r1_1
          have aa_47 := a_r2_1
          have aa_48 := a_r3_1
          have aa_49 := a_r4_1
          have aa_50 := a_r5_1
          have o_h0 := E_44.1 _ _ o_h0
          obtain ⟨z_51, ez_51⟩ : ∃ z : Int32, v4_17 + Int32.ofInt 1 = z := ⟨_, rfl⟩
          refine lv_iinc (v := z_51) (lv' := [(4, .int z_51), (0, .ref h0), (1, .int v1_39), (2, .int v2_41), (3, .int c2_13)]) hx hb dX9_dropUnreached_62 hl (k := 4) rfl ez_51 (by decide) rfl (fun ls hl => ?_)
          refine lv_goto (tgt := 19) hx hb dX9_dropUnreached_65 (by decide) ?_
          exact ih_19 _ (by have q_iv_42 := iv_42; obtain ⟨u_z_51, q_z_51⟩ := i_iz ez_51 (by decide) (by decide); have q_iv_18 := iv_18; have q_iv_19 := iv_19; have q_c_35 := i_nle c_35; have q_f19_13 := f19_13; have q_f20_13 := f20_13; have g_c2_13 := i_rg c2_13; have g_v1_39 := i_rg v1_39; have g_v2_16 := i_rg v2_16; have g_v2_41 := i_rg v2_41; have g_v4_17 := i_rg v4_17; have g_z_51 := i_rg z_51; have b_v1_39 := i_bit hz_v1_39; omega) (v1_39) (v2_41) (z_51) ws_43 H locs ls rfl hz_v1_39 (by obtain ⟨u_z_51, q_z_51⟩ := i_iz ez_51 (by decide) (by decide); have q_iv_18 := iv_18; have q_iv_19 := iv_19; have q_c_35 := i_nle c_35; have q_iv_42 := iv_42; have q_f19_13 := f19_13; have q_f20_13 := f20_13; have g_c2_13 := i_rg c2_13; have g_v2_16 := i_rg v2_16; have g_v2_41 := i_rg v2_41; have g_v4_17 := i_rg v4_17; have g_z_51 := i_rg z_51; omega) (by have q_f19_13 := f19_13; have q_f20_13 := f20_13; have q_c_35 := i_nle c_35; have q_iv_42 := iv_42; obtain ⟨u_z_51, q_z_51⟩ := i_iz ez_51 (by decide) (by decide); have q_f1_13 := f1_13; have q_f17_13 := f17_13; have q_f18_13 := f18_13; have q_iv_18 := iv_18; have q_iv_19 := iv_19; have q_f3_13 := f3_13; have g_c2_13 := i_rg c2_13; have g_v1_39 := i_rg v1_39; have g_v2_16 := i_rg v2_16; have g_v2_41 := i_rg v2_41; have g_v4_17 := i_rg v4_17; have g_z_51 := i_rg z_51; have b_v1_39 := i_bit hz_v1_39; omega) ((E_21.tr E_44)) ((gF.tr Fr_22 Fr_45)) hG hP hD hS (lv_sub hl [1, 2, 3, 4, 0] rfl)
        refine lv_if_eq (tgt := 41) hx hb dX9_dropUnreached_32 (by decide) (fun c_52 => ?_) (fun c_52 => ?_)
        · refine lv_aload_n hx hb dX9_dropUnreached_41 rfl (lv_at hl 0 rfl) ?_
          refine va_get (D := gD g) (ci := 8) (v := .ref r0_1) (C := RX9) (T := TX9) (N := 6) hx hb hts inX9 hown hK hP k_1 hk_36 rfl 0 (by decide) (hts _ kw_1552) (fun _ h9 => h9) rfl dX9_dropUnreached_42 ?_
          refine lv_iload_n hx hb dX9_dropUnreached_45 rfl (lv_at hl 2 rfl) ?_
          refine lv_iconst (v := 1) hx hb dX9_dropUnreached_46 (by decide) ?_
          have hFc := gfree hD hS hA
          obtain ⟨k_53, fs_53, hk_53⟩ := gC_of o_r0_1
          refine va_callv (va_runV (As := [.int v2_16, .int 1]) (rest := []) ⟨hx, hb, hml, hown, hts⟩ (m_X8_remove l g H.size ws_20 r0_1 (v2_16) (1) hG o_r0_1 (by have q_iv_19 := iv_19; have q_iv_18 := iv_18; have q_c_35 := i_nle c_35; have q_f19_13 := f19_13; have q_f20_13 := f20_13; have g_c2_13 := i_rg c2_13; have g_v2_16 := i_rg v2_16; have g_v4_17 := i_rg v4_17; omega) (by have e1 : (1 : Int32).toInt = 1 := (by decide); omega)) (cwV 2 hts (gd_V kw_1555 kw_1516 kw_1517 kw_782 kw_1515) rfl rfl rfl (by decide +kernel) ⟨Nat.le_of_ble_eq_true rfl, Nat.le_of_ble_eq_true rfl⟩) ⟨gblind, va_recv hK hP (ci := 7) (q0 := k_53) rfl hk_53, fun U hU hW9 => gmk hU hW9 hP hK hD hex hE hS hFc⟩ rfl rfl hl.1 rfl (lv_room (Nat.le_of_ble_eq_true rfl)) dX9_dropUnreached_47 ⟨Nat.le_of_ble_eq_true rfl, Nat.le_of_ble_eq_true rfl⟩) hS (fun q _ h => hFc q h) hFc (fun  ws_54 t9 H1 locs ht9 hvm9 hw9 hB9 hz9 hk9 hS => ?_)
          obtain ⟨E_55, Fr_56, hG, hP1, hD1⟩ := hB9
          have hP : va_P (gD g) cl0 ws_54 H1 := by rw [← ht9]; exact hP1
          have hD : va_D A ws_54 := hD1.weaken (fun _ _ _ h => hFc _ h)
          clear hP1 hD1 hz9 hk9 hvm9 ht9 hw9
          generalize H1 = H at hP hS ⊢
          have aa_59 := a_r1_1
          have aa_60 := a_r2_1
          have aa_61 := a_r3_1
          have aa_62 := a_r4_1
          have aa_63 := a_r5_1
          have o_h0 := E_55.1 _ _ o_h0
          refine lv_aload_n hx hb dX9_dropUnreached_50 rfl (lv_at hl 0 rfl) ?_
          obtain ⟨fs9, hk_64, hq_64⟩ := ((gF.a (F' := [(7, 2), (7, 9)]) Fr_56 (fun _ h => h))) _ _ _ hk_36
          obtain ⟨r0_64, r1_64, n1_64, r2_64, n2_64, r3_64, n3_64, r4_64, n4_64, r5_64, n5_64, rfl, o_r0_64, a_r1_64, f2_64, a_r2_64, f4_64, a_r3_64, f6_64, a_r4_64, f8_64, a_r5_64, f10_64, f11_64, -⟩ := (hG.1 _ _ _ _ hk_64).hX9 rfl
          obtain rfl := fe_r (hq_64 0 (by decide))
          have o_r0_1 := o_r0_64
          obtain rfl := fe_r (hq_64 1 (by decide))
          have hn9 := gI_n hD ((E_55).1 _ _ aa_59) a_r1_64
          subst hn9
          have a_r1_1 := a_r1_64
          obtain rfl := fe_r (hq_64 2 (by decide))
          have hn9 := gI_n hD ((E_55).1 _ _ aa_60) a_r2_64
          subst hn9
          have a_r2_1 := a_r2_64
          obtain rfl := fe_r (hq_64 3 (by decide))
          have hn9 := gI_n hD ((E_55).1 _ _ aa_61) a_r3_64
          subst hn9
          have a_r3_1 := a_r3_64
          obtain rfl := fe_r (hq_64 4 (by decide))
          have hn9 := gI_n hD ((E_55).1 _ _ aa_62) a_r4_64
          subst hn9
          have a_r4_1 := a_r4_64
          obtain rfl := fe_r (hq_64 5 (by decide))
          have hn9 := gI_n hD ((E_55).1 _ _ aa_63) a_r5_64
          subst hn9
          have a_r5_1 := a_r5_64
          refine va_get (D := gD g) (ci := 8) (v := .ref r1_1) (C := RX9) (T := TX9) (N := 6) hx hb hts inX9 hown hK hP k_1 hk_64 rfl 1 (by decide) (hts _ kw_1547) (fun _ h9 => h9) rfl dX9_dropUnreached_51 ?_
          refine lv_iconst (v := 1) hx hb dX9_dropUnreached_54 (by decide) ?_
          refine lv_dup2_11 hx hb dX9_dropUnreached_55 rfl rfl ?_
          obtain ⟨k_65, f_65, hk_65⟩ := gI_of a_r1_1
          refine va_iald hx hb hK hP k_65 1 hk_65 rfl (i_in2 (by have e1 : (1 : Int32).toInt = 1 := (by decide); have q_f2_1 := f2_1; have q_f11_1 := f11_1; omega)) dX9_dropUnreached_56 ?_
          refine lv_topi (fun z_66 ez_66 => ?_)
          refine lv_iconst (v := 1) hx hb dX9_dropUnreached_57 (by decide) ?_
          refine lv_iadd hx hb dX9_dropUnreached_58 ?_
          refine lv_topi (fun z_67 ez_67 => ?_)
          have hC9 : hol ws_54 r1_1 [(8, 1)] := (hol_u hG.u hk_64 (j := 1) rfl a_r1_1 (by decide))
          have hS9 : holS ws_54 r1_1 none := holS_n
          refine va_iast hx hb hK hP hD hS k_65 1 hk_65 rfl (i_in2 (by have e1 : (1 : Int32).toInt = 1 := (by decide); have q_f2_1 := f2_1; have q_f11_1 := f11_1; omega)) dX9_dropUnreached_59 (fun H locs hP hD hS => ?_)
          obtain ⟨ws_68, e_ws_68⟩ : ∃ z, z = ws_54.set k_65 (r1_1, .inl (g.cI, n1_1, .inl (upd f_65 (1 : Int32).toNatClampNeg z_67))) := ⟨_, rfl⟩
          have hP : va_P (gD g) cl0 ws_68 H := by rw [e_ws_68]; exact hP
          have hD : va_D A ws_68 := by rw [e_ws_68]; exact hD
          have E_69 : gE ws_54 ws_68 := gE_ari e_ws_68 hk_65
          have hG : Good g ws_68 := Good_arI e_ws_68 hk_65 hG
          have Fr_70 : gF [] [(8, 1)] none ws_54 ws_68 := gF_ar e_ws_68 hk_65 rfl hC9 hS9
          have hk_64 := gset_arO e_ws_68 hk_65 hk_64
          have o_h0 := E_69.1 _ _ o_h0
          have o_r0_1 := E_69.1 _ _ o_r0_1
          have a_r1_1 := E_69.1 _ _ a_r1_1
          have a_r2_1 := E_69.1 _ _ a_r2_1
          have a_r3_1 := E_69.1 _ _ a_r3_1
          have a_r4_1 := E_69.1 _ _ a_r4_1
          have a_r5_1 := E_69.1 _ _ a_r5_1
          refine lv_iconst (v := 1) hx hb dX9_dropUnreached_60 (by decide) ?_
          refine lv_istore_n (lv' := [(1, .int 1), (0, .ref h0), (2, .int v2_16), (3, .int c2_13), (4, .int v4_17)]) hx hb dX9_dropUnreached_61 rfl hl (by decide) rfl (fun ls hl => ?_)
          exact J_62 (1) (v2_16) ws_68 H locs ls (Or.inr rfl) (by have e1 : (1 : Int32).toInt = 1 := (by decide); have q_f19_13 := f19_13; have q_f20_13 := f20_13; have q_iv_18 := iv_18; have q_iv_19 := iv_19; have q_c_35 := i_nle c_35; have q_f1_13 := f1_13; have q_f17_13 := f17_13; have q_f18_13 := f18_13; have q_f3_13 := f3_13; have g_c2_13 := i_rg c2_13; have g_v2_16 := i_rg v2_16; have g_v4_17 := i_rg v4_17; omega) ((E_55.tr E_69)) ((gF.tr (gF.mo (F' := [(7, 2), (7, 9)]) (C' := [(7, 0), (7, 1), (7, 3), (7, 5), (7, 6), (7, 7), (7, 8), (8, 1)]) (S' := none) Fr_56 (fun _ h => h) (by decide) (Or.inl rfl)) (gF.mo (F' := [(7, 2), (7, 9)]) (C' := [(7, 0), (7, 1), (7, 3), (7, 5), (7, 6), (7, 7), (7, 8), (8, 1)]) (S' := none) Fr_70 (fun _ h => absurd h List.not_mem_nil) (by decide) (Or.inr rfl)))) hG hP hD hS (lv_sub hl [1, 0, 2, 3, 4] rfl)
        · obtain ⟨z_71, ez_71⟩ : ∃ z : Int32, v2_16 + Int32.ofInt 1 = z := ⟨_, rfl⟩
          refine lv_iinc (v := z_71) (lv' := [(2, .int z_71), (0, .ref h0), (1, .int v1_14), (3, .int c2_13), (4, .int v4_17)]) hx hb dX9_dropUnreached_35 hl (k := 2) rfl ez_71 (by decide) rfl (fun ls hl => ?_)
          refine lv_goto (tgt := 62) hx hb dX9_dropUnreached_38 (by decide) ?_
          exact J_62 (v1_14) (z_71) ws_20 H locs ls hz_v1_14 (by have q_f19_13 := f19_13; have q_f20_13 := f20_13; have q_iv_18 := iv_18; have q_iv_19 := iv_19; have q_c_35 := i_nle c_35; obtain ⟨u_z_71, q_z_71⟩ := i_iz ez_71 (by decide) (by decide); have q_f1_13 := f1_13; have q_f17_13 := f17_13; have q_f18_13 := f18_13; have q_f3_13 := f3_13; have g_c2_13 := i_rg c2_13; have g_v1_14 := i_rg v1_14; have g_v2_16 := i_rg v2_16; have g_v4_17 := i_rg v4_17; have g_z_71 := i_rg z_71; have b_v1_14 := i_bit hz_v1_14; omega) (gE.rf) (gF.rf) hG hP hD hS (lv_sub hl [1, 2, 0, 3, 4] rfl)
  exact J_19 _ (0) (0) (0) ws_2 H locs ls rfl (Or.inl rfl) (by have e0 : (0 : Int32).toInt = 0 := (by decide); omega) (by have e0 : (0 : Int32).toInt = 0 := (by decide); have q_f19_13 := f19_13; have q_f20_13 := f20_13; have q_f1_13 := f1_13; have q_f17_13 := f17_13; have q_f18_13 := f18_13; have q_f3_13 := f3_13; have g_c2_13 := i_rg c2_13; omega) (gE.rf) (gF.rf) hG hP hD hS (lv_sub hl [4, 3, 2, 1, 0] rfl)
set_option maxHeartbeats 1000000 in
set_option maxRecDepth 100000 in
theorem m_X9_findLive (l : Launch) (g : Gm) (sz : Nat) (ws : va_W) (h0 : Nat) (hG : Good g ws) (o_h0 : gC ws h0 8) (fp_a : gP ws h0 (fun fs => ∀ (rn n : Nat), fs[2]? = some (.ref rn) → gI ws rn g.cZ n → 1297 ≤ n)) (fp_b : gP ws h0 (fun fs => ∀ (rn n : Nat), fs[3]? = some (.ref rn) → gI ws rn g.cZ n → 1297 ≤ n)) (fp_d : gP ws h0 (fun fs => ∀ (rn n : Nat), fs[4]? = some (.ref rn) → gI ws rn g.cI n → 1297 ≤ n)) (fp_f : gP ws h0 (fun fs => ∀ (rn n : Nat), fs[5]? = some (.ref rn) → gI ws rn g.cI n → 1297 ≤ n)) : Met l yX9_findLive (wt yX9_findLive cX9_findLive 5 none) ({ frames := 4, cells := 0, slots := 0, locals := 91 }) (va_Pc [.ref h0] (st_G g sz ws)) (va_Qv (fun (u9 : va_W) => True) (gQ1 g [] [(8, 4)] none (va_A ws sz) ws) (va_A ws sz)) (0) (0) (va_A ws sz) := by
  refine Met.ofW (cc := cX9_findLive) (maxL := 5) (ret := none) (by decide) rfl ?_
  intro p e s m args below meth c s₁ B hml hv
  obtain ⟨rfl, hsz, hP, hK, hD0, hex, hE⟩ := hv
  have hx := B.exec
  have hb := B.bytes
  have hr := B.returns
  have hts0 := atoms_spec (ws := wt yX9_findLive cX9_findLive 5 none) B.pre
  have hts : ∀ w ∈ tb, w.before _ s = true := fun w h => hts0 w (List.mem_cons_of_mem _ h)
  have hown : s.vm.findClass RX9 = some m.cls := findClass_of_methodNamed B.named
  subst hsz
  have hD := hD0.self (sz := s.heap.size)
  generalize hAe : va_A ws s.heap.size = A at hD hE ⊢
  have hA : ∀ q : Nat, s.heap.size ≤ q → A q := fun q h => by rw [← hAe]; exact Or.inr h
  have hS : va_S A s.heap s.heap [] := va_S.rf
  have hl := lv_entry ([.ref h0]) (n := 5) (Nat.le_of_ble_eq_true rfl)
  rw [lg_entry_eq]
  generalize (lg_sl ([.ref h0]) ++ List.replicate (5 - (lg_sl ([.ref h0])).length) Slot.unset).toArray = ls at hl ⊢
  have hl : lv_has ls 5 [(0, .ref h0)] := hl
  obtain ⟨k_1, fs9, hk_1⟩ := gC_of o_h0
  obtain ⟨r0_1, r1_1, n1_1, r2_1, n2_1, r3_1, n3_1, r4_1, n4_1, r5_1, n5_1, rfl, o_r0_1, a_r1_1, f2_1, a_r2_1, f4_1, a_r3_1, f6_1, a_r4_1, f8_1, a_r5_1, f10_1, f11_1, -⟩ := (hG.1 _ _ _ _ hk_1).hX9 rfl
  have fq_a := fp_a _ _ _ hk_1 _ _ rfl a_r2_1
  have fq_b := fp_b _ _ _ hk_1 _ _ rfl a_r3_1
  have fq_d := fp_d _ _ _ hk_1 _ _ rfl a_r4_1
  have fq_f := fp_f _ _ _ hk_1 _ _ rfl a_r5_1
  refine lv_aload_n hx hb dX9_findLive_0 rfl (lv_at hl 0 rfl) ?_
  refine va_get (D := gD g) (ci := 8) (v := .ref r4_1) (C := RX9) (T := TX9) (N := 6) hx hb hts inX9 hown hK hP k_1 hk_1 rfl 4 (by decide) (hts _ kw_1559) (fun _ h9 => h9) rfl dX9_findLive_1 ?_
  refine lv_iconst (v := 0) hx hb dX9_findLive_4 (by decide) ?_
  have hFc := gfree hD hS hA
  refine va_callv (va_runS (As := [.ref r4_1, .int 0]) (rest := []) ⟨hx, hb, hml, hown, hts⟩ (m_J7_fill_53178 l g s.heap.size ws r4_1 (n4_1) (0) [(8, 4)] hG a_r4_1 f8_1 (hol_u hG.u hk_1 (j := 4) rfl a_r4_1 (by decide))) (va_cwS 2 hts (gd_S kw_1560 kw_1722 kw_1723 kw_1721) rfl rfl rfl (by decide +kernel) ⟨Nat.le_of_ble_eq_true rfl, Nat.le_of_ble_eq_true rfl⟩) ⟨gblind, fun U hU hW9 => gmk hU hW9 hP hK hD hex hE hS hFc⟩ rfl rfl hl.1 rfl (lv_room (Nat.le_of_ble_eq_true rfl)) dX9_findLive_5 ⟨Nat.le_of_ble_eq_true rfl, Nat.le_of_ble_eq_true rfl⟩) hS (fun q _ h => hFc q h) hFc (fun  ws_2 t9 H1 locs ht9 hvm9 hw9 hB9 hz9 hk9 hS => ?_)
  obtain ⟨E_3, Fr_4, hG, hP1, hD1⟩ := hB9
  have hP : va_P (gD g) cl0 ws_2 H1 := by rw [← ht9]; exact hP1
  have hD : va_D A ws_2 := hD1.weaken (fun _ _ _ h => hFc _ h)
  clear hP1 hD1 hz9 hk9 hvm9 ht9 hw9
  generalize H1 = H at hP hS ⊢
  have aa_7 := a_r1_1
  have aa_8 := a_r2_1
  have aa_9 := a_r3_1
  have aa_10 := a_r4_1
  have aa_11 := a_r5_1
  have o_h0 := E_3.1 _ _ o_h0
  refine lv_iconst (v := 1) hx hb dX9_findLive_8 (by decide) ?_
  refine lv_istore_n (lv' := [(1, .int 1), (0, .ref h0)]) hx hb dX9_findLive_9 rfl hl (by decide) rfl (fun ls hl => ?_)
  refine lv_iconst (v := 0) hx hb dX9_findLive_10 (by decide) ?_
  refine lv_istore_n (lv' := [(2, .int 0), (1, .int 1), (0, .ref h0)]) hx hb dX9_findLive_11 rfl hl (by decide) rfl (fun ls hl => ?_)
  have J_12 : ∀ (n9 : Nat) (v1_12 : Int32) (v2_14 : Int32) (ws_16 : va_W) (H : Heap) (locs : List Loc) (ls : Array Slot), (2147483647 - v2_14.toInt).toNat = n9 → v1_12 = 0 ∨ v1_12 = 1 → 0 ≤ v2_14.toInt → gE ws_2 ws_16 → gF [] [(8, 4)] none ws_2 ws_16 → Good g ws_16 → va_P (gD g) cl0 ws_16 H → va_D A ws_16 → va_S A s.heap H locs → lv_has ls 5 [(0, .ref h0), (1, .int v1_12), (2, .int v2_14)] → W p l e (headSpec (wt yX9_findLive cX9_findLive 5 none) ({ frames := 4, cells := 0, slots := 0, locals := 91 })).room s m ([.ref h0] : List Value).toArray below meth c H locs (0) (0) (MQ below (va_Qv (fun (u9 : va_W) => True) (gQ1 g [] [(8, 4)] none A ws) A) ([.ref h0] : List Value).toArray s (0) (0) A) (F0 m 12 ls []) := by
    intro n9
    induction n9 using Nat.strongRecOn with
    | ind n9 ih_12 =>
      intro v1_12 v2_14 ws_16 H locs ls hm9 iv_13 iv_15 E_17 Fr_18 hG hP hD hS hl
      subst hm9
      have hz_v1_12 := iv_13
      have o_h0 := E_17.1 _ _ o_h0
      refine lv_iload_n hx hb dX9_findLive_12 rfl (lv_at hl 1 rfl) ?_
      have J_84 : ∀  (H : Heap) (locs : List Loc) (ls : Array Slot), va_P (gD g) cl0 ws_16 H → va_D A ws_16 → va_S A s.heap H locs → lv_has ls 5 [] → W p l e (headSpec (wt yX9_findLive cX9_findLive 5 none) ({ frames := 4, cells := 0, slots := 0, locals := 91 })).room s m ([.ref h0] : List Value).toArray below meth c H locs (0) (0) (MQ below (va_Qv (fun (u9 : va_W) => True) (gQ1 g [] [(8, 4)] none A ws) A) ([.ref h0] : List Value).toArray s (0) (0) A) (F0 m 84 ls []) := by
        intro  H locs ls  hP hD hS hl
        refine W.widen (k := 0) (n := 0) (Nat.le_of_ble_eq_true rfl) (Nat.le_of_ble_eq_true rfl) ?_
        exact W.vret hx hb hr (fun t9 ht9 hW9 => ⟨⟨ws_16, rfl, trivial, ⟨(E_3.tr E_17), (gF.tr Fr_4 Fr_18), hG, by rw [ht9]; exact hP, hD⟩⟩, hS.F ht9⟩) hS.2.2 dX9_findLive_84
      refine lv_if_eq (tgt := 84) hx hb dX9_findLive_13 (by decide) (fun c_21 => ?_) (fun c_21 => ?_)
      · exact J_84  H locs ls  hP hD hS (lv_sub hl [] rfl)
      · refine lv_iload_n hx hb dX9_findLive_16 rfl (lv_at hl 2 rfl) ?_
        refine lv_ldc hx hb hown (hts _ kw_1561) dX9_findLive_17 ?_
        refine lv_icmp_ge (tgt := 84) hx hb dX9_findLive_19 (by decide) (fun c_22 => ?_) (fun c_22 => ?_)
        · exact J_84  H locs ls  hP hD hS (lv_sub hl [] rfl)
        · refine lv_iconst (v := 0) hx hb dX9_findLive_22 (by decide) ?_
          refine lv_istore_n (lv' := [(1, .int 0), (0, .ref h0), (2, .int v2_14)]) hx hb dX9_findLive_23 rfl hl (by decide) rfl (fun ls hl => ?_)
          refine lv_aload_n hx hb dX9_findLive_24 rfl (lv_at hl 1 rfl) ?_
          obtain ⟨fs9, hk_23, hq_23⟩ := ((gA.tr (gF.a (F' := []) Fr_4 (fun _ h => h)) (gF.a (F' := []) Fr_18 (fun _ h => h)))) _ _ _ hk_1
          obtain ⟨r0_23, r1_23, n1_23, r2_23, n2_23, r3_23, n3_23, r4_23, n4_23, r5_23, n5_23, rfl, o_r0_23, a_r1_23, f2_23, a_r2_23, f4_23, a_r3_23, f6_23, a_r4_23, f8_23, a_r5_23, f10_23, f11_23, -⟩ := (hG.1 _ _ _ _ hk_23).hX9 rfl
          obtain rfl := fe_r (hq_23 0 (by decide))
          have o_r0_1 := o_r0_23
          obtain rfl := fe_r (hq_23 2 (by decide))
          have hn9 := gI_n hD (((E_3.tr E_17)).1 _ _ aa_8) a_r2_23
          subst hn9
          have a_r2_1 := a_r2_23
          obtain rfl := fe_r (hq_23 3 (by decide))
          have hn9 := gI_n hD (((E_3.tr E_17)).1 _ _ aa_9) a_r3_23
          subst hn9
          have a_r3_1 := a_r3_23
          obtain rfl := fe_r (hq_23 4 (by decide))
          have hn9 := gI_n hD (((E_3.tr E_17)).1 _ _ aa_10) a_r4_23
          subst hn9
          have a_r4_1 := a_r4_23
          obtain rfl := fe_r (hq_23 5 (by decide))
          have hn9 := gI_n hD (((E_3.tr E_17)).1 _ _ aa_11) a_r5_23
          subst hn9
          have a_r5_1 := a_r5_23
          refine va_get (D := gD g) (ci := 8) (v := .ref r0_1) (C := RX9) (T := TX9) (N := 6) hx hb hts inX9 hown hK hP k_1 hk_23 rfl 0 (by decide) (hts _ kw_1552) (fun _ h9 => h9) rfl dX9_findLive_25 ?_
          obtain ⟨k_24, fs9, hk_24⟩ := gC_of o_r0_1
          obtain ⟨r0_24, n0_24, r1_24, n1_24, c2_24, r3_24, n3_24, c4_24, r5_24, n5_24, r6_24, n6_24, r7_24, n7_24, r8_24, n8_24, c9_24, c10_24, c11_24, v12_24, v13_24, v14_24, rfl, a_r0_24, f1_24, a_r1_24, f3_24, a_r3_24, f5_24, a_r5_24, f7_24, a_r6_24, f9_24, a_r7_24, f11_24, a_r8_24, f13_24, o_v12_24, o_v13_24, o_v14_24, f17_24, f18_24, f19_24, f20_24, f21_24, f22_24, f23_24, f24_24, f25_24, f26_24, f27_24, f28_24, f29_24, -⟩ := (hG.1 _ _ _ _ hk_24).hX8 rfl
          refine va_get (D := gD g) (ci := 7) (v := .int c2_24) (C := RX8) (T := TX8) (N := 15) hx hb hts inX8 hown hK hP k_24 hk_24 rfl 2 (by decide) (hts _ kw_1553) (fun _ h9 => h9) rfl dX9_findLive_28 ?_
          refine lv_iconst (v := 1) hx hb dX9_findLive_31 (by decide) ?_
          refine lv_isub hx hb dX9_findLive_32 ?_
          refine lv_topi (fun z_25 ez_25 => ?_)
          refine lv_istore_n (lv' := [(3, .int z_25), (1, .int 0), (0, .ref h0), (2, .int v2_14)]) hx hb dX9_findLive_33 rfl hl (by decide) rfl (fun ls hl => ?_)
          have J_34 : ∀ (n9 : Nat) (v1_26 : Int32) (v3_28 : Int32) (ws_30 : va_W) (H : Heap) (locs : List Loc) (ls : Array Slot), (v3_28.toInt + 1).toNat = n9 → v1_26 = 0 ∨ v1_26 = 1 → v3_28.toInt ≤ 1296 → gE ws_16 ws_30 → gF [] [(8, 4)] none ws_16 ws_30 → Good g ws_30 → va_P (gD g) cl0 ws_30 H → va_D A ws_30 → va_S A s.heap H locs → lv_has ls 5 [(0, .ref h0), (1, .int v1_26), (2, .int v2_14), (3, .int v3_28)] → W p l e (headSpec (wt yX9_findLive cX9_findLive 5 none) ({ frames := 4, cells := 0, slots := 0, locals := 91 })).room s m ([.ref h0] : List Value).toArray below meth c H locs (0) (0) (MQ below (va_Qv (fun (u9 : va_W) => True) (gQ1 g [] [(8, 4)] none A ws) A) ([.ref h0] : List Value).toArray s (0) (0) A) (F0 m 34 ls []) := by
            intro n9
            induction n9 using Nat.strongRecOn with
            | ind n9 ih_34 =>
              intro v1_26 v3_28 ws_30 H locs ls hm9 iv_27 iv_29 E_31 Fr_32 hG hP hD hS hl
              subst hm9
              have hz_v1_26 := iv_27
              have aa_33 := a_r1_23
              have aa_34 := a_r2_1
              have aa_35 := a_r3_1
              have aa_36 := a_r4_1
              have aa_37 := a_r5_1
              have aa_38 := a_r0_24
              have aa_39 := a_r1_24
              have aa_40 := a_r3_24
              have aa_41 := a_r5_24
              have aa_42 := a_r6_24
              have aa_43 := a_r7_24
              have aa_44 := a_r8_24
              have o_h0 := E_31.1 _ _ o_h0
              refine lv_iload_n hx hb dX9_findLive_34 rfl (lv_at hl 3 rfl) ?_
              refine lv_if_lt (tgt := 78) hx hb dX9_findLive_35 (by decide) (fun c_45 => ?_) (fun c_45 => ?_)
              · obtain ⟨z_46, ez_46⟩ : ∃ z : Int32, v2_14 + Int32.ofInt 1 = z := ⟨_, rfl⟩
                refine lv_iinc (v := z_46) (lv' := [(2, .int z_46), (0, .ref h0), (1, .int v1_26), (3, .int v3_28)]) hx hb dX9_findLive_78 hl (k := 2) rfl ez_46 (by decide) rfl (fun ls hl => ?_)
                refine lv_goto (tgt := 12) hx hb dX9_findLive_81 (by decide) ?_
                exact ih_12 _ (by have e1000000 : (1000000 : Int32).toInt = 1000000 := (by decide); obtain ⟨u_z_46, q_z_46⟩ := i_iz ez_46 (by decide) (by decide); have q_iv_15 := iv_15; have q_c_22 := i_nle c_22; have g_v1_26 := i_rg v1_26; have g_v2_14 := i_rg v2_14; have g_z_46 := i_rg z_46; have b_v1_26 := i_bit hz_v1_26; omega) (v1_26) (z_46) ws_30 H locs ls rfl hz_v1_26 (by have e1000000 : (1000000 : Int32).toInt = 1000000 := (by decide); obtain ⟨u_z_46, q_z_46⟩ := i_iz ez_46 (by decide) (by decide); have q_iv_15 := iv_15; have q_c_22 := i_nle c_22; have g_v2_14 := i_rg v2_14; have g_z_46 := i_rg z_46; omega) ((E_17.tr E_31)) ((gF.tr Fr_18 Fr_32)) hG hP hD hS (lv_sub hl [1, 2, 0] rfl)
              · refine lv_aload_n hx hb dX9_findLive_38 rfl (lv_at hl 0 rfl) ?_
                refine lv_iload_n hx hb dX9_findLive_39 rfl (lv_at hl 3 rfl) ?_
                obtain ⟨fs9, hk_47, hq_47⟩ := ((gF.a (F' := []) Fr_32 (fun _ h => h))) _ _ _ hk_23
                obtain ⟨r0_47, r1_47, n1_47, r2_47, n2_47, r3_47, n3_47, r4_47, n4_47, r5_47, n5_47, rfl, o_r0_47, a_r1_47, f2_47, a_r2_47, f4_47, a_r3_47, f6_47, a_r4_47, f8_47, a_r5_47, f10_47, f11_47, -⟩ := (hG.1 _ _ _ _ hk_47).hX9 rfl
                obtain rfl := fe_r (hq_47 0 (by decide))
                have o_r0_1 := o_r0_47
                obtain rfl := fe_r (hq_47 2 (by decide))
                have hn9 := gI_n hD ((E_31).1 _ _ aa_34) a_r2_47
                subst hn9
                have a_r2_1 := a_r2_47
                obtain rfl := fe_r (hq_47 3 (by decide))
                have hn9 := gI_n hD ((E_31).1 _ _ aa_35) a_r3_47
                subst hn9
                have a_r3_1 := a_r3_47
                obtain rfl := fe_r (hq_47 4 (by decide))
                have hn9 := gI_n hD ((E_31).1 _ _ aa_36) a_r4_47
                subst hn9
                have a_r4_1 := a_r4_47
                obtain rfl := fe_r (hq_47 5 (by decide))
                have hn9 := gI_n hD ((E_31).1 _ _ aa_37) a_r5_47
                subst hn9
                have a_r5_1 := a_r5_47
                have hFc := gfree hD hS hA
                refine va_calli (va_runV (As := [.int v3_28]) (rest := []) ⟨hx, hb, hml, hown, hts⟩ (m_X9_liveBefore l g H.size ws_30 h0 (v3_28) hG o_h0 (gP_of hD hk_47 (fun p90 q90 e90 g90 => by cases e90; have z90 := gI_n hD a_r2_1 g90; subst z90; exact (by have q_f4_1 := f4_1; have q_fq_a := fq_a; omega))) (gP_of hD hk_47 (fun p90 q90 e90 g90 => by cases e90; have z90 := gI_n hD a_r3_1 g90; subst z90; exact (by have q_f6_1 := f6_1; have q_fq_b := fq_b; omega))) (gP_of hD hk_47 (fun p90 q90 e90 g90 => by cases e90; have z90 := gI_n hD a_r4_1 g90; subst z90; exact (by have q_f8_1 := f8_1; have q_fq_d := fq_d; omega))) (gP_of hD hk_47 (fun p90 q90 e90 g90 => by cases e90; have z90 := gI_n hD a_r5_1 g90; subst z90; exact (by have q_f10_1 := f10_1; have q_fq_f := fq_f; omega)))) (cwV 1 hts (gd_V kw_1562 kw_1664 kw_1665 kw_404 kw_1663) rfl rfl rfl (by decide +kernel) ⟨Nat.le_of_ble_eq_true rfl, Nat.le_of_ble_eq_true rfl⟩) ⟨gblind, va_recv hK hP (ci := 8) (q0 := k_1) rfl hk_47, fun U hU hW9 => gmk hU hW9 hP hK hD hex hE hS hFc⟩ rfl rfl hl.1 rfl (lv_room (Nat.le_of_ble_eq_true rfl)) dX9_findLive_40 ⟨Nat.le_of_ble_eq_true rfl, Nat.le_of_ble_eq_true rfl⟩) hS (fun q _ h => hFc q h) hFc (fun r_48 u9 t9 H1 locs ht9 hvm9 hw9 hB9 hz9 hk9 hS => ?_)
                have hP : va_P (gD g) cl0 ws_30 H1 := by rw [← ht9]; exact hB9.1
                clear hB9 hz9 hk9 hvm9 ht9 hw9
                generalize H1 = H at hP hS ⊢
                refine lv_istore (lv' := [(4, .int r_48), (0, .ref h0), (1, .int v1_26), (2, .int v2_14), (3, .int v3_28)]) hx hb dX9_findLive_43 hl (by decide) rfl (fun ls hl => ?_)
                refine lv_iload_n hx hb dX9_findLive_45 rfl (lv_at hl 2 rfl) ?_
                refine lv_iload hx hb dX9_findLive_46 (lv_at hl 0 rfl) ?_
                refine lv_aload_n hx hb dX9_findLive_48 rfl (lv_at hl 1 rfl) ?_
                refine va_get (D := gD g) (ci := 8) (v := .ref r4_1) (C := RX9) (T := TX9) (N := 6) hx hb hts inX9 hown hK hP k_1 hk_47 rfl 4 (by decide) (hts _ kw_1559) (fun _ h9 => h9) rfl dX9_findLive_49 ?_
                refine lv_iload_n hx hb dX9_findLive_52 rfl (lv_at hl 4 rfl) ?_
                obtain ⟨k_49, f_49, hk_49⟩ := gI_of a_r4_1
                refine va_iald hx hb hK hP k_49 1 hk_49 rfl (i_in2 (by have e0 : (0 : Int32).toInt = 0 := (by decide); have q_f8_1 := f8_1; have q_fq_d := fq_d; have q_iv_29 := iv_29; have q_c_45 := i_nlt c_45; have g_v3_28 := i_rg v3_28; omega)) dX9_findLive_53 ?_
                refine lv_topi (fun z_50 ez_50 => ?_)
                have J_62 : ∀ (t_51 : Int32) (H : Heap) (locs : List Loc) (ls : Array Slot), t_51 = 0 ∨ t_51 = 1 → va_P (gD g) cl0 ws_30 H → va_D A ws_30 → va_S A s.heap H locs → lv_has ls 5 [(0, .ref h0), (2, .int v2_14), (3, .int v3_28), (4, .int r_48)] → W p l e (headSpec (wt yX9_findLive cX9_findLive 5 none) ({ frames := 4, cells := 0, slots := 0, locals := 91 })).room s m ([.ref h0] : List Value).toArray below meth c H locs (0) (0) (MQ below (va_Qv (fun (u9 : va_W) => True) (gQ1 g [] [(8, 4)] none A ws) A) ([.ref h0] : List Value).toArray s (0) (0) A) (F0 m 62 ls [.int t_51, .int v1_26]) := by
                  intro t_51 H locs ls iv_52 hP hD hS hl
                  have hz_t_51 := iv_52
                  refine lv_ior hx hb dX9_findLive_62 ?_
                  refine lv_topi (fun z_55 ez_55 => ?_)
                  have hz_z_55 := bit_or ez_55 hz_v1_26 hz_t_51
                  refine lv_istore_n (lv' := [(1, .int z_55), (0, .ref h0), (2, .int v2_14), (3, .int v3_28), (4, .int r_48)]) hx hb dX9_findLive_63 rfl hl (by decide) rfl (fun ls hl => ?_)
                  refine lv_aload_n hx hb dX9_findLive_64 rfl (lv_at hl 1 rfl) ?_
                  refine va_get (D := gD g) (ci := 8) (v := .ref r4_1) (C := RX9) (T := TX9) (N := 6) hx hb hts inX9 hown hK hP k_1 hk_47 rfl 4 (by decide) (hts _ kw_1559) (fun _ h9 => h9) rfl dX9_findLive_65 ?_
                  refine lv_iload_n hx hb dX9_findLive_68 rfl (lv_at hl 3 rfl) ?_
                  refine lv_iload hx hb dX9_findLive_69 (lv_at hl 4 rfl) ?_
                  have hC9 : hol ws_30 r4_1 [(8, 4)] := (hol_u hG.u hk_47 (j := 4) rfl a_r4_1 (by decide))
                  have hS9 : holS ws_30 r4_1 none := holS_n
                  refine va_iast hx hb hK hP hD hS k_49 1 hk_49 rfl (i_in2 (by have e0 : (0 : Int32).toInt = 0 := (by decide); have q_f8_1 := f8_1; have q_fq_d := fq_d; have q_iv_29 := iv_29; have q_c_45 := i_nlt c_45; have g_v3_28 := i_rg v3_28; omega)) dX9_findLive_71 (fun H locs hP hD hS => ?_)
                  obtain ⟨ws_56, e_ws_56⟩ : ∃ z, z = ws_30.set k_49 (r4_1, .inl (g.cI, n4_1, .inl (upd f_49 (v3_28 : Int32).toNatClampNeg r_48))) := ⟨_, rfl⟩
                  have hP : va_P (gD g) cl0 ws_56 H := by rw [e_ws_56]; exact hP
                  have hD : va_D A ws_56 := by rw [e_ws_56]; exact hD
                  have E_57 : gE ws_30 ws_56 := gE_ari e_ws_56 hk_49
                  have hG : Good g ws_56 := Good_arI e_ws_56 hk_49 hG
                  have Fr_58 : gF [] [(8, 4)] none ws_30 ws_56 := gF_ar e_ws_56 hk_49 rfl hC9 hS9
                  have hk_47 := gset_arO e_ws_56 hk_49 hk_47
                  have o_h0 := E_57.1 _ _ o_h0
                  have a_r1_47 := E_57.1 _ _ a_r1_47
                  have o_r0_1 := E_57.1 _ _ o_r0_1
                  have a_r2_1 := E_57.1 _ _ a_r2_1
                  have a_r3_1 := E_57.1 _ _ a_r3_1
                  have a_r4_1 := E_57.1 _ _ a_r4_1
                  have a_r5_1 := E_57.1 _ _ a_r5_1
                  obtain ⟨z_59, ez_59⟩ : ∃ z : Int32, v3_28 + Int32.ofInt (-1) = z := ⟨_, rfl⟩
                  refine lv_iinc (v := z_59) (lv' := [(3, .int z_59), (1, .int z_55), (0, .ref h0), (2, .int v2_14), (4, .int r_48)]) hx hb dX9_findLive_72 hl (k := 3) rfl ez_59 (by decide) rfl (fun ls hl => ?_)
                  refine lv_goto (tgt := 34) hx hb dX9_findLive_75 (by decide) ?_
                  exact ih_34 _ (by have e0 : (0 : Int32).toInt = 0 := (by decide); obtain ⟨u_z_59, q_z_59⟩ := i_iz ez_59 (by decide) (by decide); have q_iv_29 := iv_29; have q_c_45 := i_nlt c_45; have g_v3_28 := i_rg v3_28; have g_z_55 := i_rg z_55; have g_z_59 := i_rg z_59; have b_z_55 := i_bit hz_z_55; omega) (z_55) (z_59) ws_56 H locs ls rfl hz_z_55 (by have e0 : (0 : Int32).toInt = 0 := (by decide); obtain ⟨u_z_59, q_z_59⟩ := i_iz ez_59 (by decide) (by decide); have q_iv_29 := iv_29; have q_c_45 := i_nlt c_45; have g_v3_28 := i_rg v3_28; have g_z_59 := i_rg z_59; omega) ((E_31.tr E_57)) ((gF.tr Fr_32 Fr_58)) hG hP hD hS (lv_sub hl [2, 1, 3, 0] rfl)
                refine lv_icmp_eq (tgt := 61) hx hb dX9_findLive_54 (by decide) (fun c_60 => ?_) (fun c_60 => ?_)
                · refine lv_iconst (v := 0) hx hb dX9_findLive_61 (by decide) ?_
                  exact J_62 (0) H locs ls (Or.inl rfl) hP hD hS (lv_sub hl [1, 3, 4, 0] rfl)
                · refine lv_iconst (v := 1) hx hb dX9_findLive_57 (by decide) ?_
                  refine lv_goto (tgt := 62) hx hb dX9_findLive_58 (by decide) ?_
                  exact J_62 (1) H locs ls (Or.inr rfl) hP hD hS (lv_sub hl [1, 3, 4, 0] rfl)
          exact J_34 _ (0) (z_25) ws_16 H locs ls rfl (Or.inl rfl) (by have e1 : (1 : Int32).toInt = 1 := (by decide); obtain ⟨u_z_25, q_z_25⟩ := i_sub ez_25; have q_f19_24 := f19_24; have q_f20_24 := f20_24; have g_c2_24 := i_rg c2_24; have g_z_25 := i_rg z_25; omega) (gE.rf) (gF.rf) hG hP hD hS (lv_sub hl [2, 1, 3, 0] rfl)
  exact J_12 _ (1) (0) ws_2 H locs ls rfl (Or.inr rfl) (by have e0 : (0 : Int32).toInt = 0 := (by decide); omega) (gE.rf) (gF.rf) hG hP hD hS (lv_sub hl [2, 1, 0] rfl)
set_option maxHeartbeats 1000000 in
set_option maxRecDepth 100000 in
theorem m_X9_goThrough (l : Launch) (g : Gm) (sz : Nat) (ws : va_W) (h0 : Nat) (x1 : Int32) (hG : Good g ws) (o_h0 : gC ws h0 8) (fp_a : gP ws h0 (fun fs => ∀ (rn n : Nat), fs[2]? = some (.ref rn) → gI ws rn g.cZ n → 1297 ≤ n)) (fp_b : gP ws h0 (fun fs => ∀ (rn n : Nat), fs[3]? = some (.ref rn) → gI ws rn g.cZ n → 1297 ≤ n)) (fp_d : gP ws h0 (fun fs => ∀ (rn n : Nat), fs[4]? = some (.ref rn) → gI ws rn g.cI n → 1297 ≤ n)) (fp_f : gP ws h0 (fun fs => ∀ (rn n : Nat), fs[5]? = some (.ref rn) → gI ws rn g.cI n → 1297 ≤ n)) (pr : 0 ≤ x1.toInt ∧ x1.toInt ≤ 11) : Met l yX9_goThrough (wt yX9_goThrough cX9_goThrough 6 (some .boolean)) ({ frames := 5, cells := 0, slots := 0, locals := 120 }) (va_Pc [.ref h0, .int x1] (st_G g sz ws)) (va_Qi (fun (r : Int32) (u9 : va_W) => r = 0 ∨ r = 1) (gQ1 g [(7, 2), (7, 9)] [(7, 0), (7, 1), (7, 3), (7, 5), (7, 6), (7, 7), (7, 8), (8, 1), (8, 2), (8, 4)] none (va_A ws sz) ws) (va_A ws sz)) (0) (0) (va_A ws sz) := by
  refine Met.ofW (cc := cX9_goThrough) (maxL := 6) (ret := (some .boolean)) (by decide) rfl ?_
  intro p e s m args below meth c s₁ B hml hv
  obtain ⟨rfl, hsz, hP, hK, hD0, hex, hE⟩ := hv
  have hx := B.exec
  have hb := B.bytes
  have hr := B.returns
  have hts0 := atoms_spec (ws := wt yX9_goThrough cX9_goThrough 6 (some .boolean)) B.pre
  have hts : ∀ w ∈ tb, w.before _ s = true := fun w h => hts0 w (List.mem_cons_of_mem _ h)
  have hown : s.vm.findClass RX9 = some m.cls := findClass_of_methodNamed B.named
  subst hsz
  have hD := hD0.self (sz := s.heap.size)
  generalize hAe : va_A ws s.heap.size = A at hD hE ⊢
  have hA : ∀ q : Nat, s.heap.size ≤ q → A q := fun q h => by rw [← hAe]; exact Or.inr h
  have hS : va_S A s.heap s.heap [] := va_S.rf
  have hl := lv_entry ([.ref h0, .int x1]) (n := 6) (Nat.le_of_ble_eq_true rfl)
  rw [lg_entry_eq]
  generalize (lg_sl ([.ref h0, .int x1]) ++ List.replicate (6 - (lg_sl ([.ref h0, .int x1])).length) Slot.unset).toArray = ls at hl ⊢
  have hl : lv_has ls 6 [(0, .ref h0), (1, .int x1)] := hl
  obtain ⟨k_1, fs9, hk_1⟩ := gC_of o_h0
  obtain ⟨r0_1, r1_1, n1_1, r2_1, n2_1, r3_1, n3_1, r4_1, n4_1, r5_1, n5_1, rfl, o_r0_1, a_r1_1, f2_1, a_r2_1, f4_1, a_r3_1, f6_1, a_r4_1, f8_1, a_r5_1, f10_1, f11_1, -⟩ := (hG.1 _ _ _ _ hk_1).hX9 rfl
  have fq_a := fp_a _ _ _ hk_1 _ _ rfl a_r2_1
  have fq_b := fp_b _ _ _ hk_1 _ _ rfl a_r3_1
  have fq_d := fp_d _ _ _ hk_1 _ _ rfl a_r4_1
  have fq_f := fp_f _ _ _ hk_1 _ _ rfl a_r5_1
  refine lv_iconst (v := 0) hx hb dX9_goThrough_0 (by decide) ?_
  refine lv_istore_n (lv' := [(2, .int 0), (0, .ref h0), (1, .int x1)]) hx hb dX9_goThrough_1 rfl hl (by decide) rfl (fun ls hl => ?_)
  refine lv_iconst (v := 1) hx hb dX9_goThrough_2 (by decide) ?_
  refine lv_istore_n (lv' := [(3, .int 1), (2, .int 0), (0, .ref h0), (1, .int x1)]) hx hb dX9_goThrough_3 rfl hl (by decide) rfl (fun ls hl => ?_)
  refine lv_iconst (v := 0) hx hb dX9_goThrough_4 (by decide) ?_
  refine lv_istore (lv' := [(4, .int 0), (3, .int 1), (2, .int 0), (0, .ref h0), (1, .int x1)]) hx hb dX9_goThrough_5 hl (by decide) rfl (fun ls hl => ?_)
  refine lv_iconst (v := 0) hx hb dX9_goThrough_7 (by decide) ?_
  refine lv_istore (lv' := [(5, .int 0), (4, .int 0), (3, .int 1), (2, .int 0), (0, .ref h0), (1, .int x1)]) hx hb dX9_goThrough_8 hl (by decide) rfl (fun ls hl => ?_)
  have J_10 : ∀ (n9 : Nat) (v2_2 : Int32) (v3_4 : Int32) (v4_6 : Int32) (v5_9 : Int32) (ws_11 : va_W) (H : Heap) (locs : List Loc) (ls : Array Slot), (2147483647 - v5_9.toInt).toNat = n9 → v2_2 = 0 ∨ v2_2 = 1 → v3_4 = 0 ∨ v3_4 = 1 → 0 ≤ v4_6.toInt → 0 ≤ v4_6.toInt ∧ v4_6.toInt ≤ 1296 → 0 ≤ v5_9.toInt → gE ws ws_11 → gF [(7, 2), (7, 9)] [(7, 0), (7, 1), (7, 3), (7, 5), (7, 6), (7, 7), (7, 8), (8, 1), (8, 2), (8, 4)] none ws ws_11 → Good g ws_11 → va_P (gD g) cl0 ws_11 H → va_D A ws_11 → va_S A s.heap H locs → lv_has ls 6 [(0, .ref h0), (1, .int x1), (2, .int v2_2), (3, .int v3_4), (4, .int v4_6), (5, .int v5_9)] → W p l e (headSpec (wt yX9_goThrough cX9_goThrough 6 (some .boolean)) ({ frames := 5, cells := 0, slots := 0, locals := 120 })).room s m ([.ref h0, .int x1] : List Value).toArray below meth c H locs (0) (0) (MQ below (va_Qi (fun (r : Int32) (u9 : va_W) => r = 0 ∨ r = 1) (gQ1 g [(7, 2), (7, 9)] [(7, 0), (7, 1), (7, 3), (7, 5), (7, 6), (7, 7), (7, 8), (8, 1), (8, 2), (8, 4)] none A ws) A) ([.ref h0, .int x1] : List Value).toArray s (0) (0) A) (F0 m 10 ls []) := by
    intro n9
    induction n9 using Nat.strongRecOn with
    | ind n9 ih_10 =>
      intro v2_2 v3_4 v4_6 v5_9 ws_11 H locs ls hm9 iv_3 iv_5 iv_7 iv_8 iv_10 E_12 Fr_13 hG hP hD hS hl
      subst hm9
      have hz_v2_2 := iv_3
      have hz_v3_4 := iv_5
      have aa_14 := a_r1_1
      have aa_15 := a_r2_1
      have aa_16 := a_r3_1
      have aa_17 := a_r4_1
      have aa_18 := a_r5_1
      have o_h0 := E_12.1 _ _ o_h0
      refine lv_iload hx hb dX9_goThrough_10 (lv_at hl 4 rfl) ?_
      refine lv_aload_n hx hb dX9_goThrough_12 rfl (lv_at hl 0 rfl) ?_
      obtain ⟨fs9, hk_19, hq_19⟩ := ((gF.a (F' := [(7, 2), (7, 9)]) Fr_13 (fun _ h => h))) _ _ _ hk_1
      obtain ⟨r0_19, r1_19, n1_19, r2_19, n2_19, r3_19, n3_19, r4_19, n4_19, r5_19, n5_19, rfl, o_r0_19, a_r1_19, f2_19, a_r2_19, f4_19, a_r3_19, f6_19, a_r4_19, f8_19, a_r5_19, f10_19, f11_19, -⟩ := (hG.1 _ _ _ _ hk_19).hX9 rfl
      obtain rfl := fe_r (hq_19 0 (by decide))
      have o_r0_1 := o_r0_19
      obtain rfl := fe_r (hq_19 1 (by decide))
      have hn9 := gI_n hD ((E_12).1 _ _ aa_14) a_r1_19
      subst hn9
      have a_r1_1 := a_r1_19
      obtain rfl := fe_r (hq_19 2 (by decide))
      have hn9 := gI_n hD ((E_12).1 _ _ aa_15) a_r2_19
      subst hn9
      have a_r2_1 := a_r2_19
      obtain rfl := fe_r (hq_19 3 (by decide))
      have hn9 := gI_n hD ((E_12).1 _ _ aa_16) a_r3_19
      subst hn9
      have a_r3_1 := a_r3_19
      obtain rfl := fe_r (hq_19 4 (by decide))
      have hn9 := gI_n hD ((E_12).1 _ _ aa_17) a_r4_19
      subst hn9
      have a_r4_1 := a_r4_19
      obtain rfl := fe_r (hq_19 5 (by decide))
      have hn9 := gI_n hD ((E_12).1 _ _ aa_18) a_r5_19
      subst hn9
      have a_r5_1 := a_r5_19
      refine va_get (D := gD g) (ci := 8) (v := .ref r0_1) (C := RX9) (T := TX9) (N := 6) hx hb hts inX9 hown hK hP k_1 hk_19 rfl 0 (by decide) (hts _ kw_1552) (fun _ h9 => h9) rfl dX9_goThrough_13 ?_
      obtain ⟨k_20, fs9, hk_20⟩ := gC_of o_r0_1
      obtain ⟨r0_20, n0_20, r1_20, n1_20, c2_20, r3_20, n3_20, c4_20, r5_20, n5_20, r6_20, n6_20, r7_20, n7_20, r8_20, n8_20, c9_20, c10_20, c11_20, v12_20, v13_20, v14_20, rfl, a_r0_20, f1_20, a_r1_20, f3_20, a_r3_20, f5_20, a_r5_20, f7_20, a_r6_20, f9_20, a_r7_20, f11_20, a_r8_20, f13_20, o_v12_20, o_v13_20, o_v14_20, f17_20, f18_20, f19_20, f20_20, f21_20, f22_20, f23_20, f24_20, f25_20, f26_20, f27_20, f28_20, f29_20, -⟩ := (hG.1 _ _ _ _ hk_20).hX8 rfl
      refine va_get (D := gD g) (ci := 7) (v := .int c2_20) (C := RX8) (T := TX8) (N := 15) hx hb hts inX8 hown hK hP k_20 hk_20 rfl 2 (by decide) (hts _ kw_1553) (fun _ h9 => h9) rfl dX9_goThrough_16 ?_
      have J_104 : ∀  (H : Heap) (locs : List Loc) (ls : Array Slot), va_P (gD g) cl0 ws_11 H → va_D A ws_11 → va_S A s.heap H locs → lv_has ls 6 [(2, .int v2_2)] → W p l e (headSpec (wt yX9_goThrough cX9_goThrough 6 (some .boolean)) ({ frames := 5, cells := 0, slots := 0, locals := 120 })).room s m ([.ref h0, .int x1] : List Value).toArray below meth c H locs (0) (0) (MQ below (va_Qi (fun (r : Int32) (u9 : va_W) => r = 0 ∨ r = 1) (gQ1 g [(7, 2), (7, 9)] [(7, 0), (7, 1), (7, 3), (7, 5), (7, 6), (7, 7), (7, 8), (8, 1), (8, 2), (8, 4)] none A ws) A) ([.ref h0, .int x1] : List Value).toArray s (0) (0) A) (F0 m 104 ls []) := by
        intro  H locs ls  hP hD hS hl
        refine lv_iload_n hx hb dX9_goThrough_104 rfl (lv_at hl 0 rfl) ?_
        refine W.widen (k := 0) (n := 0) (Nat.le_of_ble_eq_true rfl) (Nat.le_of_ble_eq_true rfl) ?_
        exact W.zret (v := v2_2) hx hb hr (nz hz_v2_2) (fun t9 ht9 hW9 => ⟨⟨_, ws_11, rfl, hz_v2_2, ⟨E_12, Fr_13, hG, by rw [ht9]; exact hP, hD⟩⟩, hS.F ht9⟩) hS.2.2 dX9_goThrough_105
      refine lv_icmp_ge (tgt := 104) hx hb dX9_goThrough_19 (by decide) (fun c_23 => ?_) (fun c_23 => ?_)
      · exact J_104  H locs ls  hP hD hS (lv_sub hl [2] rfl)
      · refine lv_iload hx hb dX9_goThrough_22 (lv_at hl 5 rfl) ?_
        refine lv_ldc hx hb hown (hts _ kw_1561) dX9_goThrough_24 ?_
        refine lv_icmp_ge (tgt := 104) hx hb dX9_goThrough_26 (by decide) (fun c_24 => ?_) (fun c_24 => ?_)
        · exact J_104  H locs ls  hP hD hS (lv_sub hl [2] rfl)
        · refine lv_iload_n hx hb dX9_goThrough_29 rfl (lv_at hl 3 rfl) ?_
          have J_49 : ∀ (ws_25 : va_W) (H : Heap) (locs : List Loc) (ls : Array Slot), gE ws_11 ws_25 → gF [] [(8, 4)] none ws_11 ws_25 → Good g ws_25 → va_P (gD g) cl0 ws_25 H → va_D A ws_25 → va_S A s.heap H locs → lv_has ls 6 [(0, .ref h0), (1, .int x1), (2, .int v2_2), (3, .int v3_4), (4, .int v4_6), (5, .int v5_9)] → W p l e (headSpec (wt yX9_goThrough cX9_goThrough 6 (some .boolean)) ({ frames := 5, cells := 0, slots := 0, locals := 120 })).room s m ([.ref h0, .int x1] : List Value).toArray below meth c H locs (0) (0) (MQ below (va_Qi (fun (r : Int32) (u9 : va_W) => r = 0 ∨ r = 1) (gQ1 g [(7, 2), (7, 9)] [(7, 0), (7, 1), (7, 3), (7, 5), (7, 6), (7, 7), (7, 8), (8, 1), (8, 2), (8, 4)] none A ws) A) ([.ref h0, .int x1] : List Value).toArray s (0) (0) A) (F0 m 49 ls []) := by
            intro ws_25 H locs ls  E_26 Fr_27 hG hP hD hS hl
            have aa_28 := a_r1_1
            have aa_29 := a_r2_1
            have aa_30 := a_r3_1
            have aa_31 := a_r4_1
            have aa_32 := a_r5_1
            have aa_33 := a_r0_20
            have aa_34 := a_r1_20
            have aa_35 := a_r3_20
            have aa_36 := a_r5_20
            have aa_37 := a_r6_20
            have aa_38 := a_r7_20
            have aa_39 := a_r8_20
            have o_h0 := E_26.1 _ _ o_h0
            refine lv_iload_n hx hb dX9_goThrough_49 rfl (lv_at hl 3 rfl) ?_
            have J_68 : ∀ (ws_40 : va_W) (H : Heap) (locs : List Loc) (ls : Array Slot), gE ws_25 ws_40 → gF [] [(8, 2)] none ws_25 ws_40 → Good g ws_40 → va_P (gD g) cl0 ws_40 H → va_D A ws_40 → va_S A s.heap H locs → lv_has ls 6 [(0, .ref h0), (1, .int x1), (2, .int v2_2), (4, .int v4_6), (5, .int v5_9)] → W p l e (headSpec (wt yX9_goThrough cX9_goThrough 6 (some .boolean)) ({ frames := 5, cells := 0, slots := 0, locals := 120 })).room s m ([.ref h0, .int x1] : List Value).toArray below meth c H locs (0) (0) (MQ below (va_Qi (fun (r : Int32) (u9 : va_W) => r = 0 ∨ r = 1) (gQ1 g [(7, 2), (7, 9)] [(7, 0), (7, 1), (7, 3), (7, 5), (7, 6), (7, 7), (7, 8), (8, 1), (8, 2), (8, 4)] none A ws) A) ([.ref h0, .int x1] : List Value).toArray s (0) (0) A) (F0 m 68 ls []) := by
              intro ws_40 H locs ls  E_41 Fr_42 hG hP hD hS hl
              have o_h0 := E_41.1 _ _ o_h0
              refine lv_aload_n hx hb dX9_goThrough_68 rfl (lv_at hl 0 rfl) ?_
              refine lv_iload_n hx hb dX9_goThrough_69 rfl (lv_at hl 1 rfl) ?_
              refine lv_iload hx hb dX9_goThrough_70 (lv_at hl 3 rfl) ?_
              obtain ⟨fs9, hk_43, hq_43⟩ := ((gA.tr (gF.a (F' := []) Fr_27 (fun _ h => h)) (gF.a (F' := []) Fr_42 (fun _ h => h)))) _ _ _ hk_19
              obtain ⟨r0_43, r1_43, n1_43, r2_43, n2_43, r3_43, n3_43, r4_43, n4_43, r5_43, n5_43, rfl, o_r0_43, a_r1_43, f2_43, a_r2_43, f4_43, a_r3_43, f6_43, a_r4_43, f8_43, a_r5_43, f10_43, f11_43, -⟩ := (hG.1 _ _ _ _ hk_43).hX9 rfl
              obtain rfl := fe_r (hq_43 0 (by decide))
              have o_r0_1 := o_r0_43
              obtain rfl := fe_r (hq_43 1 (by decide))
              have hn9 := gI_n hD (((E_26.tr E_41)).1 _ _ aa_28) a_r1_43
              subst hn9
              have a_r1_1 := a_r1_43
              obtain rfl := fe_r (hq_43 2 (by decide))
              have hn9 := gI_n hD (((E_26.tr E_41)).1 _ _ aa_29) a_r2_43
              subst hn9
              have a_r2_1 := a_r2_43
              obtain rfl := fe_r (hq_43 3 (by decide))
              have hn9 := gI_n hD (((E_26.tr E_41)).1 _ _ aa_30) a_r3_43
              subst hn9
              have a_r3_1 := a_r3_43
              obtain rfl := fe_r (hq_43 4 (by decide))
              have hn9 := gI_n hD (((E_26.tr E_41)).1 _ _ aa_31) a_r4_43
              subst hn9
              have a_r4_1 := a_r4_43
              obtain rfl := fe_r (hq_43 5 (by decide))
              have hn9 := gI_n hD (((E_26.tr E_41)).1 _ _ aa_32) a_r5_43
              subst hn9
              have a_r5_1 := a_r5_43
              have hFc := gfree hD hS hA
              refine va_calli (va_runV (As := [.int x1, .int v4_6]) (rest := []) ⟨hx, hb, hml, hown, hts⟩ (m_X9_isDone l g H.size ws_40 h0 (x1) (v4_6) hG o_h0 (gP_of hD hk_43 (fun p90 q90 e90 g90 => by cases e90; have z90 := gI_n hD a_r2_1 g90; subst z90; exact (by have q_f4_1 := f4_1; have q_fq_a := fq_a; omega))) (gP_of hD hk_43 (fun p90 q90 e90 g90 => by cases e90; have z90 := gI_n hD a_r3_1 g90; subst z90; exact (by have q_f6_1 := f6_1; have q_fq_b := fq_b; omega))) (gP_of hD hk_43 (fun p90 q90 e90 g90 => by cases e90; have z90 := gI_n hD a_r4_1 g90; subst z90; exact (by have q_f8_1 := f8_1; have q_fq_d := fq_d; omega))) (gP_of hD hk_43 (fun p90 q90 e90 g90 => by cases e90; have z90 := gI_n hD a_r5_1 g90; subst z90; exact (by have q_f10_1 := f10_1; have q_fq_f := fq_f; omega))) (by have q_iv_7 := iv_7; have q_iv_8 := iv_8; have q_c_23 := i_nle c_23; have q_f19_20 := f19_20; have q_f20_20 := f20_20; have g_c2_20 := i_rg c2_20; have g_v4_6 := i_rg v4_6; omega) (by have q_iv_7 := iv_7; have q_iv_8 := iv_8; have q_c_23 := i_nle c_23; have q_f19_20 := f19_20; have q_f20_20 := f20_20; have g_c2_20 := i_rg c2_20; have g_v4_6 := i_rg v4_6; omega)) (cwV 2 hts (gd_V kw_1586 kw_1602 kw_1603 kw_404 kw_1601) rfl rfl rfl (by decide +kernel) ⟨Nat.le_of_ble_eq_true rfl, Nat.le_of_ble_eq_true rfl⟩) ⟨gblind, va_recv hK hP (ci := 8) (q0 := k_1) rfl hk_43, fun U hU hW9 => gmk hU hW9 hP hK hD hex hE hS hFc⟩ rfl rfl hl.1 rfl (lv_room (Nat.le_of_ble_eq_true rfl)) dX9_goThrough_72 ⟨Nat.le_of_ble_eq_true rfl, Nat.le_of_ble_eq_true rfl⟩) hS (fun q _ h => hFc q h) hFc (fun r_44 ws_45 t9 H1 locs ht9 hvm9 hw9 hB9 hz9 hk9 hS => ?_)
              obtain ⟨E_46, Fr_47, hG, hP1, hD1⟩ := hB9
              have hP : va_P (gD g) cl0 ws_45 H1 := by rw [← ht9]; exact hP1
              have hD : va_D A ws_45 := hD1.weaken (fun _ _ _ h => hFc _ h)
              have hz_r_44 : r_44 = 0 ∨ r_44 = 1 := hw9
              clear hP1 hD1 hz9 hk9 hvm9 ht9 hw9
              generalize H1 = H at hP hS ⊢
              have aa_50 := a_r1_1
              have aa_51 := a_r2_1
              have aa_52 := a_r3_1
              have aa_53 := a_r4_1
              have aa_54 := a_r5_1
              have o_h0 := E_46.1 _ _ o_h0
              refine lv_istore_n (lv' := [(3, .int r_44), (0, .ref h0), (1, .int x1), (2, .int v2_2), (4, .int v4_6), (5, .int v5_9)]) hx hb dX9_goThrough_75 rfl hl (by decide) rfl (fun ls hl => ?_)
              refine lv_iload_n hx hb dX9_goThrough_76 rfl (lv_at hl 0 rfl) ?_
              have J_98 : ∀ (v2_55 : Int32) (v4_57 : Int32) (ws_59 : va_W) (H : Heap) (locs : List Loc) (ls : Array Slot), v2_55 = 0 ∨ v2_55 = 1 → 0 ≤ v4_57.toInt ∧ v4_57.toInt ≤ 1296 → gE ws_45 ws_59 → gF [] [(8, 1)] none ws_45 ws_59 → Good g ws_59 → va_P (gD g) cl0 ws_59 H → va_D A ws_59 → va_S A s.heap H locs → lv_has ls 6 [(0, .ref h0), (1, .int x1), (2, .int v2_55), (3, .int r_44), (4, .int v4_57), (5, .int v5_9)] → W p l e (headSpec (wt yX9_goThrough cX9_goThrough 6 (some .boolean)) ({ frames := 5, cells := 0, slots := 0, locals := 120 })).room s m ([.ref h0, .int x1] : List Value).toArray below meth c H locs (0) (0) (MQ below (va_Qi (fun (r : Int32) (u9 : va_W) => r = 0 ∨ r = 1) (gQ1 g [(7, 2), (7, 9)] [(7, 0), (7, 1), (7, 3), (7, 5), (7, 6), (7, 7), (7, 8), (8, 1), (8, 2), (8, 4)] none A ws) A) ([.ref h0, .int x1] : List Value).toArray s (0) (0) A) (F0 m 98 ls []) := by
                intro v2_55 v4_57 ws_59 H locs ls iv_56 iv_58 E_60 Fr_61 hG hP hD hS hl
                have hz_v2_55 := iv_56
                have o_h0 := E_60.1 _ _ o_h0
                obtain ⟨z_62, ez_62⟩ : ∃ z : Int32, v5_9 + Int32.ofInt 1 = z := ⟨_, rfl⟩
                refine lv_iinc (v := z_62) (lv' := [(5, .int z_62), (0, .ref h0), (1, .int x1), (2, .int v2_55), (3, .int r_44), (4, .int v4_57)]) hx hb dX9_goThrough_98 hl (k := 5) rfl ez_62 (by decide) rfl (fun ls hl => ?_)
                refine lv_goto (tgt := 10) hx hb dX9_goThrough_101 (by decide) ?_
                exact ih_10 _ (by have e1000000 : (1000000 : Int32).toInt = 1000000 := (by decide); have q_iv_58 := iv_58; obtain ⟨u_z_62, q_z_62⟩ := i_iz ez_62 (by decide) (by decide); have q_iv_10 := iv_10; have q_c_24 := i_nle c_24; have g_r_44 := i_rg r_44; have g_v2_55 := i_rg v2_55; have g_v4_57 := i_rg v4_57; have g_v5_9 := i_rg v5_9; have g_z_62 := i_rg z_62; have b_r_44 := i_bit hz_r_44; have b_v2_55 := i_bit hz_v2_55; omega) (v2_55) (r_44) (v4_57) (z_62) ws_59 H locs ls rfl hz_v2_55 hz_r_44 (by have q_iv_58 := iv_58; have g_v4_57 := i_rg v4_57; omega) (by have q_iv_58 := iv_58; have g_v4_57 := i_rg v4_57; omega) (by have e1000000 : (1000000 : Int32).toInt = 1000000 := (by decide); obtain ⟨u_z_62, q_z_62⟩ := i_iz ez_62 (by decide) (by decide); have q_iv_10 := iv_10; have q_c_24 := i_nle c_24; have g_v5_9 := i_rg v5_9; have g_z_62 := i_rg z_62; omega) ((E_12.tr (E_26.tr (E_41.tr (E_46.tr E_60))))) ((gF.tr Fr_13 (gF.tr (gF.mo (F' := [(7, 2), (7, 9)]) (C' := [(7, 0), (7, 1), (7, 3), (7, 5), (7, 6), (7, 7), (7, 8), (8, 1), (8, 2), (8, 4)]) (S' := none) Fr_27 (fun _ h => absurd h List.not_mem_nil) (by decide) (Or.inr rfl)) (gF.tr (gF.mo (F' := [(7, 2), (7, 9)]) (C' := [(7, 0), (7, 1), (7, 3), (7, 5), (7, 6), (7, 7), (7, 8), (8, 1), (8, 2), (8, 4)]) (S' := none) Fr_42 (fun _ h => absurd h List.not_mem_nil) (by decide) (Or.inr rfl)) (gF.tr (gF.mo (F' := [(7, 2), (7, 9)]) (C' := [(7, 0), (7, 1), (7, 3), (7, 5), (7, 6), (7, 7), (7, 8), (8, 1), (8, 2), (8, 4)]) (S' := none) Fr_47 (fun _ h => h) (by decide) (Or.inr rfl)) (gF.mo (F' := [(7, 2), (7, 9)]) (C' := [(7, 0), (7, 1), (7, 3), (7, 5), (7, 6), (7, 7), (7, 8), (8, 1), (8, 2), (8, 4)]) (S' := none) Fr_61 (fun _ h => absurd h List.not_mem_nil) (by decide) (Or.inr rfl))))))) hG hP hD hS (lv_sub hl [1, 2, 3, 4, 5, 0] rfl)
              refine lv_if_eq (tgt := 95) hx hb dX9_goThrough_77 (by decide) (fun c_63 => ?_) (fun c_63 => ?_)
              · obtain ⟨z_64, ez_64⟩ : ∃ z : Int32, v4_6 + Int32.ofInt 1 = z := ⟨_, rfl⟩
                refine lv_iinc (v := z_64) (lv' := [(4, .int z_64), (3, .int r_44), (0, .ref h0), (1, .int x1), (2, .int v2_2), (5, .int v5_9)]) hx hb dX9_goThrough_95 hl (k := 4) rfl ez_64 (by decide) rfl (fun ls hl => ?_)
                exact J_98 (v2_2) (z_64) ws_45 H locs ls hz_v2_2 (by obtain ⟨u_z_64, q_z_64⟩ := i_iz ez_64 (by decide) (by decide); have q_iv_7 := iv_7; have q_iv_8 := iv_8; have q_c_23 := i_nle c_23; have g_c2_20 := i_rg c2_20; have g_v4_6 := i_rg v4_6; have g_z_64 := i_rg z_64; omega) (gE.rf) (gF.rf) hG hP hD hS (lv_sub hl [2, 3, 4, 1, 0, 5] rfl)
              · refine lv_aload_n hx hb dX9_goThrough_80 rfl (lv_at hl 1 rfl) ?_
                obtain ⟨fs9, hk_65, hq_65⟩ := ((gF.a (F' := [(7, 2), (7, 9)]) Fr_47 (fun _ h => h))) _ _ _ hk_43
                obtain ⟨r0_65, r1_65, n1_65, r2_65, n2_65, r3_65, n3_65, r4_65, n4_65, r5_65, n5_65, rfl, o_r0_65, a_r1_65, f2_65, a_r2_65, f4_65, a_r3_65, f6_65, a_r4_65, f8_65, a_r5_65, f10_65, f11_65, -⟩ := (hG.1 _ _ _ _ hk_65).hX9 rfl
                obtain rfl := fe_r (hq_65 0 (by decide))
                have o_r0_1 := o_r0_65
                obtain rfl := fe_r (hq_65 1 (by decide))
                have hn9 := gI_n hD ((E_46).1 _ _ aa_50) a_r1_65
                subst hn9
                have a_r1_1 := a_r1_65
                obtain rfl := fe_r (hq_65 2 (by decide))
                have hn9 := gI_n hD ((E_46).1 _ _ aa_51) a_r2_65
                subst hn9
                have a_r2_1 := a_r2_65
                obtain rfl := fe_r (hq_65 3 (by decide))
                have hn9 := gI_n hD ((E_46).1 _ _ aa_52) a_r3_65
                subst hn9
                have a_r3_1 := a_r3_65
                obtain rfl := fe_r (hq_65 4 (by decide))
                have hn9 := gI_n hD ((E_46).1 _ _ aa_53) a_r4_65
                subst hn9
                have a_r4_1 := a_r4_65
                obtain rfl := fe_r (hq_65 5 (by decide))
                have hn9 := gI_n hD ((E_46).1 _ _ aa_54) a_r5_65
                subst hn9
                have a_r5_1 := a_r5_65
                refine va_get (D := gD g) (ci := 8) (v := .ref r1_1) (C := RX9) (T := TX9) (N := 6) hx hb hts inX9 hown hK hP k_1 hk_65 rfl 1 (by decide) (hts _ kw_1547) (fun _ h9 => h9) rfl dX9_goThrough_81 ?_
                refine lv_iload_n hx hb dX9_goThrough_84 rfl (lv_at hl 2 rfl) ?_
                refine lv_dup2_11 hx hb dX9_goThrough_85 rfl rfl ?_
                obtain ⟨k_66, f_66, hk_66⟩ := gI_of a_r1_1
                refine va_iald hx hb hK hP k_66 1 hk_66 rfl (i_in2 (by have q_pr := pr; have q_f2_1 := f2_1; have q_f11_1 := f11_1; have g_x1 := i_rg x1; omega)) dX9_goThrough_86 ?_
                refine lv_topi (fun z_67 ez_67 => ?_)
                refine lv_iconst (v := 1) hx hb dX9_goThrough_87 (by decide) ?_
                refine lv_iadd hx hb dX9_goThrough_88 ?_
                refine lv_topi (fun z_68 ez_68 => ?_)
                have hC9 : hol ws_45 r1_1 [(8, 1)] := (hol_u hG.u hk_65 (j := 1) rfl a_r1_1 (by decide))
                have hS9 : holS ws_45 r1_1 none := holS_n
                refine va_iast hx hb hK hP hD hS k_66 1 hk_66 rfl (i_in2 (by have q_pr := pr; have q_f2_1 := f2_1; have q_f11_1 := f11_1; have g_x1 := i_rg x1; omega)) dX9_goThrough_89 (fun H locs hP hD hS => ?_)
                obtain ⟨ws_69, e_ws_69⟩ : ∃ z, z = ws_45.set k_66 (r1_1, .inl (g.cI, n1_1, .inl (upd f_66 (x1 : Int32).toNatClampNeg z_68))) := ⟨_, rfl⟩
                have hP : va_P (gD g) cl0 ws_69 H := by rw [e_ws_69]; exact hP
                have hD : va_D A ws_69 := by rw [e_ws_69]; exact hD
                have E_70 : gE ws_45 ws_69 := gE_ari e_ws_69 hk_66
                have hG : Good g ws_69 := Good_arI e_ws_69 hk_66 hG
                have Fr_71 : gF [] [(8, 1)] none ws_45 ws_69 := gF_ar e_ws_69 hk_66 rfl hC9 hS9
                have hk_65 := gset_arO e_ws_69 hk_66 hk_65
                have o_h0 := E_70.1 _ _ o_h0
                have o_r0_1 := E_70.1 _ _ o_r0_1
                have a_r1_1 := E_70.1 _ _ a_r1_1
                have a_r2_1 := E_70.1 _ _ a_r2_1
                have a_r3_1 := E_70.1 _ _ a_r3_1
                have a_r4_1 := E_70.1 _ _ a_r4_1
                have a_r5_1 := E_70.1 _ _ a_r5_1
                refine lv_iconst (v := 1) hx hb dX9_goThrough_90 (by decide) ?_
                refine lv_istore_n (lv' := [(2, .int 1), (3, .int r_44), (0, .ref h0), (1, .int x1), (4, .int v4_6), (5, .int v5_9)]) hx hb dX9_goThrough_91 rfl hl (by decide) rfl (fun ls hl => ?_)
                refine lv_goto (tgt := 98) hx hb dX9_goThrough_92 (by decide) ?_
                exact J_98 (1) (v4_6) ws_69 H locs ls (Or.inr rfl) (by have q_iv_7 := iv_7; have q_iv_8 := iv_8; have q_c_23 := i_nle c_23; have q_f19_20 := f19_20; have q_f20_20 := f20_20; have g_c2_20 := i_rg c2_20; have g_v4_6 := i_rg v4_6; omega) (E_70) (Fr_71) hG hP hD hS (lv_sub hl [2, 3, 0, 1, 4, 5] rfl)
            refine lv_if_eq (tgt := 68) hx hb dX9_goThrough_50 (by decide) (fun c_72 => ?_) (fun c_72 => ?_)
            · exact J_68 ws_25 H locs ls (gE.rf) (gF.rf) hG hP hD hS (lv_sub hl [0, 1, 2, 4, 5] rfl)
            · refine lv_iload_n hx hb dX9_goThrough_53 rfl (lv_at hl 1 rfl) ?_
              refine lv_iconst (v := 5) hx hb dX9_goThrough_54 (by decide) ?_
              refine lv_icmp_lt (tgt := 68) hx hb dX9_goThrough_55 (by decide) (fun c_73 => ?_) (fun c_73 => ?_)
              · exact J_68 ws_25 H locs ls (gE.rf) (gF.rf) hG hP hD hS (lv_sub hl [0, 1, 2, 4, 5] rfl)
              · refine lv_iload_n hx hb dX9_goThrough_58 rfl (lv_at hl 1 rfl) ?_
                refine lv_bipush (v := 10) hx hb dX9_goThrough_59 (by decide) ?_
                refine lv_icmp_gt (tgt := 68) hx hb dX9_goThrough_61 (by decide) (fun c_74 => ?_) (fun c_74 => ?_)
                · exact J_68 ws_25 H locs ls (gE.rf) (gF.rf) hG hP hD hS (lv_sub hl [0, 1, 2, 4, 5] rfl)
                · refine lv_aload_n hx hb dX9_goThrough_64 rfl (lv_at hl 0 rfl) ?_
                  obtain ⟨fs9, hk_75, hq_75⟩ := ((gF.a (F' := []) Fr_27 (fun _ h => h))) _ _ _ hk_19
                  obtain ⟨r0_75, r1_75, n1_75, r2_75, n2_75, r3_75, n3_75, r4_75, n4_75, r5_75, n5_75, rfl, o_r0_75, a_r1_75, f2_75, a_r2_75, f4_75, a_r3_75, f6_75, a_r4_75, f8_75, a_r5_75, f10_75, f11_75, -⟩ := (hG.1 _ _ _ _ hk_75).hX9 rfl
                  obtain rfl := fe_r (hq_75 0 (by decide))
                  have o_r0_1 := o_r0_75
                  obtain rfl := fe_r (hq_75 1 (by decide))
                  have hn9 := gI_n hD ((E_26).1 _ _ aa_28) a_r1_75
                  subst hn9
                  have a_r1_1 := a_r1_75
                  obtain rfl := fe_r (hq_75 2 (by decide))
                  have hn9 := gI_n hD ((E_26).1 _ _ aa_29) a_r2_75
                  subst hn9
                  have a_r2_1 := a_r2_75
                  obtain rfl := fe_r (hq_75 3 (by decide))
                  have hn9 := gI_n hD ((E_26).1 _ _ aa_30) a_r3_75
                  subst hn9
                  have a_r3_1 := a_r3_75
                  obtain rfl := fe_r (hq_75 4 (by decide))
                  have hn9 := gI_n hD ((E_26).1 _ _ aa_31) a_r4_75
                  subst hn9
                  have a_r4_1 := a_r4_75
                  obtain rfl := fe_r (hq_75 5 (by decide))
                  have hn9 := gI_n hD ((E_26).1 _ _ aa_32) a_r5_75
                  subst hn9
                  have a_r5_1 := a_r5_75
                  have hFc := gfree hD hS hA
                  refine va_callv (va_runV (As := []) (rest := []) ⟨hx, hb, hml, hown, hts⟩ (m_X9_findMarked l g H.size ws_25 h0 hG o_h0 (gP_of hD hk_75 (fun p90 q90 e90 g90 => by cases e90; have z90 := gI_n hD a_r2_1 g90; subst z90; exact (by have q_f4_1 := f4_1; have q_fq_a := fq_a; omega))) (gP_of hD hk_75 (fun p90 q90 e90 g90 => by cases e90; have z90 := gI_n hD a_r3_1 g90; subst z90; exact (by have q_f6_1 := f6_1; have q_fq_b := fq_b; omega))) (gP_of hD hk_75 (fun p90 q90 e90 g90 => by cases e90; have z90 := gI_n hD a_r4_1 g90; subst z90; exact (by have q_f8_1 := f8_1; have q_fq_d := fq_d; omega))) (gP_of hD hk_75 (fun p90 q90 e90 g90 => by cases e90; have z90 := gI_n hD a_r5_1 g90; subst z90; exact (by have q_f10_1 := f10_1; have q_fq_f := fq_f; omega)))) (cwV 0 hts (gd_V kw_1585 kw_1564 kw_1565 kw_404 kw_1563) rfl rfl rfl (by decide +kernel) ⟨Nat.le_of_ble_eq_true rfl, Nat.le_of_ble_eq_true rfl⟩) ⟨gblind, va_recv hK hP (ci := 8) (q0 := k_1) rfl hk_75, fun U hU hW9 => gmk hU hW9 hP hK hD hex hE hS hFc⟩ rfl rfl hl.1 rfl (lv_room (Nat.le_of_ble_eq_true rfl)) dX9_goThrough_65 ⟨Nat.le_of_ble_eq_true rfl, Nat.le_of_ble_eq_true rfl⟩) hS (fun q _ h => hFc q h) hFc (fun  ws_76 t9 H1 locs ht9 hvm9 hw9 hB9 hz9 hk9 hS => ?_)
                  obtain ⟨E_77, Fr_78, hG, hP1, hD1⟩ := hB9
                  have hP : va_P (gD g) cl0 ws_76 H1 := by rw [← ht9]; exact hP1
                  have hD : va_D A ws_76 := hD1.weaken (fun _ _ _ h => hFc _ h)
                  clear hP1 hD1 hz9 hk9 hvm9 ht9 hw9
                  generalize H1 = H at hP hS ⊢
                  have aa_81 := a_r1_1
                  have aa_82 := a_r2_1
                  have aa_83 := a_r3_1
                  have aa_84 := a_r4_1
                  have aa_85 := a_r5_1
                  have o_h0 := E_77.1 _ _ o_h0
                  exact J_68 ws_76 H locs ls (E_77) (Fr_78) hG hP hD hS (lv_sub hl [0, 1, 2, 4, 5] rfl)
          refine lv_if_eq (tgt := 49) hx hb dX9_goThrough_30 (by decide) (fun c_86 => ?_) (fun c_86 => ?_)
          · exact J_49 ws_11 H locs ls (gE.rf) (gF.rf) hG hP hD hS (lv_sub hl [0, 1, 2, 3, 4, 5] rfl)
          · refine lv_iload_n hx hb dX9_goThrough_33 rfl (lv_at hl 1 rfl) ?_
            refine lv_bipush (v := 10) hx hb dX9_goThrough_34 (by decide) ?_
            have J_45 : ∀  (H : Heap) (locs : List Loc) (ls : Array Slot), va_P (gD g) cl0 ws_11 H → va_D A ws_11 → va_S A s.heap H locs → lv_has ls 6 [(0, .ref h0), (1, .int x1), (2, .int v2_2), (3, .int v3_4), (4, .int v4_6), (5, .int v5_9)] → W p l e (headSpec (wt yX9_goThrough cX9_goThrough 6 (some .boolean)) ({ frames := 5, cells := 0, slots := 0, locals := 120 })).room s m ([.ref h0, .int x1] : List Value).toArray below meth c H locs (0) (0) (MQ below (va_Qi (fun (r : Int32) (u9 : va_W) => r = 0 ∨ r = 1) (gQ1 g [(7, 2), (7, 9)] [(7, 0), (7, 1), (7, 3), (7, 5), (7, 6), (7, 7), (7, 8), (8, 1), (8, 2), (8, 4)] none A ws) A) ([.ref h0, .int x1] : List Value).toArray s (0) (0) A) (F0 m 45 ls []) := by
              intro  H locs ls  hP hD hS hl
              refine lv_aload_n hx hb dX9_goThrough_45 rfl (lv_at hl 0 rfl) ?_
              have hFc := gfree hD hS hA
              refine va_callv (va_runV (As := []) (rest := []) ⟨hx, hb, hml, hown, hts⟩ (m_X9_findLive l g H.size ws_11 h0 hG o_h0 (gP_of hD hk_19 (fun p90 q90 e90 g90 => by cases e90; have z90 := gI_n hD a_r2_1 g90; subst z90; exact (by have q_f4_1 := f4_1; have q_fq_a := fq_a; omega))) (gP_of hD hk_19 (fun p90 q90 e90 g90 => by cases e90; have z90 := gI_n hD a_r3_1 g90; subst z90; exact (by have q_f6_1 := f6_1; have q_fq_b := fq_b; omega))) (gP_of hD hk_19 (fun p90 q90 e90 g90 => by cases e90; have z90 := gI_n hD a_r4_1 g90; subst z90; exact (by have q_f8_1 := f8_1; have q_fq_d := fq_d; omega))) (gP_of hD hk_19 (fun p90 q90 e90 g90 => by cases e90; have z90 := gI_n hD a_r5_1 g90; subst z90; exact (by have q_f10_1 := f10_1; have q_fq_f := fq_f; omega)))) (cwV 0 hts (gd_V kw_1584 kw_1557 kw_1558 kw_404 kw_1556) rfl rfl rfl (by decide +kernel) ⟨Nat.le_of_ble_eq_true rfl, Nat.le_of_ble_eq_true rfl⟩) ⟨gblind, va_recv hK hP (ci := 8) (q0 := k_1) rfl hk_19, fun U hU hW9 => gmk hU hW9 hP hK hD hex hE hS hFc⟩ rfl rfl hl.1 rfl (lv_room (Nat.le_of_ble_eq_true rfl)) dX9_goThrough_46 ⟨Nat.le_of_ble_eq_true rfl, Nat.le_of_ble_eq_true rfl⟩) hS (fun q _ h => hFc q h) hFc (fun  ws_89 t9 H1 locs ht9 hvm9 hw9 hB9 hz9 hk9 hS => ?_)
              obtain ⟨E_90, Fr_91, hG, hP1, hD1⟩ := hB9
              have hP : va_P (gD g) cl0 ws_89 H1 := by rw [← ht9]; exact hP1
              have hD : va_D A ws_89 := hD1.weaken (fun _ _ _ h => hFc _ h)
              clear hP1 hD1 hz9 hk9 hvm9 ht9 hw9
              generalize H1 = H at hP hS ⊢
              have aa_94 := a_r1_1
              have aa_95 := a_r2_1
              have aa_96 := a_r3_1
              have aa_97 := a_r4_1
              have aa_98 := a_r5_1
              have aa_99 := a_r0_20
              have aa_100 := a_r1_20
              have aa_101 := a_r3_20
              have aa_102 := a_r5_20
              have aa_103 := a_r6_20
              have aa_104 := a_r7_20
              have aa_105 := a_r8_20
              have o_h0 := E_90.1 _ _ o_h0
              exact J_49 ws_89 H locs ls (E_90) (Fr_91) hG hP hD hS (lv_sub hl [0, 1, 2, 3, 4, 5] rfl)
            refine lv_icmp_eq (tgt := 45) hx hb dX9_goThrough_36 (by decide) (fun c_106 => ?_) (fun c_106 => ?_)
            · exact J_45  H locs ls  hP hD hS (lv_sub hl [0, 1, 2, 3, 4, 5] rfl)
            · refine lv_iload_n hx hb dX9_goThrough_39 rfl (lv_at hl 1 rfl) ?_
              refine lv_bipush (v := 11) hx hb dX9_goThrough_40 (by decide) ?_
              refine lv_icmp_ne (tgt := 49) hx hb dX9_goThrough_42 (by decide) (fun c_107 => ?_) (fun c_107 => ?_)
              · exact J_49 ws_11 H locs ls (gE.rf) (gF.rf) hG hP hD hS (lv_sub hl [0, 1, 2, 3, 4, 5] rfl)
              · exact J_45  H locs ls  hP hD hS (lv_sub hl [0, 1, 2, 3, 4, 5] rfl)
  exact J_10 _ (0) (1) (0) (0) ws _ _ ls rfl (Or.inl rfl) (Or.inr rfl) (by have e0 : (0 : Int32).toInt = 0 := (by decide); omega) (by have e0 : (0 : Int32).toInt = 0 := (by decide); omega) (by have e0 : (0 : Int32).toInt = 0 := (by decide); omega) (gE.rf) (gF.rf) hG hP hD hS (lv_sub hl [4, 5, 3, 2, 1, 0] rfl)
