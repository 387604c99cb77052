set_option maxHeartbeats 1000000 in
set_option maxRecDepth 100000 in
theorem m_X6_isSwitch_y (l : Launch) (g : Gm) (sz : Nat) (ws : va_W) (x0 : Int32) (hG : Good g ws)  : Met l yX6_isSwitch (wt yX6_isSwitch cX6_isSwitch 1 (some .boolean)) ({ frames := 0, cells := 0, slots := 0, locals := 0 }) (va_Pc [.int x0] (st_G g sz ws)) (va_Qi (fun (r : Int32) (u9 : Unit) => (r = 0 ∨ r = 1) ∧ (r.toInt = 1 ↔ x0.toInt = 170 ∨ x0.toInt = 171)) (gQ0 g (va_A ws sz) ws) (va_A ws sz)) (0) (0) (va_A ws sz) := by
  refine Met.ofW (cc := cX6_isSwitch) (maxL := 1) (ret := (some .boolean)) (by decide) rfl ?_
  intro p e s m args below meth c s₁ B hml hv
  obtain ⟨rfl, hsz, hP, hK, hD0, hex, hE⟩ := hv
  have hx := B.exec
  have hb := B.bytes
  have hr := B.returns
  have hts0 := atoms_spec (ws := wt yX6_isSwitch cX6_isSwitch 1 (some .boolean)) B.pre
  have hts : ∀ w ∈ tb, w.before _ s = true := fun w h => hts0 w (List.mem_cons_of_mem _ h)
  have hown : s.vm.findClass RX6 = some m.cls := findClass_of_methodNamed B.named
  subst hsz
  have hD := hD0.self (sz := s.heap.size)
  generalize hAe : va_A ws s.heap.size = A at hD hE ⊢
  have hA : ∀ q : Nat, s.heap.size ≤ q → A q := fun q h => by rw [← hAe]; exact Or.inr h
  have hS : va_S A s.heap s.heap [] := va_S.rf
  have hl := lv_entry ([.int x0]) (n := 1) (Nat.le_of_ble_eq_true rfl)
  rw [lg_entry_eq]
  generalize (lg_sl ([.int x0]) ++ List.replicate (1 - (lg_sl ([.int x0])).length) Slot.unset).toArray = ls at hl ⊢
  have hl : lv_has ls 1 [(0, .int x0)] := hl
  refine lv_iload_n hx hb dX6_isSwitch_0 rfl (lv_at hl 0 rfl) ?_
  refine lv_sipush (v := 170) hx hb dX6_isSwitch_1 (by decide) ?_
  refine lv_icmp_eq (tgt := 14) hx hb dX6_isSwitch_4 (by decide) (fun c_1 => ?_) (fun c_1 => ?_)
  · refine lv_iconst (v := 1) hx hb dX6_isSwitch_14 (by decide) ?_
    refine lv_goto (tgt := 19) hx hb dX6_isSwitch_15 (by decide) ?_
    refine W.widen (k := 0) (n := 0) (Nat.le_of_ble_eq_true rfl) (Nat.le_of_ble_eq_true rfl) ?_
    exact W.zret (v := 1) hx hb hr (nz (Or.inr rfl)) (fun t9 ht9 hW9 => ⟨⟨_, (), rfl, ⟨(Or.inr rfl), ⟨fun h9 => (by have e170 : (170 : Int32).toInt = 170 := (by decide); have q_c_1 := i_eq c_1; have g_x0 := i_rg x0; omega), fun h9 => (by decide)⟩⟩, ⟨by rw [ht9]; exact hP, hD⟩⟩, hS.F ht9⟩) hS.2.2 dX6_isSwitch_19
  · refine lv_iload_n hx hb dX6_isSwitch_7 rfl (lv_at hl 0 rfl) ?_
    refine lv_sipush (v := 171) hx hb dX6_isSwitch_8 (by decide) ?_
    refine lv_icmp_ne (tgt := 18) hx hb dX6_isSwitch_11 (by decide) (fun c_2 => ?_) (fun c_2 => ?_)
    · refine lv_iconst (v := 0) hx hb dX6_isSwitch_18 (by decide) ?_
      refine W.widen (k := 0) (n := 0) (Nat.le_of_ble_eq_true rfl) (Nat.le_of_ble_eq_true rfl) ?_
      exact W.zret (v := 0) hx hb hr (nz (Or.inl rfl)) (fun t9 ht9 hW9 => ⟨⟨_, (), rfl, ⟨(Or.inl rfl), ⟨fun h9 => (absurd h9 (by decide)), fun h9 => False.elim (by have e170 : (170 : Int32).toInt = 170 := (by decide); have e171 : (171 : Int32).toInt = 171 := (by decide); have q_c_1 := i_ne c_1; have q_c_2 := i_ne c_2; have g_x0 := i_rg x0; omega)⟩⟩, ⟨by rw [ht9]; exact hP, hD⟩⟩, hS.F ht9⟩) hS.2.2 dX6_isSwitch_19
    · refine lv_iconst (v := 1) hx hb dX6_isSwitch_14 (by decide) ?_
      refine lv_goto (tgt := 19) hx hb dX6_isSwitch_15 (by decide) ?_
      refine W.widen (k := 0) (n := 0) (Nat.le_of_ble_eq_true rfl) (Nat.le_of_ble_eq_true rfl) ?_
      exact W.zret (v := 1) hx hb hr (nz (Or.inr rfl)) (fun t9 ht9 hW9 => ⟨⟨_, (), rfl, ⟨(Or.inr rfl), ⟨fun h9 => (by have e170 : (170 : Int32).toInt = 170 := (by decide); have e171 : (171 : Int32).toInt = 171 := (by decide); have q_c_1 := i_ne c_1; have q_c_2 := i_eq c_2; have g_x0 := i_rg x0; omega), fun h9 => (by decide)⟩⟩, ⟨by rw [ht9]; exact hP, hD⟩⟩, hS.F ht9⟩) hS.2.2 dX6_isSwitch_19
set_option maxHeartbeats 1000000 in
set_option maxRecDepth 100000 in
theorem m_X6_isJump_y (l : Launch) (g : Gm) (sz : Nat) (ws : va_W) (x0 : Int32) (hG : Good g ws)  : Met l yX6_isJump (wt yX6_isJump cX6_isJump 1 (some .boolean)) ({ frames := 0, cells := 0, slots := 0, locals := 0 }) (va_Pc [.int x0] (st_G g sz ws)) (va_Qi (fun (r : Int32) (u9 : Unit) => (r = 0 ∨ r = 1) ∧ (r.toInt = 1 → ¬ (x0.toInt = 170 ∨ x0.toInt = 171))) (gQ0 g (va_A ws sz) ws) (va_A ws sz)) (0) (0) (va_A ws sz) := by
  refine Met.ofW (cc := cX6_isJump) (maxL := 1) (ret := (some .boolean)) (by decide) rfl ?_
  intro p e s m args below meth c s₁ B hml hv
  obtain ⟨rfl, hsz, hP, hK, hD0, hex, hE⟩ := hv
  have hx := B.exec
  have hb := B.bytes
  have hr := B.returns
  have hts0 := atoms_spec (ws := wt yX6_isJump cX6_isJump 1 (some .boolean)) B.pre
  have hts : ∀ w ∈ tb, w.before _ s = true := fun w h => hts0 w (List.mem_cons_of_mem _ h)
  have hown : s.vm.findClass RX6 = some m.cls := findClass_of_methodNamed B.named
  subst hsz
  have hD := hD0.self (sz := s.heap.size)
  generalize hAe : va_A ws s.heap.size = A at hD hE ⊢
  have hA : ∀ q : Nat, s.heap.size ≤ q → A q := fun q h => by rw [← hAe]; exact Or.inr h
  have hS : va_S A s.heap s.heap [] := va_S.rf
  have hl := lv_entry ([.int x0]) (n := 1) (Nat.le_of_ble_eq_true rfl)
  rw [lg_entry_eq]
  generalize (lg_sl ([.int x0]) ++ List.replicate (1 - (lg_sl ([.int x0])).length) Slot.unset).toArray = ls at hl ⊢
  have hl : lv_has ls 1 [(0, .int x0)] := hl
  refine lv_iload_n hx hb dX6_isJump_0 rfl (lv_at hl 0 rfl) ?_
  refine lv_sipush (v := 153) hx hb dX6_isJump_1 (by decide) ?_
  refine lv_icmp_lt (tgt := 14) hx hb dX6_isJump_4 (by decide) (fun c_1 => ?_) (fun c_1 => ?_)
  · refine lv_iload_n hx hb dX6_isJump_14 rfl (lv_at hl 0 rfl) ?_
    refine lv_sipush (v := 198) hx hb dX6_isJump_15 (by decide) ?_
    refine lv_icmp_eq (tgt := 28) hx hb dX6_isJump_18 (by decide) (fun c_2 => ?_) (fun c_2 => ?_)
    · refine lv_iconst (v := 1) hx hb dX6_isJump_28 (by decide) ?_
      refine lv_goto (tgt := 33) hx hb dX6_isJump_29 (by decide) ?_
      refine W.widen (k := 0) (n := 0) (Nat.le_of_ble_eq_true rfl) (Nat.le_of_ble_eq_true rfl) ?_
      exact W.zret (v := 1) hx hb hr (nz (Or.inr rfl)) (fun t9 ht9 hW9 => ⟨⟨_, (), rfl, ⟨(Or.inr rfl), (fun _ => (by have e153 : (153 : Int32).toInt = 153 := (by decide); have e198 : (198 : Int32).toInt = 198 := (by decide); have q_c_1 := i_lt c_1; have q_c_2 := i_eq c_2; have g_x0 := i_rg x0; omega))⟩, ⟨by rw [ht9]; exact hP, hD⟩⟩, hS.F ht9⟩) hS.2.2 dX6_isJump_33
    · refine lv_iload_n hx hb dX6_isJump_21 rfl (lv_at hl 0 rfl) ?_
      refine lv_sipush (v := 199) hx hb dX6_isJump_22 (by decide) ?_
      refine lv_icmp_ne (tgt := 32) hx hb dX6_isJump_25 (by decide) (fun c_3 => ?_) (fun c_3 => ?_)
      · refine lv_iconst (v := 0) hx hb dX6_isJump_32 (by decide) ?_
        refine W.widen (k := 0) (n := 0) (Nat.le_of_ble_eq_true rfl) (Nat.le_of_ble_eq_true rfl) ?_
        exact W.zret (v := 0) hx hb hr (nz (Or.inl rfl)) (fun t9 ht9 hW9 => ⟨⟨_, (), rfl, ⟨(Or.inl rfl), (fun h9 => absurd h9 (by decide))⟩, ⟨by rw [ht9]; exact hP, hD⟩⟩, hS.F ht9⟩) hS.2.2 dX6_isJump_33
      · refine lv_iconst (v := 1) hx hb dX6_isJump_28 (by decide) ?_
        refine lv_goto (tgt := 33) hx hb dX6_isJump_29 (by decide) ?_
        refine W.widen (k := 0) (n := 0) (Nat.le_of_ble_eq_true rfl) (Nat.le_of_ble_eq_true rfl) ?_
        exact W.zret (v := 1) hx hb hr (nz (Or.inr rfl)) (fun t9 ht9 hW9 => ⟨⟨_, (), rfl, ⟨(Or.inr rfl), (fun _ => (by have e153 : (153 : Int32).toInt = 153 := (by decide); have e198 : (198 : Int32).toInt = 198 := (by decide); have e199 : (199 : Int32).toInt = 199 := (by decide); have q_c_1 := i_lt c_1; have q_c_2 := i_ne c_2; have q_c_3 := i_eq c_3; have g_x0 := i_rg x0; omega))⟩, ⟨by rw [ht9]; exact hP, hD⟩⟩, hS.F ht9⟩) hS.2.2 dX6_isJump_33
  · refine lv_iload_n hx hb dX6_isJump_7 rfl (lv_at hl 0 rfl) ?_
    refine lv_sipush (v := 167) hx hb dX6_isJump_8 (by decide) ?_
    refine lv_icmp_le (tgt := 28) hx hb dX6_isJump_11 (by decide) (fun c_4 => ?_) (fun c_4 => ?_)
    · refine lv_iconst (v := 1) hx hb dX6_isJump_28 (by decide) ?_
      refine lv_goto (tgt := 33) hx hb dX6_isJump_29 (by decide) ?_
      refine W.widen (k := 0) (n := 0) (Nat.le_of_ble_eq_true rfl) (Nat.le_of_ble_eq_true rfl) ?_
      exact W.zret (v := 1) hx hb hr (nz (Or.inr rfl)) (fun t9 ht9 hW9 => ⟨⟨_, (), rfl, ⟨(Or.inr rfl), (fun _ => (by have e153 : (153 : Int32).toInt = 153 := (by decide); have e167 : (167 : Int32).toInt = 167 := (by decide); have q_c_1 := i_nlt c_1; have q_c_4 := i_le c_4; have g_x0 := i_rg x0; omega))⟩, ⟨by rw [ht9]; exact hP, hD⟩⟩, hS.F ht9⟩) hS.2.2 dX6_isJump_33
    · refine lv_iload_n hx hb dX6_isJump_14 rfl (lv_at hl 0 rfl) ?_
      refine lv_sipush (v := 198) hx hb dX6_isJump_15 (by decide) ?_
      refine lv_icmp_eq (tgt := 28) hx hb dX6_isJump_18 (by decide) (fun c_5 => ?_) (fun c_5 => ?_)
      · refine lv_iconst (v := 1) hx hb dX6_isJump_28 (by decide) ?_
        refine lv_goto (tgt := 33) hx hb dX6_isJump_29 (by decide) ?_
        refine W.widen (k := 0) (n := 0) (Nat.le_of_ble_eq_true rfl) (Nat.le_of_ble_eq_true rfl) ?_
        exact W.zret (v := 1) hx hb hr (nz (Or.inr rfl)) (fun t9 ht9 hW9 => ⟨⟨_, (), rfl, ⟨(Or.inr rfl), (fun _ => (by have e153 : (153 : Int32).toInt = 153 := (by decide); have e167 : (167 : Int32).toInt = 167 := (by decide); have e198 : (198 : Int32).toInt = 198 := (by decide); have q_c_1 := i_nlt c_1; have q_c_4 := i_nle c_4; have q_c_5 := i_eq c_5; have g_x0 := i_rg x0; omega))⟩, ⟨by rw [ht9]; exact hP, hD⟩⟩, hS.F ht9⟩) hS.2.2 dX6_isJump_33
      · refine lv_iload_n hx hb dX6_isJump_21 rfl (lv_at hl 0 rfl) ?_
        refine lv_sipush (v := 199) hx hb dX6_isJump_22 (by decide) ?_
        refine lv_icmp_ne (tgt := 32) hx hb dX6_isJump_25 (by decide) (fun c_6 => ?_) (fun c_6 => ?_)
        · refine lv_iconst (v := 0) hx hb dX6_isJump_32 (by decide) ?_
          refine W.widen (k := 0) (n := 0) (Nat.le_of_ble_eq_true rfl) (Nat.le_of_ble_eq_true rfl) ?_
          exact W.zret (v := 0) hx hb hr (nz (Or.inl rfl)) (fun t9 ht9 hW9 => ⟨⟨_, (), rfl, ⟨(Or.inl rfl), (fun h9 => absurd h9 (by decide))⟩, ⟨by rw [ht9]; exact hP, hD⟩⟩, hS.F ht9⟩) hS.2.2 dX6_isJump_33
        · refine lv_iconst (v := 1) hx hb dX6_isJump_28 (by decide) ?_
          refine lv_goto (tgt := 33) hx hb dX6_isJump_29 (by decide) ?_
          refine W.widen (k := 0) (n := 0) (Nat.le_of_ble_eq_true rfl) (Nat.le_of_ble_eq_true rfl) ?_
          exact W.zret (v := 1) hx hb hr (nz (Or.inr rfl)) (fun t9 ht9 hW9 => ⟨⟨_, (), rfl, ⟨(Or.inr rfl), (fun _ => (by have e153 : (153 : Int32).toInt = 153 := (by decide); have e167 : (167 : Int32).toInt = 167 := (by decide); have e198 : (198 : Int32).toInt = 198 := (by decide); have e199 : (199 : Int32).toInt = 199 := (by decide); have q_c_1 := i_nlt c_1; have q_c_4 := i_nle c_4; have q_c_5 := i_ne c_5; have q_c_6 := i_eq c_6; have g_x0 := i_rg x0; omega))⟩, ⟨by rw [ht9]; exact hP, hD⟩⟩, hS.F ht9⟩) hS.2.2 dX6_isJump_33
set_option maxHeartbeats 1000000 in
set_option maxRecDepth 100000 in
theorem m_X2_set_y (l : Launch) (g : Gm) (sz : Nat) (ws : va_W) (h0 : Nat) (x1 : Int32) (y2 : Int64) (hG : Good g ws) (o_h0 : gC ws h0 2) : Met l yX2_set (wt yX2_set cX2_set 4 none) ({ frames := 0, cells := 0, slots := 0, locals := 0 }) (va_Pc [.ref h0, .int x1, .long y2] (st_G g sz ws)) (va_Qv (fun (u9 : va_W) => (True) ∧ (opF u9 h0 x1 y2)) (gQ1 g [(2, 9), (2, 10)] [] none (va_A ws sz) ws) (va_A ws sz)) (0) (0) (va_A ws sz) := by
  refine Met.ofW (cc := cX2_set) (maxL := 4) (ret := none) (by decide) rfl ?_
  intro p e s m args below meth c s₁ B hml hv
  obtain ⟨rfl, hsz, hP, hK, hD0, hex, hE⟩ := hv
  have hx := B.exec
  have hb := B.bytes
  have hr := B.returns
  have hts0 := atoms_spec (ws := wt yX2_set cX2_set 4 none) B.pre
  have hts : ∀ w ∈ tb, w.before _ s = true := fun w h => hts0 w (List.mem_cons_of_mem _ h)
  have hown : s.vm.findClass RX2 = some m.cls := findClass_of_methodNamed B.named
  subst hsz
  have hD := hD0.self (sz := s.heap.size)
  generalize hAe : va_A ws s.heap.size = A at hD hE ⊢
  have hA : ∀ q : Nat, s.heap.size ≤ q → A q := fun q h => by rw [← hAe]; exact Or.inr h
  have hS : va_S A s.heap s.heap [] := va_S.rf
  have hl := lv_entry ([.ref h0, .int x1, .long y2]) (n := 4) (Nat.le_of_ble_eq_true rfl)
  rw [lg_entry_eq]
  generalize (lg_sl ([.ref h0, .int x1, .long y2]) ++ List.replicate (4 - (lg_sl ([.ref h0, .int x1, .long y2])).length) Slot.unset).toArray = ls at hl ⊢
  have hl : lv_has ls 4 [(0, .ref h0), (1, .int x1), (2, .long y2)] := hl
  refine lv_aload_n hx hb dX2_set_0 rfl (lv_at hl 0 rfl) ?_
  refine lv_iload_n hx hb dX2_set_1 rfl (lv_at hl 1 rfl) ?_
  obtain ⟨k_1, fs9, hk_1⟩ := gC_of o_h0
  obtain ⟨r0_1, c1_1, c2_1, c3_1, c4_1, c5_1, c6_1, r7_1, n7_1, c8_1, c9_1, l10_1, c11_1, rfl, o_r0_1, a_r7_1, f2_1, f3_1, f4_1, -⟩ := (hG.1 _ _ _ _ hk_1).hX2 rfl
  have hV9 : okv ws 2 9 (.int x1) := okv_i
  refine va_put (D := gD g) (ci := 2) (v := .int x1) (ty := .int) (C := RX2) (T := TX2) (N := 12) hx hb hts inX2 tyX2 tyX2_ok nmX2 hown hK hP hD hS k_1 hk_1 rfl 9 (by decide) (hts _ kw_619) (fun _ h9 => h9) rfl (by decide +kernel) rfl rfl (Nat.le_of_ble_eq_true rfl) dX2_set_2 (fun H locs hP hD hS => ?_)
  have hi_2 : invX2 g ws h0 [.ref r0_1, .int c1_1, .int c2_1, .int c3_1, .int c4_1, .int c5_1, .int c6_1, .ref r7_1, .int c8_1, .int x1, .long l10_1, .int c11_1] := ⟨r0_1, (c1_1), (c2_1), (c3_1), (c4_1), (c5_1), (c6_1), r7_1, (n7_1), (c8_1), (x1), (l10_1), (c11_1), rfl, o_r0_1, a_r7_1, f2_1, f3_1, f4_1, trivial⟩
  obtain ⟨ws_3, e_ws_3⟩ : ∃ z, z = ws.set k_1 (h0, .inr (2, [.ref r0_1, .int c1_1, .int c2_1, .int c3_1, .int c4_1, .int c5_1, .int c6_1, .ref r7_1, .int c8_1, .int x1, .long l10_1, .int c11_1])) := ⟨_, rfl⟩
  have hP : va_P (gD g) cl0 ws_3 H := by rw [e_ws_3]; exact hP
  have hD : va_D A ws_3 := by rw [e_ws_3]; exact hD
  have E_4 : gE ws ws_3 := gE_set e_ws_3 hk_1 (cw_o (fi := 9) (v := .int x1) rfl (by decide))
  have hG : Good g ws_3 := Good_set (fi := 9) (v := .int x1) e_ws_3 hk_1 E_4 rfl hV9 hG (ivX2 hi_2)
  have Fr_5 : gF [(2, 9)] [] (some h0) ws ws_3 := gF_put (fi := 9) (v := .int x1) e_ws_3 hk_1 rfl (by decide)
  have hkN := gset_self e_ws_3 hk_1
  have hk_1 := hkN
  have o_h0 := E_4.1 _ _ o_h0
  have o_r0_1 := E_4.1 _ _ o_r0_1
  have a_r7_1 := E_4.1 _ _ a_r7_1
  refine lv_aload_n hx hb dX2_set_5 rfl (lv_at hl 0 rfl) ?_
  refine lv_lload_n hx hb dX2_set_6 rfl (lv_at hl 2 rfl) ?_
  have hV9 : okv ws_3 2 10 (.long y2) := okv_l
  refine va_put (D := gD g) (ci := 2) (v := .long y2) (ty := .long) (C := RX2) (T := TX2) (N := 12) hx hb hts inX2 tyX2 tyX2_ok nmX2 hown hK hP hD hS k_1 hk_1 rfl 10 (by decide) (hts _ kw_617) (fun _ h9 => h9) rfl (by decide +kernel) rfl rfl (Nat.le_of_ble_eq_true rfl) dX2_set_7 (fun H locs hP hD hS => ?_)
  have hi_6 : invX2 g ws_3 h0 [.ref r0_1, .int c1_1, .int c2_1, .int c3_1, .int c4_1, .int c5_1, .int c6_1, .ref r7_1, .int c8_1, .int x1, .long y2, .int c11_1] := ⟨r0_1, (c1_1), (c2_1), (c3_1), (c4_1), (c5_1), (c6_1), r7_1, (n7_1), (c8_1), (x1), (y2), (c11_1), rfl, o_r0_1, a_r7_1, f2_1, f3_1, f4_1, trivial⟩
  obtain ⟨ws_7, e_ws_7⟩ : ∃ z, z = ws_3.set k_1 (h0, .inr (2, [.ref r0_1, .int c1_1, .int c2_1, .int c3_1, .int c4_1, .int c5_1, .int c6_1, .ref r7_1, .int c8_1, .int x1, .long y2, .int c11_1])) := ⟨_, rfl⟩
  have hP : va_P (gD g) cl0 ws_7 H := by rw [e_ws_7]; exact hP
  have hD : va_D A ws_7 := by rw [e_ws_7]; exact hD
  have E_8 : gE ws_3 ws_7 := gE_set e_ws_7 hk_1 (cw_o (fi := 10) (v := .long y2) rfl (by decide))
  have hG : Good g ws_7 := Good_set (fi := 10) (v := .long y2) e_ws_7 hk_1 E_8 rfl hV9 hG (ivX2 hi_6)
  have Fr_9 : gF [(2, 10)] [] (some h0) ws_3 ws_7 := gF_put (fi := 10) (v := .long y2) e_ws_7 hk_1 rfl (by decide)
  have hkN := gset_self e_ws_7 hk_1
  have hk_1 := hkN
  have o_h0 := E_8.1 _ _ o_h0
  have o_r0_1 := E_8.1 _ _ o_r0_1
  have a_r7_1 := E_8.1 _ _ a_r7_1
  have tq_10 : opF ws_7 h0 x1 y2 := ⟨_, _, hk_1, rfl, rfl⟩
  refine W.widen (k := 0) (n := 0) (Nat.le_of_ble_eq_true rfl) (Nat.le_of_ble_eq_true rfl) ?_
  exact W.vret hx hb hr (fun t9 ht9 hW9 => ⟨⟨ws_7, rfl, ⟨trivial, tq_10⟩, ⟨(E_4.tr E_8), (gF.tr (gF.mo (F' := [(2, 9), (2, 10)]) (C' := []) (S' := none) Fr_5 (by decide) (fun _ h => h) (Or.inl rfl)) (gF.mo (F' := [(2, 9), (2, 10)]) (C' := []) (S' := none) Fr_9 (by decide) (fun _ h => h) (Or.inl rfl))), hG, by rw [ht9]; exact hP, hD⟩⟩, hS.F ht9⟩) hS.2.2 dX2_set_10
set_option maxHeartbeats 1000000 in
set_option maxRecDepth 100000 in
theorem m_X2_decodeLocal_y (l : Launch) (g : Gm) (sz : Nat) (ws : va_W) (h0 : Nat) (x1 : Int32) (hG : Good g ws) (o_h0 : gC ws h0 2) : Met l yX2_decodeLocal (wt yX2_decodeLocal cX2_decodeLocal 4 none) ({ frames := 2, cells := 0, slots := 0, locals := 42 }) (va_Pc [.ref h0, .int x1] (st_G g sz ws)) (va_Qv (fun (u9 : va_W) => (True) ∧ (dlP ws u9 h0 x1)) (gQ1 g [(2, 9), (2, 10)] [] none (va_A ws sz) ws) (va_A ws sz)) (0) (0) (va_A ws sz) := by
  refine Met.ofW (cc := cX2_decodeLocal) (maxL := 4) (ret := none) (by decide) rfl ?_
  intro p e s m args below meth c s₁ B hml hv
  obtain ⟨rfl, hsz, hP, hK, hD0, hex, hE⟩ := hv
  have hx := B.exec
  have hb := B.bytes
  have hr := B.returns
  have hts0 := atoms_spec (ws := wt yX2_decodeLocal cX2_decodeLocal 4 none) B.pre
  have hts : ∀ w ∈ tb, w.before _ s = true := fun w h => hts0 w (List.mem_cons_of_mem _ h)
  have hown : s.vm.findClass RX2 = some m.cls := findClass_of_methodNamed B.named
  subst hsz
  have hD := hD0.self (sz := s.heap.size)
  generalize hAe : va_A ws s.heap.size = A at hD hE ⊢
  have hA : ∀ q : Nat, s.heap.size ≤ q → A q := fun q h => by rw [← hAe]; exact Or.inr h
  have hS : va_S A s.heap s.heap [] := va_S.rf
  have hl := lv_entry ([.ref h0, .int x1]) (n := 4) (Nat.le_of_ble_eq_true rfl)
  rw [lg_entry_eq]
  generalize (lg_sl ([.ref h0, .int x1]) ++ List.replicate (4 - (lg_sl ([.ref h0, .int x1])).length) Slot.unset).toArray = ls at hl ⊢
  have hl : lv_has ls 4 [(0, .ref h0), (1, .int x1)] := hl
  refine lv_aload_n hx hb dX2_decodeLocal_0 rfl (lv_at hl 0 rfl) ?_
  refine lv_iload_n hx hb dX2_decodeLocal_1 rfl (lv_at hl 1 rfl) ?_
  have hFc := gfree hD hS hA
  obtain ⟨k_1, fs_1, hk_1⟩ := gC_of o_h0
  refine va_calli (va_runV (As := [.int x1]) (rest := []) ⟨hx, hb, hml, hown, hts⟩ (m_X2_u1_x l g s.heap.size ws h0 (x1) hG o_h0) (cwV 1 hts (gd_V kw_682 kw_812 kw_813 kw_389 kw_811) rfl rfl rfl (by decide +kernel) ⟨Nat.le_of_ble_eq_true rfl, Nat.le_of_ble_eq_true rfl⟩) ⟨gblind, va_recv hK hP (ci := 2) (q0 := k_1) rfl hk_1, fun U hU hW9 => gmk hU hW9 hP hK hD hex hE hS hFc⟩ rfl rfl hl.1 rfl (lv_room (Nat.le_of_ble_eq_true rfl)) dX2_decodeLocal_2 ⟨Nat.le_of_ble_eq_true rfl, Nat.le_of_ble_eq_true rfl⟩) hS (fun q _ h => hFc q h) hFc (fun r_2 u9 t9 H1 locs ht9 hvm9 hw9 hB9 hz9 hk9 hS => ?_)
  have hP : va_P (gD g) cl0 ws H1 := by rw [← ht9]; exact hB9.1
  obtain ⟨hw9, xp_3⟩ := hw9
  clear hB9 hz9 hk9 hvm9 ht9 hw9
  generalize H1 = H at hP hS ⊢
  refine lv_istore_n (lv' := [(2, .int r_2), (0, .ref h0), (1, .int x1)]) hx hb dX2_decodeLocal_5 rfl hl (by decide) rfl (fun ls hl => ?_)
  refine lv_iload_n hx hb dX2_decodeLocal_6 rfl (lv_at hl 0 rfl) ?_
  refine lv_sipush (v := 196) hx hb dX2_decodeLocal_7 (by decide) ?_
  refine lv_icmp_ne (tgt := 81) hx hb dX2_decodeLocal_10 (by decide) (fun c_4 => ?_) (fun c_4 => ?_)
  · refine lv_iload_n hx hb dX2_decodeLocal_81 rfl (lv_at hl 0 rfl) ?_
    refine lv_sipush (v := 132) hx hb dX2_decodeLocal_82 (by decide) ?_
    refine lv_icmp_ne (tgt := 119) hx hb dX2_decodeLocal_85 (by decide) (fun c_5 => ?_) (fun c_5 => ?_)
    · refine lv_iload_n hx hb dX2_decodeLocal_119 rfl (lv_at hl 0 rfl) ?_
      have hFc := gfree hD hS hA
      refine va_calli (va_runS (As := [.int r_2]) (rest := []) ⟨hx, hb, hml, hown, hts⟩ (m_X6_usesLocal l g H.size ws (r_2) hG ) (va_cwS 1 hts (gd_S kw_693 kw_1260 kw_1207 kw_1259) rfl rfl rfl (by decide +kernel) ⟨Nat.le_of_ble_eq_true rfl, Nat.le_of_ble_eq_true rfl⟩) ⟨gblind, fun U hU hW9 => gmk hU hW9 hP hK hD hex hE hS hFc⟩ rfl rfl hl.1 rfl (lv_room (Nat.le_of_ble_eq_true rfl)) dX2_decodeLocal_120 ⟨Nat.le_of_ble_eq_true rfl, Nat.le_of_ble_eq_true rfl⟩) hS (fun q _ h => hFc q h) hFc (fun r_6 u9 t9 H1 locs ht9 hvm9 hw9 hB9 hz9 hk9 hS => ?_)
      have hP : va_P (gD g) cl0 ws H1 := by rw [← ht9]; exact hB9.1
      have hz_r_6 : r_6 = 0 ∨ r_6 = 1 := hw9
      clear hB9 hz9 hk9 hvm9 ht9 hw9
      generalize H1 = H at hP hS ⊢
      refine lv_if_eq (tgt := 142) hx hb dX2_decodeLocal_123 (by decide) (fun c_7 => ?_) (fun c_7 => ?_)
      · refine lv_iload_n hx hb dX2_decodeLocal_142 rfl (lv_at hl 0 rfl) ?_
        refine lv_bipush (v := 26) hx hb dX2_decodeLocal_143 (by decide) ?_
        refine lv_icmp_lt (tgt := 181) hx hb dX2_decodeLocal_145 (by decide) (fun c_8 => ?_) (fun c_8 => ?_)
        · refine lv_iload_n hx hb dX2_decodeLocal_181 rfl (lv_at hl 0 rfl) ?_
          refine lv_bipush (v := 42) hx hb dX2_decodeLocal_182 (by decide) ?_
          refine lv_icmp_lt (tgt := 207) hx hb dX2_decodeLocal_184 (by decide) (fun c_9 => ?_) (fun c_9 => ?_)
          · refine lv_iload_n hx hb dX2_decodeLocal_207 rfl (lv_at hl 0 rfl) ?_
            refine lv_bipush (v := 59) hx hb dX2_decodeLocal_208 (by decide) ?_
            refine lv_icmp_lt (tgt := 246) hx hb dX2_decodeLocal_210 (by decide) (fun c_10 => ?_) (fun c_10 => ?_)
            · refine lv_iload_n hx hb dX2_decodeLocal_246 rfl (lv_at hl 0 rfl) ?_
              refine lv_bipush (v := 75) hx hb dX2_decodeLocal_247 (by decide) ?_
              refine lv_icmp_lt (tgt := 269) hx hb dX2_decodeLocal_249 (by decide) (fun c_11 => ?_) (fun c_11 => ?_)
              · refine W.widen (k := 0) (n := 0) (Nat.le_of_ble_eq_true rfl) (Nat.le_of_ble_eq_true rfl) ?_
                obtain ⟨k_12, fs9, hk_12⟩ := gC_of o_h0
                obtain ⟨r0_12, c1_12, c2_12, c3_12, c4_12, c5_12, c6_12, r7_12, n7_12, c8_12, c9_12, l10_12, c11_12, rfl, o_r0_12, a_r7_12, f2_12, f3_12, f4_12, -⟩ := (hG.1 _ _ _ _ hk_12).hX2 rfl
                exact W.vret hx hb hr (fun t9 ht9 hW9 => ⟨⟨ws, rfl, ⟨trivial, ⟨_, _, ⟨_, _, hk_12, rfl, rfl⟩, fun _ => Or.inl ⟨_, ⟨_, _, hk_12, rfl, rfl⟩⟩⟩⟩, ⟨gE.rf, gF.rf, hG, by rw [ht9]; exact hP, hD⟩⟩, hS.F ht9⟩) hS.2.2 dX2_decodeLocal_269
              · refine lv_iload_n hx hb dX2_decodeLocal_252 rfl (lv_at hl 0 rfl) ?_
                refine lv_bipush (v := 78) hx hb dX2_decodeLocal_253 (by decide) ?_
                refine lv_icmp_gt (tgt := 269) hx hb dX2_decodeLocal_255 (by decide) (fun c_13 => ?_) (fun c_13 => ?_)
                · refine W.widen (k := 0) (n := 0) (Nat.le_of_ble_eq_true rfl) (Nat.le_of_ble_eq_true rfl) ?_
                  obtain ⟨k_14, fs9, hk_14⟩ := gC_of o_h0
                  obtain ⟨r0_14, c1_14, c2_14, c3_14, c4_14, c5_14, c6_14, r7_14, n7_14, c8_14, c9_14, l10_14, c11_14, rfl, o_r0_14, a_r7_14, f2_14, f3_14, f4_14, -⟩ := (hG.1 _ _ _ _ hk_14).hX2 rfl
                  exact W.vret hx hb hr (fun t9 ht9 hW9 => ⟨⟨ws, rfl, ⟨trivial, ⟨_, _, ⟨_, _, hk_14, rfl, rfl⟩, fun _ => Or.inl ⟨_, ⟨_, _, hk_14, rfl, rfl⟩⟩⟩⟩, ⟨gE.rf, gF.rf, hG, by rw [ht9]; exact hP, hD⟩⟩, hS.F ht9⟩) hS.2.2 dX2_decodeLocal_269
                · refine lv_aload_n hx hb dX2_decodeLocal_258 rfl (lv_at hl 1 rfl) ?_
                  refine lv_bipush (v := 58) hx hb dX2_decodeLocal_259 (by decide) ?_
                  refine lv_iload_n hx hb dX2_decodeLocal_261 rfl (lv_at hl 0 rfl) ?_
                  refine lv_bipush (v := 75) hx hb dX2_decodeLocal_262 (by decide) ?_
                  refine lv_isub hx hb dX2_decodeLocal_264 ?_
                  refine lv_topi (fun z_15 ez_15 => ?_)
                  obtain ⟨z_16, ez_16⟩ : ∃ y : Int64, (z_15 : Int32).toInt64 = y := ⟨_, rfl⟩
                  refine lv_i2l (v := z_16) hx hb dX2_decodeLocal_265 ez_16 ?_
                  have hFc := gfree hD hS hA
                  obtain ⟨k_17, fs_17, hk_17⟩ := gC_of o_h0
                  refine va_callv (va_runV (As := [.int 58, .long z_16]) (rest := []) ⟨hx, hb, hml, hown, hts⟩ (m_X2_set_y l g H.size ws h0 (58) (z_16) hG o_h0) (cwV 2 hts (gd_V kw_684 kw_793 kw_794 kw_389 kw_792) rfl rfl rfl (by decide +kernel) ⟨Nat.le_of_ble_eq_true rfl, Nat.le_of_ble_eq_true rfl⟩) ⟨gblind, va_recv hK hP (ci := 2) (q0 := k_17) rfl hk_17, fun U hU hW9 => gmk hU hW9 hP hK hD hex hE hS hFc⟩ rfl rfl hl.1 rfl (lv_room (Nat.le_of_ble_eq_true rfl)) dX2_decodeLocal_266 ⟨Nat.le_of_ble_eq_true rfl, Nat.le_of_ble_eq_true rfl⟩) hS (fun q _ h => hFc q h) hFc (fun  ws_18 t9 H1 locs ht9 hvm9 hw9 hB9 hz9 hk9 hS => ?_)
                  obtain ⟨E_19, Fr_20, hG, hP1, hD1⟩ := hB9
                  have hP : va_P (gD g) cl0 ws_18 H1 := by rw [← ht9]; exact hP1
                  have hD : va_D A ws_18 := hD1.weaken (fun _ _ _ h => hFc _ h)
                  obtain ⟨hw9, xp_23⟩ := hw9
                  clear hP1 hD1 hz9 hk9 hvm9 ht9 hw9
                  generalize H1 = H at hP hS ⊢
                  have o_h0 := E_19.1 _ _ o_h0
                  refine W.widen (k := 0) (n := 0) (Nat.le_of_ble_eq_true rfl) (Nat.le_of_ble_eq_true rfl) ?_
                  exact W.vret hx hb hr (fun t9 ht9 hW9 => ⟨⟨ws_18, rfl, ⟨trivial, ⟨_, _, xp_23, fun h9 => absurd h9 (by unfold isS; decide)⟩⟩, ⟨E_19, Fr_20, hG, by rw [ht9]; exact hP, hD⟩⟩, hS.F ht9⟩) hS.2.2 dX2_decodeLocal_269
            · refine lv_iload_n hx hb dX2_decodeLocal_213 rfl (lv_at hl 0 rfl) ?_
              refine lv_bipush (v := 66) hx hb dX2_decodeLocal_214 (by decide) ?_
              refine lv_icmp_gt (tgt := 246) hx hb dX2_decodeLocal_216 (by decide) (fun c_24 => ?_) (fun c_24 => ?_)
              · refine lv_iload_n hx hb dX2_decodeLocal_246 rfl (lv_at hl 0 rfl) ?_
                refine lv_bipush (v := 75) hx hb dX2_decodeLocal_247 (by decide) ?_
                refine lv_icmp_lt (tgt := 269) hx hb dX2_decodeLocal_249 (by decide) (fun c_25 => ?_) (fun c_25 => ?_)
                · refine W.widen (k := 0) (n := 0) (Nat.le_of_ble_eq_true rfl) (Nat.le_of_ble_eq_true rfl) ?_
                  obtain ⟨k_26, fs9, hk_26⟩ := gC_of o_h0
                  obtain ⟨r0_26, c1_26, c2_26, c3_26, c4_26, c5_26, c6_26, r7_26, n7_26, c8_26, c9_26, l10_26, c11_26, rfl, o_r0_26, a_r7_26, f2_26, f3_26, f4_26, -⟩ := (hG.1 _ _ _ _ hk_26).hX2 rfl
                  exact W.vret hx hb hr (fun t9 ht9 hW9 => ⟨⟨ws, rfl, ⟨trivial, ⟨_, _, ⟨_, _, hk_26, rfl, rfl⟩, fun _ => Or.inl ⟨_, ⟨_, _, hk_26, rfl, rfl⟩⟩⟩⟩, ⟨gE.rf, gF.rf, hG, by rw [ht9]; exact hP, hD⟩⟩, hS.F ht9⟩) hS.2.2 dX2_decodeLocal_269
                · refine lv_iload_n hx hb dX2_decodeLocal_252 rfl (lv_at hl 0 rfl) ?_
                  refine lv_bipush (v := 78) hx hb dX2_decodeLocal_253 (by decide) ?_
                  refine lv_icmp_gt (tgt := 269) hx hb dX2_decodeLocal_255 (by decide) (fun c_27 => ?_) (fun c_27 => ?_)
                  · refine W.widen (k := 0) (n := 0) (Nat.le_of_ble_eq_true rfl) (Nat.le_of_ble_eq_true rfl) ?_
                    obtain ⟨k_28, fs9, hk_28⟩ := gC_of o_h0
                    obtain ⟨r0_28, c1_28, c2_28, c3_28, c4_28, c5_28, c6_28, r7_28, n7_28, c8_28, c9_28, l10_28, c11_28, rfl, o_r0_28, a_r7_28, f2_28, f3_28, f4_28, -⟩ := (hG.1 _ _ _ _ hk_28).hX2 rfl
                    exact W.vret hx hb hr (fun t9 ht9 hW9 => ⟨⟨ws, rfl, ⟨trivial, ⟨_, _, ⟨_, _, hk_28, rfl, rfl⟩, fun _ => Or.inl ⟨_, ⟨_, _, hk_28, rfl, rfl⟩⟩⟩⟩, ⟨gE.rf, gF.rf, hG, by rw [ht9]; exact hP, hD⟩⟩, hS.F ht9⟩) hS.2.2 dX2_decodeLocal_269
                  · refine lv_aload_n hx hb dX2_decodeLocal_258 rfl (lv_at hl 1 rfl) ?_
                    refine lv_bipush (v := 58) hx hb dX2_decodeLocal_259 (by decide) ?_
                    refine lv_iload_n hx hb dX2_decodeLocal_261 rfl (lv_at hl 0 rfl) ?_
                    refine lv_bipush (v := 75) hx hb dX2_decodeLocal_262 (by decide) ?_
                    refine lv_isub hx hb dX2_decodeLocal_264 ?_
                    refine lv_topi (fun z_29 ez_29 => ?_)
                    obtain ⟨z_30, ez_30⟩ : ∃ y : Int64, (z_29 : Int32).toInt64 = y := ⟨_, rfl⟩
                    refine lv_i2l (v := z_30) hx hb dX2_decodeLocal_265 ez_30 ?_
                    have hFc := gfree hD hS hA
                    obtain ⟨k_31, fs_31, hk_31⟩ := gC_of o_h0
                    refine va_callv (va_runV (As := [.int 58, .long z_30]) (rest := []) ⟨hx, hb, hml, hown, hts⟩ (m_X2_set_y l g H.size ws h0 (58) (z_30) hG o_h0) (cwV 2 hts (gd_V kw_684 kw_793 kw_794 kw_389 kw_792) rfl rfl rfl (by decide +kernel) ⟨Nat.le_of_ble_eq_true rfl, Nat.le_of_ble_eq_true rfl⟩) ⟨gblind, va_recv hK hP (ci := 2) (q0 := k_31) rfl hk_31, fun U hU hW9 => gmk hU hW9 hP hK hD hex hE hS hFc⟩ rfl rfl hl.1 rfl (lv_room (Nat.le_of_ble_eq_true rfl)) dX2_decodeLocal_266 ⟨Nat.le_of_ble_eq_true rfl, Nat.le_of_ble_eq_true rfl⟩) hS (fun q _ h => hFc q h) hFc (fun  ws_32 t9 H1 locs ht9 hvm9 hw9 hB9 hz9 hk9 hS => ?_)
                    obtain ⟨E_33, Fr_34, hG, hP1, hD1⟩ := hB9
                    have hP : va_P (gD g) cl0 ws_32 H1 := by rw [← ht9]; exact hP1
                    have hD : va_D A ws_32 := hD1.weaken (fun _ _ _ h => hFc _ h)
                    obtain ⟨hw9, xp_37⟩ := hw9
                    clear hP1 hD1 hz9 hk9 hvm9 ht9 hw9
                    generalize H1 = H at hP hS ⊢
                    have o_h0 := E_33.1 _ _ o_h0
                    refine W.widen (k := 0) (n := 0) (Nat.le_of_ble_eq_true rfl) (Nat.le_of_ble_eq_true rfl) ?_
                    exact W.vret hx hb hr (fun t9 ht9 hW9 => ⟨⟨ws_32, rfl, ⟨trivial, ⟨_, _, xp_37, fun h9 => absurd h9 (by unfold isS; decide)⟩⟩, ⟨E_33, Fr_34, hG, by rw [ht9]; exact hP, hD⟩⟩, hS.F ht9⟩) hS.2.2 dX2_decodeLocal_269
              · refine lv_aload_n hx hb dX2_decodeLocal_219 rfl (lv_at hl 1 rfl) ?_
                refine lv_iload_n hx hb dX2_decodeLocal_220 rfl (lv_at hl 0 rfl) ?_
                refine lv_bipush (v := 63) hx hb dX2_decodeLocal_221 (by decide) ?_
                refine lv_icmp_ge (tgt := 231) hx hb dX2_decodeLocal_223 (by decide) (fun c_38 => ?_) (fun c_38 => ?_)
                · refine lv_bipush (v := 55) hx hb dX2_decodeLocal_231 (by decide) ?_
                  refine lv_iload_n hx hb dX2_decodeLocal_233 rfl (lv_at hl 0 rfl) ?_
                  refine lv_bipush (v := 59) hx hb dX2_decodeLocal_234 (by decide) ?_
                  refine lv_isub hx hb dX2_decodeLocal_236 ?_
                  refine lv_topi (fun z_39 ez_39 => ?_)
                  refine lv_iconst (v := 3) hx hb dX2_decodeLocal_237 (by decide) ?_
                  refine lv_iand hx hb dX2_decodeLocal_238 ?_
                  refine lv_topi (fun z_40 ez_40 => ?_)
                  obtain ⟨z_41, ez_41⟩ : ∃ y : Int64, (z_40 : Int32).toInt64 = y := ⟨_, rfl⟩
                  refine lv_i2l (v := z_41) hx hb dX2_decodeLocal_239 ez_41 ?_
                  have hFc := gfree hD hS hA
                  obtain ⟨k_42, fs_42, hk_42⟩ := gC_of o_h0
                  refine va_callv (va_runV (As := [.int 55, .long z_41]) (rest := []) ⟨hx, hb, hml, hown, hts⟩ (m_X2_set_y l g H.size ws h0 (55) (z_41) hG o_h0) (cwV 2 hts (gd_V kw_684 kw_793 kw_794 kw_389 kw_792) rfl rfl rfl (by decide +kernel) ⟨Nat.le_of_ble_eq_true rfl, Nat.le_of_ble_eq_true rfl⟩) ⟨gblind, va_recv hK hP (ci := 2) (q0 := k_42) rfl hk_42, fun U hU hW9 => gmk hU hW9 hP hK hD hex hE hS hFc⟩ rfl rfl hl.1 rfl (lv_room (Nat.le_of_ble_eq_true rfl)) dX2_decodeLocal_240 ⟨Nat.le_of_ble_eq_true rfl, Nat.le_of_ble_eq_true rfl⟩) hS (fun q _ h => hFc q h) hFc (fun  ws_43 t9 H1 locs ht9 hvm9 hw9 hB9 hz9 hk9 hS => ?_)
                  obtain ⟨E_44, Fr_45, hG, hP1, hD1⟩ := hB9
                  have hP : va_P (gD g) cl0 ws_43 H1 := by rw [← ht9]; exact hP1
                  have hD : va_D A ws_43 := hD1.weaken (fun _ _ _ h => hFc _ h)
                  obtain ⟨hw9, xp_48⟩ := hw9
                  clear hP1 hD1 hz9 hk9 hvm9 ht9 hw9
                  generalize H1 = H at hP hS ⊢
                  have o_h0 := E_44.1 _ _ o_h0
                  refine lv_goto (tgt := 269) hx hb dX2_decodeLocal_243 (by decide) ?_
                  refine W.widen (k := 0) (n := 0) (Nat.le_of_ble_eq_true rfl) (Nat.le_of_ble_eq_true rfl) ?_
                  exact W.vret hx hb hr (fun t9 ht9 hW9 => ⟨⟨ws_43, rfl, ⟨trivial, ⟨_, _, xp_48, fun h9 => absurd h9 (by unfold isS; decide)⟩⟩, ⟨E_44, Fr_45, hG, by rw [ht9]; exact hP, hD⟩⟩, hS.F ht9⟩) hS.2.2 dX2_decodeLocal_269
                · refine lv_bipush (v := 54) hx hb dX2_decodeLocal_226 (by decide) ?_
                  refine lv_goto (tgt := 233) hx hb dX2_decodeLocal_228 (by decide) ?_
                  refine lv_iload_n hx hb dX2_decodeLocal_233 rfl (lv_at hl 0 rfl) ?_
                  refine lv_bipush (v := 59) hx hb dX2_decodeLocal_234 (by decide) ?_
                  refine lv_isub hx hb dX2_decodeLocal_236 ?_
                  refine lv_topi (fun z_49 ez_49 => ?_)
                  refine lv_iconst (v := 3) hx hb dX2_decodeLocal_237 (by decide) ?_
                  refine lv_iand hx hb dX2_decodeLocal_238 ?_
                  refine lv_topi (fun z_50 ez_50 => ?_)
                  obtain ⟨z_51, ez_51⟩ : ∃ y : Int64, (z_50 : Int32).toInt64 = y := ⟨_, rfl⟩
                  refine lv_i2l (v := z_51) hx hb dX2_decodeLocal_239 ez_51 ?_
                  have hFc := gfree hD hS hA
                  obtain ⟨k_52, fs_52, hk_52⟩ := gC_of o_h0
                  refine va_callv (va_runV (As := [.int 54, .long z_51]) (rest := []) ⟨hx, hb, hml, hown, hts⟩ (m_X2_set_y l g H.size ws h0 (54) (z_51) hG o_h0) (cwV 2 hts (gd_V kw_684 kw_793 kw_794 kw_389 kw_792) rfl rfl rfl (by decide +kernel) ⟨Nat.le_of_ble_eq_true rfl, Nat.le_of_ble_eq_true rfl⟩) ⟨gblind, va_recv hK hP (ci := 2) (q0 := k_52) rfl hk_52, fun U hU hW9 => gmk hU hW9 hP hK hD hex hE hS hFc⟩ rfl rfl hl.1 rfl (lv_room (Nat.le_of_ble_eq_true rfl)) dX2_decodeLocal_240 ⟨Nat.le_of_ble_eq_true rfl, Nat.le_of_ble_eq_true rfl⟩) hS (fun q _ h => hFc q h) hFc (fun  ws_53 t9 H1 locs ht9 hvm9 hw9 hB9 hz9 hk9 hS => ?_)
                  obtain ⟨E_54, Fr_55, hG, hP1, hD1⟩ := hB9
                  have hP : va_P (gD g) cl0 ws_53 H1 := by rw [← ht9]; exact hP1
                  have hD : va_D A ws_53 := hD1.weaken (fun _ _ _ h => hFc _ h)
                  obtain ⟨hw9, xp_58⟩ := hw9
                  clear hP1 hD1 hz9 hk9 hvm9 ht9 hw9
                  generalize H1 = H at hP hS ⊢
                  have o_h0 := E_54.1 _ _ o_h0
                  refine lv_goto (tgt := 269) hx hb dX2_decodeLocal_243 (by decide) ?_
                  refine W.widen (k := 0) (n := 0) (Nat.le_of_ble_eq_true rfl) (Nat.le_of_ble_eq_true rfl) ?_
                  exact W.vret hx hb hr (fun t9 ht9 hW9 => ⟨⟨ws_53, rfl, ⟨trivial, ⟨_, _, xp_58, fun h9 => absurd h9 (by unfold isS; decide)⟩⟩, ⟨E_54, Fr_55, hG, by rw [ht9]; exact hP, hD⟩⟩, hS.F ht9⟩) hS.2.2 dX2_decodeLocal_269
          · refine lv_iload_n hx hb dX2_decodeLocal_187 rfl (lv_at hl 0 rfl) ?_
            refine lv_bipush (v := 45) hx hb dX2_decodeLocal_188 (by decide) ?_
            refine lv_icmp_gt (tgt := 207) hx hb dX2_decodeLocal_190 (by decide) (fun c_59 => ?_) (fun c_59 => ?_)
            · refine lv_iload_n hx hb dX2_decodeLocal_207 rfl (lv_at hl 0 rfl) ?_
              refine lv_bipush (v := 59) hx hb dX2_decodeLocal_208 (by decide) ?_
              refine lv_icmp_lt (tgt := 246) hx hb dX2_decodeLocal_210 (by decide) (fun c_60 => ?_) (fun c_60 => ?_)
              · refine lv_iload_n hx hb dX2_decodeLocal_246 rfl (lv_at hl 0 rfl) ?_
                refine lv_bipush (v := 75) hx hb dX2_decodeLocal_247 (by decide) ?_
                refine lv_icmp_lt (tgt := 269) hx hb dX2_decodeLocal_249 (by decide) (fun c_61 => ?_) (fun c_61 => ?_)
                · refine W.widen (k := 0) (n := 0) (Nat.le_of_ble_eq_true rfl) (Nat.le_of_ble_eq_true rfl) ?_
                  obtain ⟨k_62, fs9, hk_62⟩ := gC_of o_h0
                  obtain ⟨r0_62, c1_62, c2_62, c3_62, c4_62, c5_62, c6_62, r7_62, n7_62, c8_62, c9_62, l10_62, c11_62, rfl, o_r0_62, a_r7_62, f2_62, f3_62, f4_62, -⟩ := (hG.1 _ _ _ _ hk_62).hX2 rfl
                  exact W.vret hx hb hr (fun t9 ht9 hW9 => ⟨⟨ws, rfl, ⟨trivial, ⟨_, _, ⟨_, _, hk_62, rfl, rfl⟩, fun _ => Or.inl ⟨_, ⟨_, _, hk_62, rfl, rfl⟩⟩⟩⟩, ⟨gE.rf, gF.rf, hG, by rw [ht9]; exact hP, hD⟩⟩, hS.F ht9⟩) hS.2.2 dX2_decodeLocal_269
                · refine lv_iload_n hx hb dX2_decodeLocal_252 rfl (lv_at hl 0 rfl) ?_
                  refine lv_bipush (v := 78) hx hb dX2_decodeLocal_253 (by decide) ?_
                  refine lv_icmp_gt (tgt := 269) hx hb dX2_decodeLocal_255 (by decide) (fun c_63 => ?_) (fun c_63 => ?_)
                  · refine W.widen (k := 0) (n := 0) (Nat.le_of_ble_eq_true rfl) (Nat.le_of_ble_eq_true rfl) ?_
                    obtain ⟨k_64, fs9, hk_64⟩ := gC_of o_h0
                    obtain ⟨r0_64, c1_64, c2_64, c3_64, c4_64, c5_64, c6_64, r7_64, n7_64, c8_64, c9_64, l10_64, c11_64, rfl, o_r0_64, a_r7_64, f2_64, f3_64, f4_64, -⟩ := (hG.1 _ _ _ _ hk_64).hX2 rfl
                    exact W.vret hx hb hr (fun t9 ht9 hW9 => ⟨⟨ws, rfl, ⟨trivial, ⟨_, _, ⟨_, _, hk_64, rfl, rfl⟩, fun _ => Or.inl ⟨_, ⟨_, _, hk_64, rfl, rfl⟩⟩⟩⟩, ⟨gE.rf, gF.rf, hG, by rw [ht9]; exact hP, hD⟩⟩, hS.F ht9⟩) hS.2.2 dX2_decodeLocal_269
                  · refine lv_aload_n hx hb dX2_decodeLocal_258 rfl (lv_at hl 1 rfl) ?_
                    refine lv_bipush (v := 58) hx hb dX2_decodeLocal_259 (by decide) ?_
                    refine lv_iload_n hx hb dX2_decodeLocal_261 rfl (lv_at hl 0 rfl) ?_
                    refine lv_bipush (v := 75) hx hb dX2_decodeLocal_262 (by decide) ?_
                    refine lv_isub hx hb dX2_decodeLocal_264 ?_
                    refine lv_topi (fun z_65 ez_65 => ?_)
                    obtain ⟨z_66, ez_66⟩ : ∃ y : Int64, (z_65 : Int32).toInt64 = y := ⟨_, rfl⟩
                    refine lv_i2l (v := z_66) hx hb dX2_decodeLocal_265 ez_66 ?_
                    have hFc := gfree hD hS hA
                    obtain ⟨k_67, fs_67, hk_67⟩ := gC_of o_h0
                    refine va_callv (va_runV (As := [.int 58, .long z_66]) (rest := []) ⟨hx, hb, hml, hown, hts⟩ (m_X2_set_y l g H.size ws h0 (58) (z_66) hG o_h0) (cwV 2 hts (gd_V kw_684 kw_793 kw_794 kw_389 kw_792) rfl rfl rfl (by decide +kernel) ⟨Nat.le_of_ble_eq_true rfl, Nat.le_of_ble_eq_true rfl⟩) ⟨gblind, va_recv hK hP (ci := 2) (q0 := k_67) rfl hk_67, fun U hU hW9 => gmk hU hW9 hP hK hD hex hE hS hFc⟩ rfl rfl hl.1 rfl (lv_room (Nat.le_of_ble_eq_true rfl)) dX2_decodeLocal_266 ⟨Nat.le_of_ble_eq_true rfl, Nat.le_of_ble_eq_true rfl⟩) hS (fun q _ h => hFc q h) hFc (fun  ws_68 t9 H1 locs ht9 hvm9 hw9 hB9 hz9 hk9 hS => ?_)
                    obtain ⟨E_69, Fr_70, hG, hP1, hD1⟩ := hB9
                    have hP : va_P (gD g) cl0 ws_68 H1 := by rw [← ht9]; exact hP1
                    have hD : va_D A ws_68 := hD1.weaken (fun _ _ _ h => hFc _ h)
                    obtain ⟨hw9, xp_73⟩ := hw9
                    clear hP1 hD1 hz9 hk9 hvm9 ht9 hw9
                    generalize H1 = H at hP hS ⊢
                    have o_h0 := E_69.1 _ _ o_h0
                    refine W.widen (k := 0) (n := 0) (Nat.le_of_ble_eq_true rfl) (Nat.le_of_ble_eq_true rfl) ?_
                    exact W.vret hx hb hr (fun t9 ht9 hW9 => ⟨⟨ws_68, rfl, ⟨trivial, ⟨_, _, xp_73, fun h9 => absurd h9 (by unfold isS; decide)⟩⟩, ⟨E_69, Fr_70, hG, by rw [ht9]; exact hP, hD⟩⟩, hS.F ht9⟩) hS.2.2 dX2_decodeLocal_269
              · refine lv_iload_n hx hb dX2_decodeLocal_213 rfl (lv_at hl 0 rfl) ?_
                refine lv_bipush (v := 66) hx hb dX2_decodeLocal_214 (by decide) ?_
                refine lv_icmp_gt (tgt := 246) hx hb dX2_decodeLocal_216 (by decide) (fun c_74 => ?_) (fun c_74 => ?_)
                · refine lv_iload_n hx hb dX2_decodeLocal_246 rfl (lv_at hl 0 rfl) ?_
                  refine lv_bipush (v := 75) hx hb dX2_decodeLocal_247 (by decide) ?_
                  refine lv_icmp_lt (tgt := 269) hx hb dX2_decodeLocal_249 (by decide) (fun c_75 => ?_) (fun c_75 => ?_)
                  · refine W.widen (k := 0) (n := 0) (Nat.le_of_ble_eq_true rfl) (Nat.le_of_ble_eq_true rfl) ?_
                    obtain ⟨k_76, fs9, hk_76⟩ := gC_of o_h0
                    obtain ⟨r0_76, c1_76, c2_76, c3_76, c4_76, c5_76, c6_76, r7_76, n7_76, c8_76, c9_76, l10_76, c11_76, rfl, o_r0_76, a_r7_76, f2_76, f3_76, f4_76, -⟩ := (hG.1 _ _ _ _ hk_76).hX2 rfl
                    exact W.vret hx hb hr (fun t9 ht9 hW9 => ⟨⟨ws, rfl, ⟨trivial, ⟨_, _, ⟨_, _, hk_76, rfl, rfl⟩, fun _ => Or.inl ⟨_, ⟨_, _, hk_76, rfl, rfl⟩⟩⟩⟩, ⟨gE.rf, gF.rf, hG, by rw [ht9]; exact hP, hD⟩⟩, hS.F ht9⟩) hS.2.2 dX2_decodeLocal_269
                  · refine lv_iload_n hx hb dX2_decodeLocal_252 rfl (lv_at hl 0 rfl) ?_
                    refine lv_bipush (v := 78) hx hb dX2_decodeLocal_253 (by decide) ?_
                    refine lv_icmp_gt (tgt := 269) hx hb dX2_decodeLocal_255 (by decide) (fun c_77 => ?_) (fun c_77 => ?_)
                    · refine W.widen (k := 0) (n := 0) (Nat.le_of_ble_eq_true rfl) (Nat.le_of_ble_eq_true rfl) ?_
                      obtain ⟨k_78, fs9, hk_78⟩ := gC_of o_h0
                      obtain ⟨r0_78, c1_78, c2_78, c3_78, c4_78, c5_78, c6_78, r7_78, n7_78, c8_78, c9_78, l10_78, c11_78, rfl, o_r0_78, a_r7_78, f2_78, f3_78, f4_78, -⟩ := (hG.1 _ _ _ _ hk_78).hX2 rfl
                      exact W.vret hx hb hr (fun t9 ht9 hW9 => ⟨⟨ws, rfl, ⟨trivial, ⟨_, _, ⟨_, _, hk_78, rfl, rfl⟩, fun _ => Or.inl ⟨_, ⟨_, _, hk_78, rfl, rfl⟩⟩⟩⟩, ⟨gE.rf, gF.rf, hG, by rw [ht9]; exact hP, hD⟩⟩, hS.F ht9⟩) hS.2.2 dX2_decodeLocal_269
                    · refine lv_aload_n hx hb dX2_decodeLocal_258 rfl (lv_at hl 1 rfl) ?_
                      refine lv_bipush (v := 58) hx hb dX2_decodeLocal_259 (by decide) ?_
                      refine lv_iload_n hx hb dX2_decodeLocal_261 rfl (lv_at hl 0 rfl) ?_
                      refine lv_bipush (v := 75) hx hb dX2_decodeLocal_262 (by decide) ?_
                      refine lv_isub hx hb dX2_decodeLocal_264 ?_
                      refine lv_topi (fun z_79 ez_79 => ?_)
                      obtain ⟨z_80, ez_80⟩ : ∃ y : Int64, (z_79 : Int32).toInt64 = y := ⟨_, rfl⟩
                      refine lv_i2l (v := z_80) hx hb dX2_decodeLocal_265 ez_80 ?_
                      have hFc := gfree hD hS hA
                      obtain ⟨k_81, fs_81, hk_81⟩ := gC_of o_h0
                      refine va_callv (va_runV (As := [.int 58, .long z_80]) (rest := []) ⟨hx, hb, hml, hown, hts⟩ (m_X2_set_y l g H.size ws h0 (58) (z_80) hG o_h0) (cwV 2 hts (gd_V kw_684 kw_793 kw_794 kw_389 kw_792) rfl rfl rfl (by decide +kernel) ⟨Nat.le_of_ble_eq_true rfl, Nat.le_of_ble_eq_true rfl⟩) ⟨gblind, va_recv hK hP (ci := 2) (q0 := k_81) rfl hk_81, fun U hU hW9 => gmk hU hW9 hP hK hD hex hE hS hFc⟩ rfl rfl hl.1 rfl (lv_room (Nat.le_of_ble_eq_true rfl)) dX2_decodeLocal_266 ⟨Nat.le_of_ble_eq_true rfl, Nat.le_of_ble_eq_true rfl⟩) hS (fun q _ h => hFc q h) hFc (fun  ws_82 t9 H1 locs ht9 hvm9 hw9 hB9 hz9 hk9 hS => ?_)
                      obtain ⟨E_83, Fr_84, hG, hP1, hD1⟩ := hB9
                      have hP : va_P (gD g) cl0 ws_82 H1 := by rw [← ht9]; exact hP1
                      have hD : va_D A ws_82 := hD1.weaken (fun _ _ _ h => hFc _ h)
                      obtain ⟨hw9, xp_87⟩ := hw9
                      clear hP1 hD1 hz9 hk9 hvm9 ht9 hw9
                      generalize H1 = H at hP hS ⊢
                      have o_h0 := E_83.1 _ _ o_h0
                      refine W.widen (k := 0) (n := 0) (Nat.le_of_ble_eq_true rfl) (Nat.le_of_ble_eq_true rfl) ?_
                      exact W.vret hx hb hr (fun t9 ht9 hW9 => ⟨⟨ws_82, rfl, ⟨trivial, ⟨_, _, xp_87, fun h9 => absurd h9 (by unfold isS; decide)⟩⟩, ⟨E_83, Fr_84, hG, by rw [ht9]; exact hP, hD⟩⟩, hS.F ht9⟩) hS.2.2 dX2_decodeLocal_269
                · refine lv_aload_n hx hb dX2_decodeLocal_219 rfl (lv_at hl 1 rfl) ?_
                  refine lv_iload_n hx hb dX2_decodeLocal_220 rfl (lv_at hl 0 rfl) ?_
                  refine lv_bipush (v := 63) hx hb dX2_decodeLocal_221 (by decide) ?_
                  refine lv_icmp_ge (tgt := 231) hx hb dX2_decodeLocal_223 (by decide) (fun c_88 => ?_) (fun c_88 => ?_)
                  · refine lv_bipush (v := 55) hx hb dX2_decodeLocal_231 (by decide) ?_
                    refine lv_iload_n hx hb dX2_decodeLocal_233 rfl (lv_at hl 0 rfl) ?_
                    refine lv_bipush (v := 59) hx hb dX2_decodeLocal_234 (by decide) ?_
                    refine lv_isub hx hb dX2_decodeLocal_236 ?_
                    refine lv_topi (fun z_89 ez_89 => ?_)
                    refine lv_iconst (v := 3) hx hb dX2_decodeLocal_237 (by decide) ?_
                    refine lv_iand hx hb dX2_decodeLocal_238 ?_
                    refine lv_topi (fun z_90 ez_90 => ?_)
                    obtain ⟨z_91, ez_91⟩ : ∃ y : Int64, (z_90 : Int32).toInt64 = y := ⟨_, rfl⟩
                    refine lv_i2l (v := z_91) hx hb dX2_decodeLocal_239 ez_91 ?_
                    have hFc := gfree hD hS hA
                    obtain ⟨k_92, fs_92, hk_92⟩ := gC_of o_h0
                    refine va_callv (va_runV (As := [.int 55, .long z_91]) (rest := []) ⟨hx, hb, hml, hown, hts⟩ (m_X2_set_y l g H.size ws h0 (55) (z_91) hG o_h0) (cwV 2 hts (gd_V kw_684 kw_793 kw_794 kw_389 kw_792) rfl rfl rfl (by decide +kernel) ⟨Nat.le_of_ble_eq_true rfl, Nat.le_of_ble_eq_true rfl⟩) ⟨gblind, va_recv hK hP (ci := 2) (q0 := k_92) rfl hk_92, fun U hU hW9 => gmk hU hW9 hP hK hD hex hE hS hFc⟩ rfl rfl hl.1 rfl (lv_room (Nat.le_of_ble_eq_true rfl)) dX2_decodeLocal_240 ⟨Nat.le_of_ble_eq_true rfl, Nat.le_of_ble_eq_true rfl⟩) hS (fun q _ h => hFc q h) hFc (fun  ws_93 t9 H1 locs ht9 hvm9 hw9 hB9 hz9 hk9 hS => ?_)
                    obtain ⟨E_94, Fr_95, hG, hP1, hD1⟩ := hB9
                    have hP : va_P (gD g) cl0 ws_93 H1 := by rw [← ht9]; exact hP1
                    have hD : va_D A ws_93 := hD1.weaken (fun _ _ _ h => hFc _ h)
                    obtain ⟨hw9, xp_98⟩ := hw9
                    clear hP1 hD1 hz9 hk9 hvm9 ht9 hw9
                    generalize H1 = H at hP hS ⊢
                    have o_h0 := E_94.1 _ _ o_h0
                    refine lv_goto (tgt := 269) hx hb dX2_decodeLocal_243 (by decide) ?_
                    refine W.widen (k := 0) (n := 0) (Nat.le_of_ble_eq_true rfl) (Nat.le_of_ble_eq_true rfl) ?_
                    exact W.vret hx hb hr (fun t9 ht9 hW9 => ⟨⟨ws_93, rfl, ⟨trivial, ⟨_, _, xp_98, fun h9 => absurd h9 (by unfold isS; decide)⟩⟩, ⟨E_94, Fr_95, hG, by rw [ht9]; exact hP, hD⟩⟩, hS.F ht9⟩) hS.2.2 dX2_decodeLocal_269
                  · refine lv_bipush (v := 54) hx hb dX2_decodeLocal_226 (by decide) ?_
                    refine lv_goto (tgt := 233) hx hb dX2_decodeLocal_228 (by decide) ?_
                    refine lv_iload_n hx hb dX2_decodeLocal_233 rfl (lv_at hl 0 rfl) ?_
                    refine lv_bipush (v := 59) hx hb dX2_decodeLocal_234 (by decide) ?_
                    refine lv_isub hx hb dX2_decodeLocal_236 ?_
                    refine lv_topi (fun z_99 ez_99 => ?_)
                    refine lv_iconst (v := 3) hx hb dX2_decodeLocal_237 (by decide) ?_
                    refine lv_iand hx hb dX2_decodeLocal_238 ?_
                    refine lv_topi (fun z_100 ez_100 => ?_)
                    obtain ⟨z_101, ez_101⟩ : ∃ y : Int64, (z_100 : Int32).toInt64 = y := ⟨_, rfl⟩
                    refine lv_i2l (v := z_101) hx hb dX2_decodeLocal_239 ez_101 ?_
                    have hFc := gfree hD hS hA
                    obtain ⟨k_102, fs_102, hk_102⟩ := gC_of o_h0
                    refine va_callv (va_runV (As := [.int 54, .long z_101]) (rest := []) ⟨hx, hb, hml, hown, hts⟩ (m_X2_set_y l g H.size ws h0 (54) (z_101) hG o_h0) (cwV 2 hts (gd_V kw_684 kw_793 kw_794 kw_389 kw_792) rfl rfl rfl (by decide +kernel) ⟨Nat.le_of_ble_eq_true rfl, Nat.le_of_ble_eq_true rfl⟩) ⟨gblind, va_recv hK hP (ci := 2) (q0 := k_102) rfl hk_102, fun U hU hW9 => gmk hU hW9 hP hK hD hex hE hS hFc⟩ rfl rfl hl.1 rfl (lv_room (Nat.le_of_ble_eq_true rfl)) dX2_decodeLocal_240 ⟨Nat.le_of_ble_eq_true rfl, Nat.le_of_ble_eq_true rfl⟩) hS (fun q _ h => hFc q h) hFc (fun  ws_103 t9 H1 locs ht9 hvm9 hw9 hB9 hz9 hk9 hS => ?_)
                    obtain ⟨E_104, Fr_105, hG, hP1, hD1⟩ := hB9
                    have hP : va_P (gD g) cl0 ws_103 H1 := by rw [← ht9]; exact hP1
                    have hD : va_D A ws_103 := hD1.weaken (fun _ _ _ h => hFc _ h)
                    obtain ⟨hw9, xp_108⟩ := hw9
                    clear hP1 hD1 hz9 hk9 hvm9 ht9 hw9
                    generalize H1 = H at hP hS ⊢
                    have o_h0 := E_104.1 _ _ o_h0
                    refine lv_goto (tgt := 269) hx hb dX2_decodeLocal_243 (by decide) ?_
                    refine W.widen (k := 0) (n := 0) (Nat.le_of_ble_eq_true rfl) (Nat.le_of_ble_eq_true rfl) ?_
                    exact W.vret hx hb hr (fun t9 ht9 hW9 => ⟨⟨ws_103, rfl, ⟨trivial, ⟨_, _, xp_108, fun h9 => absurd h9 (by unfold isS; decide)⟩⟩, ⟨E_104, Fr_105, hG, by rw [ht9]; exact hP, hD⟩⟩, hS.F ht9⟩) hS.2.2 dX2_decodeLocal_269
            · refine lv_aload_n hx hb dX2_decodeLocal_193 rfl (lv_at hl 1 rfl) ?_
              refine lv_bipush (v := 25) hx hb dX2_decodeLocal_194 (by decide) ?_
              refine lv_iload_n hx hb dX2_decodeLocal_196 rfl (lv_at hl 0 rfl) ?_
              refine lv_bipush (v := 42) hx hb dX2_decodeLocal_197 (by decide) ?_
              refine lv_isub hx hb dX2_decodeLocal_199 ?_
              refine lv_topi (fun z_109 ez_109 => ?_)
              obtain ⟨z_110, ez_110⟩ : ∃ y : Int64, (z_109 : Int32).toInt64 = y := ⟨_, rfl⟩
              refine lv_i2l (v := z_110) hx hb dX2_decodeLocal_200 ez_110 ?_
              have hFc := gfree hD hS hA
              obtain ⟨k_111, fs_111, hk_111⟩ := gC_of o_h0
              refine va_callv (va_runV (As := [.int 25, .long z_110]) (rest := []) ⟨hx, hb, hml, hown, hts⟩ (m_X2_set_y l g H.size ws h0 (25) (z_110) hG o_h0) (cwV 2 hts (gd_V kw_684 kw_793 kw_794 kw_389 kw_792) rfl rfl rfl (by decide +kernel) ⟨Nat.le_of_ble_eq_true rfl, Nat.le_of_ble_eq_true rfl⟩) ⟨gblind, va_recv hK hP (ci := 2) (q0 := k_111) rfl hk_111, fun U hU hW9 => gmk hU hW9 hP hK hD hex hE hS hFc⟩ rfl rfl hl.1 rfl (lv_room (Nat.le_of_ble_eq_true rfl)) dX2_decodeLocal_201 ⟨Nat.le_of_ble_eq_true rfl, Nat.le_of_ble_eq_true rfl⟩) hS (fun q _ h => hFc q h) hFc (fun  ws_112 t9 H1 locs ht9 hvm9 hw9 hB9 hz9 hk9 hS => ?_)
              obtain ⟨E_113, Fr_114, hG, hP1, hD1⟩ := hB9
              have hP : va_P (gD g) cl0 ws_112 H1 := by rw [← ht9]; exact hP1
              have hD : va_D A ws_112 := hD1.weaken (fun _ _ _ h => hFc _ h)
              obtain ⟨hw9, xp_117⟩ := hw9
              clear hP1 hD1 hz9 hk9 hvm9 ht9 hw9
              generalize H1 = H at hP hS ⊢
              have o_h0 := E_113.1 _ _ o_h0
              refine lv_goto (tgt := 269) hx hb dX2_decodeLocal_204 (by decide) ?_
              refine W.widen (k := 0) (n := 0) (Nat.le_of_ble_eq_true rfl) (Nat.le_of_ble_eq_true rfl) ?_
              exact W.vret hx hb hr (fun t9 ht9 hW9 => ⟨⟨ws_112, rfl, ⟨trivial, ⟨_, _, xp_117, fun h9 => absurd h9 (by unfold isS; decide)⟩⟩, ⟨E_113, Fr_114, hG, by rw [ht9]; exact hP, hD⟩⟩, hS.F ht9⟩) hS.2.2 dX2_decodeLocal_269
        · refine lv_iload_n hx hb dX2_decodeLocal_148 rfl (lv_at hl 0 rfl) ?_
          refine lv_bipush (v := 33) hx hb dX2_decodeLocal_149 (by decide) ?_
          refine lv_icmp_gt (tgt := 181) hx hb dX2_decodeLocal_151 (by decide) (fun c_118 => ?_) (fun c_118 => ?_)
          · refine lv_iload_n hx hb dX2_decodeLocal_181 rfl (lv_at hl 0 rfl) ?_
            refine lv_bipush (v := 42) hx hb dX2_decodeLocal_182 (by decide) ?_
            refine lv_icmp_lt (tgt := 207) hx hb dX2_decodeLocal_184 (by decide) (fun c_119 => ?_) (fun c_119 => ?_)
            · refine lv_iload_n hx hb dX2_decodeLocal_207 rfl (lv_at hl 0 rfl) ?_
              refine lv_bipush (v := 59) hx hb dX2_decodeLocal_208 (by decide) ?_
              refine lv_icmp_lt (tgt := 246) hx hb dX2_decodeLocal_210 (by decide) (fun c_120 => ?_) (fun c_120 => ?_)
              · refine lv_iload_n hx hb dX2_decodeLocal_246 rfl (lv_at hl 0 rfl) ?_
                refine lv_bipush (v := 75) hx hb dX2_decodeLocal_247 (by decide) ?_
                refine lv_icmp_lt (tgt := 269) hx hb dX2_decodeLocal_249 (by decide) (fun c_121 => ?_) (fun c_121 => ?_)
                · refine W.widen (k := 0) (n := 0) (Nat.le_of_ble_eq_true rfl) (Nat.le_of_ble_eq_true rfl) ?_
                  obtain ⟨k_122, fs9, hk_122⟩ := gC_of o_h0
                  obtain ⟨r0_122, c1_122, c2_122, c3_122, c4_122, c5_122, c6_122, r7_122, n7_122, c8_122, c9_122, l10_122, c11_122, rfl, o_r0_122, a_r7_122, f2_122, f3_122, f4_122, -⟩ := (hG.1 _ _ _ _ hk_122).hX2 rfl
                  exact W.vret hx hb hr (fun t9 ht9 hW9 => ⟨⟨ws, rfl, ⟨trivial, ⟨_, _, ⟨_, _, hk_122, rfl, rfl⟩, fun _ => Or.inl ⟨_, ⟨_, _, hk_122, rfl, rfl⟩⟩⟩⟩, ⟨gE.rf, gF.rf, hG, by rw [ht9]; exact hP, hD⟩⟩, hS.F ht9⟩) hS.2.2 dX2_decodeLocal_269
                · refine lv_iload_n hx hb dX2_decodeLocal_252 rfl (lv_at hl 0 rfl) ?_
                  refine lv_bipush (v := 78) hx hb dX2_decodeLocal_253 (by decide) ?_
                  refine lv_icmp_gt (tgt := 269) hx hb dX2_decodeLocal_255 (by decide) (fun c_123 => ?_) (fun c_123 => ?_)
                  · refine W.widen (k := 0) (n := 0) (Nat.le_of_ble_eq_true rfl) (Nat.le_of_ble_eq_true rfl) ?_
                    obtain ⟨k_124, fs9, hk_124⟩ := gC_of o_h0
                    obtain ⟨r0_124, c1_124, c2_124, c3_124, c4_124, c5_124, c6_124, r7_124, n7_124, c8_124, c9_124, l10_124, c11_124, rfl, o_r0_124, a_r7_124, f2_124, f3_124, f4_124, -⟩ := (hG.1 _ _ _ _ hk_124).hX2 rfl
                    exact W.vret hx hb hr (fun t9 ht9 hW9 => ⟨⟨ws, rfl, ⟨trivial, ⟨_, _, ⟨_, _, hk_124, rfl, rfl⟩, fun _ => Or.inl ⟨_, ⟨_, _, hk_124, rfl, rfl⟩⟩⟩⟩, ⟨gE.rf, gF.rf, hG, by rw [ht9]; exact hP, hD⟩⟩, hS.F ht9⟩) hS.2.2 dX2_decodeLocal_269
                  · refine lv_aload_n hx hb dX2_decodeLocal_258 rfl (lv_at hl 1 rfl) ?_
                    refine lv_bipush (v := 58) hx hb dX2_decodeLocal_259 (by decide) ?_
                    refine lv_iload_n hx hb dX2_decodeLocal_261 rfl (lv_at hl 0 rfl) ?_
                    refine lv_bipush (v := 75) hx hb dX2_decodeLocal_262 (by decide) ?_
                    refine lv_isub hx hb dX2_decodeLocal_264 ?_
                    refine lv_topi (fun z_125 ez_125 => ?_)
                    obtain ⟨z_126, ez_126⟩ : ∃ y : Int64, (z_125 : Int32).toInt64 = y := ⟨_, rfl⟩
                    refine lv_i2l (v := z_126) hx hb dX2_decodeLocal_265 ez_126 ?_
                    have hFc := gfree hD hS hA
                    obtain ⟨k_127, fs_127, hk_127⟩ := gC_of o_h0
                    refine va_callv (va_runV (As := [.int 58, .long z_126]) (rest := []) ⟨hx, hb, hml, hown, hts⟩ (m_X2_set_y l g H.size ws h0 (58) (z_126) hG o_h0) (cwV 2 hts (gd_V kw_684 kw_793 kw_794 kw_389 kw_792) rfl rfl rfl (by decide +kernel) ⟨Nat.le_of_ble_eq_true rfl, Nat.le_of_ble_eq_true rfl⟩) ⟨gblind, va_recv hK hP (ci := 2) (q0 := k_127) rfl hk_127, fun U hU hW9 => gmk hU hW9 hP hK hD hex hE hS hFc⟩ rfl rfl hl.1 rfl (lv_room (Nat.le_of_ble_eq_true rfl)) dX2_decodeLocal_266 ⟨Nat.le_of_ble_eq_true rfl, Nat.le_of_ble_eq_true rfl⟩) hS (fun q _ h => hFc q h) hFc (fun  ws_128 t9 H1 locs ht9 hvm9 hw9 hB9 hz9 hk9 hS => ?_)
                    obtain ⟨E_129, Fr_130, hG, hP1, hD1⟩ := hB9
                    have hP : va_P (gD g) cl0 ws_128 H1 := by rw [← ht9]; exact hP1
                    have hD : va_D A ws_128 := hD1.weaken (fun _ _ _ h => hFc _ h)
                    obtain ⟨hw9, xp_133⟩ := hw9
                    clear hP1 hD1 hz9 hk9 hvm9 ht9 hw9
                    generalize H1 = H at hP hS ⊢
                    have o_h0 := E_129.1 _ _ o_h0
                    refine W.widen (k := 0) (n := 0) (Nat.le_of_ble_eq_true rfl) (Nat.le_of_ble_eq_true rfl) ?_
                    exact W.vret hx hb hr (fun t9 ht9 hW9 => ⟨⟨ws_128, rfl, ⟨trivial, ⟨_, _, xp_133, fun h9 => absurd h9 (by unfold isS; decide)⟩⟩, ⟨E_129, Fr_130, hG, by rw [ht9]; exact hP, hD⟩⟩, hS.F ht9⟩) hS.2.2 dX2_decodeLocal_269
              · refine lv_iload_n hx hb dX2_decodeLocal_213 rfl (lv_at hl 0 rfl) ?_
                refine lv_bipush (v := 66) hx hb dX2_decodeLocal_214 (by decide) ?_
                refine lv_icmp_gt (tgt := 246) hx hb dX2_decodeLocal_216 (by decide) (fun c_134 => ?_) (fun c_134 => ?_)
                · refine lv_iload_n hx hb dX2_decodeLocal_246 rfl (lv_at hl 0 rfl) ?_
                  refine lv_bipush (v := 75) hx hb dX2_decodeLocal_247 (by decide) ?_
                  refine lv_icmp_lt (tgt := 269) hx hb dX2_decodeLocal_249 (by decide) (fun c_135 => ?_) (fun c_135 => ?_)
                  · refine W.widen (k := 0) (n := 0) (Nat.le_of_ble_eq_true rfl) (Nat.le_of_ble_eq_true rfl) ?_
                    obtain ⟨k_136, fs9, hk_136⟩ := gC_of o_h0
                    obtain ⟨r0_136, c1_136, c2_136, c3_136, c4_136, c5_136, c6_136, r7_136, n7_136, c8_136, c9_136, l10_136, c11_136, rfl, o_r0_136, a_r7_136, f2_136, f3_136, f4_136, -⟩ := (hG.1 _ _ _ _ hk_136).hX2 rfl
                    exact W.vret hx hb hr (fun t9 ht9 hW9 => ⟨⟨ws, rfl, ⟨trivial, ⟨_, _, ⟨_, _, hk_136, rfl, rfl⟩, fun _ => Or.inl ⟨_, ⟨_, _, hk_136, rfl, rfl⟩⟩⟩⟩, ⟨gE.rf, gF.rf, hG, by rw [ht9]; exact hP, hD⟩⟩, hS.F ht9⟩) hS.2.2 dX2_decodeLocal_269
                  · refine lv_iload_n hx hb dX2_decodeLocal_252 rfl (lv_at hl 0 rfl) ?_
                    refine lv_bipush (v := 78) hx hb dX2_decodeLocal_253 (by decide) ?_
                    refine lv_icmp_gt (tgt := 269) hx hb dX2_decodeLocal_255 (by decide) (fun c_137 => ?_) (fun c_137 => ?_)
                    · refine W.widen (k := 0) (n := 0) (Nat.le_of_ble_eq_true rfl) (Nat.le_of_ble_eq_true rfl) ?_
                      obtain ⟨k_138, fs9, hk_138⟩ := gC_of o_h0
                      obtain ⟨r0_138, c1_138, c2_138, c3_138, c4_138, c5_138, c6_138, r7_138, n7_138, c8_138, c9_138, l10_138, c11_138, rfl, o_r0_138, a_r7_138, f2_138, f3_138, f4_138, -⟩ := (hG.1 _ _ _ _ hk_138).hX2 rfl
                      exact W.vret hx hb hr (fun t9 ht9 hW9 => ⟨⟨ws, rfl, ⟨trivial, ⟨_, _, ⟨_, _, hk_138, rfl, rfl⟩, fun _ => Or.inl ⟨_, ⟨_, _, hk_138, rfl, rfl⟩⟩⟩⟩, ⟨gE.rf, gF.rf, hG, by rw [ht9]; exact hP, hD⟩⟩, hS.F ht9⟩) hS.2.2 dX2_decodeLocal_269
                    · refine lv_aload_n hx hb dX2_decodeLocal_258 rfl (lv_at hl 1 rfl) ?_
                      refine lv_bipush (v := 58) hx hb dX2_decodeLocal_259 (by decide) ?_
                      refine lv_iload_n hx hb dX2_decodeLocal_261 rfl (lv_at hl 0 rfl) ?_
                      refine lv_bipush (v := 75) hx hb dX2_decodeLocal_262 (by decide) ?_
                      refine lv_isub hx hb dX2_decodeLocal_264 ?_
                      refine lv_topi (fun z_139 ez_139 => ?_)
                      obtain ⟨z_140, ez_140⟩ : ∃ y : Int64, (z_139 : Int32).toInt64 = y := ⟨_, rfl⟩
                      refine lv_i2l (v := z_140) hx hb dX2_decodeLocal_265 ez_140 ?_
                      have hFc := gfree hD hS hA
                      obtain ⟨k_141, fs_141, hk_141⟩ := gC_of o_h0
                      refine va_callv (va_runV (As := [.int 58, .long z_140]) (rest := []) ⟨hx, hb, hml, hown, hts⟩ (m_X2_set_y l g H.size ws h0 (58) (z_140) hG o_h0) (cwV 2 hts (gd_V kw_684 kw_793 kw_794 kw_389 kw_792) rfl rfl rfl (by decide +kernel) ⟨Nat.le_of_ble_eq_true rfl, Nat.le_of_ble_eq_true rfl⟩) ⟨gblind, va_recv hK hP (ci := 2) (q0 := k_141) rfl hk_141, fun U hU hW9 => gmk hU hW9 hP hK hD hex hE hS hFc⟩ rfl rfl hl.1 rfl (lv_room (Nat.le_of_ble_eq_true rfl)) dX2_decodeLocal_266 ⟨Nat.le_of_ble_eq_true rfl, Nat.le_of_ble_eq_true rfl⟩) hS (fun q _ h => hFc q h) hFc (fun  ws_142 t9 H1 locs ht9 hvm9 hw9 hB9 hz9 hk9 hS => ?_)
                      obtain ⟨E_143, Fr_144, hG, hP1, hD1⟩ := hB9
                      have hP : va_P (gD g) cl0 ws_142 H1 := by rw [← ht9]; exact hP1
                      have hD : va_D A ws_142 := hD1.weaken (fun _ _ _ h => hFc _ h)
                      obtain ⟨hw9, xp_147⟩ := hw9
                      clear hP1 hD1 hz9 hk9 hvm9 ht9 hw9
                      generalize H1 = H at hP hS ⊢
                      have o_h0 := E_143.1 _ _ o_h0
                      refine W.widen (k := 0) (n := 0) (Nat.le_of_ble_eq_true rfl) (Nat.le_of_ble_eq_true rfl) ?_
                      exact W.vret hx hb hr (fun t9 ht9 hW9 => ⟨⟨ws_142, rfl, ⟨trivial, ⟨_, _, xp_147, fun h9 => absurd h9 (by unfold isS; decide)⟩⟩, ⟨E_143, Fr_144, hG, by rw [ht9]; exact hP, hD⟩⟩, hS.F ht9⟩) hS.2.2 dX2_decodeLocal_269
                · refine lv_aload_n hx hb dX2_decodeLocal_219 rfl (lv_at hl 1 rfl) ?_
                  refine lv_iload_n hx hb dX2_decodeLocal_220 rfl (lv_at hl 0 rfl) ?_
                  refine lv_bipush (v := 63) hx hb dX2_decodeLocal_221 (by decide) ?_
                  refine lv_icmp_ge (tgt := 231) hx hb dX2_decodeLocal_223 (by decide) (fun c_148 => ?_) (fun c_148 => ?_)
                  · refine lv_bipush (v := 55) hx hb dX2_decodeLocal_231 (by decide) ?_
                    refine lv_iload_n hx hb dX2_decodeLocal_233 rfl (lv_at hl 0 rfl) ?_
                    refine lv_bipush (v := 59) hx hb dX2_decodeLocal_234 (by decide) ?_
                    refine lv_isub hx hb dX2_decodeLocal_236 ?_
                    refine lv_topi (fun z_149 ez_149 => ?_)
                    refine lv_iconst (v := 3) hx hb dX2_decodeLocal_237 (by decide) ?_
                    refine lv_iand hx hb dX2_decodeLocal_238 ?_
                    refine lv_topi (fun z_150 ez_150 => ?_)
                    obtain ⟨z_151, ez_151⟩ : ∃ y : Int64, (z_150 : Int32).toInt64 = y := ⟨_, rfl⟩
                    refine lv_i2l (v := z_151) hx hb dX2_decodeLocal_239 ez_151 ?_
                    have hFc := gfree hD hS hA
                    obtain ⟨k_152, fs_152, hk_152⟩ := gC_of o_h0
                    refine va_callv (va_runV (As := [.int 55, .long z_151]) (rest := []) ⟨hx, hb, hml, hown, hts⟩ (m_X2_set_y l g H.size ws h0 (55) (z_151) hG o_h0) (cwV 2 hts (gd_V kw_684 kw_793 kw_794 kw_389 kw_792) rfl rfl rfl (by decide +kernel) ⟨Nat.le_of_ble_eq_true rfl, Nat.le_of_ble_eq_true rfl⟩) ⟨gblind, va_recv hK hP (ci := 2) (q0 := k_152) rfl hk_152, fun U hU hW9 => gmk hU hW9 hP hK hD hex hE hS hFc⟩ rfl rfl hl.1 rfl (lv_room (Nat.le_of_ble_eq_true rfl)) dX2_decodeLocal_240 ⟨Nat.le_of_ble_eq_true rfl, Nat.le_of_ble_eq_true rfl⟩) hS (fun q _ h => hFc q h) hFc (fun  ws_153 t9 H1 locs ht9 hvm9 hw9 hB9 hz9 hk9 hS => ?_)
                    obtain ⟨E_154, Fr_155, hG, hP1, hD1⟩ := hB9
                    have hP : va_P (gD g) cl0 ws_153 H1 := by rw [← ht9]; exact hP1
                    have hD : va_D A ws_153 := hD1.weaken (fun _ _ _ h => hFc _ h)
                    obtain ⟨hw9, xp_158⟩ := hw9
                    clear hP1 hD1 hz9 hk9 hvm9 ht9 hw9
                    generalize H1 = H at hP hS ⊢
                    have o_h0 := E_154.1 _ _ o_h0
                    refine lv_goto (tgt := 269) hx hb dX2_decodeLocal_243 (by decide) ?_
                    refine W.widen (k := 0) (n := 0) (Nat.le_of_ble_eq_true rfl) (Nat.le_of_ble_eq_true rfl) ?_
                    exact W.vret hx hb hr (fun t9 ht9 hW9 => ⟨⟨ws_153, rfl, ⟨trivial, ⟨_, _, xp_158, fun h9 => absurd h9 (by unfold isS; decide)⟩⟩, ⟨E_154, Fr_155, hG, by rw [ht9]; exact hP, hD⟩⟩, hS.F ht9⟩) hS.2.2 dX2_decodeLocal_269
                  · refine lv_bipush (v := 54) hx hb dX2_decodeLocal_226 (by decide) ?_
                    refine lv_goto (tgt := 233) hx hb dX2_decodeLocal_228 (by decide) ?_
                    refine lv_iload_n hx hb dX2_decodeLocal_233 rfl (lv_at hl 0 rfl) ?_
                    refine lv_bipush (v := 59) hx hb dX2_decodeLocal_234 (by decide) ?_
                    refine lv_isub hx hb dX2_decodeLocal_236 ?_
                    refine lv_topi (fun z_159 ez_159 => ?_)
                    refine lv_iconst (v := 3) hx hb dX2_decodeLocal_237 (by decide) ?_
                    refine lv_iand hx hb dX2_decodeLocal_238 ?_
                    refine lv_topi (fun z_160 ez_160 => ?_)
                    obtain ⟨z_161, ez_161⟩ : ∃ y : Int64, (z_160 : Int32).toInt64 = y := ⟨_, rfl⟩
                    refine lv_i2l (v := z_161) hx hb dX2_decodeLocal_239 ez_161 ?_
                    have hFc := gfree hD hS hA
                    obtain ⟨k_162, fs_162, hk_162⟩ := gC_of o_h0
                    refine va_callv (va_runV (As := [.int 54, .long z_161]) (rest := []) ⟨hx, hb, hml, hown, hts⟩ (m_X2_set_y l g H.size ws h0 (54) (z_161) hG o_h0) (cwV 2 hts (gd_V kw_684 kw_793 kw_794 kw_389 kw_792) rfl rfl rfl (by decide +kernel) ⟨Nat.le_of_ble_eq_true rfl, Nat.le_of_ble_eq_true rfl⟩) ⟨gblind, va_recv hK hP (ci := 2) (q0 := k_162) rfl hk_162, fun U hU hW9 => gmk hU hW9 hP hK hD hex hE hS hFc⟩ rfl rfl hl.1 rfl (lv_room (Nat.le_of_ble_eq_true rfl)) dX2_decodeLocal_240 ⟨Nat.le_of_ble_eq_true rfl, Nat.le_of_ble_eq_true rfl⟩) hS (fun q _ h => hFc q h) hFc (fun  ws_163 t9 H1 locs ht9 hvm9 hw9 hB9 hz9 hk9 hS => ?_)
                    obtain ⟨E_164, Fr_165, hG, hP1, hD1⟩ := hB9
                    have hP : va_P (gD g) cl0 ws_163 H1 := by rw [← ht9]; exact hP1
                    have hD : va_D A ws_163 := hD1.weaken (fun _ _ _ h => hFc _ h)
                    obtain ⟨hw9, xp_168⟩ := hw9
                    clear hP1 hD1 hz9 hk9 hvm9 ht9 hw9
                    generalize H1 = H at hP hS ⊢
                    have o_h0 := E_164.1 _ _ o_h0
                    refine lv_goto (tgt := 269) hx hb dX2_decodeLocal_243 (by decide) ?_
                    refine W.widen (k := 0) (n := 0) (Nat.le_of_ble_eq_true rfl) (Nat.le_of_ble_eq_true rfl) ?_
                    exact W.vret hx hb hr (fun t9 ht9 hW9 => ⟨⟨ws_163, rfl, ⟨trivial, ⟨_, _, xp_168, fun h9 => absurd h9 (by unfold isS; decide)⟩⟩, ⟨E_164, Fr_165, hG, by rw [ht9]; exact hP, hD⟩⟩, hS.F ht9⟩) hS.2.2 dX2_decodeLocal_269
            · refine lv_iload_n hx hb dX2_decodeLocal_187 rfl (lv_at hl 0 rfl) ?_
              refine lv_bipush (v := 45) hx hb dX2_decodeLocal_188 (by decide) ?_
              refine lv_icmp_gt (tgt := 207) hx hb dX2_decodeLocal_190 (by decide) (fun c_169 => ?_) (fun c_169 => ?_)
              · refine lv_iload_n hx hb dX2_decodeLocal_207 rfl (lv_at hl 0 rfl) ?_
                refine lv_bipush (v := 59) hx hb dX2_decodeLocal_208 (by decide) ?_
                refine lv_icmp_lt (tgt := 246) hx hb dX2_decodeLocal_210 (by decide) (fun c_170 => ?_) (fun c_170 => ?_)
                · refine lv_iload_n hx hb dX2_decodeLocal_246 rfl (lv_at hl 0 rfl) ?_
                  refine lv_bipush (v := 75) hx hb dX2_decodeLocal_247 (by decide) ?_
                  refine lv_icmp_lt (tgt := 269) hx hb dX2_decodeLocal_249 (by decide) (fun c_171 => ?_) (fun c_171 => ?_)
                  · refine W.widen (k := 0) (n := 0) (Nat.le_of_ble_eq_true rfl) (Nat.le_of_ble_eq_true rfl) ?_
                    obtain ⟨k_172, fs9, hk_172⟩ := gC_of o_h0
                    obtain ⟨r0_172, c1_172, c2_172, c3_172, c4_172, c5_172, c6_172, r7_172, n7_172, c8_172, c9_172, l10_172, c11_172, rfl, o_r0_172, a_r7_172, f2_172, f3_172, f4_172, -⟩ := (hG.1 _ _ _ _ hk_172).hX2 rfl
                    exact W.vret hx hb hr (fun t9 ht9 hW9 => ⟨⟨ws, rfl, ⟨trivial, ⟨_, _, ⟨_, _, hk_172, rfl, rfl⟩, fun _ => Or.inl ⟨_, ⟨_, _, hk_172, rfl, rfl⟩⟩⟩⟩, ⟨gE.rf, gF.rf, hG, by rw [ht9]; exact hP, hD⟩⟩, hS.F ht9⟩) hS.2.2 dX2_decodeLocal_269
                  · refine lv_iload_n hx hb dX2_decodeLocal_252 rfl (lv_at hl 0 rfl) ?_
                    refine lv_bipush (v := 78) hx hb dX2_decodeLocal_253 (by decide) ?_
                    refine lv_icmp_gt (tgt := 269) hx hb dX2_decodeLocal_255 (by decide) (fun c_173 => ?_) (fun c_173 => ?_)
                    · refine W.widen (k := 0) (n := 0) (Nat.le_of_ble_eq_true rfl) (Nat.le_of_ble_eq_true rfl) ?_
                      obtain ⟨k_174, fs9, hk_174⟩ := gC_of o_h0
                      obtain ⟨r0_174, c1_174, c2_174, c3_174, c4_174, c5_174, c6_174, r7_174, n7_174, c8_174, c9_174, l10_174, c11_174, rfl, o_r0_174, a_r7_174, f2_174, f3_174, f4_174, -⟩ := (hG.1 _ _ _ _ hk_174).hX2 rfl
                      exact W.vret hx hb hr (fun t9 ht9 hW9 => ⟨⟨ws, rfl, ⟨trivial, ⟨_, _, ⟨_, _, hk_174, rfl, rfl⟩, fun _ => Or.inl ⟨_, ⟨_, _, hk_174, rfl, rfl⟩⟩⟩⟩, ⟨gE.rf, gF.rf, hG, by rw [ht9]; exact hP, hD⟩⟩, hS.F ht9⟩) hS.2.2 dX2_decodeLocal_269
                    · refine lv_aload_n hx hb dX2_decodeLocal_258 rfl (lv_at hl 1 rfl) ?_
                      refine lv_bipush (v := 58) hx hb dX2_decodeLocal_259 (by decide) ?_
                      refine lv_iload_n hx hb dX2_decodeLocal_261 rfl (lv_at hl 0 rfl) ?_
                      refine lv_bipush (v := 75) hx hb dX2_decodeLocal_262 (by decide) ?_
                      refine lv_isub hx hb dX2_decodeLocal_264 ?_
                      refine lv_topi (fun z_175 ez_175 => ?_)
                      obtain ⟨z_176, ez_176⟩ : ∃ y : Int64, (z_175 : Int32).toInt64 = y := ⟨_, rfl⟩
                      refine lv_i2l (v := z_176) hx hb dX2_decodeLocal_265 ez_176 ?_
                      have hFc := gfree hD hS hA
                      obtain ⟨k_177, fs_177, hk_177⟩ := gC_of o_h0
                      refine va_callv (va_runV (As := [.int 58, .long z_176]) (rest := []) ⟨hx, hb, hml, hown, hts⟩ (m_X2_set_y l g H.size ws h0 (58) (z_176) hG o_h0) (cwV 2 hts (gd_V kw_684 kw_793 kw_794 kw_389 kw_792) rfl rfl rfl (by decide +kernel) ⟨Nat.le_of_ble_eq_true rfl, Nat.le_of_ble_eq_true rfl⟩) ⟨gblind, va_recv hK hP (ci := 2) (q0 := k_177) rfl hk_177, fun U hU hW9 => gmk hU hW9 hP hK hD hex hE hS hFc⟩ rfl rfl hl.1 rfl (lv_room (Nat.le_of_ble_eq_true rfl)) dX2_decodeLocal_266 ⟨Nat.le_of_ble_eq_true rfl, Nat.le_of_ble_eq_true rfl⟩) hS (fun q _ h => hFc q h) hFc (fun  ws_178 t9 H1 locs ht9 hvm9 hw9 hB9 hz9 hk9 hS => ?_)
                      obtain ⟨E_179, Fr_180, hG, hP1, hD1⟩ := hB9
                      have hP : va_P (gD g) cl0 ws_178 H1 := by rw [← ht9]; exact hP1
                      have hD : va_D A ws_178 := hD1.weaken (fun _ _ _ h => hFc _ h)
                      obtain ⟨hw9, xp_183⟩ := hw9
                      clear hP1 hD1 hz9 hk9 hvm9 ht9 hw9
                      generalize H1 = H at hP hS ⊢
                      have o_h0 := E_179.1 _ _ o_h0
                      refine W.widen (k := 0) (n := 0) (Nat.le_of_ble_eq_true rfl) (Nat.le_of_ble_eq_true rfl) ?_
                      exact W.vret hx hb hr (fun t9 ht9 hW9 => ⟨⟨ws_178, rfl, ⟨trivial, ⟨_, _, xp_183, fun h9 => absurd h9 (by unfold isS; decide)⟩⟩, ⟨E_179, Fr_180, hG, by rw [ht9]; exact hP, hD⟩⟩, hS.F ht9⟩) hS.2.2 dX2_decodeLocal_269
                · refine lv_iload_n hx hb dX2_decodeLocal_213 rfl (lv_at hl 0 rfl) ?_
                  refine lv_bipush (v := 66) hx hb dX2_decodeLocal_214 (by decide) ?_
                  refine lv_icmp_gt (tgt := 246) hx hb dX2_decodeLocal_216 (by decide) (fun c_184 => ?_) (fun c_184 => ?_)
                  · refine lv_iload_n hx hb dX2_decodeLocal_246 rfl (lv_at hl 0 rfl) ?_
                    refine lv_bipush (v := 75) hx hb dX2_decodeLocal_247 (by decide) ?_
                    refine lv_icmp_lt (tgt := 269) hx hb dX2_decodeLocal_249 (by decide) (fun c_185 => ?_) (fun c_185 => ?_)
                    · refine W.widen (k := 0) (n := 0) (Nat.le_of_ble_eq_true rfl) (Nat.le_of_ble_eq_true rfl) ?_
                      obtain ⟨k_186, fs9, hk_186⟩ := gC_of o_h0
                      obtain ⟨r0_186, c1_186, c2_186, c3_186, c4_186, c5_186, c6_186, r7_186, n7_186, c8_186, c9_186, l10_186, c11_186, rfl, o_r0_186, a_r7_186, f2_186, f3_186, f4_186, -⟩ := (hG.1 _ _ _ _ hk_186).hX2 rfl
                      exact W.vret hx hb hr (fun t9 ht9 hW9 => ⟨⟨ws, rfl, ⟨trivial, ⟨_, _, ⟨_, _, hk_186, rfl, rfl⟩, fun _ => Or.inl ⟨_, ⟨_, _, hk_186, rfl, rfl⟩⟩⟩⟩, ⟨gE.rf, gF.rf, hG, by rw [ht9]; exact hP, hD⟩⟩, hS.F ht9⟩) hS.2.2 dX2_decodeLocal_269
                    · refine lv_iload_n hx hb dX2_decodeLocal_252 rfl (lv_at hl 0 rfl) ?_
                      refine lv_bipush (v := 78) hx hb dX2_decodeLocal_253 (by decide) ?_
                      refine lv_icmp_gt (tgt := 269) hx hb dX2_decodeLocal_255 (by decide) (fun c_187 => ?_) (fun c_187 => ?_)
                      · refine W.widen (k := 0) (n := 0) (Nat.le_of_ble_eq_true rfl) (Nat.le_of_ble_eq_true rfl) ?_
                        obtain ⟨k_188, fs9, hk_188⟩ := gC_of o_h0
                        obtain ⟨r0_188, c1_188, c2_188, c3_188, c4_188, c5_188, c6_188, r7_188, n7_188, c8_188, c9_188, l10_188, c11_188, rfl, o_r0_188, a_r7_188, f2_188, f3_188, f4_188, -⟩ := (hG.1 _ _ _ _ hk_188).hX2 rfl
                        exact W.vret hx hb hr (fun t9 ht9 hW9 => ⟨⟨ws, rfl, ⟨trivial, ⟨_, _, ⟨_, _, hk_188, rfl, rfl⟩, fun _ => Or.inl ⟨_, ⟨_, _, hk_188, rfl, rfl⟩⟩⟩⟩, ⟨gE.rf, gF.rf, hG, by rw [ht9]; exact hP, hD⟩⟩, hS.F ht9⟩) hS.2.2 dX2_decodeLocal_269
                      · refine lv_aload_n hx hb dX2_decodeLocal_258 rfl (lv_at hl 1 rfl) ?_
                        refine lv_bipush (v := 58) hx hb dX2_decodeLocal_259 (by decide) ?_
                        refine lv_iload_n hx hb dX2_decodeLocal_261 rfl (lv_at hl 0 rfl) ?_
                        refine lv_bipush (v := 75) hx hb dX2_decodeLocal_262 (by decide) ?_
                        refine lv_isub hx hb dX2_decodeLocal_264 ?_
                        refine lv_topi (fun z_189 ez_189 => ?_)
                        obtain ⟨z_190, ez_190⟩ : ∃ y : Int64, (z_189 : Int32).toInt64 = y := ⟨_, rfl⟩
                        refine lv_i2l (v := z_190) hx hb dX2_decodeLocal_265 ez_190 ?_
                        have hFc := gfree hD hS hA
                        obtain ⟨k_191, fs_191, hk_191⟩ := gC_of o_h0
                        refine va_callv (va_runV (As := [.int 58, .long z_190]) (rest := []) ⟨hx, hb, hml, hown, hts⟩ (m_X2_set_y l g H.size ws h0 (58) (z_190) hG o_h0) (cwV 2 hts (gd_V kw_684 kw_793 kw_794 kw_389 kw_792) rfl rfl rfl (by decide +kernel) ⟨Nat.le_of_ble_eq_true rfl, Nat.le_of_ble_eq_true rfl⟩) ⟨gblind, va_recv hK hP (ci := 2) (q0 := k_191) rfl hk_191, fun U hU hW9 => gmk hU hW9 hP hK hD hex hE hS hFc⟩ rfl rfl hl.1 rfl (lv_room (Nat.le_of_ble_eq_true rfl)) dX2_decodeLocal_266 ⟨Nat.le_of_ble_eq_true rfl, Nat.le_of_ble_eq_true rfl⟩) hS (fun q _ h => hFc q h) hFc (fun  ws_192 t9 H1 locs ht9 hvm9 hw9 hB9 hz9 hk9 hS => ?_)
                        obtain ⟨E_193, Fr_194, hG, hP1, hD1⟩ := hB9
                        have hP : va_P (gD g) cl0 ws_192 H1 := by rw [← ht9]; exact hP1
                        have hD : va_D A ws_192 := hD1.weaken (fun _ _ _ h => hFc _ h)
                        obtain ⟨hw9, xp_197⟩ := hw9
                        clear hP1 hD1 hz9 hk9 hvm9 ht9 hw9
                        generalize H1 = H at hP hS ⊢
                        have o_h0 := E_193.1 _ _ o_h0
                        refine W.widen (k := 0) (n := 0) (Nat.le_of_ble_eq_true rfl) (Nat.le_of_ble_eq_true rfl) ?_
                        exact W.vret hx hb hr (fun t9 ht9 hW9 => ⟨⟨ws_192, rfl, ⟨trivial, ⟨_, _, xp_197, fun h9 => absurd h9 (by unfold isS; decide)⟩⟩, ⟨E_193, Fr_194, hG, by rw [ht9]; exact hP, hD⟩⟩, hS.F ht9⟩) hS.2.2 dX2_decodeLocal_269
                  · refine lv_aload_n hx hb dX2_decodeLocal_219 rfl (lv_at hl 1 rfl) ?_
                    refine lv_iload_n hx hb dX2_decodeLocal_220 rfl (lv_at hl 0 rfl) ?_
                    refine lv_bipush (v := 63) hx hb dX2_decodeLocal_221 (by decide) ?_
                    refine lv_icmp_ge (tgt := 231) hx hb dX2_decodeLocal_223 (by decide) (fun c_198 => ?_) (fun c_198 => ?_)
                    · refine lv_bipush (v := 55) hx hb dX2_decodeLocal_231 (by decide) ?_
                      refine lv_iload_n hx hb dX2_decodeLocal_233 rfl (lv_at hl 0 rfl) ?_
                      refine lv_bipush (v := 59) hx hb dX2_decodeLocal_234 (by decide) ?_
                      refine lv_isub hx hb dX2_decodeLocal_236 ?_
                      refine lv_topi (fun z_199 ez_199 => ?_)
                      refine lv_iconst (v := 3) hx hb dX2_decodeLocal_237 (by decide) ?_
                      refine lv_iand hx hb dX2_decodeLocal_238 ?_
                      refine lv_topi (fun z_200 ez_200 => ?_)
                      obtain ⟨z_201, ez_201⟩ : ∃ y : Int64, (z_200 : Int32).toInt64 = y := ⟨_, rfl⟩
                      refine lv_i2l (v := z_201) hx hb dX2_decodeLocal_239 ez_201 ?_
                      have hFc := gfree hD hS hA
                      obtain ⟨k_202, fs_202, hk_202⟩ := gC_of o_h0
                      refine va_callv (va_runV (As := [.int 55, .long z_201]) (rest := []) ⟨hx, hb, hml, hown, hts⟩ (m_X2_set_y l g H.size ws h0 (55) (z_201) hG o_h0) (cwV 2 hts (gd_V kw_684 kw_793 kw_794 kw_389 kw_792) rfl rfl rfl (by decide +kernel) ⟨Nat.le_of_ble_eq_true rfl, Nat.le_of_ble_eq_true rfl⟩) ⟨gblind, va_recv hK hP (ci := 2) (q0 := k_202) rfl hk_202, fun U hU hW9 => gmk hU hW9 hP hK hD hex hE hS hFc⟩ rfl rfl hl.1 rfl (lv_room (Nat.le_of_ble_eq_true rfl)) dX2_decodeLocal_240 ⟨Nat.le_of_ble_eq_true rfl, Nat.le_of_ble_eq_true rfl⟩) hS (fun q _ h => hFc q h) hFc (fun  ws_203 t9 H1 locs ht9 hvm9 hw9 hB9 hz9 hk9 hS => ?_)
                      obtain ⟨E_204, Fr_205, hG, hP1, hD1⟩ := hB9
                      have hP : va_P (gD g) cl0 ws_203 H1 := by rw [← ht9]; exact hP1
                      have hD : va_D A ws_203 := hD1.weaken (fun _ _ _ h => hFc _ h)
                      obtain ⟨hw9, xp_208⟩ := hw9
                      clear hP1 hD1 hz9 hk9 hvm9 ht9 hw9
                      generalize H1 = H at hP hS ⊢
                      have o_h0 := E_204.1 _ _ o_h0
                      refine lv_goto (tgt := 269) hx hb dX2_decodeLocal_243 (by decide) ?_
                      refine W.widen (k := 0) (n := 0) (Nat.le_of_ble_eq_true rfl) (Nat.le_of_ble_eq_true rfl) ?_
                      exact W.vret hx hb hr (fun t9 ht9 hW9 => ⟨⟨ws_203, rfl, ⟨trivial, ⟨_, _, xp_208, fun h9 => absurd h9 (by unfold isS; decide)⟩⟩, ⟨E_204, Fr_205, hG, by rw [ht9]; exact hP, hD⟩⟩, hS.F ht9⟩) hS.2.2 dX2_decodeLocal_269
                    · refine lv_bipush (v := 54) hx hb dX2_decodeLocal_226 (by decide) ?_
                      refine lv_goto (tgt := 233) hx hb dX2_decodeLocal_228 (by decide) ?_
                      refine lv_iload_n hx hb dX2_decodeLocal_233 rfl (lv_at hl 0 rfl) ?_
                      refine lv_bipush (v := 59) hx hb dX2_decodeLocal_234 (by decide) ?_
                      refine lv_isub hx hb dX2_decodeLocal_236 ?_
                      refine lv_topi (fun z_209 ez_209 => ?_)
                      refine lv_iconst (v := 3) hx hb dX2_decodeLocal_237 (by decide) ?_
                      refine lv_iand hx hb dX2_decodeLocal_238 ?_
                      refine lv_topi (fun z_210 ez_210 => ?_)
                      obtain ⟨z_211, ez_211⟩ : ∃ y : Int64, (z_210 : Int32).toInt64 = y := ⟨_, rfl⟩
                      refine lv_i2l (v := z_211) hx hb dX2_decodeLocal_239 ez_211 ?_
                      have hFc := gfree hD hS hA
                      obtain ⟨k_212, fs_212, hk_212⟩ := gC_of o_h0
                      refine va_callv (va_runV (As := [.int 54, .long z_211]) (rest := []) ⟨hx, hb, hml, hown, hts⟩ (m_X2_set_y l g H.size ws h0 (54) (z_211) hG o_h0) (cwV 2 hts (gd_V kw_684 kw_793 kw_794 kw_389 kw_792) rfl rfl rfl (by decide +kernel) ⟨Nat.le_of_ble_eq_true rfl, Nat.le_of_ble_eq_true rfl⟩) ⟨gblind, va_recv hK hP (ci := 2) (q0 := k_212) rfl hk_212, fun U hU hW9 => gmk hU hW9 hP hK hD hex hE hS hFc⟩ rfl rfl hl.1 rfl (lv_room (Nat.le_of_ble_eq_true rfl)) dX2_decodeLocal_240 ⟨Nat.le_of_ble_eq_true rfl, Nat.le_of_ble_eq_true rfl⟩) hS (fun q _ h => hFc q h) hFc (fun  ws_213 t9 H1 locs ht9 hvm9 hw9 hB9 hz9 hk9 hS => ?_)
                      obtain ⟨E_214, Fr_215, hG, hP1, hD1⟩ := hB9
                      have hP : va_P (gD g) cl0 ws_213 H1 := by rw [← ht9]; exact hP1
                      have hD : va_D A ws_213 := hD1.weaken (fun _ _ _ h => hFc _ h)
                      obtain ⟨hw9, xp_218⟩ := hw9
                      clear hP1 hD1 hz9 hk9 hvm9 ht9 hw9
                      generalize H1 = H at hP hS ⊢
                      have o_h0 := E_214.1 _ _ o_h0
                      refine lv_goto (tgt := 269) hx hb dX2_decodeLocal_243 (by decide) ?_
                      refine W.widen (k := 0) (n := 0) (Nat.le_of_ble_eq_true rfl) (Nat.le_of_ble_eq_true rfl) ?_
                      exact W.vret hx hb hr (fun t9 ht9 hW9 => ⟨⟨ws_213, rfl, ⟨trivial, ⟨_, _, xp_218, fun h9 => absurd h9 (by unfold isS; decide)⟩⟩, ⟨E_214, Fr_215, hG, by rw [ht9]; exact hP, hD⟩⟩, hS.F ht9⟩) hS.2.2 dX2_decodeLocal_269
              · refine lv_aload_n hx hb dX2_decodeLocal_193 rfl (lv_at hl 1 rfl) ?_
                refine lv_bipush (v := 25) hx hb dX2_decodeLocal_194 (by decide) ?_
                refine lv_iload_n hx hb dX2_decodeLocal_196 rfl (lv_at hl 0 rfl) ?_
                refine lv_bipush (v := 42) hx hb dX2_decodeLocal_197 (by decide) ?_
                refine lv_isub hx hb dX2_decodeLocal_199 ?_
                refine lv_topi (fun z_219 ez_219 => ?_)
                obtain ⟨z_220, ez_220⟩ : ∃ y : Int64, (z_219 : Int32).toInt64 = y := ⟨_, rfl⟩
                refine lv_i2l (v := z_220) hx hb dX2_decodeLocal_200 ez_220 ?_
                have hFc := gfree hD hS hA
                obtain ⟨k_221, fs_221, hk_221⟩ := gC_of o_h0
                refine va_callv (va_runV (As := [.int 25, .long z_220]) (rest := []) ⟨hx, hb, hml, hown, hts⟩ (m_X2_set_y l g H.size ws h0 (25) (z_220) hG o_h0) (cwV 2 hts (gd_V kw_684 kw_793 kw_794 kw_389 kw_792) rfl rfl rfl (by decide +kernel) ⟨Nat.le_of_ble_eq_true rfl, Nat.le_of_ble_eq_true rfl⟩) ⟨gblind, va_recv hK hP (ci := 2) (q0 := k_221) rfl hk_221, fun U hU hW9 => gmk hU hW9 hP hK hD hex hE hS hFc⟩ rfl rfl hl.1 rfl (lv_room (Nat.le_of_ble_eq_true rfl)) dX2_decodeLocal_201 ⟨Nat.le_of_ble_eq_true rfl, Nat.le_of_ble_eq_true rfl⟩) hS (fun q _ h => hFc q h) hFc (fun  ws_222 t9 H1 locs ht9 hvm9 hw9 hB9 hz9 hk9 hS => ?_)
                obtain ⟨E_223, Fr_224, hG, hP1, hD1⟩ := hB9
                have hP : va_P (gD g) cl0 ws_222 H1 := by rw [← ht9]; exact hP1
                have hD : va_D A ws_222 := hD1.weaken (fun _ _ _ h => hFc _ h)
                obtain ⟨hw9, xp_227⟩ := hw9
                clear hP1 hD1 hz9 hk9 hvm9 ht9 hw9
                generalize H1 = H at hP hS ⊢
                have o_h0 := E_223.1 _ _ o_h0
                refine lv_goto (tgt := 269) hx hb dX2_decodeLocal_204 (by decide) ?_
                refine W.widen (k := 0) (n := 0) (Nat.le_of_ble_eq_true rfl) (Nat.le_of_ble_eq_true rfl) ?_
                exact W.vret hx hb hr (fun t9 ht9 hW9 => ⟨⟨ws_222, rfl, ⟨trivial, ⟨_, _, xp_227, fun h9 => absurd h9 (by unfold isS; decide)⟩⟩, ⟨E_223, Fr_224, hG, by rw [ht9]; exact hP, hD⟩⟩, hS.F ht9⟩) hS.2.2 dX2_decodeLocal_269
          · refine lv_aload_n hx hb dX2_decodeLocal_154 rfl (lv_at hl 1 rfl) ?_
            refine lv_iload_n hx hb dX2_decodeLocal_155 rfl (lv_at hl 0 rfl) ?_
            refine lv_bipush (v := 30) hx hb dX2_decodeLocal_156 (by decide) ?_
            refine lv_icmp_ge (tgt := 166) hx hb dX2_decodeLocal_158 (by decide) (fun c_228 => ?_) (fun c_228 => ?_)
            · refine lv_bipush (v := 22) hx hb dX2_decodeLocal_166 (by decide) ?_
              refine lv_iload_n hx hb dX2_decodeLocal_168 rfl (lv_at hl 0 rfl) ?_
              refine lv_bipush (v := 26) hx hb dX2_decodeLocal_169 (by decide) ?_
              refine lv_isub hx hb dX2_decodeLocal_171 ?_
              refine lv_topi (fun z_229 ez_229 => ?_)
              refine lv_iconst (v := 3) hx hb dX2_decodeLocal_172 (by decide) ?_
              refine lv_iand hx hb dX2_decodeLocal_173 ?_
              refine lv_topi (fun z_230 ez_230 => ?_)
              obtain ⟨z_231, ez_231⟩ : ∃ y : Int64, (z_230 : Int32).toInt64 = y := ⟨_, rfl⟩
              refine lv_i2l (v := z_231) hx hb dX2_decodeLocal_174 ez_231 ?_
              have hFc := gfree hD hS hA
              obtain ⟨k_232, fs_232, hk_232⟩ := gC_of o_h0
              refine va_callv (va_runV (As := [.int 22, .long z_231]) (rest := []) ⟨hx, hb, hml, hown, hts⟩ (m_X2_set_y l g H.size ws h0 (22) (z_231) hG o_h0) (cwV 2 hts (gd_V kw_684 kw_793 kw_794 kw_389 kw_792) rfl rfl rfl (by decide +kernel) ⟨Nat.le_of_ble_eq_true rfl, Nat.le_of_ble_eq_true rfl⟩) ⟨gblind, va_recv hK hP (ci := 2) (q0 := k_232) rfl hk_232, fun U hU hW9 => gmk hU hW9 hP hK hD hex hE hS hFc⟩ rfl rfl hl.1 rfl (lv_room (Nat.le_of_ble_eq_true rfl)) dX2_decodeLocal_175 ⟨Nat.le_of_ble_eq_true rfl, Nat.le_of_ble_eq_true rfl⟩) hS (fun q _ h => hFc q h) hFc (fun  ws_233 t9 H1 locs ht9 hvm9 hw9 hB9 hz9 hk9 hS => ?_)
              obtain ⟨E_234, Fr_235, hG, hP1, hD1⟩ := hB9
              have hP : va_P (gD g) cl0 ws_233 H1 := by rw [← ht9]; exact hP1
              have hD : va_D A ws_233 := hD1.weaken (fun _ _ _ h => hFc _ h)
              obtain ⟨hw9, xp_238⟩ := hw9
              clear hP1 hD1 hz9 hk9 hvm9 ht9 hw9
              generalize H1 = H at hP hS ⊢
              have o_h0 := E_234.1 _ _ o_h0
              refine lv_goto (tgt := 269) hx hb dX2_decodeLocal_178 (by decide) ?_
              refine W.widen (k := 0) (n := 0) (Nat.le_of_ble_eq_true rfl) (Nat.le_of_ble_eq_true rfl) ?_
              exact W.vret hx hb hr (fun t9 ht9 hW9 => ⟨⟨ws_233, rfl, ⟨trivial, ⟨_, _, xp_238, fun h9 => absurd h9 (by unfold isS; decide)⟩⟩, ⟨E_234, Fr_235, hG, by rw [ht9]; exact hP, hD⟩⟩, hS.F ht9⟩) hS.2.2 dX2_decodeLocal_269
            · refine lv_bipush (v := 21) hx hb dX2_decodeLocal_161 (by decide) ?_
              refine lv_goto (tgt := 168) hx hb dX2_decodeLocal_163 (by decide) ?_
              refine lv_iload_n hx hb dX2_decodeLocal_168 rfl (lv_at hl 0 rfl) ?_
              refine lv_bipush (v := 26) hx hb dX2_decodeLocal_169 (by decide) ?_
              refine lv_isub hx hb dX2_decodeLocal_171 ?_
              refine lv_topi (fun z_239 ez_239 => ?_)
              refine lv_iconst (v := 3) hx hb dX2_decodeLocal_172 (by decide) ?_
              refine lv_iand hx hb dX2_decodeLocal_173 ?_
              refine lv_topi (fun z_240 ez_240 => ?_)
              obtain ⟨z_241, ez_241⟩ : ∃ y : Int64, (z_240 : Int32).toInt64 = y := ⟨_, rfl⟩
              refine lv_i2l (v := z_241) hx hb dX2_decodeLocal_174 ez_241 ?_
              have hFc := gfree hD hS hA
              obtain ⟨k_242, fs_242, hk_242⟩ := gC_of o_h0
              refine va_callv (va_runV (As := [.int 21, .long z_241]) (rest := []) ⟨hx, hb, hml, hown, hts⟩ (m_X2_set_y l g H.size ws h0 (21) (z_241) hG o_h0) (cwV 2 hts (gd_V kw_684 kw_793 kw_794 kw_389 kw_792) rfl rfl rfl (by decide +kernel) ⟨Nat.le_of_ble_eq_true rfl, Nat.le_of_ble_eq_true rfl⟩) ⟨gblind, va_recv hK hP (ci := 2) (q0 := k_242) rfl hk_242, fun U hU hW9 => gmk hU hW9 hP hK hD hex hE hS hFc⟩ rfl rfl hl.1 rfl (lv_room (Nat.le_of_ble_eq_true rfl)) dX2_decodeLocal_175 ⟨Nat.le_of_ble_eq_true rfl, Nat.le_of_ble_eq_true rfl⟩) hS (fun q _ h => hFc q h) hFc (fun  ws_243 t9 H1 locs ht9 hvm9 hw9 hB9 hz9 hk9 hS => ?_)
              obtain ⟨E_244, Fr_245, hG, hP1, hD1⟩ := hB9
              have hP : va_P (gD g) cl0 ws_243 H1 := by rw [← ht9]; exact hP1
              have hD : va_D A ws_243 := hD1.weaken (fun _ _ _ h => hFc _ h)
              obtain ⟨hw9, xp_248⟩ := hw9
              clear hP1 hD1 hz9 hk9 hvm9 ht9 hw9
              generalize H1 = H at hP hS ⊢
              have o_h0 := E_244.1 _ _ o_h0
              refine lv_goto (tgt := 269) hx hb dX2_decodeLocal_178 (by decide) ?_
              refine W.widen (k := 0) (n := 0) (Nat.le_of_ble_eq_true rfl) (Nat.le_of_ble_eq_true rfl) ?_
              exact W.vret hx hb hr (fun t9 ht9 hW9 => ⟨⟨ws_243, rfl, ⟨trivial, ⟨_, _, xp_248, fun h9 => absurd h9 (by unfold isS; decide)⟩⟩, ⟨E_244, Fr_245, hG, by rw [ht9]; exact hP, hD⟩⟩, hS.F ht9⟩) hS.2.2 dX2_decodeLocal_269
      · refine lv_aload_n hx hb dX2_decodeLocal_126 rfl (lv_at hl 1 rfl) ?_
        refine lv_iload_n hx hb dX2_decodeLocal_127 rfl (lv_at hl 0 rfl) ?_
        refine lv_aload_n hx hb dX2_decodeLocal_128 rfl (lv_at hl 1 rfl) ?_
        refine lv_iload_n hx hb dX2_decodeLocal_129 rfl (lv_at hl 2 rfl) ?_
        refine lv_iconst (v := 1) hx hb dX2_decodeLocal_130 (by decide) ?_
        refine lv_iadd hx hb dX2_decodeLocal_131 ?_
        refine lv_topi (fun z_249 ez_249 => ?_)
        have hFc := gfree hD hS hA
        obtain ⟨k_250, fs_250, hk_250⟩ := gC_of o_h0
        refine va_calli (va_runV (As := [.int z_249]) (rest := [.int r_2, .ref h0]) ⟨hx, hb, hml, hown, hts⟩ (m_X2_u1_x l g H.size ws h0 (z_249) hG o_h0) (cwV 1 hts (gd_V kw_682 kw_812 kw_813 kw_389 kw_811) rfl rfl rfl (by decide +kernel) ⟨Nat.le_of_ble_eq_true rfl, Nat.le_of_ble_eq_true rfl⟩) ⟨gblind, va_recv hK hP (ci := 2) (q0 := k_250) rfl hk_250, fun U hU hW9 => gmk hU hW9 hP hK hD hex hE hS hFc⟩ rfl rfl hl.1 rfl (lv_room (Nat.le_of_ble_eq_true rfl)) dX2_decodeLocal_132 ⟨Nat.le_of_ble_eq_true rfl, Nat.le_of_ble_eq_true rfl⟩) hS (fun q _ h => hFc q h) hFc (fun r_251 u9 t9 H1 locs ht9 hvm9 hw9 hB9 hz9 hk9 hS => ?_)
        have hP : va_P (gD g) cl0 ws H1 := by rw [← ht9]; exact hB9.1
        obtain ⟨hw9, xp_252⟩ := hw9
        clear hB9 hz9 hk9 hvm9 ht9 hw9
        generalize H1 = H at hP hS ⊢
        obtain ⟨z_253, ez_253⟩ : ∃ y : Int64, (r_251 : Int32).toInt64 = y := ⟨_, rfl⟩
        refine lv_i2l (v := z_253) hx hb dX2_decodeLocal_135 ez_253 ?_
        have hFc := gfree hD hS hA
        obtain ⟨k_254, fs_254, hk_254⟩ := gC_of o_h0
        refine va_callv (va_runV (As := [.int r_2, .long z_253]) (rest := []) ⟨hx, hb, hml, hown, hts⟩ (m_X2_set_y l g H.size ws h0 (r_2) (z_253) hG o_h0) (cwV 2 hts (gd_V kw_684 kw_793 kw_794 kw_389 kw_792) rfl rfl rfl (by decide +kernel) ⟨Nat.le_of_ble_eq_true rfl, Nat.le_of_ble_eq_true rfl⟩) ⟨gblind, va_recv hK hP (ci := 2) (q0 := k_254) rfl hk_254, fun U hU hW9 => gmk hU hW9 hP hK hD hex hE hS hFc⟩ rfl rfl hl.1 rfl (lv_room (Nat.le_of_ble_eq_true rfl)) dX2_decodeLocal_136 ⟨Nat.le_of_ble_eq_true rfl, Nat.le_of_ble_eq_true rfl⟩) hS (fun q _ h => hFc q h) hFc (fun  ws_255 t9 H1 locs ht9 hvm9 hw9 hB9 hz9 hk9 hS => ?_)
        obtain ⟨E_256, Fr_257, hG, hP1, hD1⟩ := hB9
        have hP : va_P (gD g) cl0 ws_255 H1 := by rw [← ht9]; exact hP1
        have hD : va_D A ws_255 := hD1.weaken (fun _ _ _ h => hFc _ h)
        obtain ⟨hw9, xp_260⟩ := hw9
        clear hP1 hD1 hz9 hk9 hvm9 ht9 hw9
        generalize H1 = H at hP hS ⊢
        have o_h0 := E_256.1 _ _ o_h0
        refine lv_goto (tgt := 269) hx hb dX2_decodeLocal_139 (by decide) ?_
        refine W.widen (k := 0) (n := 0) (Nat.le_of_ble_eq_true rfl) (Nat.le_of_ble_eq_true rfl) ?_
        exact W.vret hx hb hr (fun t9 ht9 hW9 => ⟨⟨ws_255, rfl, ⟨trivial, ⟨_, _, xp_260, fun _ => Or.inr (fun f9 e9 n9 c9 s9 q9 => Or.inl (xp_3 _ _ _ _ _ q9))⟩⟩, ⟨E_256, Fr_257, hG, by rw [ht9]; exact hP, hD⟩⟩, hS.F ht9⟩) hS.2.2 dX2_decodeLocal_269
    · refine lv_aload_n hx hb dX2_decodeLocal_88 rfl (lv_at hl 1 rfl) ?_
      refine lv_sipush (v := 132) hx hb dX2_decodeLocal_89 (by decide) ?_
      refine lv_aload_n hx hb dX2_decodeLocal_92 rfl (lv_at hl 1 rfl) ?_
      refine lv_iload_n hx hb dX2_decodeLocal_93 rfl (lv_at hl 2 rfl) ?_
      refine lv_iconst (v := 2) hx hb dX2_decodeLocal_94 (by decide) ?_
      refine lv_iadd hx hb dX2_decodeLocal_95 ?_
      refine lv_topi (fun z_261 ez_261 => ?_)
      have hFc := gfree hD hS hA
      obtain ⟨k_262, fs_262, hk_262⟩ := gC_of o_h0
      refine va_calli (va_runV (As := [.int z_261]) (rest := [.int 132, .ref h0]) ⟨hx, hb, hml, hown, hts⟩ (m_X2_u1_x l g H.size ws h0 (z_261) hG o_h0) (cwV 1 hts (gd_V kw_682 kw_812 kw_813 kw_389 kw_811) rfl rfl rfl (by decide +kernel) ⟨Nat.le_of_ble_eq_true rfl, Nat.le_of_ble_eq_true rfl⟩) ⟨gblind, va_recv hK hP (ci := 2) (q0 := k_262) rfl hk_262, fun U hU hW9 => gmk hU hW9 hP hK hD hex hE hS hFc⟩ rfl rfl hl.1 rfl (lv_room (Nat.le_of_ble_eq_true rfl)) dX2_decodeLocal_96 ⟨Nat.le_of_ble_eq_true rfl, Nat.le_of_ble_eq_true rfl⟩) hS (fun q _ h => hFc q h) hFc (fun r_263 u9 t9 H1 locs ht9 hvm9 hw9 hB9 hz9 hk9 hS => ?_)
      have hP : va_P (gD g) cl0 ws H1 := by rw [← ht9]; exact hB9.1
      obtain ⟨hw9, xp_264⟩ := hw9
      clear hB9 hz9 hk9 hvm9 ht9 hw9
      generalize H1 = H at hP hS ⊢
      obtain ⟨z_265, ez_265⟩ : ∃ y : Int32, (r_263 : Int32).toInt8.toInt32 = y := ⟨_, rfl⟩
      refine lv_i2b (v := z_265) hx hb dX2_decodeLocal_99 ez_265 ?_
      obtain ⟨z_266, ez_266⟩ : ∃ y : Int64, (z_265 : Int32).toInt64 = y := ⟨_, rfl⟩
      refine lv_i2l (v := z_266) hx hb dX2_decodeLocal_100 ez_266 ?_
      refine lv_bipush (v := 8) hx hb dX2_decodeLocal_101 (by decide) ?_
      refine lv_lshl hx hb dX2_decodeLocal_103 rfl ?_
      refine lv_topl (fun z_267 ez_267 => ?_)
      refine lv_aload_n hx hb dX2_decodeLocal_104 rfl (lv_at hl 1 rfl) ?_
      refine lv_iload_n hx hb dX2_decodeLocal_105 rfl (lv_at hl 2 rfl) ?_
      refine lv_iconst (v := 1) hx hb dX2_decodeLocal_106 (by decide) ?_
      refine lv_iadd hx hb dX2_decodeLocal_107 ?_
      refine lv_topi (fun z_268 ez_268 => ?_)
      have hFc := gfree hD hS hA
      obtain ⟨k_269, fs_269, hk_269⟩ := gC_of o_h0
      refine va_calli (va_runV (As := [.int z_268]) (rest := [.long z_267, .int 132, .ref h0]) ⟨hx, hb, hml, hown, hts⟩ (m_X2_u1_x l g H.size ws h0 (z_268) hG o_h0) (cwV 1 hts (gd_V kw_682 kw_812 kw_813 kw_389 kw_811) rfl rfl rfl (by decide +kernel) ⟨Nat.le_of_ble_eq_true rfl, Nat.le_of_ble_eq_true rfl⟩) ⟨gblind, va_recv hK hP (ci := 2) (q0 := k_269) rfl hk_269, fun U hU hW9 => gmk hU hW9 hP hK hD hex hE hS hFc⟩ rfl rfl hl.1 rfl (lv_room (Nat.le_of_ble_eq_true rfl)) dX2_decodeLocal_108 ⟨Nat.le_of_ble_eq_true rfl, Nat.le_of_ble_eq_true rfl⟩) hS (fun q _ h => hFc q h) hFc (fun r_270 u9 t9 H1 locs ht9 hvm9 hw9 hB9 hz9 hk9 hS => ?_)
      have hP : va_P (gD g) cl0 ws H1 := by rw [← ht9]; exact hB9.1
      obtain ⟨hw9, xp_271⟩ := hw9
      clear hB9 hz9 hk9 hvm9 ht9 hw9
      generalize H1 = H at hP hS ⊢
      obtain ⟨z_272, ez_272⟩ : ∃ y : Int64, (r_270 : Int32).toInt64 = y := ⟨_, rfl⟩
      refine lv_i2l (v := z_272) hx hb dX2_decodeLocal_111 ez_272 ?_
      refine lv_lor hx hb dX2_decodeLocal_112 ?_
      refine lv_topl (fun z_273 ez_273 => ?_)
      have hFc := gfree hD hS hA
      obtain ⟨k_274, fs_274, hk_274⟩ := gC_of o_h0
      refine va_callv (va_runV (As := [.int 132, .long z_273]) (rest := []) ⟨hx, hb, hml, hown, hts⟩ (m_X2_set_y l g H.size ws h0 (132) (z_273) hG o_h0) (cwV 2 hts (gd_V kw_684 kw_793 kw_794 kw_389 kw_792) rfl rfl rfl (by decide +kernel) ⟨Nat.le_of_ble_eq_true rfl, Nat.le_of_ble_eq_true rfl⟩) ⟨gblind, va_recv hK hP (ci := 2) (q0 := k_274) rfl hk_274, fun U hU hW9 => gmk hU hW9 hP hK hD hex hE hS hFc⟩ rfl rfl hl.1 rfl (lv_room (Nat.le_of_ble_eq_true rfl)) dX2_decodeLocal_113 ⟨Nat.le_of_ble_eq_true rfl, Nat.le_of_ble_eq_true rfl⟩) hS (fun q _ h => hFc q h) hFc (fun  ws_275 t9 H1 locs ht9 hvm9 hw9 hB9 hz9 hk9 hS => ?_)
      obtain ⟨E_276, Fr_277, hG, hP1, hD1⟩ := hB9
      have hP : va_P (gD g) cl0 ws_275 H1 := by rw [← ht9]; exact hP1
      have hD : va_D A ws_275 := hD1.weaken (fun _ _ _ h => hFc _ h)
      obtain ⟨hw9, xp_280⟩ := hw9
      clear hP1 hD1 hz9 hk9 hvm9 ht9 hw9
      generalize H1 = H at hP hS ⊢
      have o_h0 := E_276.1 _ _ o_h0
      refine lv_goto (tgt := 269) hx hb dX2_decodeLocal_116 (by decide) ?_
      refine W.widen (k := 0) (n := 0) (Nat.le_of_ble_eq_true rfl) (Nat.le_of_ble_eq_true rfl) ?_
      exact W.vret hx hb hr (fun t9 ht9 hW9 => ⟨⟨ws_275, rfl, ⟨trivial, ⟨_, _, xp_280, fun h9 => absurd h9 (by unfold isS; decide)⟩⟩, ⟨E_276, Fr_277, hG, by rw [ht9]; exact hP, hD⟩⟩, hS.F ht9⟩) hS.2.2 dX2_decodeLocal_269
  · refine lv_aload_n hx hb dX2_decodeLocal_13 rfl (lv_at hl 1 rfl) ?_
    refine lv_iload_n hx hb dX2_decodeLocal_14 rfl (lv_at hl 2 rfl) ?_
    refine lv_iconst (v := 2) hx hb dX2_decodeLocal_15 (by decide) ?_
    refine lv_iadd hx hb dX2_decodeLocal_16 ?_
    refine lv_topi (fun z_281 ez_281 => ?_)
    have hFc := gfree hD hS hA
    obtain ⟨k_282, fs_282, hk_282⟩ := gC_of o_h0
    refine va_calli (va_runV (As := [.int z_281]) (rest := []) ⟨hx, hb, hml, hown, hts⟩ (m_X2_u2 l g H.size ws h0 (z_281) hG o_h0) (cwV 1 hts (gd_V kw_685 kw_816 kw_817 kw_389 kw_815) rfl rfl rfl (by decide +kernel) ⟨Nat.le_of_ble_eq_true rfl, Nat.le_of_ble_eq_true rfl⟩) ⟨gblind, va_recv hK hP (ci := 2) (q0 := k_282) rfl hk_282, fun U hU hW9 => gmk hU hW9 hP hK hD hex hE hS hFc⟩ rfl rfl hl.1 rfl (lv_room (Nat.le_of_ble_eq_true rfl)) dX2_decodeLocal_17 ⟨Nat.le_of_ble_eq_true rfl, Nat.le_of_ble_eq_true rfl⟩) hS (fun q _ h => hFc q h) hFc (fun r_283 u9 t9 H1 locs ht9 hvm9 hw9 hB9 hz9 hk9 hS => ?_)
    have hP : va_P (gD g) cl0 ws H1 := by rw [← ht9]; exact hB9.1
    clear hB9 hz9 hk9 hvm9 ht9 hw9
    generalize H1 = H at hP hS ⊢
    refine lv_istore_n (lv' := [(3, .int r_283), (2, .int r_2), (0, .ref h0), (1, .int x1)]) hx hb dX2_decodeLocal_20 rfl hl (by decide) rfl (fun ls hl => ?_)
    refine lv_aload_n hx hb dX2_decodeLocal_21 rfl (lv_at hl 2 rfl) ?_
    refine lv_aload_n hx hb dX2_decodeLocal_22 rfl (lv_at hl 2 rfl) ?_
    refine lv_iload_n hx hb dX2_decodeLocal_23 rfl (lv_at hl 3 rfl) ?_
    refine lv_iconst (v := 1) hx hb dX2_decodeLocal_24 (by decide) ?_
    refine lv_iadd hx hb dX2_decodeLocal_25 ?_
    refine lv_topi (fun z_284 ez_284 => ?_)
    have hFc := gfree hD hS hA
    obtain ⟨k_285, fs_285, hk_285⟩ := gC_of o_h0
    refine va_calli (va_runV (As := [.int z_284]) (rest := [.ref h0]) ⟨hx, hb, hml, hown, hts⟩ (m_X2_u1_x l g H.size ws h0 (z_284) hG o_h0) (cwV 1 hts (gd_V kw_682 kw_812 kw_813 kw_389 kw_811) rfl rfl rfl (by decide +kernel) ⟨Nat.le_of_ble_eq_true rfl, Nat.le_of_ble_eq_true rfl⟩) ⟨gblind, va_recv hK hP (ci := 2) (q0 := k_285) rfl hk_285, fun U hU hW9 => gmk hU hW9 hP hK hD hex hE hS hFc⟩ rfl rfl hl.1 rfl (lv_room (Nat.le_of_ble_eq_true rfl)) dX2_decodeLocal_26 ⟨Nat.le_of_ble_eq_true rfl, Nat.le_of_ble_eq_true rfl⟩) hS (fun q _ h => hFc q h) hFc (fun r_286 u9 t9 H1 locs ht9 hvm9 hw9 hB9 hz9 hk9 hS => ?_)
    have hP : va_P (gD g) cl0 ws H1 := by rw [← ht9]; exact hB9.1
    obtain ⟨hw9, xp_287⟩ := hw9
    clear hB9 hz9 hk9 hvm9 ht9 hw9
    generalize H1 = H at hP hS ⊢
    refine lv_iload_n hx hb dX2_decodeLocal_29 rfl (lv_at hl 0 rfl) ?_
    refine lv_sipush (v := 255) hx hb dX2_decodeLocal_30 (by decide) ?_
    refine lv_icmp_le (tgt := 42) hx hb dX2_decodeLocal_33 (by decide) (fun c_288 => ?_) (fun c_288 => ?_)
    · refine lv_aload_n hx hb dX2_decodeLocal_42 rfl (lv_at hl 2 rfl) ?_
      refine lv_iload_n hx hb dX2_decodeLocal_43 rfl (lv_at hl 3 rfl) ?_
      refine lv_iconst (v := 1) hx hb dX2_decodeLocal_44 (by decide) ?_
      refine lv_iadd hx hb dX2_decodeLocal_45 ?_
      refine lv_topi (fun z_289 ez_289 => ?_)
      have hFc := gfree hD hS hA
      obtain ⟨k_290, fs_290, hk_290⟩ := gC_of o_h0
      refine va_calli (va_runV (As := [.int z_289]) (rest := [.int r_286, .ref h0]) ⟨hx, hb, hml, hown, hts⟩ (m_X2_u1_x l g H.size ws h0 (z_289) hG o_h0) (cwV 1 hts (gd_V kw_682 kw_812 kw_813 kw_389 kw_811) rfl rfl rfl (by decide +kernel) ⟨Nat.le_of_ble_eq_true rfl, Nat.le_of_ble_eq_true rfl⟩) ⟨gblind, va_recv hK hP (ci := 2) (q0 := k_290) rfl hk_290, fun U hU hW9 => gmk hU hW9 hP hK hD hex hE hS hFc⟩ rfl rfl hl.1 rfl (lv_room (Nat.le_of_ble_eq_true rfl)) dX2_decodeLocal_46 ⟨Nat.le_of_ble_eq_true rfl, Nat.le_of_ble_eq_true rfl⟩) hS (fun q _ h => hFc q h) hFc (fun r_291 u9 t9 H1 locs ht9 hvm9 hw9 hB9 hz9 hk9 hS => ?_)
      have hP : va_P (gD g) cl0 ws H1 := by rw [← ht9]; exact hB9.1
      obtain ⟨hw9, xp_292⟩ := hw9
      clear hB9 hz9 hk9 hvm9 ht9 hw9
      generalize H1 = H at hP hS ⊢
      refine lv_sipush (v := 132) hx hb dX2_decodeLocal_49 (by decide) ?_
      refine lv_icmp_ne (tgt := 73) hx hb dX2_decodeLocal_52 (by decide) (fun c_293 => ?_) (fun c_293 => ?_)
      · refine lv_iload_n hx hb dX2_decodeLocal_73 rfl (lv_at hl 0 rfl) ?_
        obtain ⟨z_294, ez_294⟩ : ∃ y : Int64, (r_283 : Int32).toInt64 = y := ⟨_, rfl⟩
        refine lv_i2l (v := z_294) hx hb dX2_decodeLocal_74 ez_294 ?_
        have hFc := gfree hD hS hA
        obtain ⟨k_295, fs_295, hk_295⟩ := gC_of o_h0
        refine va_callv (va_runV (As := [.int r_286, .long z_294]) (rest := []) ⟨hx, hb, hml, hown, hts⟩ (m_X2_set_y l g H.size ws h0 (r_286) (z_294) hG o_h0) (cwV 2 hts (gd_V kw_684 kw_793 kw_794 kw_389 kw_792) rfl rfl rfl (by decide +kernel) ⟨Nat.le_of_ble_eq_true rfl, Nat.le_of_ble_eq_true rfl⟩) ⟨gblind, va_recv hK hP (ci := 2) (q0 := k_295) rfl hk_295, fun U hU hW9 => gmk hU hW9 hP hK hD hex hE hS hFc⟩ rfl rfl hl.1 rfl (lv_room (Nat.le_of_ble_eq_true rfl)) dX2_decodeLocal_75 ⟨Nat.le_of_ble_eq_true rfl, Nat.le_of_ble_eq_true rfl⟩) hS (fun q _ h => hFc q h) hFc (fun  ws_296 t9 H1 locs ht9 hvm9 hw9 hB9 hz9 hk9 hS => ?_)
        obtain ⟨E_297, Fr_298, hG, hP1, hD1⟩ := hB9
        have hP : va_P (gD g) cl0 ws_296 H1 := by rw [← ht9]; exact hP1
        have hD : va_D A ws_296 := hD1.weaken (fun _ _ _ h => hFc _ h)
        obtain ⟨hw9, xp_301⟩ := hw9
        clear hP1 hD1 hz9 hk9 hvm9 ht9 hw9
        generalize H1 = H at hP hS ⊢
        have o_h0 := E_297.1 _ _ o_h0
        refine lv_goto (tgt := 269) hx hb dX2_decodeLocal_78 (by decide) ?_
        refine W.widen (k := 0) (n := 0) (Nat.le_of_ble_eq_true rfl) (Nat.le_of_ble_eq_true rfl) ?_
        exact W.vret hx hb hr (fun t9 ht9 hW9 => ⟨⟨ws_296, rfl, ⟨trivial, ⟨_, _, xp_301, fun _ => Or.inr (fun f9 e9 n9 c9 s9 q9 => Or.inr ⟨(by rw [← xp_3 _ _ _ _ _ q9]; exact (by have e196 : (196 : Int32).toInt = 196 := (by decide); have q_c_4 := i_eq c_4; have g_r_2 := i_rg r_2; omega)), (by have y9 := xp_287 _ _ _ _ _ q9; rw [ez_284] at y9; exact y9)⟩)⟩⟩, ⟨E_297, Fr_298, hG, by rw [ht9]; exact hP, hD⟩⟩, hS.F ht9⟩) hS.2.2 dX2_decodeLocal_269
      · refine lv_aload_n hx hb dX2_decodeLocal_55 rfl (lv_at hl 2 rfl) ?_
        refine lv_iload_n hx hb dX2_decodeLocal_56 rfl (lv_at hl 3 rfl) ?_
        refine lv_iconst (v := 4) hx hb dX2_decodeLocal_57 (by decide) ?_
        refine lv_iadd hx hb dX2_decodeLocal_58 ?_
        refine lv_topi (fun z_302 ez_302 => ?_)
        have hFc := gfree hD hS hA
        obtain ⟨k_303, fs_303, hk_303⟩ := gC_of o_h0
        refine va_calli (va_runV (As := [.int z_302]) (rest := [.int r_286, .ref h0]) ⟨hx, hb, hml, hown, hts⟩ (m_X2_u2 l g H.size ws h0 (z_302) hG o_h0) (cwV 1 hts (gd_V kw_685 kw_816 kw_817 kw_389 kw_815) rfl rfl rfl (by decide +kernel) ⟨Nat.le_of_ble_eq_true rfl, Nat.le_of_ble_eq_true rfl⟩) ⟨gblind, va_recv hK hP (ci := 2) (q0 := k_303) rfl hk_303, fun U hU hW9 => gmk hU hW9 hP hK hD hex hE hS hFc⟩ rfl rfl hl.1 rfl (lv_room (Nat.le_of_ble_eq_true rfl)) dX2_decodeLocal_59 ⟨Nat.le_of_ble_eq_true rfl, Nat.le_of_ble_eq_true rfl⟩) hS (fun q _ h => hFc q h) hFc (fun r_304 u9 t9 H1 locs ht9 hvm9 hw9 hB9 hz9 hk9 hS => ?_)
        have hP : va_P (gD g) cl0 ws H1 := by rw [← ht9]; exact hB9.1
        clear hB9 hz9 hk9 hvm9 ht9 hw9
        generalize H1 = H at hP hS ⊢
        obtain ⟨z_305, ez_305⟩ : ∃ y : Int32, (r_304 : Int32).toInt16.toInt32 = y := ⟨_, rfl⟩
        refine lv_i2s (v := z_305) hx hb dX2_decodeLocal_62 ez_305 ?_
        obtain ⟨z_306, ez_306⟩ : ∃ y : Int64, (z_305 : Int32).toInt64 = y := ⟨_, rfl⟩
        refine lv_i2l (v := z_306) hx hb dX2_decodeLocal_63 ez_306 ?_
        refine lv_bipush (v := 8) hx hb dX2_decodeLocal_64 (by decide) ?_
        refine lv_lshl hx hb dX2_decodeLocal_66 rfl ?_
        refine lv_topl (fun z_307 ez_307 => ?_)
        refine lv_iload_n hx hb dX2_decodeLocal_67 rfl (lv_at hl 0 rfl) ?_
        obtain ⟨z_308, ez_308⟩ : ∃ y : Int64, (r_283 : Int32).toInt64 = y := ⟨_, rfl⟩
        refine lv_i2l (v := z_308) hx hb dX2_decodeLocal_68 ez_308 ?_
        refine lv_lor hx hb dX2_decodeLocal_69 ?_
        refine lv_topl (fun z_309 ez_309 => ?_)
        refine lv_goto (tgt := 75) hx hb dX2_decodeLocal_70 (by decide) ?_
        have hFc := gfree hD hS hA
        obtain ⟨k_310, fs_310, hk_310⟩ := gC_of o_h0
        refine va_callv (va_runV (As := [.int r_286, .long z_309]) (rest := []) ⟨hx, hb, hml, hown, hts⟩ (m_X2_set_y l g H.size ws h0 (r_286) (z_309) hG o_h0) (cwV 2 hts (gd_V kw_684 kw_793 kw_794 kw_389 kw_792) rfl rfl rfl (by decide +kernel) ⟨Nat.le_of_ble_eq_true rfl, Nat.le_of_ble_eq_true rfl⟩) ⟨gblind, va_recv hK hP (ci := 2) (q0 := k_310) rfl hk_310, fun U hU hW9 => gmk hU hW9 hP hK hD hex hE hS hFc⟩ rfl rfl hl.1 rfl (lv_room (Nat.le_of_ble_eq_true rfl)) dX2_decodeLocal_75 ⟨Nat.le_of_ble_eq_true rfl, Nat.le_of_ble_eq_true rfl⟩) hS (fun q _ h => hFc q h) hFc (fun  ws_311 t9 H1 locs ht9 hvm9 hw9 hB9 hz9 hk9 hS => ?_)
        obtain ⟨E_312, Fr_313, hG, hP1, hD1⟩ := hB9
        have hP : va_P (gD g) cl0 ws_311 H1 := by rw [← ht9]; exact hP1
        have hD : va_D A ws_311 := hD1.weaken (fun _ _ _ h => hFc _ h)
        obtain ⟨hw9, xp_316⟩ := hw9
        clear hP1 hD1 hz9 hk9 hvm9 ht9 hw9
        generalize H1 = H at hP hS ⊢
        have o_h0 := E_312.1 _ _ o_h0
        refine lv_goto (tgt := 269) hx hb dX2_decodeLocal_78 (by decide) ?_
        refine W.widen (k := 0) (n := 0) (Nat.le_of_ble_eq_true rfl) (Nat.le_of_ble_eq_true rfl) ?_
        exact W.vret hx hb hr (fun t9 ht9 hW9 => ⟨⟨ws_311, rfl, ⟨trivial, ⟨_, _, xp_316, fun _ => Or.inr (fun f9 e9 n9 c9 s9 q9 => Or.inr ⟨(by rw [← xp_3 _ _ _ _ _ q9]; exact (by have e196 : (196 : Int32).toInt = 196 := (by decide); have q_c_4 := i_eq c_4; have g_r_2 := i_rg r_2; omega)), (by have y9 := xp_287 _ _ _ _ _ q9; rw [ez_284] at y9; exact y9)⟩)⟩⟩, ⟨E_312, Fr_313, hG, by rw [ht9]; exact hP, hD⟩⟩, hS.F ht9⟩) hS.2.2 dX2_decodeLocal_269
    · refine lv_ldc2 hx hb hown (hts _ kw_692) dX2_decodeLocal_36 ?_
      refine lv_goto (tgt := 75) hx hb dX2_decodeLocal_39 (by decide) ?_
      have hFc := gfree hD hS hA
      obtain ⟨k_317, fs_317, hk_317⟩ := gC_of o_h0
      refine va_callv (va_runV (As := [.int r_286, .long 255]) (rest := []) ⟨hx, hb, hml, hown, hts⟩ (m_X2_set_y l g H.size ws h0 (r_286) (255) hG o_h0) (cwV 2 hts (gd_V kw_684 kw_793 kw_794 kw_389 kw_792) rfl rfl rfl (by decide +kernel) ⟨Nat.le_of_ble_eq_true rfl, Nat.le_of_ble_eq_true rfl⟩) ⟨gblind, va_recv hK hP (ci := 2) (q0 := k_317) rfl hk_317, fun U hU hW9 => gmk hU hW9 hP hK hD hex hE hS hFc⟩ rfl rfl hl.1 rfl (lv_room (Nat.le_of_ble_eq_true rfl)) dX2_decodeLocal_75 ⟨Nat.le_of_ble_eq_true rfl, Nat.le_of_ble_eq_true rfl⟩) hS (fun q _ h => hFc q h) hFc (fun  ws_318 t9 H1 locs ht9 hvm9 hw9 hB9 hz9 hk9 hS => ?_)
      obtain ⟨E_319, Fr_320, hG, hP1, hD1⟩ := hB9
      have hP : va_P (gD g) cl0 ws_318 H1 := by rw [← ht9]; exact hP1
      have hD : va_D A ws_318 := hD1.weaken (fun _ _ _ h => hFc _ h)
      obtain ⟨hw9, xp_323⟩ := hw9
      clear hP1 hD1 hz9 hk9 hvm9 ht9 hw9
      generalize H1 = H at hP hS ⊢
      have o_h0 := E_319.1 _ _ o_h0
      refine lv_goto (tgt := 269) hx hb dX2_decodeLocal_78 (by decide) ?_
      refine W.widen (k := 0) (n := 0) (Nat.le_of_ble_eq_true rfl) (Nat.le_of_ble_eq_true rfl) ?_
      exact W.vret hx hb hr (fun t9 ht9 hW9 => ⟨⟨ws_318, rfl, ⟨trivial, ⟨_, _, xp_323, fun _ => Or.inr (fun f9 e9 n9 c9 s9 q9 => Or.inr ⟨(by rw [← xp_3 _ _ _ _ _ q9]; exact (by have e196 : (196 : Int32).toInt = 196 := (by decide); have q_c_4 := i_eq c_4; have g_r_2 := i_rg r_2; omega)), (by have y9 := xp_287 _ _ _ _ _ q9; rw [ez_284] at y9; exact y9)⟩)⟩⟩, ⟨E_319, Fr_320, hG, by rw [ht9]; exact hP, hD⟩⟩, hS.F ht9⟩) hS.2.2 dX2_decodeLocal_269
set_option maxHeartbeats 1000000 in
set_option maxRecDepth 100000 in
theorem m_X2_decode_y (l : Launch) (g : Gm) (sz : Nat) (ws : va_W) (h0 : Nat) (x1 : Int32) (hG : Good g ws) (o_h0 : gC ws h0 2) : Met l yX2_decode (wt yX2_decode cX2_decode 3 none) ({ frames := 3, cells := 0, slots := 0, locals := 65 }) (va_Pc [.ref h0, .int x1] (st_G g sz ws)) (va_Qv (fun (u9 : va_W) => (True) ∧ (dcP ws u9 h0 x1)) (gQ1 g [(2, 9), (2, 10), (2, 11)] [] none (va_A ws sz) ws) (va_A ws sz)) (0) (0) (va_A ws sz) := by
  refine Met.ofW (cc := cX2_decode) (maxL := 3) (ret := none) (by decide) rfl ?_
  intro p e s m args below meth c s₁ B hml hv
  obtain ⟨rfl, hsz, hP, hK, hD0, hex, hE⟩ := hv
  have hx := B.exec
  have hb := B.bytes
  have hr := B.returns
  have hts0 := atoms_spec (ws := wt yX2_decode cX2_decode 3 none) B.pre
  have hts : ∀ w ∈ tb, w.before _ s = true := fun w h => hts0 w (List.mem_cons_of_mem _ h)
  have hown : s.vm.findClass RX2 = some m.cls := findClass_of_methodNamed B.named
  subst hsz
  have hD := hD0.self (sz := s.heap.size)
  generalize hAe : va_A ws s.heap.size = A at hD hE ⊢
  have hA : ∀ q : Nat, s.heap.size ≤ q → A q := fun q h => by rw [← hAe]; exact Or.inr h
  have hS : va_S A s.heap s.heap [] := va_S.rf
  have hl := lv_entry ([.ref h0, .int x1]) (n := 3) (Nat.le_of_ble_eq_true rfl)
  rw [lg_entry_eq]
  generalize (lg_sl ([.ref h0, .int x1]) ++ List.replicate (3 - (lg_sl ([.ref h0, .int x1])).length) Slot.unset).toArray = ls at hl ⊢
  have hl : lv_has ls 3 [(0, .ref h0), (1, .int x1)] := hl
  refine lv_aload_n hx hb dX2_decode_0 rfl (lv_at hl 0 rfl) ?_
  refine lv_iload_n hx hb dX2_decode_1 rfl (lv_at hl 1 rfl) ?_
  have hFc := gfree hD hS hA
  obtain ⟨k_1, fs_1, hk_1⟩ := gC_of o_h0
  refine va_calli (va_runV (As := [.int x1]) (rest := []) ⟨hx, hb, hml, hown, hts⟩ (m_X2_u1_x l g s.heap.size ws h0 (x1) hG o_h0) (cwV 1 hts (gd_V kw_682 kw_812 kw_813 kw_389 kw_811) rfl rfl rfl (by decide +kernel) ⟨Nat.le_of_ble_eq_true rfl, Nat.le_of_ble_eq_true rfl⟩) ⟨gblind, va_recv hK hP (ci := 2) (q0 := k_1) rfl hk_1, fun U hU hW9 => gmk hU hW9 hP hK hD hex hE hS hFc⟩ rfl rfl hl.1 rfl (lv_room (Nat.le_of_ble_eq_true rfl)) dX2_decode_2 ⟨Nat.le_of_ble_eq_true rfl, Nat.le_of_ble_eq_true rfl⟩) hS (fun q _ h => hFc q h) hFc (fun r_2 u9 t9 H1 locs ht9 hvm9 hw9 hB9 hz9 hk9 hS => ?_)
  have hP : va_P (gD g) cl0 ws H1 := by rw [← ht9]; exact hB9.1
  obtain ⟨hw9, xp_3⟩ := hw9
  clear hB9 hz9 hk9 hvm9 ht9 hw9
  generalize H1 = H at hP hS ⊢
  refine lv_istore_n (lv' := [(2, .int r_2), (0, .ref h0), (1, .int x1)]) hx hb dX2_decode_5 rfl hl (by decide) rfl (fun ls hl => ?_)
  refine lv_aload_n hx hb dX2_decode_6 rfl (lv_at hl 1 rfl) ?_
  refine lv_iload_n hx hb dX2_decode_7 rfl (lv_at hl 2 rfl) ?_
  obtain ⟨k_4, fs9, hk_4⟩ := gC_of o_h0
  obtain ⟨r0_4, c1_4, c2_4, c3_4, c4_4, c5_4, c6_4, r7_4, n7_4, c8_4, c9_4, l10_4, c11_4, rfl, o_r0_4, a_r7_4, f2_4, f3_4, f4_4, -⟩ := (hG.1 _ _ _ _ hk_4).hX2 rfl
  have hV9 : okv ws 2 11 (.int x1) := okv_i
  refine va_put (D := gD g) (ci := 2) (v := .int x1) (ty := .int) (C := RX2) (T := TX2) (N := 12) hx hb hts inX2 tyX2 tyX2_ok nmX2 hown hK hP hD hS k_4 hk_4 rfl 11 (by decide) (hts _ kw_683) (fun _ h9 => h9) rfl (by decide +kernel) rfl rfl (Nat.le_of_ble_eq_true rfl) dX2_decode_8 (fun H locs hP hD hS => ?_)
  have hi_5 : invX2 g ws h0 [.ref r0_4, .int c1_4, .int c2_4, .int c3_4, .int c4_4, .int c5_4, .int c6_4, .ref r7_4, .int c8_4, .int c9_4, .long l10_4, .int x1] := ⟨r0_4, (c1_4), (c2_4), (c3_4), (c4_4), (c5_4), (c6_4), r7_4, (n7_4), (c8_4), (c9_4), (l10_4), (x1), rfl, o_r0_4, a_r7_4, f2_4, f3_4, f4_4, trivial⟩
  obtain ⟨ws_6, e_ws_6⟩ : ∃ z, z = ws.set k_4 (h0, .inr (2, [.ref r0_4, .int c1_4, .int c2_4, .int c3_4, .int c4_4, .int c5_4, .int c6_4, .ref r7_4, .int c8_4, .int c9_4, .long l10_4, .int x1])) := ⟨_, rfl⟩
  have hP : va_P (gD g) cl0 ws_6 H := by rw [e_ws_6]; exact hP
  have hD : va_D A ws_6 := by rw [e_ws_6]; exact hD
  have E_7 : gE ws ws_6 := gE_set e_ws_6 hk_4 (cw_o (fi := 11) (v := .int x1) rfl (by decide))
  have hG : Good g ws_6 := Good_set (fi := 11) (v := .int x1) e_ws_6 hk_4 E_7 rfl hV9 hG (ivX2 hi_5)
  have Fr_8 : gF [(2, 11)] [] (some h0) ws ws_6 := gF_put (fi := 11) (v := .int x1) e_ws_6 hk_4 rfl (by decide)
  have hkN := gset_self e_ws_6 hk_4
  have hk_4 := hkN
  have o_h0 := E_7.1 _ _ o_h0
  have o_r0_4 := E_7.1 _ _ o_r0_4
  have a_r7_4 := E_7.1 _ _ a_r7_4
  refine lv_aload_n hx hb dX2_decode_11 rfl (lv_at hl 1 rfl) ?_
  refine lv_iload_n hx hb dX2_decode_12 rfl (lv_at hl 0 rfl) ?_
  have hV9 : okv ws_6 2 9 (.int r_2) := okv_i
  refine va_put (D := gD g) (ci := 2) (v := .int r_2) (ty := .int) (C := RX2) (T := TX2) (N := 12) hx hb hts inX2 tyX2 tyX2_ok nmX2 hown hK hP hD hS k_4 hk_4 rfl 9 (by decide) (hts _ kw_619) (fun _ h9 => h9) rfl (by decide +kernel) rfl rfl (Nat.le_of_ble_eq_true rfl) dX2_decode_13 (fun H locs hP hD hS => ?_)
  have hi_9 : invX2 g ws_6 h0 [.ref r0_4, .int c1_4, .int c2_4, .int c3_4, .int c4_4, .int c5_4, .int c6_4, .ref r7_4, .int c8_4, .int r_2, .long l10_4, .int x1] := ⟨r0_4, (c1_4), (c2_4), (c3_4), (c4_4), (c5_4), (c6_4), r7_4, (n7_4), (c8_4), (r_2), (l10_4), (x1), rfl, o_r0_4, a_r7_4, f2_4, f3_4, f4_4, trivial⟩
  obtain ⟨ws_10, e_ws_10⟩ : ∃ z, z = ws_6.set k_4 (h0, .inr (2, [.ref r0_4, .int c1_4, .int c2_4, .int c3_4, .int c4_4, .int c5_4, .int c6_4, .ref r7_4, .int c8_4, .int r_2, .long l10_4, .int x1])) := ⟨_, rfl⟩
  have hP : va_P (gD g) cl0 ws_10 H := by rw [e_ws_10]; exact hP
  have hD : va_D A ws_10 := by rw [e_ws_10]; exact hD
  have E_11 : gE ws_6 ws_10 := gE_set e_ws_10 hk_4 (cw_o (fi := 9) (v := .int r_2) rfl (by decide))
  have hG : Good g ws_10 := Good_set (fi := 9) (v := .int r_2) e_ws_10 hk_4 E_11 rfl hV9 hG (ivX2 hi_9)
  have Fr_12 : gF [(2, 9)] [] (some h0) ws_6 ws_10 := gF_put (fi := 9) (v := .int r_2) e_ws_10 hk_4 rfl (by decide)
  have hkN := gset_self e_ws_10 hk_4
  have hk_4 := hkN
  have o_h0 := E_11.1 _ _ o_h0
  have o_r0_4 := E_11.1 _ _ o_r0_4
  have a_r7_4 := E_11.1 _ _ a_r7_4
  refine lv_aload_n hx hb dX2_decode_16 rfl (lv_at hl 1 rfl) ?_
  refine lv_lconst (v := 0) hx hb dX2_decode_17 (by decide) ?_
  have hV9 : okv ws_10 2 10 (.long 0) := okv_l
  refine va_put (D := gD g) (ci := 2) (v := .long 0) (ty := .long) (C := RX2) (T := TX2) (N := 12) hx hb hts inX2 tyX2 tyX2_ok nmX2 hown hK hP hD hS k_4 hk_4 rfl 10 (by decide) (hts _ kw_617) (fun _ h9 => h9) rfl (by decide +kernel) rfl rfl (Nat.le_of_ble_eq_true rfl) dX2_decode_18 (fun H locs hP hD hS => ?_)
  have hi_13 : invX2 g ws_10 h0 [.ref r0_4, .int c1_4, .int c2_4, .int c3_4, .int c4_4, .int c5_4, .int c6_4, .ref r7_4, .int c8_4, .int r_2, .long 0, .int x1] := ⟨r0_4, (c1_4), (c2_4), (c3_4), (c4_4), (c5_4), (c6_4), r7_4, (n7_4), (c8_4), (r_2), (0), (x1), rfl, o_r0_4, a_r7_4, f2_4, f3_4, f4_4, trivial⟩
  obtain ⟨ws_14, e_ws_14⟩ : ∃ z, z = ws_10.set k_4 (h0, .inr (2, [.ref r0_4, .int c1_4, .int c2_4, .int c3_4, .int c4_4, .int c5_4, .int c6_4, .ref r7_4, .int c8_4, .int r_2, .long 0, .int x1])) := ⟨_, rfl⟩
  have hP : va_P (gD g) cl0 ws_14 H := by rw [e_ws_14]; exact hP
  have hD : va_D A ws_14 := by rw [e_ws_14]; exact hD
  have E_15 : gE ws_10 ws_14 := gE_set e_ws_14 hk_4 (cw_o (fi := 10) (v := .long 0) rfl (by decide))
  have hG : Good g ws_14 := Good_set (fi := 10) (v := .long 0) e_ws_14 hk_4 E_15 rfl hV9 hG (ivX2 hi_13)
  have Fr_16 : gF [(2, 10)] [] (some h0) ws_10 ws_14 := gF_put (fi := 10) (v := .long 0) e_ws_14 hk_4 rfl (by decide)
  have hkN := gset_self e_ws_14 hk_4
  have hk_4 := hkN
  have o_h0 := E_15.1 _ _ o_h0
  have o_r0_4 := E_15.1 _ _ o_r0_4
  have a_r7_4 := E_15.1 _ _ a_r7_4
  refine lv_iload_n hx hb dX2_decode_21 rfl (lv_at hl 0 rfl) ?_
  refine lv_iconst (v := 2) hx hb dX2_decode_22 (by decide) ?_
  refine lv_icmp_lt (tgt := 45) hx hb dX2_decode_23 (by decide) (fun c_17 => ?_) (fun c_17 => ?_)
  · refine lv_iload_n hx hb dX2_decode_45 rfl (lv_at hl 0 rfl) ?_
    refine lv_bipush (v := 9) hx hb dX2_decode_46 (by decide) ?_
    refine lv_icmp_eq (tgt := 57) hx hb dX2_decode_48 (by decide) (fun c_18 => ?_) (fun c_18 => ?_)
    · refine lv_aload_n hx hb dX2_decode_57 rfl (lv_at hl 1 rfl) ?_
      refine lv_bipush (v := 9) hx hb dX2_decode_58 (by decide) ?_
      refine lv_iload_n hx hb dX2_decode_60 rfl (lv_at hl 0 rfl) ?_
      refine lv_bipush (v := 9) hx hb dX2_decode_61 (by decide) ?_
      refine lv_isub hx hb dX2_decode_63 ?_
      refine lv_topi (fun z_19 ez_19 => ?_)
      obtain ⟨z_20, ez_20⟩ : ∃ y : Int64, (z_19 : Int32).toInt64 = y := ⟨_, rfl⟩
      refine lv_i2l (v := z_20) hx hb dX2_decode_64 ez_20 ?_
      have hFc := gfree hD hS hA
      refine va_callv (va_runV (As := [.int 9, .long z_20]) (rest := []) ⟨hx, hb, hml, hown, hts⟩ (m_X2_set_y l g H.size ws_14 h0 (9) (z_20) hG o_h0) (cwV 2 hts (gd_V kw_684 kw_793 kw_794 kw_389 kw_792) rfl rfl rfl (by decide +kernel) ⟨Nat.le_of_ble_eq_true rfl, Nat.le_of_ble_eq_true rfl⟩) ⟨gblind, va_recv hK hP (ci := 2) (q0 := k_4) rfl hk_4, fun U hU hW9 => gmk hU hW9 hP hK hD hex hE hS hFc⟩ rfl rfl hl.1 rfl (lv_room (Nat.le_of_ble_eq_true rfl)) dX2_decode_65 ⟨Nat.le_of_ble_eq_true rfl, Nat.le_of_ble_eq_true rfl⟩) hS (fun q _ h => hFc q h) hFc (fun  ws_21 t9 H1 locs ht9 hvm9 hw9 hB9 hz9 hk9 hS => ?_)
      obtain ⟨E_22, Fr_23, hG, hP1, hD1⟩ := hB9
      have hP : va_P (gD g) cl0 ws_21 H1 := by rw [← ht9]; exact hP1
      have hD : va_D A ws_21 := hD1.weaken (fun _ _ _ h => hFc _ h)
      obtain ⟨hw9, xp_26⟩ := hw9
      clear hP1 hD1 hz9 hk9 hvm9 ht9 hw9
      generalize H1 = H at hP hS ⊢
      have aa_27 := a_r7_4
      have o_h0 := E_22.1 _ _ o_h0
      refine lv_goto (tgt := 252) hx hb dX2_decode_68 (by decide) ?_
      refine W.widen (k := 0) (n := 0) (Nat.le_of_ble_eq_true rfl) (Nat.le_of_ble_eq_true rfl) ?_
      exact W.vret hx hb hr (fun t9 ht9 hW9 => ⟨⟨ws_21, rfl, ⟨trivial, ⟨_, _, xp_26, fun h9 => absurd h9 (by unfold isS; decide)⟩⟩, ⟨(E_7.tr (E_11.tr (E_15.tr E_22))), (gF.tr (gF.mo (F' := [(2, 9), (2, 10), (2, 11)]) (C' := []) (S' := none) Fr_8 (by decide) (fun _ h => h) (Or.inl rfl)) (gF.tr (gF.mo (F' := [(2, 9), (2, 10), (2, 11)]) (C' := []) (S' := none) Fr_12 (by decide) (fun _ h => h) (Or.inl rfl)) (gF.tr (gF.mo (F' := [(2, 9), (2, 10), (2, 11)]) (C' := []) (S' := none) Fr_16 (by decide) (fun _ h => h) (Or.inl rfl)) (gF.mo (F' := [(2, 9), (2, 10), (2, 11)]) (C' := []) (S' := none) Fr_23 (by decide) (fun _ h => h) (Or.inr rfl))))), hG, by rw [ht9]; exact hP, hD⟩⟩, hS.F ht9⟩) hS.2.2 dX2_decode_252
    · refine lv_iload_n hx hb dX2_decode_51 rfl (lv_at hl 0 rfl) ?_
      refine lv_bipush (v := 10) hx hb dX2_decode_52 (by decide) ?_
      refine lv_icmp_ne (tgt := 71) hx hb dX2_decode_54 (by decide) (fun c_28 => ?_) (fun c_28 => ?_)
      · refine lv_iload_n hx hb dX2_decode_71 rfl (lv_at hl 0 rfl) ?_
        refine lv_bipush (v := 16) hx hb dX2_decode_72 (by decide) ?_
        refine lv_icmp_ne (tgt := 95) hx hb dX2_decode_74 (by decide) (fun c_29 => ?_) (fun c_29 => ?_)
        · refine lv_iload_n hx hb dX2_decode_95 rfl (lv_at hl 0 rfl) ?_
          refine lv_bipush (v := 17) hx hb dX2_decode_96 (by decide) ?_
          refine lv_icmp_ne (tgt := 119) hx hb dX2_decode_98 (by decide) (fun c_30 => ?_) (fun c_30 => ?_)
          · refine lv_iload_n hx hb dX2_decode_119 rfl (lv_at hl 0 rfl) ?_
            refine lv_bipush (v := 18) hx hb dX2_decode_120 (by decide) ?_
            refine lv_icmp_ne (tgt := 142) hx hb dX2_decode_122 (by decide) (fun c_31 => ?_) (fun c_31 => ?_)
            · refine lv_iload_n hx hb dX2_decode_142 rfl (lv_at hl 0 rfl) ?_
              refine lv_sipush (v := 200) hx hb dX2_decode_143 (by decide) ?_
              refine lv_icmp_ne (tgt := 170) hx hb dX2_decode_146 (by decide) (fun c_32 => ?_) (fun c_32 => ?_)
              · refine lv_iload_n hx hb dX2_decode_170 rfl (lv_at hl 0 rfl) ?_
                have hFc := gfree hD hS hA
                refine va_calli (va_runS (As := [.int r_2]) (rest := []) ⟨hx, hb, hml, hown, hts⟩ (m_X6_isJump_y l g H.size ws_14 (r_2) hG ) (va_cwS 1 hts (gd_S kw_629 kw_1225 kw_1207 kw_1224) rfl rfl rfl (by decide +kernel) ⟨Nat.le_of_ble_eq_true rfl, Nat.le_of_ble_eq_true rfl⟩) ⟨gblind, fun U hU hW9 => gmk hU hW9 hP hK hD hex hE hS hFc⟩ rfl rfl hl.1 rfl (lv_room (Nat.le_of_ble_eq_true rfl)) dX2_decode_171 ⟨Nat.le_of_ble_eq_true rfl, Nat.le_of_ble_eq_true rfl⟩) hS (fun q _ h => hFc q h) hFc (fun r_33 u9 t9 H1 locs ht9 hvm9 hw9 hB9 hz9 hk9 hS => ?_)
                have hP : va_P (gD g) cl0 ws_14 H1 := by rw [← ht9]; exact hB9.1
                obtain ⟨hw9, xp_34⟩ := hw9
                have hz_r_33 : r_33 = 0 ∨ r_33 = 1 := hw9
                clear hB9 hz9 hk9 hvm9 ht9 hw9
                generalize H1 = H at hP hS ⊢
                refine lv_if_eq (tgt := 196) hx hb dX2_decode_174 (by decide) (fun c_35 => ?_) (fun c_35 => ?_)
                · refine lv_iload_n hx hb dX2_decode_196 rfl (lv_at hl 0 rfl) ?_
                  have hFc := gfree hD hS hA
                  refine va_calli (va_runS (As := [.int r_2]) (rest := []) ⟨hx, hb, hml, hown, hts⟩ (m_X6_isSwitch_y l g H.size ws_14 (r_2) hG ) (va_cwS 1 hts (gd_S kw_630 kw_1233 kw_1207 kw_1232) rfl rfl rfl (by decide +kernel) ⟨Nat.le_of_ble_eq_true rfl, Nat.le_of_ble_eq_true rfl⟩) ⟨gblind, fun U hU hW9 => gmk hU hW9 hP hK hD hex hE hS hFc⟩ rfl rfl hl.1 rfl (lv_room (Nat.le_of_ble_eq_true rfl)) dX2_decode_197 ⟨Nat.le_of_ble_eq_true rfl, Nat.le_of_ble_eq_true rfl⟩) hS (fun q _ h => hFc q h) hFc (fun r_36 u9 t9 H1 locs ht9 hvm9 hw9 hB9 hz9 hk9 hS => ?_)
                  have hP : va_P (gD g) cl0 ws_14 H1 := by rw [← ht9]; exact hB9.1
                  obtain ⟨hw9, xp_37⟩ := hw9
                  have hz_r_36 : r_36 = 0 ∨ r_36 = 1 := hw9
                  clear hB9 hz9 hk9 hvm9 ht9 hw9
                  generalize H1 = H at hP hS ⊢
                  refine lv_if_eq (tgt := 216) hx hb dX2_decode_200 (by decide) (fun c_38 => ?_) (fun c_38 => ?_)
                  · refine lv_iload_n hx hb dX2_decode_216 rfl (lv_at hl 0 rfl) ?_
                    have hFc := gfree hD hS hA
                    refine va_calli (va_runS (As := [.int r_2]) (rest := []) ⟨hx, hb, hml, hown, hts⟩ (m_X6_lengthOf_x l g H.size ws_14 (r_2) hG ) (va_cwS 1 hts (gd_S kw_687 kw_1244 kw_1207 kw_1243) rfl rfl rfl (by decide +kernel) ⟨Nat.le_of_ble_eq_true rfl, Nat.le_of_ble_eq_true rfl⟩) ⟨gblind, fun U hU hW9 => gmk hU hW9 hP hK hD hex hE hS hFc⟩ rfl rfl hl.1 rfl (lv_room (Nat.le_of_ble_eq_true rfl)) dX2_decode_217 ⟨Nat.le_of_ble_eq_true rfl, Nat.le_of_ble_eq_true rfl⟩) hS (fun q _ h => hFc q h) hFc (fun r_39 u9 t9 H1 locs ht9 hvm9 hw9 hB9 hz9 hk9 hS => ?_)
                    have hP : va_P (gD g) cl0 ws_14 H1 := by rw [← ht9]; exact hB9.1
                    obtain ⟨hw9, xp_40⟩ := hw9
                    have h_r_39 := hw9
                    clear hB9 hz9 hk9 hvm9 ht9 hw9
                    generalize H1 = H at hP hS ⊢
                    refine lv_iconst (v := 3) hx hb dX2_decode_220 (by decide) ?_
                    refine lv_icmp_ne (tgt := 247) hx hb dX2_decode_221 (by decide) (fun c_41 => ?_) (fun c_41 => ?_)
                    · refine lv_aload_n hx hb dX2_decode_247 rfl (lv_at hl 1 rfl) ?_
                      refine lv_iload_n hx hb dX2_decode_248 rfl (lv_at hl 2 rfl) ?_
                      have hkS := hk_4
                      have hDS := hD
                      have hFc := gfree hD hS hA
                      refine va_callv (va_runV (As := [.int x1]) (rest := []) ⟨hx, hb, hml, hown, hts⟩ (m_X2_decodeLocal_y l g H.size ws_14 h0 (x1) hG o_h0) (cwV 1 hts (gd_V kw_688 kw_690 kw_691 kw_389 kw_689) rfl rfl rfl (by decide +kernel) ⟨Nat.le_of_ble_eq_true rfl, Nat.le_of_ble_eq_true rfl⟩) ⟨gblind, va_recv hK hP (ci := 2) (q0 := k_4) rfl hk_4, fun U hU hW9 => gmk hU hW9 hP hK hD hex hE hS hFc⟩ rfl rfl hl.1 rfl (lv_room (Nat.le_of_ble_eq_true rfl)) dX2_decode_249 ⟨Nat.le_of_ble_eq_true rfl, Nat.le_of_ble_eq_true rfl⟩) hS (fun q _ h => hFc q h) hFc (fun  ws_42 t9 H1 locs ht9 hvm9 hw9 hB9 hz9 hk9 hS => ?_)
                      obtain ⟨E_43, Fr_44, hG, hP1, hD1⟩ := hB9
                      have hP : va_P (gD g) cl0 ws_42 H1 := by rw [← ht9]; exact hP1
                      have hD : va_D A ws_42 := hD1.weaken (fun _ _ _ h => hFc _ h)
                      obtain ⟨hw9, xp_47⟩ := hw9
                      clear hP1 hD1 hz9 hk9 hvm9 ht9 hw9
                      generalize H1 = H at hP hS ⊢
                      have aa_48 := a_r7_4
                      have o_h0 := E_43.1 _ _ o_h0
                      refine W.widen (k := 0) (n := 0) (Nat.le_of_ble_eq_true rfl) (Nat.le_of_ble_eq_true rfl) ?_
                      exact W.vret hx hb hr (fun t9 ht9 hW9 => ⟨⟨ws_42, rfl, ⟨trivial, dc_l hDS hkS rfl rfl xp_3 (fun h9 => absurd (xp_37.mpr h9) (by have e0 : (0 : Int32).toInt = 0 := (by decide); have q_c_38 := i_eq c_38; have g_r_36 := i_rg r_36; have b_r_36 := i_bit hz_r_36; omega)) (fun _ _ _ _ _ q9 => vx_mo ((gF.tr (gF.mo (F' := [(2, 9), (2, 10), (2, 11)]) (C' := []) (S' := none) Fr_8 (by decide) (fun _ h => h) (Or.inl rfl)) (gF.tr (gF.mo (F' := [(2, 9), (2, 10), (2, 11)]) (C' := []) (S' := none) Fr_12 (by decide) (fun _ h => h) (Or.inl rfl)) (gF.mo (F' := [(2, 9), (2, 10), (2, 11)]) (C' := []) (S' := none) Fr_16 (by decide) (fun _ h => h) (Or.inl rfl))))) (by decide) (by decide) (by decide) (by decide) (by decide) (by decide) q9) xp_47⟩, ⟨(E_7.tr (E_11.tr (E_15.tr E_43))), (gF.tr (gF.mo (F' := [(2, 9), (2, 10), (2, 11)]) (C' := []) (S' := none) Fr_8 (by decide) (fun _ h => h) (Or.inl rfl)) (gF.tr (gF.mo (F' := [(2, 9), (2, 10), (2, 11)]) (C' := []) (S' := none) Fr_12 (by decide) (fun _ h => h) (Or.inl rfl)) (gF.tr (gF.mo (F' := [(2, 9), (2, 10), (2, 11)]) (C' := []) (S' := none) Fr_16 (by decide) (fun _ h => h) (Or.inl rfl)) (gF.mo (F' := [(2, 9), (2, 10), (2, 11)]) (C' := []) (S' := none) Fr_44 (by decide) (fun _ h => h) (Or.inr rfl))))), hG, by rw [ht9]; exact hP, hD⟩⟩, hS.F ht9⟩) hS.2.2 dX2_decode_252
                    · refine lv_iload_n hx hb dX2_decode_224 rfl (lv_at hl 0 rfl) ?_
                      refine lv_sipush (v := 132) hx hb dX2_decode_225 (by decide) ?_
                      refine lv_icmp_eq (tgt := 247) hx hb dX2_decode_228 (by decide) (fun c_49 => ?_) (fun c_49 => ?_)
                      · refine lv_aload_n hx hb dX2_decode_247 rfl (lv_at hl 1 rfl) ?_
                        refine lv_iload_n hx hb dX2_decode_248 rfl (lv_at hl 2 rfl) ?_
                        have hkS := hk_4
                        have hDS := hD
                        have hFc := gfree hD hS hA
                        refine va_callv (va_runV (As := [.int x1]) (rest := []) ⟨hx, hb, hml, hown, hts⟩ (m_X2_decodeLocal_y l g H.size ws_14 h0 (x1) hG o_h0) (cwV 1 hts (gd_V kw_688 kw_690 kw_691 kw_389 kw_689) rfl rfl rfl (by decide +kernel) ⟨Nat.le_of_ble_eq_true rfl, Nat.le_of_ble_eq_true rfl⟩) ⟨gblind, va_recv hK hP (ci := 2) (q0 := k_4) rfl hk_4, fun U hU hW9 => gmk hU hW9 hP hK hD hex hE hS hFc⟩ rfl rfl hl.1 rfl (lv_room (Nat.le_of_ble_eq_true rfl)) dX2_decode_249 ⟨Nat.le_of_ble_eq_true rfl, Nat.le_of_ble_eq_true rfl⟩) hS (fun q _ h => hFc q h) hFc (fun  ws_50 t9 H1 locs ht9 hvm9 hw9 hB9 hz9 hk9 hS => ?_)
                        obtain ⟨E_51, Fr_52, hG, hP1, hD1⟩ := hB9
                        have hP : va_P (gD g) cl0 ws_50 H1 := by rw [← ht9]; exact hP1
                        have hD : va_D A ws_50 := hD1.weaken (fun _ _ _ h => hFc _ h)
                        obtain ⟨hw9, xp_55⟩ := hw9
                        clear hP1 hD1 hz9 hk9 hvm9 ht9 hw9
                        generalize H1 = H at hP hS ⊢
                        have aa_56 := a_r7_4
                        have o_h0 := E_51.1 _ _ o_h0
                        refine W.widen (k := 0) (n := 0) (Nat.le_of_ble_eq_true rfl) (Nat.le_of_ble_eq_true rfl) ?_
                        exact W.vret hx hb hr (fun t9 ht9 hW9 => ⟨⟨ws_50, rfl, ⟨trivial, dc_l hDS hkS rfl rfl xp_3 (fun h9 => absurd (xp_37.mpr h9) (by have e0 : (0 : Int32).toInt = 0 := (by decide); have q_c_38 := i_eq c_38; have g_r_36 := i_rg r_36; have b_r_36 := i_bit hz_r_36; omega)) (fun _ _ _ _ _ q9 => vx_mo ((gF.tr (gF.mo (F' := [(2, 9), (2, 10), (2, 11)]) (C' := []) (S' := none) Fr_8 (by decide) (fun _ h => h) (Or.inl rfl)) (gF.tr (gF.mo (F' := [(2, 9), (2, 10), (2, 11)]) (C' := []) (S' := none) Fr_12 (by decide) (fun _ h => h) (Or.inl rfl)) (gF.mo (F' := [(2, 9), (2, 10), (2, 11)]) (C' := []) (S' := none) Fr_16 (by decide) (fun _ h => h) (Or.inl rfl))))) (by decide) (by decide) (by decide) (by decide) (by decide) (by decide) q9) xp_55⟩, ⟨(E_7.tr (E_11.tr (E_15.tr E_51))), (gF.tr (gF.mo (F' := [(2, 9), (2, 10), (2, 11)]) (C' := []) (S' := none) Fr_8 (by decide) (fun _ h => h) (Or.inl rfl)) (gF.tr (gF.mo (F' := [(2, 9), (2, 10), (2, 11)]) (C' := []) (S' := none) Fr_12 (by decide) (fun _ h => h) (Or.inl rfl)) (gF.tr (gF.mo (F' := [(2, 9), (2, 10), (2, 11)]) (C' := []) (S' := none) Fr_16 (by decide) (fun _ h => h) (Or.inl rfl)) (gF.mo (F' := [(2, 9), (2, 10), (2, 11)]) (C' := []) (S' := none) Fr_52 (by decide) (fun _ h => h) (Or.inr rfl))))), hG, by rw [ht9]; exact hP, hD⟩⟩, hS.F ht9⟩) hS.2.2 dX2_decode_252
                      · refine lv_aload_n hx hb dX2_decode_231 rfl (lv_at hl 1 rfl) ?_
                        refine lv_iload_n hx hb dX2_decode_232 rfl (lv_at hl 0 rfl) ?_
                        refine lv_aload_n hx hb dX2_decode_233 rfl (lv_at hl 1 rfl) ?_
                        refine lv_iload_n hx hb dX2_decode_234 rfl (lv_at hl 2 rfl) ?_
                        refine lv_iconst (v := 1) hx hb dX2_decode_235 (by decide) ?_
                        refine lv_iadd hx hb dX2_decode_236 ?_
                        refine lv_topi (fun z_57 ez_57 => ?_)
                        have hFc := gfree hD hS hA
                        refine va_calli (va_runV (As := [.int z_57]) (rest := [.int r_2, .ref h0]) ⟨hx, hb, hml, hown, hts⟩ (m_X2_u2 l g H.size ws_14 h0 (z_57) hG o_h0) (cwV 1 hts (gd_V kw_685 kw_816 kw_817 kw_389 kw_815) rfl rfl rfl (by decide +kernel) ⟨Nat.le_of_ble_eq_true rfl, Nat.le_of_ble_eq_true rfl⟩) ⟨gblind, va_recv hK hP (ci := 2) (q0 := k_4) rfl hk_4, fun U hU hW9 => gmk hU hW9 hP hK hD hex hE hS hFc⟩ rfl rfl hl.1 rfl (lv_room (Nat.le_of_ble_eq_true rfl)) dX2_decode_237 ⟨Nat.le_of_ble_eq_true rfl, Nat.le_of_ble_eq_true rfl⟩) hS (fun q _ h => hFc q h) hFc (fun r_58 u9 t9 H1 locs ht9 hvm9 hw9 hB9 hz9 hk9 hS => ?_)
                        have hP : va_P (gD g) cl0 ws_14 H1 := by rw [← ht9]; exact hB9.1
                        clear hB9 hz9 hk9 hvm9 ht9 hw9
                        generalize H1 = H at hP hS ⊢
                        obtain ⟨z_59, ez_59⟩ : ∃ y : Int64, (r_58 : Int32).toInt64 = y := ⟨_, rfl⟩
                        refine lv_i2l (v := z_59) hx hb dX2_decode_240 ez_59 ?_
                        have hFc := gfree hD hS hA
                        refine va_callv (va_runV (As := [.int r_2, .long z_59]) (rest := []) ⟨hx, hb, hml, hown, hts⟩ (m_X2_set_y l g H.size ws_14 h0 (r_2) (z_59) hG o_h0) (cwV 2 hts (gd_V kw_684 kw_793 kw_794 kw_389 kw_792) rfl rfl rfl (by decide +kernel) ⟨Nat.le_of_ble_eq_true rfl, Nat.le_of_ble_eq_true rfl⟩) ⟨gblind, va_recv hK hP (ci := 2) (q0 := k_4) rfl hk_4, fun U hU hW9 => gmk hU hW9 hP hK hD hex hE hS hFc⟩ rfl rfl hl.1 rfl (lv_room (Nat.le_of_ble_eq_true rfl)) dX2_decode_241 ⟨Nat.le_of_ble_eq_true rfl, Nat.le_of_ble_eq_true rfl⟩) hS (fun q _ h => hFc q h) hFc (fun  ws_60 t9 H1 locs ht9 hvm9 hw9 hB9 hz9 hk9 hS => ?_)
                        obtain ⟨E_61, Fr_62, hG, hP1, hD1⟩ := hB9
                        have hP : va_P (gD g) cl0 ws_60 H1 := by rw [← ht9]; exact hP1
                        have hD : va_D A ws_60 := hD1.weaken (fun _ _ _ h => hFc _ h)
                        obtain ⟨hw9, xp_65⟩ := hw9
                        clear hP1 hD1 hz9 hk9 hvm9 ht9 hw9
                        generalize H1 = H at hP hS ⊢
                        have aa_66 := a_r7_4
                        have o_h0 := E_61.1 _ _ o_h0
                        refine lv_goto (tgt := 252) hx hb dX2_decode_244 (by decide) ?_
                        refine W.widen (k := 0) (n := 0) (Nat.le_of_ble_eq_true rfl) (Nat.le_of_ble_eq_true rfl) ?_
                        exact W.vret hx hb hr (fun t9 ht9 hW9 => ⟨⟨ws_60, rfl, ⟨trivial, ⟨_, _, xp_65, fun h9 => absurd (xp_37.mpr h9) (by have e0 : (0 : Int32).toInt = 0 := (by decide); have q_c_38 := i_eq c_38; have g_r_36 := i_rg r_36; have b_r_36 := i_bit hz_r_36; omega)⟩⟩, ⟨(E_7.tr (E_11.tr (E_15.tr E_61))), (gF.tr (gF.mo (F' := [(2, 9), (2, 10), (2, 11)]) (C' := []) (S' := none) Fr_8 (by decide) (fun _ h => h) (Or.inl rfl)) (gF.tr (gF.mo (F' := [(2, 9), (2, 10), (2, 11)]) (C' := []) (S' := none) Fr_12 (by decide) (fun _ h => h) (Or.inl rfl)) (gF.tr (gF.mo (F' := [(2, 9), (2, 10), (2, 11)]) (C' := []) (S' := none) Fr_16 (by decide) (fun _ h => h) (Or.inl rfl)) (gF.mo (F' := [(2, 9), (2, 10), (2, 11)]) (C' := []) (S' := none) Fr_62 (by decide) (fun _ h => h) (Or.inr rfl))))), hG, by rw [ht9]; exact hP, hD⟩⟩, hS.F ht9⟩) hS.2.2 dX2_decode_252
                  · refine lv_aload_n hx hb dX2_decode_203 rfl (lv_at hl 1 rfl) ?_
                    refine lv_iload_n hx hb dX2_decode_204 rfl (lv_at hl 0 rfl) ?_
                    refine lv_iload_n hx hb dX2_decode_205 rfl (lv_at hl 2 rfl) ?_
                    have hFc := gfree hD hS hA
                    refine va_calli (va_runS (As := [.int x1]) (rest := [.int r_2, .ref h0]) ⟨hx, hb, hml, hown, hts⟩ (m_X2_numbersOf_x l g H.size ws_14 (x1) hG ) (va_cwS 1 hts (gd_S kw_686 kw_764 kw_389 kw_763) rfl rfl rfl (by decide +kernel) ⟨Nat.le_of_ble_eq_true rfl, Nat.le_of_ble_eq_true rfl⟩) ⟨gblind, fun U hU hW9 => gmk hU hW9 hP hK hD hex hE hS hFc⟩ rfl rfl hl.1 rfl (lv_room (Nat.le_of_ble_eq_true rfl)) dX2_decode_206 ⟨Nat.le_of_ble_eq_true rfl, Nat.le_of_ble_eq_true rfl⟩) hS (fun q _ h => hFc q h) hFc (fun r_67 u9 t9 H1 locs ht9 hvm9 hw9 hB9 hz9 hk9 hS => ?_)
                    have hP : va_P (gD g) cl0 ws_14 H1 := by rw [← ht9]; exact hB9.1
                    obtain ⟨hw9, xp_68⟩ := hw9
                    have h_r_67 := hw9
                    clear hB9 hz9 hk9 hvm9 ht9 hw9
                    generalize H1 = H at hP hS ⊢
                    obtain ⟨z_69, ez_69⟩ : ∃ y : Int64, (r_67 : Int32).toInt64 = y := ⟨_, rfl⟩
                    refine lv_i2l (v := z_69) hx hb dX2_decode_209 ez_69 ?_
                    have hFc := gfree hD hS hA
                    refine va_callv (va_runV (As := [.int r_2, .long z_69]) (rest := []) ⟨hx, hb, hml, hown, hts⟩ (m_X2_set_y l g H.size ws_14 h0 (r_2) (z_69) hG o_h0) (cwV 2 hts (gd_V kw_684 kw_793 kw_794 kw_389 kw_792) rfl rfl rfl (by decide +kernel) ⟨Nat.le_of_ble_eq_true rfl, Nat.le_of_ble_eq_true rfl⟩) ⟨gblind, va_recv hK hP (ci := 2) (q0 := k_4) rfl hk_4, fun U hU hW9 => gmk hU hW9 hP hK hD hex hE hS hFc⟩ rfl rfl hl.1 rfl (lv_room (Nat.le_of_ble_eq_true rfl)) dX2_decode_210 ⟨Nat.le_of_ble_eq_true rfl, Nat.le_of_ble_eq_true rfl⟩) hS (fun q _ h => hFc q h) hFc (fun  ws_70 t9 H1 locs ht9 hvm9 hw9 hB9 hz9 hk9 hS => ?_)
                    obtain ⟨E_71, Fr_72, hG, hP1, hD1⟩ := hB9
                    have hP : va_P (gD g) cl0 ws_70 H1 := by rw [← ht9]; exact hP1
                    have hD : va_D A ws_70 := hD1.weaken (fun _ _ _ h => hFc _ h)
                    obtain ⟨hw9, xp_75⟩ := hw9
                    clear hP1 hD1 hz9 hk9 hvm9 ht9 hw9
                    generalize H1 = H at hP hS ⊢
                    have aa_76 := a_r7_4
                    have o_h0 := E_71.1 _ _ o_h0
                    refine lv_goto (tgt := 252) hx hb dX2_decode_213 (by decide) ?_
                    refine W.widen (k := 0) (n := 0) (Nat.le_of_ble_eq_true rfl) (Nat.le_of_ble_eq_true rfl) ?_
                    exact W.vret hx hb hr (fun t9 ht9 hW9 => ⟨⟨ws_70, rfl, ⟨trivial, ⟨_, _, xp_75, fun _ f9 e9 n9 c9 s9 q9 => Or.inl ⟨xp_3 _ _ _ _ _ q9, (by rw [← ez_69, xp_68])⟩⟩⟩, ⟨(E_7.tr (E_11.tr (E_15.tr E_71))), (gF.tr (gF.mo (F' := [(2, 9), (2, 10), (2, 11)]) (C' := []) (S' := none) Fr_8 (by decide) (fun _ h => h) (Or.inl rfl)) (gF.tr (gF.mo (F' := [(2, 9), (2, 10), (2, 11)]) (C' := []) (S' := none) Fr_12 (by decide) (fun _ h => h) (Or.inl rfl)) (gF.tr (gF.mo (F' := [(2, 9), (2, 10), (2, 11)]) (C' := []) (S' := none) Fr_16 (by decide) (fun _ h => h) (Or.inl rfl)) (gF.mo (F' := [(2, 9), (2, 10), (2, 11)]) (C' := []) (S' := none) Fr_72 (by decide) (fun _ h => h) (Or.inr rfl))))), hG, by rw [ht9]; exact hP, hD⟩⟩, hS.F ht9⟩) hS.2.2 dX2_decode_252
                · refine lv_aload_n hx hb dX2_decode_177 rfl (lv_at hl 1 rfl) ?_
                  refine lv_iload_n hx hb dX2_decode_178 rfl (lv_at hl 0 rfl) ?_
                  refine lv_iload_n hx hb dX2_decode_179 rfl (lv_at hl 2 rfl) ?_
                  refine lv_aload_n hx hb dX2_decode_180 rfl (lv_at hl 1 rfl) ?_
                  refine lv_iload_n hx hb dX2_decode_181 rfl (lv_at hl 2 rfl) ?_
                  refine lv_iconst (v := 1) hx hb dX2_decode_182 (by decide) ?_
                  refine lv_iadd hx hb dX2_decode_183 ?_
                  refine lv_topi (fun z_77 ez_77 => ?_)
                  have hFc := gfree hD hS hA
                  refine va_calli (va_runV (As := [.int z_77]) (rest := [.int x1, .int r_2, .ref h0]) ⟨hx, hb, hml, hown, hts⟩ (m_X2_u2 l g H.size ws_14 h0 (z_77) hG o_h0) (cwV 1 hts (gd_V kw_685 kw_816 kw_817 kw_389 kw_815) rfl rfl rfl (by decide +kernel) ⟨Nat.le_of_ble_eq_true rfl, Nat.le_of_ble_eq_true rfl⟩) ⟨gblind, va_recv hK hP (ci := 2) (q0 := k_4) rfl hk_4, fun U hU hW9 => gmk hU hW9 hP hK hD hex hE hS hFc⟩ rfl rfl hl.1 rfl (lv_room (Nat.le_of_ble_eq_true rfl)) dX2_decode_184 ⟨Nat.le_of_ble_eq_true rfl, Nat.le_of_ble_eq_true rfl⟩) hS (fun q _ h => hFc q h) hFc (fun r_78 u9 t9 H1 locs ht9 hvm9 hw9 hB9 hz9 hk9 hS => ?_)
                  have hP : va_P (gD g) cl0 ws_14 H1 := by rw [← ht9]; exact hB9.1
                  clear hB9 hz9 hk9 hvm9 ht9 hw9
                  generalize H1 = H at hP hS ⊢
                  obtain ⟨z_79, ez_79⟩ : ∃ y : Int32, (r_78 : Int32).toInt16.toInt32 = y := ⟨_, rfl⟩
                  refine lv_i2s (v := z_79) hx hb dX2_decode_187 ez_79 ?_
                  refine lv_iadd hx hb dX2_decode_188 ?_
                  refine lv_topi (fun z_80 ez_80 => ?_)
                  obtain ⟨z_81, ez_81⟩ : ∃ y : Int64, (z_80 : Int32).toInt64 = y := ⟨_, rfl⟩
                  refine lv_i2l (v := z_81) hx hb dX2_decode_189 ez_81 ?_
                  have hFc := gfree hD hS hA
                  refine va_callv (va_runV (As := [.int r_2, .long z_81]) (rest := []) ⟨hx, hb, hml, hown, hts⟩ (m_X2_set_y l g H.size ws_14 h0 (r_2) (z_81) hG o_h0) (cwV 2 hts (gd_V kw_684 kw_793 kw_794 kw_389 kw_792) rfl rfl rfl (by decide +kernel) ⟨Nat.le_of_ble_eq_true rfl, Nat.le_of_ble_eq_true rfl⟩) ⟨gblind, va_recv hK hP (ci := 2) (q0 := k_4) rfl hk_4, fun U hU hW9 => gmk hU hW9 hP hK hD hex hE hS hFc⟩ rfl rfl hl.1 rfl (lv_room (Nat.le_of_ble_eq_true rfl)) dX2_decode_190 ⟨Nat.le_of_ble_eq_true rfl, Nat.le_of_ble_eq_true rfl⟩) hS (fun q _ h => hFc q h) hFc (fun  ws_82 t9 H1 locs ht9 hvm9 hw9 hB9 hz9 hk9 hS => ?_)
                  obtain ⟨E_83, Fr_84, hG, hP1, hD1⟩ := hB9
                  have hP : va_P (gD g) cl0 ws_82 H1 := by rw [← ht9]; exact hP1
                  have hD : va_D A ws_82 := hD1.weaken (fun _ _ _ h => hFc _ h)
                  obtain ⟨hw9, xp_87⟩ := hw9
                  clear hP1 hD1 hz9 hk9 hvm9 ht9 hw9
                  generalize H1 = H at hP hS ⊢
                  have aa_88 := a_r7_4
                  have o_h0 := E_83.1 _ _ o_h0
                  refine lv_goto (tgt := 252) hx hb dX2_decode_193 (by decide) ?_
                  refine W.widen (k := 0) (n := 0) (Nat.le_of_ble_eq_true rfl) (Nat.le_of_ble_eq_true rfl) ?_
                  exact W.vret hx hb hr (fun t9 ht9 hW9 => ⟨⟨ws_82, rfl, ⟨trivial, ⟨_, _, xp_87, fun h9 => absurd h9 (xp_34 (by have e0 : (0 : Int32).toInt = 0 := (by decide); have q_c_35 := i_ne c_35; have g_r_33 := i_rg r_33; have b_r_33 := i_bit hz_r_33; omega))⟩⟩, ⟨(E_7.tr (E_11.tr (E_15.tr E_83))), (gF.tr (gF.mo (F' := [(2, 9), (2, 10), (2, 11)]) (C' := []) (S' := none) Fr_8 (by decide) (fun _ h => h) (Or.inl rfl)) (gF.tr (gF.mo (F' := [(2, 9), (2, 10), (2, 11)]) (C' := []) (S' := none) Fr_12 (by decide) (fun _ h => h) (Or.inl rfl)) (gF.tr (gF.mo (F' := [(2, 9), (2, 10), (2, 11)]) (C' := []) (S' := none) Fr_16 (by decide) (fun _ h => h) (Or.inl rfl)) (gF.mo (F' := [(2, 9), (2, 10), (2, 11)]) (C' := []) (S' := none) Fr_84 (by decide) (fun _ h => h) (Or.inr rfl))))), hG, by rw [ht9]; exact hP, hD⟩⟩, hS.F ht9⟩) hS.2.2 dX2_decode_252
              · refine lv_aload_n hx hb dX2_decode_149 rfl (lv_at hl 1 rfl) ?_
                refine lv_sipush (v := 167) hx hb dX2_decode_150 (by decide) ?_
                refine lv_iload_n hx hb dX2_decode_153 rfl (lv_at hl 2 rfl) ?_
                obtain ⟨z_89, ez_89⟩ : ∃ y : Int64, (x1 : Int32).toInt64 = y := ⟨_, rfl⟩
                refine lv_i2l (v := z_89) hx hb dX2_decode_154 ez_89 ?_
                refine lv_aload_n hx hb dX2_decode_155 rfl (lv_at hl 1 rfl) ?_
                refine lv_iload_n hx hb dX2_decode_156 rfl (lv_at hl 2 rfl) ?_
                refine lv_iconst (v := 1) hx hb dX2_decode_157 (by decide) ?_
                refine lv_iadd hx hb dX2_decode_158 ?_
                refine lv_topi (fun z_90 ez_90 => ?_)
                have hFc := gfree hD hS hA
                refine va_calli (va_runV (As := [.int z_90]) (rest := [.long z_89, .int 167, .ref h0]) ⟨hx, hb, hml, hown, hts⟩ (m_X2_s4_x l g H.size ws_14 h0 (z_90) hG o_h0) (cwV 1 hts (gd_V kw_623 kw_790 kw_791 kw_389 kw_789) rfl rfl rfl (by decide +kernel) ⟨Nat.le_of_ble_eq_true rfl, Nat.le_of_ble_eq_true rfl⟩) ⟨gblind, va_recv hK hP (ci := 2) (q0 := k_4) rfl hk_4, fun U hU hW9 => gmk hU hW9 hP hK hD hex hE hS hFc⟩ rfl rfl hl.1 rfl (lv_room (Nat.le_of_ble_eq_true rfl)) dX2_decode_159 ⟨Nat.le_of_ble_eq_true rfl, Nat.le_of_ble_eq_true rfl⟩) hS (fun q _ h => hFc q h) hFc (fun r_91 u9 t9 H1 locs ht9 hvm9 hw9 hB9 hz9 hk9 hS => ?_)
                have hP : va_P (gD g) cl0 ws_14 H1 := by rw [← ht9]; exact hB9.1
                obtain ⟨hw9, xp_92⟩ := hw9
                clear hB9 hz9 hk9 hvm9 ht9 hw9
                generalize H1 = H at hP hS ⊢
                obtain ⟨z_93, ez_93⟩ : ∃ y : Int64, (r_91 : Int32).toInt64 = y := ⟨_, rfl⟩
                refine lv_i2l (v := z_93) hx hb dX2_decode_162 ez_93 ?_
                refine lv_ladd hx hb dX2_decode_163 ?_
                refine lv_topl (fun z_94 ez_94 => ?_)
                have hFc := gfree hD hS hA
                refine va_callv (va_runV (As := [.int 167, .long z_94]) (rest := []) ⟨hx, hb, hml, hown, hts⟩ (m_X2_set_y l g H.size ws_14 h0 (167) (z_94) hG o_h0) (cwV 2 hts (gd_V kw_684 kw_793 kw_794 kw_389 kw_792) rfl rfl rfl (by decide +kernel) ⟨Nat.le_of_ble_eq_true rfl, Nat.le_of_ble_eq_true rfl⟩) ⟨gblind, va_recv hK hP (ci := 2) (q0 := k_4) rfl hk_4, fun U hU hW9 => gmk hU hW9 hP hK hD hex hE hS hFc⟩ rfl rfl hl.1 rfl (lv_room (Nat.le_of_ble_eq_true rfl)) dX2_decode_164 ⟨Nat.le_of_ble_eq_true rfl, Nat.le_of_ble_eq_true rfl⟩) hS (fun q _ h => hFc q h) hFc (fun  ws_95 t9 H1 locs ht9 hvm9 hw9 hB9 hz9 hk9 hS => ?_)
                obtain ⟨E_96, Fr_97, hG, hP1, hD1⟩ := hB9
                have hP : va_P (gD g) cl0 ws_95 H1 := by rw [← ht9]; exact hP1
                have hD : va_D A ws_95 := hD1.weaken (fun _ _ _ h => hFc _ h)
                obtain ⟨hw9, xp_100⟩ := hw9
                clear hP1 hD1 hz9 hk9 hvm9 ht9 hw9
                generalize H1 = H at hP hS ⊢
                have aa_101 := a_r7_4
                have o_h0 := E_96.1 _ _ o_h0
                refine lv_goto (tgt := 252) hx hb dX2_decode_167 (by decide) ?_
                refine W.widen (k := 0) (n := 0) (Nat.le_of_ble_eq_true rfl) (Nat.le_of_ble_eq_true rfl) ?_
                exact W.vret hx hb hr (fun t9 ht9 hW9 => ⟨⟨ws_95, rfl, ⟨trivial, ⟨_, _, xp_100, fun h9 => absurd h9 (by unfold isS; decide)⟩⟩, ⟨(E_7.tr (E_11.tr (E_15.tr E_96))), (gF.tr (gF.mo (F' := [(2, 9), (2, 10), (2, 11)]) (C' := []) (S' := none) Fr_8 (by decide) (fun _ h => h) (Or.inl rfl)) (gF.tr (gF.mo (F' := [(2, 9), (2, 10), (2, 11)]) (C' := []) (S' := none) Fr_12 (by decide) (fun _ h => h) (Or.inl rfl)) (gF.tr (gF.mo (F' := [(2, 9), (2, 10), (2, 11)]) (C' := []) (S' := none) Fr_16 (by decide) (fun _ h => h) (Or.inl rfl)) (gF.mo (F' := [(2, 9), (2, 10), (2, 11)]) (C' := []) (S' := none) Fr_97 (by decide) (fun _ h => h) (Or.inr rfl))))), hG, by rw [ht9]; exact hP, hD⟩⟩, hS.F ht9⟩) hS.2.2 dX2_decode_252
            · refine lv_aload_n hx hb dX2_decode_125 rfl (lv_at hl 1 rfl) ?_
              refine lv_bipush (v := 19) hx hb dX2_decode_126 (by decide) ?_
              refine lv_aload_n hx hb dX2_decode_128 rfl (lv_at hl 1 rfl) ?_
              refine lv_iload_n hx hb dX2_decode_129 rfl (lv_at hl 2 rfl) ?_
              refine lv_iconst (v := 1) hx hb dX2_decode_130 (by decide) ?_
              refine lv_iadd hx hb dX2_decode_131 ?_
              refine lv_topi (fun z_102 ez_102 => ?_)
              have hFc := gfree hD hS hA
              refine va_calli (va_runV (As := [.int z_102]) (rest := [.int 19, .ref h0]) ⟨hx, hb, hml, hown, hts⟩ (m_X2_u1_x l g H.size ws_14 h0 (z_102) hG o_h0) (cwV 1 hts (gd_V kw_682 kw_812 kw_813 kw_389 kw_811) rfl rfl rfl (by decide +kernel) ⟨Nat.le_of_ble_eq_true rfl, Nat.le_of_ble_eq_true rfl⟩) ⟨gblind, va_recv hK hP (ci := 2) (q0 := k_4) rfl hk_4, fun U hU hW9 => gmk hU hW9 hP hK hD hex hE hS hFc⟩ rfl rfl hl.1 rfl (lv_room (Nat.le_of_ble_eq_true rfl)) dX2_decode_132 ⟨Nat.le_of_ble_eq_true rfl, Nat.le_of_ble_eq_true rfl⟩) hS (fun q _ h => hFc q h) hFc (fun r_103 u9 t9 H1 locs ht9 hvm9 hw9 hB9 hz9 hk9 hS => ?_)
              have hP : va_P (gD g) cl0 ws_14 H1 := by rw [← ht9]; exact hB9.1
              obtain ⟨hw9, xp_104⟩ := hw9
              clear hB9 hz9 hk9 hvm9 ht9 hw9
              generalize H1 = H at hP hS ⊢
              obtain ⟨z_105, ez_105⟩ : ∃ y : Int64, (r_103 : Int32).toInt64 = y := ⟨_, rfl⟩
              refine lv_i2l (v := z_105) hx hb dX2_decode_135 ez_105 ?_
              have hFc := gfree hD hS hA
              refine va_callv (va_runV (As := [.int 19, .long z_105]) (rest := []) ⟨hx, hb, hml, hown, hts⟩ (m_X2_set_y l g H.size ws_14 h0 (19) (z_105) hG o_h0) (cwV 2 hts (gd_V kw_684 kw_793 kw_794 kw_389 kw_792) rfl rfl rfl (by decide +kernel) ⟨Nat.le_of_ble_eq_true rfl, Nat.le_of_ble_eq_true rfl⟩) ⟨gblind, va_recv hK hP (ci := 2) (q0 := k_4) rfl hk_4, fun U hU hW9 => gmk hU hW9 hP hK hD hex hE hS hFc⟩ rfl rfl hl.1 rfl (lv_room (Nat.le_of_ble_eq_true rfl)) dX2_decode_136 ⟨Nat.le_of_ble_eq_true rfl, Nat.le_of_ble_eq_true rfl⟩) hS (fun q _ h => hFc q h) hFc (fun  ws_106 t9 H1 locs ht9 hvm9 hw9 hB9 hz9 hk9 hS => ?_)
              obtain ⟨E_107, Fr_108, hG, hP1, hD1⟩ := hB9
              have hP : va_P (gD g) cl0 ws_106 H1 := by rw [← ht9]; exact hP1
              have hD : va_D A ws_106 := hD1.weaken (fun _ _ _ h => hFc _ h)
              obtain ⟨hw9, xp_111⟩ := hw9
              clear hP1 hD1 hz9 hk9 hvm9 ht9 hw9
              generalize H1 = H at hP hS ⊢
              have aa_112 := a_r7_4
              have o_h0 := E_107.1 _ _ o_h0
              refine lv_goto (tgt := 252) hx hb dX2_decode_139 (by decide) ?_
              refine W.widen (k := 0) (n := 0) (Nat.le_of_ble_eq_true rfl) (Nat.le_of_ble_eq_true rfl) ?_
              exact W.vret hx hb hr (fun t9 ht9 hW9 => ⟨⟨ws_106, rfl, ⟨trivial, ⟨_, _, xp_111, fun h9 => absurd h9 (by unfold isS; decide)⟩⟩, ⟨(E_7.tr (E_11.tr (E_15.tr E_107))), (gF.tr (gF.mo (F' := [(2, 9), (2, 10), (2, 11)]) (C' := []) (S' := none) Fr_8 (by decide) (fun _ h => h) (Or.inl rfl)) (gF.tr (gF.mo (F' := [(2, 9), (2, 10), (2, 11)]) (C' := []) (S' := none) Fr_12 (by decide) (fun _ h => h) (Or.inl rfl)) (gF.tr (gF.mo (F' := [(2, 9), (2, 10), (2, 11)]) (C' := []) (S' := none) Fr_16 (by decide) (fun _ h => h) (Or.inl rfl)) (gF.mo (F' := [(2, 9), (2, 10), (2, 11)]) (C' := []) (S' := none) Fr_108 (by decide) (fun _ h => h) (Or.inr rfl))))), hG, by rw [ht9]; exact hP, hD⟩⟩, hS.F ht9⟩) hS.2.2 dX2_decode_252
          · refine lv_aload_n hx hb dX2_decode_101 rfl (lv_at hl 1 rfl) ?_
            refine lv_bipush (v := 17) hx hb dX2_decode_102 (by decide) ?_
            refine lv_aload_n hx hb dX2_decode_104 rfl (lv_at hl 1 rfl) ?_
            refine lv_iload_n hx hb dX2_decode_105 rfl (lv_at hl 2 rfl) ?_
            refine lv_iconst (v := 1) hx hb dX2_decode_106 (by decide) ?_
            refine lv_iadd hx hb dX2_decode_107 ?_
            refine lv_topi (fun z_113 ez_113 => ?_)
            have hFc := gfree hD hS hA
            refine va_calli (va_runV (As := [.int z_113]) (rest := [.int 17, .ref h0]) ⟨hx, hb, hml, hown, hts⟩ (m_X2_u2 l g H.size ws_14 h0 (z_113) hG o_h0) (cwV 1 hts (gd_V kw_685 kw_816 kw_817 kw_389 kw_815) rfl rfl rfl (by decide +kernel) ⟨Nat.le_of_ble_eq_true rfl, Nat.le_of_ble_eq_true rfl⟩) ⟨gblind, va_recv hK hP (ci := 2) (q0 := k_4) rfl hk_4, fun U hU hW9 => gmk hU hW9 hP hK hD hex hE hS hFc⟩ rfl rfl hl.1 rfl (lv_room (Nat.le_of_ble_eq_true rfl)) dX2_decode_108 ⟨Nat.le_of_ble_eq_true rfl, Nat.le_of_ble_eq_true rfl⟩) hS (fun q _ h => hFc q h) hFc (fun r_114 u9 t9 H1 locs ht9 hvm9 hw9 hB9 hz9 hk9 hS => ?_)
            have hP : va_P (gD g) cl0 ws_14 H1 := by rw [← ht9]; exact hB9.1
            clear hB9 hz9 hk9 hvm9 ht9 hw9
            generalize H1 = H at hP hS ⊢
            obtain ⟨z_115, ez_115⟩ : ∃ y : Int32, (r_114 : Int32).toInt16.toInt32 = y := ⟨_, rfl⟩
            refine lv_i2s (v := z_115) hx hb dX2_decode_111 ez_115 ?_
            obtain ⟨z_116, ez_116⟩ : ∃ y : Int64, (z_115 : Int32).toInt64 = y := ⟨_, rfl⟩
            refine lv_i2l (v := z_116) hx hb dX2_decode_112 ez_116 ?_
            have hFc := gfree hD hS hA
            refine va_callv (va_runV (As := [.int 17, .long z_116]) (rest := []) ⟨hx, hb, hml, hown, hts⟩ (m_X2_set_y l g H.size ws_14 h0 (17) (z_116) hG o_h0) (cwV 2 hts (gd_V kw_684 kw_793 kw_794 kw_389 kw_792) rfl rfl rfl (by decide +kernel) ⟨Nat.le_of_ble_eq_true rfl, Nat.le_of_ble_eq_true rfl⟩) ⟨gblind, va_recv hK hP (ci := 2) (q0 := k_4) rfl hk_4, fun U hU hW9 => gmk hU hW9 hP hK hD hex hE hS hFc⟩ rfl rfl hl.1 rfl (lv_room (Nat.le_of_ble_eq_true rfl)) dX2_decode_113 ⟨Nat.le_of_ble_eq_true rfl, Nat.le_of_ble_eq_true rfl⟩) hS (fun q _ h => hFc q h) hFc (fun  ws_117 t9 H1 locs ht9 hvm9 hw9 hB9 hz9 hk9 hS => ?_)
            obtain ⟨E_118, Fr_119, hG, hP1, hD1⟩ := hB9
            have hP : va_P (gD g) cl0 ws_117 H1 := by rw [← ht9]; exact hP1
            have hD : va_D A ws_117 := hD1.weaken (fun _ _ _ h => hFc _ h)
            obtain ⟨hw9, xp_122⟩ := hw9
            clear hP1 hD1 hz9 hk9 hvm9 ht9 hw9
            generalize H1 = H at hP hS ⊢
            have aa_123 := a_r7_4
            have o_h0 := E_118.1 _ _ o_h0
            refine lv_goto (tgt := 252) hx hb dX2_decode_116 (by decide) ?_
            refine W.widen (k := 0) (n := 0) (Nat.le_of_ble_eq_true rfl) (Nat.le_of_ble_eq_true rfl) ?_
            exact W.vret hx hb hr (fun t9 ht9 hW9 => ⟨⟨ws_117, rfl, ⟨trivial, ⟨_, _, xp_122, fun h9 => absurd h9 (by unfold isS; decide)⟩⟩, ⟨(E_7.tr (E_11.tr (E_15.tr E_118))), (gF.tr (gF.mo (F' := [(2, 9), (2, 10), (2, 11)]) (C' := []) (S' := none) Fr_8 (by decide) (fun _ h => h) (Or.inl rfl)) (gF.tr (gF.mo (F' := [(2, 9), (2, 10), (2, 11)]) (C' := []) (S' := none) Fr_12 (by decide) (fun _ h => h) (Or.inl rfl)) (gF.tr (gF.mo (F' := [(2, 9), (2, 10), (2, 11)]) (C' := []) (S' := none) Fr_16 (by decide) (fun _ h => h) (Or.inl rfl)) (gF.mo (F' := [(2, 9), (2, 10), (2, 11)]) (C' := []) (S' := none) Fr_119 (by decide) (fun _ h => h) (Or.inr rfl))))), hG, by rw [ht9]; exact hP, hD⟩⟩, hS.F ht9⟩) hS.2.2 dX2_decode_252
        · refine lv_aload_n hx hb dX2_decode_77 rfl (lv_at hl 1 rfl) ?_
          refine lv_bipush (v := 17) hx hb dX2_decode_78 (by decide) ?_
          refine lv_aload_n hx hb dX2_decode_80 rfl (lv_at hl 1 rfl) ?_
          refine lv_iload_n hx hb dX2_decode_81 rfl (lv_at hl 2 rfl) ?_
          refine lv_iconst (v := 1) hx hb dX2_decode_82 (by decide) ?_
          refine lv_iadd hx hb dX2_decode_83 ?_
          refine lv_topi (fun z_124 ez_124 => ?_)
          have hFc := gfree hD hS hA
          refine va_calli (va_runV (As := [.int z_124]) (rest := [.int 17, .ref h0]) ⟨hx, hb, hml, hown, hts⟩ (m_X2_u1_x l g H.size ws_14 h0 (z_124) hG o_h0) (cwV 1 hts (gd_V kw_682 kw_812 kw_813 kw_389 kw_811) rfl rfl rfl (by decide +kernel) ⟨Nat.le_of_ble_eq_true rfl, Nat.le_of_ble_eq_true rfl⟩) ⟨gblind, va_recv hK hP (ci := 2) (q0 := k_4) rfl hk_4, fun U hU hW9 => gmk hU hW9 hP hK hD hex hE hS hFc⟩ rfl rfl hl.1 rfl (lv_room (Nat.le_of_ble_eq_true rfl)) dX2_decode_84 ⟨Nat.le_of_ble_eq_true rfl, Nat.le_of_ble_eq_true rfl⟩) hS (fun q _ h => hFc q h) hFc (fun r_125 u9 t9 H1 locs ht9 hvm9 hw9 hB9 hz9 hk9 hS => ?_)
          have hP : va_P (gD g) cl0 ws_14 H1 := by rw [← ht9]; exact hB9.1
          obtain ⟨hw9, xp_126⟩ := hw9
          clear hB9 hz9 hk9 hvm9 ht9 hw9
          generalize H1 = H at hP hS ⊢
          obtain ⟨z_127, ez_127⟩ : ∃ y : Int32, (r_125 : Int32).toInt8.toInt32 = y := ⟨_, rfl⟩
          refine lv_i2b (v := z_127) hx hb dX2_decode_87 ez_127 ?_
          obtain ⟨z_128, ez_128⟩ : ∃ y : Int64, (z_127 : Int32).toInt64 = y := ⟨_, rfl⟩
          refine lv_i2l (v := z_128) hx hb dX2_decode_88 ez_128 ?_
          have hFc := gfree hD hS hA
          refine va_callv (va_runV (As := [.int 17, .long z_128]) (rest := []) ⟨hx, hb, hml, hown, hts⟩ (m_X2_set_y l g H.size ws_14 h0 (17) (z_128) hG o_h0) (cwV 2 hts (gd_V kw_684 kw_793 kw_794 kw_389 kw_792) rfl rfl rfl (by decide +kernel) ⟨Nat.le_of_ble_eq_true rfl, Nat.le_of_ble_eq_true rfl⟩) ⟨gblind, va_recv hK hP (ci := 2) (q0 := k_4) rfl hk_4, fun U hU hW9 => gmk hU hW9 hP hK hD hex hE hS hFc⟩ rfl rfl hl.1 rfl (lv_room (Nat.le_of_ble_eq_true rfl)) dX2_decode_89 ⟨Nat.le_of_ble_eq_true rfl, Nat.le_of_ble_eq_true rfl⟩) hS (fun q _ h => hFc q h) hFc (fun  ws_129 t9 H1 locs ht9 hvm9 hw9 hB9 hz9 hk9 hS => ?_)
          obtain ⟨E_130, Fr_131, hG, hP1, hD1⟩ := hB9
          have hP : va_P (gD g) cl0 ws_129 H1 := by rw [← ht9]; exact hP1
          have hD : va_D A ws_129 := hD1.weaken (fun _ _ _ h => hFc _ h)
          obtain ⟨hw9, xp_134⟩ := hw9
          clear hP1 hD1 hz9 hk9 hvm9 ht9 hw9
          generalize H1 = H at hP hS ⊢
          have aa_135 := a_r7_4
          have o_h0 := E_130.1 _ _ o_h0
          refine lv_goto (tgt := 252) hx hb dX2_decode_92 (by decide) ?_
          refine W.widen (k := 0) (n := 0) (Nat.le_of_ble_eq_true rfl) (Nat.le_of_ble_eq_true rfl) ?_
          exact W.vret hx hb hr (fun t9 ht9 hW9 => ⟨⟨ws_129, rfl, ⟨trivial, ⟨_, _, xp_134, fun h9 => absurd h9 (by unfold isS; decide)⟩⟩, ⟨(E_7.tr (E_11.tr (E_15.tr E_130))), (gF.tr (gF.mo (F' := [(2, 9), (2, 10), (2, 11)]) (C' := []) (S' := none) Fr_8 (by decide) (fun _ h => h) (Or.inl rfl)) (gF.tr (gF.mo (F' := [(2, 9), (2, 10), (2, 11)]) (C' := []) (S' := none) Fr_12 (by decide) (fun _ h => h) (Or.inl rfl)) (gF.tr (gF.mo (F' := [(2, 9), (2, 10), (2, 11)]) (C' := []) (S' := none) Fr_16 (by decide) (fun _ h => h) (Or.inl rfl)) (gF.mo (F' := [(2, 9), (2, 10), (2, 11)]) (C' := []) (S' := none) Fr_131 (by decide) (fun _ h => h) (Or.inr rfl))))), hG, by rw [ht9]; exact hP, hD⟩⟩, hS.F ht9⟩) hS.2.2 dX2_decode_252
      · refine lv_aload_n hx hb dX2_decode_57 rfl (lv_at hl 1 rfl) ?_
        refine lv_bipush (v := 9) hx hb dX2_decode_58 (by decide) ?_
        refine lv_iload_n hx hb dX2_decode_60 rfl (lv_at hl 0 rfl) ?_
        refine lv_bipush (v := 9) hx hb dX2_decode_61 (by decide) ?_
        refine lv_isub hx hb dX2_decode_63 ?_
        refine lv_topi (fun z_136 ez_136 => ?_)
        obtain ⟨z_137, ez_137⟩ : ∃ y : Int64, (z_136 : Int32).toInt64 = y := ⟨_, rfl⟩
        refine lv_i2l (v := z_137) hx hb dX2_decode_64 ez_137 ?_
        have hFc := gfree hD hS hA
        refine va_callv (va_runV (As := [.int 9, .long z_137]) (rest := []) ⟨hx, hb, hml, hown, hts⟩ (m_X2_set_y l g H.size ws_14 h0 (9) (z_137) hG o_h0) (cwV 2 hts (gd_V kw_684 kw_793 kw_794 kw_389 kw_792) rfl rfl rfl (by decide +kernel) ⟨Nat.le_of_ble_eq_true rfl, Nat.le_of_ble_eq_true rfl⟩) ⟨gblind, va_recv hK hP (ci := 2) (q0 := k_4) rfl hk_4, fun U hU hW9 => gmk hU hW9 hP hK hD hex hE hS hFc⟩ rfl rfl hl.1 rfl (lv_room (Nat.le_of_ble_eq_true rfl)) dX2_decode_65 ⟨Nat.le_of_ble_eq_true rfl, Nat.le_of_ble_eq_true rfl⟩) hS (fun q _ h => hFc q h) hFc (fun  ws_138 t9 H1 locs ht9 hvm9 hw9 hB9 hz9 hk9 hS => ?_)
        obtain ⟨E_139, Fr_140, hG, hP1, hD1⟩ := hB9
        have hP : va_P (gD g) cl0 ws_138 H1 := by rw [← ht9]; exact hP1
        have hD : va_D A ws_138 := hD1.weaken (fun _ _ _ h => hFc _ h)
        obtain ⟨hw9, xp_143⟩ := hw9
        clear hP1 hD1 hz9 hk9 hvm9 ht9 hw9
        generalize H1 = H at hP hS ⊢
        have aa_144 := a_r7_4
        have o_h0 := E_139.1 _ _ o_h0
        refine lv_goto (tgt := 252) hx hb dX2_decode_68 (by decide) ?_
        refine W.widen (k := 0) (n := 0) (Nat.le_of_ble_eq_true rfl) (Nat.le_of_ble_eq_true rfl) ?_
        exact W.vret hx hb hr (fun t9 ht9 hW9 => ⟨⟨ws_138, rfl, ⟨trivial, ⟨_, _, xp_143, fun h9 => absurd h9 (by unfold isS; decide)⟩⟩, ⟨(E_7.tr (E_11.tr (E_15.tr E_139))), (gF.tr (gF.mo (F' := [(2, 9), (2, 10), (2, 11)]) (C' := []) (S' := none) Fr_8 (by decide) (fun _ h => h) (Or.inl rfl)) (gF.tr (gF.mo (F' := [(2, 9), (2, 10), (2, 11)]) (C' := []) (S' := none) Fr_12 (by decide) (fun _ h => h) (Or.inl rfl)) (gF.tr (gF.mo (F' := [(2, 9), (2, 10), (2, 11)]) (C' := []) (S' := none) Fr_16 (by decide) (fun _ h => h) (Or.inl rfl)) (gF.mo (F' := [(2, 9), (2, 10), (2, 11)]) (C' := []) (S' := none) Fr_140 (by decide) (fun _ h => h) (Or.inr rfl))))), hG, by rw [ht9]; exact hP, hD⟩⟩, hS.F ht9⟩) hS.2.2 dX2_decode_252
  · refine lv_iload_n hx hb dX2_decode_26 rfl (lv_at hl 0 rfl) ?_
    refine lv_bipush (v := 8) hx hb dX2_decode_27 (by decide) ?_
    refine lv_icmp_gt (tgt := 45) hx hb dX2_decode_29 (by decide) (fun c_145 => ?_) (fun c_145 => ?_)
    · refine lv_iload_n hx hb dX2_decode_45 rfl (lv_at hl 0 rfl) ?_
      refine lv_bipush (v := 9) hx hb dX2_decode_46 (by decide) ?_
      refine lv_icmp_eq (tgt := 57) hx hb dX2_decode_48 (by decide) (fun c_146 => ?_) (fun c_146 => ?_)
      · refine lv_aload_n hx hb dX2_decode_57 rfl (lv_at hl 1 rfl) ?_
        refine lv_bipush (v := 9) hx hb dX2_decode_58 (by decide) ?_
        refine lv_iload_n hx hb dX2_decode_60 rfl (lv_at hl 0 rfl) ?_
        refine lv_bipush (v := 9) hx hb dX2_decode_61 (by decide) ?_
        refine lv_isub hx hb dX2_decode_63 ?_
        refine lv_topi (fun z_147 ez_147 => ?_)
        obtain ⟨z_148, ez_148⟩ : ∃ y : Int64, (z_147 : Int32).toInt64 = y := ⟨_, rfl⟩
        refine lv_i2l (v := z_148) hx hb dX2_decode_64 ez_148 ?_
        have hFc := gfree hD hS hA
        refine va_callv (va_runV (As := [.int 9, .long z_148]) (rest := []) ⟨hx, hb, hml, hown, hts⟩ (m_X2_set_y l g H.size ws_14 h0 (9) (z_148) hG o_h0) (cwV 2 hts (gd_V kw_684 kw_793 kw_794 kw_389 kw_792) rfl rfl rfl (by decide +kernel) ⟨Nat.le_of_ble_eq_true rfl, Nat.le_of_ble_eq_true rfl⟩) ⟨gblind, va_recv hK hP (ci := 2) (q0 := k_4) rfl hk_4, fun U hU hW9 => gmk hU hW9 hP hK hD hex hE hS hFc⟩ rfl rfl hl.1 rfl (lv_room (Nat.le_of_ble_eq_true rfl)) dX2_decode_65 ⟨Nat.le_of_ble_eq_true rfl, Nat.le_of_ble_eq_true rfl⟩) hS (fun q _ h => hFc q h) hFc (fun  ws_149 t9 H1 locs ht9 hvm9 hw9 hB9 hz9 hk9 hS => ?_)
        obtain ⟨E_150, Fr_151, hG, hP1, hD1⟩ := hB9
        have hP : va_P (gD g) cl0 ws_149 H1 := by rw [← ht9]; exact hP1
        have hD : va_D A ws_149 := hD1.weaken (fun _ _ _ h => hFc _ h)
        obtain ⟨hw9, xp_154⟩ := hw9
        clear hP1 hD1 hz9 hk9 hvm9 ht9 hw9
        generalize H1 = H at hP hS ⊢
        have aa_155 := a_r7_4
        have o_h0 := E_150.1 _ _ o_h0
        refine lv_goto (tgt := 252) hx hb dX2_decode_68 (by decide) ?_
        refine W.widen (k := 0) (n := 0) (Nat.le_of_ble_eq_true rfl) (Nat.le_of_ble_eq_true rfl) ?_
        exact W.vret hx hb hr (fun t9 ht9 hW9 => ⟨⟨ws_149, rfl, ⟨trivial, ⟨_, _, xp_154, fun h9 => absurd h9 (by unfold isS; decide)⟩⟩, ⟨(E_7.tr (E_11.tr (E_15.tr E_150))), (gF.tr (gF.mo (F' := [(2, 9), (2, 10), (2, 11)]) (C' := []) (S' := none) Fr_8 (by decide) (fun _ h => h) (Or.inl rfl)) (gF.tr (gF.mo (F' := [(2, 9), (2, 10), (2, 11)]) (C' := []) (S' := none) Fr_12 (by decide) (fun _ h => h) (Or.inl rfl)) (gF.tr (gF.mo (F' := [(2, 9), (2, 10), (2, 11)]) (C' := []) (S' := none) Fr_16 (by decide) (fun _ h => h) (Or.inl rfl)) (gF.mo (F' := [(2, 9), (2, 10), (2, 11)]) (C' := []) (S' := none) Fr_151 (by decide) (fun _ h => h) (Or.inr rfl))))), hG, by rw [ht9]; exact hP, hD⟩⟩, hS.F ht9⟩) hS.2.2 dX2_decode_252
      · refine lv_iload_n hx hb dX2_decode_51 rfl (lv_at hl 0 rfl) ?_
        refine lv_bipush (v := 10) hx hb dX2_decode_52 (by decide) ?_
        refine lv_icmp_ne (tgt := 71) hx hb dX2_decode_54 (by decide) (fun c_156 => ?_) (fun c_156 => ?_)
        · refine lv_iload_n hx hb dX2_decode_71 rfl (lv_at hl 0 rfl) ?_
          refine lv_bipush (v := 16) hx hb dX2_decode_72 (by decide) ?_
          refine lv_icmp_ne (tgt := 95) hx hb dX2_decode_74 (by decide) (fun c_157 => ?_) (fun c_157 => ?_)
          · refine lv_iload_n hx hb dX2_decode_95 rfl (lv_at hl 0 rfl) ?_
            refine lv_bipush (v := 17) hx hb dX2_decode_96 (by decide) ?_
            refine lv_icmp_ne (tgt := 119) hx hb dX2_decode_98 (by decide) (fun c_158 => ?_) (fun c_158 => ?_)
            · refine lv_iload_n hx hb dX2_decode_119 rfl (lv_at hl 0 rfl) ?_
              refine lv_bipush (v := 18) hx hb dX2_decode_120 (by decide) ?_
              refine lv_icmp_ne (tgt := 142) hx hb dX2_decode_122 (by decide) (fun c_159 => ?_) (fun c_159 => ?_)
              · refine lv_iload_n hx hb dX2_decode_142 rfl (lv_at hl 0 rfl) ?_
                refine lv_sipush (v := 200) hx hb dX2_decode_143 (by decide) ?_
                refine lv_icmp_ne (tgt := 170) hx hb dX2_decode_146 (by decide) (fun c_160 => ?_) (fun c_160 => ?_)
                · refine lv_iload_n hx hb dX2_decode_170 rfl (lv_at hl 0 rfl) ?_
                  have hFc := gfree hD hS hA
                  refine va_calli (va_runS (As := [.int r_2]) (rest := []) ⟨hx, hb, hml, hown, hts⟩ (m_X6_isJump_y l g H.size ws_14 (r_2) hG ) (va_cwS 1 hts (gd_S kw_629 kw_1225 kw_1207 kw_1224) rfl rfl rfl (by decide +kernel) ⟨Nat.le_of_ble_eq_true rfl, Nat.le_of_ble_eq_true rfl⟩) ⟨gblind, fun U hU hW9 => gmk hU hW9 hP hK hD hex hE hS hFc⟩ rfl rfl hl.1 rfl (lv_room (Nat.le_of_ble_eq_true rfl)) dX2_decode_171 ⟨Nat.le_of_ble_eq_true rfl, Nat.le_of_ble_eq_true rfl⟩) hS (fun q _ h => hFc q h) hFc (fun r_161 u9 t9 H1 locs ht9 hvm9 hw9 hB9 hz9 hk9 hS => ?_)
                  have hP : va_P (gD g) cl0 ws_14 H1 := by rw [← ht9]; exact hB9.1
                  obtain ⟨hw9, xp_162⟩ := hw9
                  have hz_r_161 : r_161 = 0 ∨ r_161 = 1 := hw9
                  clear hB9 hz9 hk9 hvm9 ht9 hw9
                  generalize H1 = H at hP hS ⊢
                  refine lv_if_eq (tgt := 196) hx hb dX2_decode_174 (by decide) (fun c_163 => ?_) (fun c_163 => ?_)
                  · refine lv_iload_n hx hb dX2_decode_196 rfl (lv_at hl 0 rfl) ?_
                    have hFc := gfree hD hS hA
                    refine va_calli (va_runS (As := [.int r_2]) (rest := []) ⟨hx, hb, hml, hown, hts⟩ (m_X6_isSwitch_y l g H.size ws_14 (r_2) hG ) (va_cwS 1 hts (gd_S kw_630 kw_1233 kw_1207 kw_1232) rfl rfl rfl (by decide +kernel) ⟨Nat.le_of_ble_eq_true rfl, Nat.le_of_ble_eq_true rfl⟩) ⟨gblind, fun U hU hW9 => gmk hU hW9 hP hK hD hex hE hS hFc⟩ rfl rfl hl.1 rfl (lv_room (Nat.le_of_ble_eq_true rfl)) dX2_decode_197 ⟨Nat.le_of_ble_eq_true rfl, Nat.le_of_ble_eq_true rfl⟩) hS (fun q _ h => hFc q h) hFc (fun r_164 u9 t9 H1 locs ht9 hvm9 hw9 hB9 hz9 hk9 hS => ?_)
                    have hP : va_P (gD g) cl0 ws_14 H1 := by rw [← ht9]; exact hB9.1
                    obtain ⟨hw9, xp_165⟩ := hw9
                    have hz_r_164 : r_164 = 0 ∨ r_164 = 1 := hw9
                    clear hB9 hz9 hk9 hvm9 ht9 hw9
                    generalize H1 = H at hP hS ⊢
                    refine lv_if_eq (tgt := 216) hx hb dX2_decode_200 (by decide) (fun c_166 => ?_) (fun c_166 => ?_)
                    · refine lv_iload_n hx hb dX2_decode_216 rfl (lv_at hl 0 rfl) ?_
                      have hFc := gfree hD hS hA
                      refine va_calli (va_runS (As := [.int r_2]) (rest := []) ⟨hx, hb, hml, hown, hts⟩ (m_X6_lengthOf_x l g H.size ws_14 (r_2) hG ) (va_cwS 1 hts (gd_S kw_687 kw_1244 kw_1207 kw_1243) rfl rfl rfl (by decide +kernel) ⟨Nat.le_of_ble_eq_true rfl, Nat.le_of_ble_eq_true rfl⟩) ⟨gblind, fun U hU hW9 => gmk hU hW9 hP hK hD hex hE hS hFc⟩ rfl rfl hl.1 rfl (lv_room (Nat.le_of_ble_eq_true rfl)) dX2_decode_217 ⟨Nat.le_of_ble_eq_true rfl, Nat.le_of_ble_eq_true rfl⟩) hS (fun q _ h => hFc q h) hFc (fun r_167 u9 t9 H1 locs ht9 hvm9 hw9 hB9 hz9 hk9 hS => ?_)
                      have hP : va_P (gD g) cl0 ws_14 H1 := by rw [← ht9]; exact hB9.1
                      obtain ⟨hw9, xp_168⟩ := hw9
                      have h_r_167 := hw9
                      clear hB9 hz9 hk9 hvm9 ht9 hw9
                      generalize H1 = H at hP hS ⊢
                      refine lv_iconst (v := 3) hx hb dX2_decode_220 (by decide) ?_
                      refine lv_icmp_ne (tgt := 247) hx hb dX2_decode_221 (by decide) (fun c_169 => ?_) (fun c_169 => ?_)
                      · refine lv_aload_n hx hb dX2_decode_247 rfl (lv_at hl 1 rfl) ?_
                        refine lv_iload_n hx hb dX2_decode_248 rfl (lv_at hl 2 rfl) ?_
                        have hkS := hk_4
                        have hDS := hD
                        have hFc := gfree hD hS hA
                        refine va_callv (va_runV (As := [.int x1]) (rest := []) ⟨hx, hb, hml, hown, hts⟩ (m_X2_decodeLocal_y l g H.size ws_14 h0 (x1) hG o_h0) (cwV 1 hts (gd_V kw_688 kw_690 kw_691 kw_389 kw_689) rfl rfl rfl (by decide +kernel) ⟨Nat.le_of_ble_eq_true rfl, Nat.le_of_ble_eq_true rfl⟩) ⟨gblind, va_recv hK hP (ci := 2) (q0 := k_4) rfl hk_4, fun U hU hW9 => gmk hU hW9 hP hK hD hex hE hS hFc⟩ rfl rfl hl.1 rfl (lv_room (Nat.le_of_ble_eq_true rfl)) dX2_decode_249 ⟨Nat.le_of_ble_eq_true rfl, Nat.le_of_ble_eq_true rfl⟩) hS (fun q _ h => hFc q h) hFc (fun  ws_170 t9 H1 locs ht9 hvm9 hw9 hB9 hz9 hk9 hS => ?_)
                        obtain ⟨E_171, Fr_172, hG, hP1, hD1⟩ := hB9
                        have hP : va_P (gD g) cl0 ws_170 H1 := by rw [← ht9]; exact hP1
                        have hD : va_D A ws_170 := hD1.weaken (fun _ _ _ h => hFc _ h)
                        obtain ⟨hw9, xp_175⟩ := hw9
                        clear hP1 hD1 hz9 hk9 hvm9 ht9 hw9
                        generalize H1 = H at hP hS ⊢
                        have aa_176 := a_r7_4
                        have o_h0 := E_171.1 _ _ o_h0
                        refine W.widen (k := 0) (n := 0) (Nat.le_of_ble_eq_true rfl) (Nat.le_of_ble_eq_true rfl) ?_
                        exact W.vret hx hb hr (fun t9 ht9 hW9 => ⟨⟨ws_170, rfl, ⟨trivial, dc_l hDS hkS rfl rfl xp_3 (fun h9 => absurd (xp_165.mpr h9) (by have e0 : (0 : Int32).toInt = 0 := (by decide); have q_c_166 := i_eq c_166; have g_r_164 := i_rg r_164; have b_r_164 := i_bit hz_r_164; omega)) (fun _ _ _ _ _ q9 => vx_mo ((gF.tr (gF.mo (F' := [(2, 9), (2, 10), (2, 11)]) (C' := []) (S' := none) Fr_8 (by decide) (fun _ h => h) (Or.inl rfl)) (gF.tr (gF.mo (F' := [(2, 9), (2, 10), (2, 11)]) (C' := []) (S' := none) Fr_12 (by decide) (fun _ h => h) (Or.inl rfl)) (gF.mo (F' := [(2, 9), (2, 10), (2, 11)]) (C' := []) (S' := none) Fr_16 (by decide) (fun _ h => h) (Or.inl rfl))))) (by decide) (by decide) (by decide) (by decide) (by decide) (by decide) q9) xp_175⟩, ⟨(E_7.tr (E_11.tr (E_15.tr E_171))), (gF.tr (gF.mo (F' := [(2, 9), (2, 10), (2, 11)]) (C' := []) (S' := none) Fr_8 (by decide) (fun _ h => h) (Or.inl rfl)) (gF.tr (gF.mo (F' := [(2, 9), (2, 10), (2, 11)]) (C' := []) (S' := none) Fr_12 (by decide) (fun _ h => h) (Or.inl rfl)) (gF.tr (gF.mo (F' := [(2, 9), (2, 10), (2, 11)]) (C' := []) (S' := none) Fr_16 (by decide) (fun _ h => h) (Or.inl rfl)) (gF.mo (F' := [(2, 9), (2, 10), (2, 11)]) (C' := []) (S' := none) Fr_172 (by decide) (fun _ h => h) (Or.inr rfl))))), hG, by rw [ht9]; exact hP, hD⟩⟩, hS.F ht9⟩) hS.2.2 dX2_decode_252
                      · refine lv_iload_n hx hb dX2_decode_224 rfl (lv_at hl 0 rfl) ?_
                        refine lv_sipush (v := 132) hx hb dX2_decode_225 (by decide) ?_
                        refine lv_icmp_eq (tgt := 247) hx hb dX2_decode_228 (by decide) (fun c_177 => ?_) (fun c_177 => ?_)
                        · refine lv_aload_n hx hb dX2_decode_247 rfl (lv_at hl 1 rfl) ?_
                          refine lv_iload_n hx hb dX2_decode_248 rfl (lv_at hl 2 rfl) ?_
                          have hkS := hk_4
                          have hDS := hD
                          have hFc := gfree hD hS hA
                          refine va_callv (va_runV (As := [.int x1]) (rest := []) ⟨hx, hb, hml, hown, hts⟩ (m_X2_decodeLocal_y l g H.size ws_14 h0 (x1) hG o_h0) (cwV 1 hts (gd_V kw_688 kw_690 kw_691 kw_389 kw_689) rfl rfl rfl (by decide +kernel) ⟨Nat.le_of_ble_eq_true rfl, Nat.le_of_ble_eq_true rfl⟩) ⟨gblind, va_recv hK hP (ci := 2) (q0 := k_4) rfl hk_4, fun U hU hW9 => gmk hU hW9 hP hK hD hex hE hS hFc⟩ rfl rfl hl.1 rfl (lv_room (Nat.le_of_ble_eq_true rfl)) dX2_decode_249 ⟨Nat.le_of_ble_eq_true rfl, Nat.le_of_ble_eq_true rfl⟩) hS (fun q _ h => hFc q h) hFc (fun  ws_178 t9 H1 locs ht9 hvm9 hw9 hB9 hz9 hk9 hS => ?_)
                          obtain ⟨E_179, Fr_180, hG, hP1, hD1⟩ := hB9
                          have hP : va_P (gD g) cl0 ws_178 H1 := by rw [← ht9]; exact hP1
                          have hD : va_D A ws_178 := hD1.weaken (fun _ _ _ h => hFc _ h)
                          obtain ⟨hw9, xp_183⟩ := hw9
                          clear hP1 hD1 hz9 hk9 hvm9 ht9 hw9
                          generalize H1 = H at hP hS ⊢
                          have aa_184 := a_r7_4
                          have o_h0 := E_179.1 _ _ o_h0
                          refine W.widen (k := 0) (n := 0) (Nat.le_of_ble_eq_true rfl) (Nat.le_of_ble_eq_true rfl) ?_
                          exact W.vret hx hb hr (fun t9 ht9 hW9 => ⟨⟨ws_178, rfl, ⟨trivial, dc_l hDS hkS rfl rfl xp_3 (fun h9 => absurd (xp_165.mpr h9) (by have e0 : (0 : Int32).toInt = 0 := (by decide); have q_c_166 := i_eq c_166; have g_r_164 := i_rg r_164; have b_r_164 := i_bit hz_r_164; omega)) (fun _ _ _ _ _ q9 => vx_mo ((gF.tr (gF.mo (F' := [(2, 9), (2, 10), (2, 11)]) (C' := []) (S' := none) Fr_8 (by decide) (fun _ h => h) (Or.inl rfl)) (gF.tr (gF.mo (F' := [(2, 9), (2, 10), (2, 11)]) (C' := []) (S' := none) Fr_12 (by decide) (fun _ h => h) (Or.inl rfl)) (gF.mo (F' := [(2, 9), (2, 10), (2, 11)]) (C' := []) (S' := none) Fr_16 (by decide) (fun _ h => h) (Or.inl rfl))))) (by decide) (by decide) (by decide) (by decide) (by decide) (by decide) q9) xp_183⟩, ⟨(E_7.tr (E_11.tr (E_15.tr E_179))), (gF.tr (gF.mo (F' := [(2, 9), (2, 10), (2, 11)]) (C' := []) (S' := none) Fr_8 (by decide) (fun _ h => h) (Or.inl rfl)) (gF.tr (gF.mo (F' := [(2, 9), (2, 10), (2, 11)]) (C' := []) (S' := none) Fr_12 (by decide) (fun _ h => h) (Or.inl rfl)) (gF.tr (gF.mo (F' := [(2, 9), (2, 10), (2, 11)]) (C' := []) (S' := none) Fr_16 (by decide) (fun _ h => h) (Or.inl rfl)) (gF.mo (F' := [(2, 9), (2, 10), (2, 11)]) (C' := []) (S' := none) Fr_180 (by decide) (fun _ h => h) (Or.inr rfl))))), hG, by rw [ht9]; exact hP, hD⟩⟩, hS.F ht9⟩) hS.2.2 dX2_decode_252
                        · refine lv_aload_n hx hb dX2_decode_231 rfl (lv_at hl 1 rfl) ?_
                          refine lv_iload_n hx hb dX2_decode_232 rfl (lv_at hl 0 rfl) ?_
                          refine lv_aload_n hx hb dX2_decode_233 rfl (lv_at hl 1 rfl) ?_
                          refine lv_iload_n hx hb dX2_decode_234 rfl (lv_at hl 2 rfl) ?_
                          refine lv_iconst (v := 1) hx hb dX2_decode_235 (by decide) ?_
                          refine lv_iadd hx hb dX2_decode_236 ?_
                          refine lv_topi (fun z_185 ez_185 => ?_)
                          have hFc := gfree hD hS hA
                          refine va_calli (va_runV (As := [.int z_185]) (rest := [.int r_2, .ref h0]) ⟨hx, hb, hml, hown, hts⟩ (m_X2_u2 l g H.size ws_14 h0 (z_185) hG o_h0) (cwV 1 hts (gd_V kw_685 kw_816 kw_817 kw_389 kw_815) rfl rfl rfl (by decide +kernel) ⟨Nat.le_of_ble_eq_true rfl, Nat.le_of_ble_eq_true rfl⟩) ⟨gblind, va_recv hK hP (ci := 2) (q0 := k_4) rfl hk_4, fun U hU hW9 => gmk hU hW9 hP hK hD hex hE hS hFc⟩ rfl rfl hl.1 rfl (lv_room (Nat.le_of_ble_eq_true rfl)) dX2_decode_237 ⟨Nat.le_of_ble_eq_true rfl, Nat.le_of_ble_eq_true rfl⟩) hS (fun q _ h => hFc q h) hFc (fun r_186 u9 t9 H1 locs ht9 hvm9 hw9 hB9 hz9 hk9 hS => ?_)
                          have hP : va_P (gD g) cl0 ws_14 H1 := by rw [← ht9]; exact hB9.1
                          clear hB9 hz9 hk9 hvm9 ht9 hw9
                          generalize H1 = H at hP hS ⊢
                          obtain ⟨z_187, ez_187⟩ : ∃ y : Int64, (r_186 : Int32).toInt64 = y := ⟨_, rfl⟩
                          refine lv_i2l (v := z_187) hx hb dX2_decode_240 ez_187 ?_
                          have hFc := gfree hD hS hA
                          refine va_callv (va_runV (As := [.int r_2, .long z_187]) (rest := []) ⟨hx, hb, hml, hown, hts⟩ (m_X2_set_y l g H.size ws_14 h0 (r_2) (z_187) hG o_h0) (cwV 2 hts (gd_V kw_684 kw_793 kw_794 kw_389 kw_792) rfl rfl rfl (by decide +kernel) ⟨Nat.le_of_ble_eq_true rfl, Nat.le_of_ble_eq_true rfl⟩) ⟨gblind, va_recv hK hP (ci := 2) (q0 := k_4) rfl hk_4, fun U hU hW9 => gmk hU hW9 hP hK hD hex hE hS hFc⟩ rfl rfl hl.1 rfl (lv_room (Nat.le_of_ble_eq_true rfl)) dX2_decode_241 ⟨Nat.le_of_ble_eq_true rfl, Nat.le_of_ble_eq_true rfl⟩) hS (fun q _ h => hFc q h) hFc (fun  ws_188 t9 H1 locs ht9 hvm9 hw9 hB9 hz9 hk9 hS => ?_)
                          obtain ⟨E_189, Fr_190, hG, hP1, hD1⟩ := hB9
                          have hP : va_P (gD g) cl0 ws_188 H1 := by rw [← ht9]; exact hP1
                          have hD : va_D A ws_188 := hD1.weaken (fun _ _ _ h => hFc _ h)
                          obtain ⟨hw9, xp_193⟩ := hw9
                          clear hP1 hD1 hz9 hk9 hvm9 ht9 hw9
                          generalize H1 = H at hP hS ⊢
                          have aa_194 := a_r7_4
                          have o_h0 := E_189.1 _ _ o_h0
                          refine lv_goto (tgt := 252) hx hb dX2_decode_244 (by decide) ?_
                          refine W.widen (k := 0) (n := 0) (Nat.le_of_ble_eq_true rfl) (Nat.le_of_ble_eq_true rfl) ?_
                          exact W.vret hx hb hr (fun t9 ht9 hW9 => ⟨⟨ws_188, rfl, ⟨trivial, ⟨_, _, xp_193, fun h9 => absurd (xp_165.mpr h9) (by have e0 : (0 : Int32).toInt = 0 := (by decide); have q_c_166 := i_eq c_166; have g_r_164 := i_rg r_164; have b_r_164 := i_bit hz_r_164; omega)⟩⟩, ⟨(E_7.tr (E_11.tr (E_15.tr E_189))), (gF.tr (gF.mo (F' := [(2, 9), (2, 10), (2, 11)]) (C' := []) (S' := none) Fr_8 (by decide) (fun _ h => h) (Or.inl rfl)) (gF.tr (gF.mo (F' := [(2, 9), (2, 10), (2, 11)]) (C' := []) (S' := none) Fr_12 (by decide) (fun _ h => h) (Or.inl rfl)) (gF.tr (gF.mo (F' := [(2, 9), (2, 10), (2, 11)]) (C' := []) (S' := none) Fr_16 (by decide) (fun _ h => h) (Or.inl rfl)) (gF.mo (F' := [(2, 9), (2, 10), (2, 11)]) (C' := []) (S' := none) Fr_190 (by decide) (fun _ h => h) (Or.inr rfl))))), hG, by rw [ht9]; exact hP, hD⟩⟩, hS.F ht9⟩) hS.2.2 dX2_decode_252
                    · refine lv_aload_n hx hb dX2_decode_203 rfl (lv_at hl 1 rfl) ?_
                      refine lv_iload_n hx hb dX2_decode_204 rfl (lv_at hl 0 rfl) ?_
                      refine lv_iload_n hx hb dX2_decode_205 rfl (lv_at hl 2 rfl) ?_
                      have hFc := gfree hD hS hA
                      refine va_calli (va_runS (As := [.int x1]) (rest := [.int r_2, .ref h0]) ⟨hx, hb, hml, hown, hts⟩ (m_X2_numbersOf_x l g H.size ws_14 (x1) hG ) (va_cwS 1 hts (gd_S kw_686 kw_764 kw_389 kw_763) rfl rfl rfl (by decide +kernel) ⟨Nat.le_of_ble_eq_true rfl, Nat.le_of_ble_eq_true rfl⟩) ⟨gblind, fun U hU hW9 => gmk hU hW9 hP hK hD hex hE hS hFc⟩ rfl rfl hl.1 rfl (lv_room (Nat.le_of_ble_eq_true rfl)) dX2_decode_206 ⟨Nat.le_of_ble_eq_true rfl, Nat.le_of_ble_eq_true rfl⟩) hS (fun q _ h => hFc q h) hFc (fun r_195 u9 t9 H1 locs ht9 hvm9 hw9 hB9 hz9 hk9 hS => ?_)
                      have hP : va_P (gD g) cl0 ws_14 H1 := by rw [← ht9]; exact hB9.1
                      obtain ⟨hw9, xp_196⟩ := hw9
                      have h_r_195 := hw9
                      clear hB9 hz9 hk9 hvm9 ht9 hw9
                      generalize H1 = H at hP hS ⊢
                      obtain ⟨z_197, ez_197⟩ : ∃ y : Int64, (r_195 : Int32).toInt64 = y := ⟨_, rfl⟩
                      refine lv_i2l (v := z_197) hx hb dX2_decode_209 ez_197 ?_
                      have hFc := gfree hD hS hA
                      refine va_callv (va_runV (As := [.int r_2, .long z_197]) (rest := []) ⟨hx, hb, hml, hown, hts⟩ (m_X2_set_y l g H.size ws_14 h0 (r_2) (z_197) hG o_h0) (cwV 2 hts (gd_V kw_684 kw_793 kw_794 kw_389 kw_792) rfl rfl rfl (by decide +kernel) ⟨Nat.le_of_ble_eq_true rfl, Nat.le_of_ble_eq_true rfl⟩) ⟨gblind, va_recv hK hP (ci := 2) (q0 := k_4) rfl hk_4, fun U hU hW9 => gmk hU hW9 hP hK hD hex hE hS hFc⟩ rfl rfl hl.1 rfl (lv_room (Nat.le_of_ble_eq_true rfl)) dX2_decode_210 ⟨Nat.le_of_ble_eq_true rfl, Nat.le_of_ble_eq_true rfl⟩) hS (fun q _ h => hFc q h) hFc (fun  ws_198 t9 H1 locs ht9 hvm9 hw9 hB9 hz9 hk9 hS => ?_)
                      obtain ⟨E_199, Fr_200, hG, hP1, hD1⟩ := hB9
                      have hP : va_P (gD g) cl0 ws_198 H1 := by rw [← ht9]; exact hP1
                      have hD : va_D A ws_198 := hD1.weaken (fun _ _ _ h => hFc _ h)
                      obtain ⟨hw9, xp_203⟩ := hw9
                      clear hP1 hD1 hz9 hk9 hvm9 ht9 hw9
                      generalize H1 = H at hP hS ⊢
                      have aa_204 := a_r7_4
                      have o_h0 := E_199.1 _ _ o_h0
                      refine lv_goto (tgt := 252) hx hb dX2_decode_213 (by decide) ?_
                      refine W.widen (k := 0) (n := 0) (Nat.le_of_ble_eq_true rfl) (Nat.le_of_ble_eq_true rfl) ?_
                      exact W.vret hx hb hr (fun t9 ht9 hW9 => ⟨⟨ws_198, rfl, ⟨trivial, ⟨_, _, xp_203, fun _ f9 e9 n9 c9 s9 q9 => Or.inl ⟨xp_3 _ _ _ _ _ q9, (by rw [← ez_197, xp_196])⟩⟩⟩, ⟨(E_7.tr (E_11.tr (E_15.tr E_199))), (gF.tr (gF.mo (F' := [(2, 9), (2, 10), (2, 11)]) (C' := []) (S' := none) Fr_8 (by decide) (fun _ h => h) (Or.inl rfl)) (gF.tr (gF.mo (F' := [(2, 9), (2, 10), (2, 11)]) (C' := []) (S' := none) Fr_12 (by decide) (fun _ h => h) (Or.inl rfl)) (gF.tr (gF.mo (F' := [(2, 9), (2, 10), (2, 11)]) (C' := []) (S' := none) Fr_16 (by decide) (fun _ h => h) (Or.inl rfl)) (gF.mo (F' := [(2, 9), (2, 10), (2, 11)]) (C' := []) (S' := none) Fr_200 (by decide) (fun _ h => h) (Or.inr rfl))))), hG, by rw [ht9]; exact hP, hD⟩⟩, hS.F ht9⟩) hS.2.2 dX2_decode_252
                  · refine lv_aload_n hx hb dX2_decode_177 rfl (lv_at hl 1 rfl) ?_
                    refine lv_iload_n hx hb dX2_decode_178 rfl (lv_at hl 0 rfl) ?_
                    refine lv_iload_n hx hb dX2_decode_179 rfl (lv_at hl 2 rfl) ?_
                    refine lv_aload_n hx hb dX2_decode_180 rfl (lv_at hl 1 rfl) ?_
                    refine lv_iload_n hx hb dX2_decode_181 rfl (lv_at hl 2 rfl) ?_
                    refine lv_iconst (v := 1) hx hb dX2_decode_182 (by decide) ?_
                    refine lv_iadd hx hb dX2_decode_183 ?_
                    refine lv_topi (fun z_205 ez_205 => ?_)
                    have hFc := gfree hD hS hA
                    refine va_calli (va_runV (As := [.int z_205]) (rest := [.int x1, .int r_2, .ref h0]) ⟨hx, hb, hml, hown, hts⟩ (m_X2_u2 l g H.size ws_14 h0 (z_205) hG o_h0) (cwV 1 hts (gd_V kw_685 kw_816 kw_817 kw_389 kw_815) rfl rfl rfl (by decide +kernel) ⟨Nat.le_of_ble_eq_true rfl, Nat.le_of_ble_eq_true rfl⟩) ⟨gblind, va_recv hK hP (ci := 2) (q0 := k_4) rfl hk_4, fun U hU hW9 => gmk hU hW9 hP hK hD hex hE hS hFc⟩ rfl rfl hl.1 rfl (lv_room (Nat.le_of_ble_eq_true rfl)) dX2_decode_184 ⟨Nat.le_of_ble_eq_true rfl, Nat.le_of_ble_eq_true rfl⟩) hS (fun q _ h => hFc q h) hFc (fun r_206 u9 t9 H1 locs ht9 hvm9 hw9 hB9 hz9 hk9 hS => ?_)
                    have hP : va_P (gD g) cl0 ws_14 H1 := by rw [← ht9]; exact hB9.1
                    clear hB9 hz9 hk9 hvm9 ht9 hw9
                    generalize H1 = H at hP hS ⊢
                    obtain ⟨z_207, ez_207⟩ : ∃ y : Int32, (r_206 : Int32).toInt16.toInt32 = y := ⟨_, rfl⟩
                    refine lv_i2s (v := z_207) hx hb dX2_decode_187 ez_207 ?_
                    refine lv_iadd hx hb dX2_decode_188 ?_
                    refine lv_topi (fun z_208 ez_208 => ?_)
                    obtain ⟨z_209, ez_209⟩ : ∃ y : Int64, (z_208 : Int32).toInt64 = y := ⟨_, rfl⟩
                    refine lv_i2l (v := z_209) hx hb dX2_decode_189 ez_209 ?_
                    have hFc := gfree hD hS hA
                    refine va_callv (va_runV (As := [.int r_2, .long z_209]) (rest := []) ⟨hx, hb, hml, hown, hts⟩ (m_X2_set_y l g H.size ws_14 h0 (r_2) (z_209) hG o_h0) (cwV 2 hts (gd_V kw_684 kw_793 kw_794 kw_389 kw_792) rfl rfl rfl (by decide +kernel) ⟨Nat.le_of_ble_eq_true rfl, Nat.le_of_ble_eq_true rfl⟩) ⟨gblind, va_recv hK hP (ci := 2) (q0 := k_4) rfl hk_4, fun U hU hW9 => gmk hU hW9 hP hK hD hex hE hS hFc⟩ rfl rfl hl.1 rfl (lv_room (Nat.le_of_ble_eq_true rfl)) dX2_decode_190 ⟨Nat.le_of_ble_eq_true rfl, Nat.le_of_ble_eq_true rfl⟩) hS (fun q _ h => hFc q h) hFc (fun  ws_210 t9 H1 locs ht9 hvm9 hw9 hB9 hz9 hk9 hS => ?_)
                    obtain ⟨E_211, Fr_212, hG, hP1, hD1⟩ := hB9
                    have hP : va_P (gD g) cl0 ws_210 H1 := by rw [← ht9]; exact hP1
                    have hD : va_D A ws_210 := hD1.weaken (fun _ _ _ h => hFc _ h)
                    obtain ⟨hw9, xp_215⟩ := hw9
                    clear hP1 hD1 hz9 hk9 hvm9 ht9 hw9
                    generalize H1 = H at hP hS ⊢
                    have aa_216 := a_r7_4
                    have o_h0 := E_211.1 _ _ o_h0
                    refine lv_goto (tgt := 252) hx hb dX2_decode_193 (by decide) ?_
                    refine W.widen (k := 0) (n := 0) (Nat.le_of_ble_eq_true rfl) (Nat.le_of_ble_eq_true rfl) ?_
                    exact W.vret hx hb hr (fun t9 ht9 hW9 => ⟨⟨ws_210, rfl, ⟨trivial, ⟨_, _, xp_215, fun h9 => absurd h9 (xp_162 (by have e0 : (0 : Int32).toInt = 0 := (by decide); have q_c_163 := i_ne c_163; have g_r_161 := i_rg r_161; have b_r_161 := i_bit hz_r_161; omega))⟩⟩, ⟨(E_7.tr (E_11.tr (E_15.tr E_211))), (gF.tr (gF.mo (F' := [(2, 9), (2, 10), (2, 11)]) (C' := []) (S' := none) Fr_8 (by decide) (fun _ h => h) (Or.inl rfl)) (gF.tr (gF.mo (F' := [(2, 9), (2, 10), (2, 11)]) (C' := []) (S' := none) Fr_12 (by decide) (fun _ h => h) (Or.inl rfl)) (gF.tr (gF.mo (F' := [(2, 9), (2, 10), (2, 11)]) (C' := []) (S' := none) Fr_16 (by decide) (fun _ h => h) (Or.inl rfl)) (gF.mo (F' := [(2, 9), (2, 10), (2, 11)]) (C' := []) (S' := none) Fr_212 (by decide) (fun _ h => h) (Or.inr rfl))))), hG, by rw [ht9]; exact hP, hD⟩⟩, hS.F ht9⟩) hS.2.2 dX2_decode_252
                · refine lv_aload_n hx hb dX2_decode_149 rfl (lv_at hl 1 rfl) ?_
                  refine lv_sipush (v := 167) hx hb dX2_decode_150 (by decide) ?_
                  refine lv_iload_n hx hb dX2_decode_153 rfl (lv_at hl 2 rfl) ?_
                  obtain ⟨z_217, ez_217⟩ : ∃ y : Int64, (x1 : Int32).toInt64 = y := ⟨_, rfl⟩
                  refine lv_i2l (v := z_217) hx hb dX2_decode_154 ez_217 ?_
                  refine lv_aload_n hx hb dX2_decode_155 rfl (lv_at hl 1 rfl) ?_
                  refine lv_iload_n hx hb dX2_decode_156 rfl (lv_at hl 2 rfl) ?_
                  refine lv_iconst (v := 1) hx hb dX2_decode_157 (by decide) ?_
                  refine lv_iadd hx hb dX2_decode_158 ?_
                  refine lv_topi (fun z_218 ez_218 => ?_)
                  have hFc := gfree hD hS hA
                  refine va_calli (va_runV (As := [.int z_218]) (rest := [.long z_217, .int 167, .ref h0]) ⟨hx, hb, hml, hown, hts⟩ (m_X2_s4_x l g H.size ws_14 h0 (z_218) hG o_h0) (cwV 1 hts (gd_V kw_623 kw_790 kw_791 kw_389 kw_789) rfl rfl rfl (by decide +kernel) ⟨Nat.le_of_ble_eq_true rfl, Nat.le_of_ble_eq_true rfl⟩) ⟨gblind, va_recv hK hP (ci := 2) (q0 := k_4) rfl hk_4, fun U hU hW9 => gmk hU hW9 hP hK hD hex hE hS hFc⟩ rfl rfl hl.1 rfl (lv_room (Nat.le_of_ble_eq_true rfl)) dX2_decode_159 ⟨Nat.le_of_ble_eq_true rfl, Nat.le_of_ble_eq_true rfl⟩) hS (fun q _ h => hFc q h) hFc (fun r_219 u9 t9 H1 locs ht9 hvm9 hw9 hB9 hz9 hk9 hS => ?_)
                  have hP : va_P (gD g) cl0 ws_14 H1 := by rw [← ht9]; exact hB9.1
                  obtain ⟨hw9, xp_220⟩ := hw9
                  clear hB9 hz9 hk9 hvm9 ht9 hw9
                  generalize H1 = H at hP hS ⊢
                  obtain ⟨z_221, ez_221⟩ : ∃ y : Int64, (r_219 : Int32).toInt64 = y := ⟨_, rfl⟩
                  refine lv_i2l (v := z_221) hx hb dX2_decode_162 ez_221 ?_
                  refine lv_ladd hx hb dX2_decode_163 ?_
                  refine lv_topl (fun z_222 ez_222 => ?_)
                  have hFc := gfree hD hS hA
                  refine va_callv (va_runV (As := [.int 167, .long z_222]) (rest := []) ⟨hx, hb, hml, hown, hts⟩ (m_X2_set_y l g H.size ws_14 h0 (167) (z_222) hG o_h0) (cwV 2 hts (gd_V kw_684 kw_793 kw_794 kw_389 kw_792) rfl rfl rfl (by decide +kernel) ⟨Nat.le_of_ble_eq_true rfl, Nat.le_of_ble_eq_true rfl⟩) ⟨gblind, va_recv hK hP (ci := 2) (q0 := k_4) rfl hk_4, fun U hU hW9 => gmk hU hW9 hP hK hD hex hE hS hFc⟩ rfl rfl hl.1 rfl (lv_room (Nat.le_of_ble_eq_true rfl)) dX2_decode_164 ⟨Nat.le_of_ble_eq_true rfl, Nat.le_of_ble_eq_true rfl⟩) hS (fun q _ h => hFc q h) hFc (fun  ws_223 t9 H1 locs ht9 hvm9 hw9 hB9 hz9 hk9 hS => ?_)
                  obtain ⟨E_224, Fr_225, hG, hP1, hD1⟩ := hB9
                  have hP : va_P (gD g) cl0 ws_223 H1 := by rw [← ht9]; exact hP1
                  have hD : va_D A ws_223 := hD1.weaken (fun _ _ _ h => hFc _ h)
                  obtain ⟨hw9, xp_228⟩ := hw9
                  clear hP1 hD1 hz9 hk9 hvm9 ht9 hw9
                  generalize H1 = H at hP hS ⊢
                  have aa_229 := a_r7_4
                  have o_h0 := E_224.1 _ _ o_h0
                  refine lv_goto (tgt := 252) hx hb dX2_decode_167 (by decide) ?_
                  refine W.widen (k := 0) (n := 0) (Nat.le_of_ble_eq_true rfl) (Nat.le_of_ble_eq_true rfl) ?_
                  exact W.vret hx hb hr (fun t9 ht9 hW9 => ⟨⟨ws_223, rfl, ⟨trivial, ⟨_, _, xp_228, fun h9 => absurd h9 (by unfold isS; decide)⟩⟩, ⟨(E_7.tr (E_11.tr (E_15.tr E_224))), (gF.tr (gF.mo (F' := [(2, 9), (2, 10), (2, 11)]) (C' := []) (S' := none) Fr_8 (by decide) (fun _ h => h) (Or.inl rfl)) (gF.tr (gF.mo (F' := [(2, 9), (2, 10), (2, 11)]) (C' := []) (S' := none) Fr_12 (by decide) (fun _ h => h) (Or.inl rfl)) (gF.tr (gF.mo (F' := [(2, 9), (2, 10), (2, 11)]) (C' := []) (S' := none) Fr_16 (by decide) (fun _ h => h) (Or.inl rfl)) (gF.mo (F' := [(2, 9), (2, 10), (2, 11)]) (C' := []) (S' := none) Fr_225 (by decide) (fun _ h => h) (Or.inr rfl))))), hG, by rw [ht9]; exact hP, hD⟩⟩, hS.F ht9⟩) hS.2.2 dX2_decode_252
              · refine lv_aload_n hx hb dX2_decode_125 rfl (lv_at hl 1 rfl) ?_
                refine lv_bipush (v := 19) hx hb dX2_decode_126 (by decide) ?_
                refine lv_aload_n hx hb dX2_decode_128 rfl (lv_at hl 1 rfl) ?_
                refine lv_iload_n hx hb dX2_decode_129 rfl (lv_at hl 2 rfl) ?_
                refine lv_iconst (v := 1) hx hb dX2_decode_130 (by decide) ?_
                refine lv_iadd hx hb dX2_decode_131 ?_
                refine lv_topi (fun z_230 ez_230 => ?_)
                have hFc := gfree hD hS hA
                refine va_calli (va_runV (As := [.int z_230]) (rest := [.int 19, .ref h0]) ⟨hx, hb, hml, hown, hts⟩ (m_X2_u1_x l g H.size ws_14 h0 (z_230) hG o_h0) (cwV 1 hts (gd_V kw_682 kw_812 kw_813 kw_389 kw_811) rfl rfl rfl (by decide +kernel) ⟨Nat.le_of_ble_eq_true rfl, Nat.le_of_ble_eq_true rfl⟩) ⟨gblind, va_recv hK hP (ci := 2) (q0 := k_4) rfl hk_4, fun U hU hW9 => gmk hU hW9 hP hK hD hex hE hS hFc⟩ rfl rfl hl.1 rfl (lv_room (Nat.le_of_ble_eq_true rfl)) dX2_decode_132 ⟨Nat.le_of_ble_eq_true rfl, Nat.le_of_ble_eq_true rfl⟩) hS (fun q _ h => hFc q h) hFc (fun r_231 u9 t9 H1 locs ht9 hvm9 hw9 hB9 hz9 hk9 hS => ?_)
                have hP : va_P (gD g) cl0 ws_14 H1 := by rw [← ht9]; exact hB9.1
                obtain ⟨hw9, xp_232⟩ := hw9
                clear hB9 hz9 hk9 hvm9 ht9 hw9
                generalize H1 = H at hP hS ⊢
                obtain ⟨z_233, ez_233⟩ : ∃ y : Int64, (r_231 : Int32).toInt64 = y := ⟨_, rfl⟩
                refine lv_i2l (v := z_233) hx hb dX2_decode_135 ez_233 ?_
                have hFc := gfree hD hS hA
                refine va_callv (va_runV (As := [.int 19, .long z_233]) (rest := []) ⟨hx, hb, hml, hown, hts⟩ (m_X2_set_y l g H.size ws_14 h0 (19) (z_233) hG o_h0) (cwV 2 hts (gd_V kw_684 kw_793 kw_794 kw_389 kw_792) rfl rfl rfl (by decide +kernel) ⟨Nat.le_of_ble_eq_true rfl, Nat.le_of_ble_eq_true rfl⟩) ⟨gblind, va_recv hK hP (ci := 2) (q0 := k_4) rfl hk_4, fun U hU hW9 => gmk hU hW9 hP hK hD hex hE hS hFc⟩ rfl rfl hl.1 rfl (lv_room (Nat.le_of_ble_eq_true rfl)) dX2_decode_136 ⟨Nat.le_of_ble_eq_true rfl, Nat.le_of_ble_eq_true rfl⟩) hS (fun q _ h => hFc q h) hFc (fun  ws_234 t9 H1 locs ht9 hvm9 hw9 hB9 hz9 hk9 hS => ?_)
                obtain ⟨E_235, Fr_236, hG, hP1, hD1⟩ := hB9
                have hP : va_P (gD g) cl0 ws_234 H1 := by rw [← ht9]; exact hP1
                have hD : va_D A ws_234 := hD1.weaken (fun _ _ _ h => hFc _ h)
                obtain ⟨hw9, xp_239⟩ := hw9
                clear hP1 hD1 hz9 hk9 hvm9 ht9 hw9
                generalize H1 = H at hP hS ⊢
                have aa_240 := a_r7_4
                have o_h0 := E_235.1 _ _ o_h0
                refine lv_goto (tgt := 252) hx hb dX2_decode_139 (by decide) ?_
                refine W.widen (k := 0) (n := 0) (Nat.le_of_ble_eq_true rfl) (Nat.le_of_ble_eq_true rfl) ?_
                exact W.vret hx hb hr (fun t9 ht9 hW9 => ⟨⟨ws_234, rfl, ⟨trivial, ⟨_, _, xp_239, fun h9 => absurd h9 (by unfold isS; decide)⟩⟩, ⟨(E_7.tr (E_11.tr (E_15.tr E_235))), (gF.tr (gF.mo (F' := [(2, 9), (2, 10), (2, 11)]) (C' := []) (S' := none) Fr_8 (by decide) (fun _ h => h) (Or.inl rfl)) (gF.tr (gF.mo (F' := [(2, 9), (2, 10), (2, 11)]) (C' := []) (S' := none) Fr_12 (by decide) (fun _ h => h) (Or.inl rfl)) (gF.tr (gF.mo (F' := [(2, 9), (2, 10), (2, 11)]) (C' := []) (S' := none) Fr_16 (by decide) (fun _ h => h) (Or.inl rfl)) (gF.mo (F' := [(2, 9), (2, 10), (2, 11)]) (C' := []) (S' := none) Fr_236 (by decide) (fun _ h => h) (Or.inr rfl))))), hG, by rw [ht9]; exact hP, hD⟩⟩, hS.F ht9⟩) hS.2.2 dX2_decode_252
            · refine lv_aload_n hx hb dX2_decode_101 rfl (lv_at hl 1 rfl) ?_
              refine lv_bipush (v := 17) hx hb dX2_decode_102 (by decide) ?_
              refine lv_aload_n hx hb dX2_decode_104 rfl (lv_at hl 1 rfl) ?_
              refine lv_iload_n hx hb dX2_decode_105 rfl (lv_at hl 2 rfl) ?_
              refine lv_iconst (v := 1) hx hb dX2_decode_106 (by decide) ?_
              refine lv_iadd hx hb dX2_decode_107 ?_
              refine lv_topi (fun z_241 ez_241 => ?_)
              have hFc := gfree hD hS hA
              refine va_calli (va_runV (As := [.int z_241]) (rest := [.int 17, .ref h0]) ⟨hx, hb, hml, hown, hts⟩ (m_X2_u2 l g H.size ws_14 h0 (z_241) hG o_h0) (cwV 1 hts (gd_V kw_685 kw_816 kw_817 kw_389 kw_815) rfl rfl rfl (by decide +kernel) ⟨Nat.le_of_ble_eq_true rfl, Nat.le_of_ble_eq_true rfl⟩) ⟨gblind, va_recv hK hP (ci := 2) (q0 := k_4) rfl hk_4, fun U hU hW9 => gmk hU hW9 hP hK hD hex hE hS hFc⟩ rfl rfl hl.1 rfl (lv_room (Nat.le_of_ble_eq_true rfl)) dX2_decode_108 ⟨Nat.le_of_ble_eq_true rfl, Nat.le_of_ble_eq_true rfl⟩) hS (fun q _ h => hFc q h) hFc (fun r_242 u9 t9 H1 locs ht9 hvm9 hw9 hB9 hz9 hk9 hS => ?_)
              have hP : va_P (gD g) cl0 ws_14 H1 := by rw [← ht9]; exact hB9.1
              clear hB9 hz9 hk9 hvm9 ht9 hw9
              generalize H1 = H at hP hS ⊢
              obtain ⟨z_243, ez_243⟩ : ∃ y : Int32, (r_242 : Int32).toInt16.toInt32 = y := ⟨_, rfl⟩
              refine lv_i2s (v := z_243) hx hb dX2_decode_111 ez_243 ?_
              obtain ⟨z_244, ez_244⟩ : ∃ y : Int64, (z_243 : Int32).toInt64 = y := ⟨_, rfl⟩
              refine lv_i2l (v := z_244) hx hb dX2_decode_112 ez_244 ?_
              have hFc := gfree hD hS hA
              refine va_callv (va_runV (As := [.int 17, .long z_244]) (rest := []) ⟨hx, hb, hml, hown, hts⟩ (m_X2_set_y l g H.size ws_14 h0 (17) (z_244) hG o_h0) (cwV 2 hts (gd_V kw_684 kw_793 kw_794 kw_389 kw_792) rfl rfl rfl (by decide +kernel) ⟨Nat.le_of_ble_eq_true rfl, Nat.le_of_ble_eq_true rfl⟩) ⟨gblind, va_recv hK hP (ci := 2) (q0 := k_4) rfl hk_4, fun U hU hW9 => gmk hU hW9 hP hK hD hex hE hS hFc⟩ rfl rfl hl.1 rfl (lv_room (Nat.le_of_ble_eq_true rfl)) dX2_decode_113 ⟨Nat.le_of_ble_eq_true rfl, Nat.le_of_ble_eq_true rfl⟩) hS (fun q _ h => hFc q h) hFc (fun  ws_245 t9 H1 locs ht9 hvm9 hw9 hB9 hz9 hk9 hS => ?_)
              obtain ⟨E_246, Fr_247, hG, hP1, hD1⟩ := hB9
              have hP : va_P (gD g) cl0 ws_245 H1 := by rw [← ht9]; exact hP1
              have hD : va_D A ws_245 := hD1.weaken (fun _ _ _ h => hFc _ h)
              obtain ⟨hw9, xp_250⟩ := hw9
              clear hP1 hD1 hz9 hk9 hvm9 ht9 hw9
              generalize H1 = H at hP hS ⊢
              have aa_251 := a_r7_4
              have o_h0 := E_246.1 _ _ o_h0
              refine lv_goto (tgt := 252) hx hb dX2_decode_116 (by decide) ?_
              refine W.widen (k := 0) (n := 0) (Nat.le_of_ble_eq_true rfl) (Nat.le_of_ble_eq_true rfl) ?_
              exact W.vret hx hb hr (fun t9 ht9 hW9 => ⟨⟨ws_245, rfl, ⟨trivial, ⟨_, _, xp_250, fun h9 => absurd h9 (by unfold isS; decide)⟩⟩, ⟨(E_7.tr (E_11.tr (E_15.tr E_246))), (gF.tr (gF.mo (F' := [(2, 9), (2, 10), (2, 11)]) (C' := []) (S' := none) Fr_8 (by decide) (fun _ h => h) (Or.inl rfl)) (gF.tr (gF.mo (F' := [(2, 9), (2, 10), (2, 11)]) (C' := []) (S' := none) Fr_12 (by decide) (fun _ h => h) (Or.inl rfl)) (gF.tr (gF.mo (F' := [(2, 9), (2, 10), (2, 11)]) (C' := []) (S' := none) Fr_16 (by decide) (fun _ h => h) (Or.inl rfl)) (gF.mo (F' := [(2, 9), (2, 10), (2, 11)]) (C' := []) (S' := none) Fr_247 (by decide) (fun _ h => h) (Or.inr rfl))))), hG, by rw [ht9]; exact hP, hD⟩⟩, hS.F ht9⟩) hS.2.2 dX2_decode_252
          · refine lv_aload_n hx hb dX2_decode_77 rfl (lv_at hl 1 rfl) ?_
            refine lv_bipush (v := 17) hx hb dX2_decode_78 (by decide) ?_
            refine lv_aload_n hx hb dX2_decode_80 rfl (lv_at hl 1 rfl) ?_
            refine lv_iload_n hx hb dX2_decode_81 rfl (lv_at hl 2 rfl) ?_
            refine lv_iconst (v := 1) hx hb dX2_decode_82 (by decide) ?_
            refine lv_iadd hx hb dX2_decode_83 ?_
            refine lv_topi (fun z_252 ez_252 => ?_)
            have hFc := gfree hD hS hA
            refine va_calli (va_runV (As := [.int z_252]) (rest := [.int 17, .ref h0]) ⟨hx, hb, hml, hown, hts⟩ (m_X2_u1_x l g H.size ws_14 h0 (z_252) hG o_h0) (cwV 1 hts (gd_V kw_682 kw_812 kw_813 kw_389 kw_811) rfl rfl rfl (by decide +kernel) ⟨Nat.le_of_ble_eq_true rfl, Nat.le_of_ble_eq_true rfl⟩) ⟨gblind, va_recv hK hP (ci := 2) (q0 := k_4) rfl hk_4, fun U hU hW9 => gmk hU hW9 hP hK hD hex hE hS hFc⟩ rfl rfl hl.1 rfl (lv_room (Nat.le_of_ble_eq_true rfl)) dX2_decode_84 ⟨Nat.le_of_ble_eq_true rfl, Nat.le_of_ble_eq_true rfl⟩) hS (fun q _ h => hFc q h) hFc (fun r_253 u9 t9 H1 locs ht9 hvm9 hw9 hB9 hz9 hk9 hS => ?_)
            have hP : va_P (gD g) cl0 ws_14 H1 := by rw [← ht9]; exact hB9.1
            obtain ⟨hw9, xp_254⟩ := hw9
            clear hB9 hz9 hk9 hvm9 ht9 hw9
            generalize H1 = H at hP hS ⊢
            obtain ⟨z_255, ez_255⟩ : ∃ y : Int32, (r_253 : Int32).toInt8.toInt32 = y := ⟨_, rfl⟩
            refine lv_i2b (v := z_255) hx hb dX2_decode_87 ez_255 ?_
            obtain ⟨z_256, ez_256⟩ : ∃ y : Int64, (z_255 : Int32).toInt64 = y := ⟨_, rfl⟩
            refine lv_i2l (v := z_256) hx hb dX2_decode_88 ez_256 ?_
            have hFc := gfree hD hS hA
            refine va_callv (va_runV (As := [.int 17, .long z_256]) (rest := []) ⟨hx, hb, hml, hown, hts⟩ (m_X2_set_y l g H.size ws_14 h0 (17) (z_256) hG o_h0) (cwV 2 hts (gd_V kw_684 kw_793 kw_794 kw_389 kw_792) rfl rfl rfl (by decide +kernel) ⟨Nat.le_of_ble_eq_true rfl, Nat.le_of_ble_eq_true rfl⟩) ⟨gblind, va_recv hK hP (ci := 2) (q0 := k_4) rfl hk_4, fun U hU hW9 => gmk hU hW9 hP hK hD hex hE hS hFc⟩ rfl rfl hl.1 rfl (lv_room (Nat.le_of_ble_eq_true rfl)) dX2_decode_89 ⟨Nat.le_of_ble_eq_true rfl, Nat.le_of_ble_eq_true rfl⟩) hS (fun q _ h => hFc q h) hFc (fun  ws_257 t9 H1 locs ht9 hvm9 hw9 hB9 hz9 hk9 hS => ?_)
            obtain ⟨E_258, Fr_259, hG, hP1, hD1⟩ := hB9
            have hP : va_P (gD g) cl0 ws_257 H1 := by rw [← ht9]; exact hP1
            have hD : va_D A ws_257 := hD1.weaken (fun _ _ _ h => hFc _ h)
            obtain ⟨hw9, xp_262⟩ := hw9
            clear hP1 hD1 hz9 hk9 hvm9 ht9 hw9
            generalize H1 = H at hP hS ⊢
            have aa_263 := a_r7_4
            have o_h0 := E_258.1 _ _ o_h0
            refine lv_goto (tgt := 252) hx hb dX2_decode_92 (by decide) ?_
            refine W.widen (k := 0) (n := 0) (Nat.le_of_ble_eq_true rfl) (Nat.le_of_ble_eq_true rfl) ?_
            exact W.vret hx hb hr (fun t9 ht9 hW9 => ⟨⟨ws_257, rfl, ⟨trivial, ⟨_, _, xp_262, fun h9 => absurd h9 (by unfold isS; decide)⟩⟩, ⟨(E_7.tr (E_11.tr (E_15.tr E_258))), (gF.tr (gF.mo (F' := [(2, 9), (2, 10), (2, 11)]) (C' := []) (S' := none) Fr_8 (by decide) (fun _ h => h) (Or.inl rfl)) (gF.tr (gF.mo (F' := [(2, 9), (2, 10), (2, 11)]) (C' := []) (S' := none) Fr_12 (by decide) (fun _ h => h) (Or.inl rfl)) (gF.tr (gF.mo (F' := [(2, 9), (2, 10), (2, 11)]) (C' := []) (S' := none) Fr_16 (by decide) (fun _ h => h) (Or.inl rfl)) (gF.mo (F' := [(2, 9), (2, 10), (2, 11)]) (C' := []) (S' := none) Fr_259 (by decide) (fun _ h => h) (Or.inr rfl))))), hG, by rw [ht9]; exact hP, hD⟩⟩, hS.F ht9⟩) hS.2.2 dX2_decode_252
        · refine lv_aload_n hx hb dX2_decode_57 rfl (lv_at hl 1 rfl) ?_
          refine lv_bipush (v := 9) hx hb dX2_decode_58 (by decide) ?_
          refine lv_iload_n hx hb dX2_decode_60 rfl (lv_at hl 0 rfl) ?_
          refine lv_bipush (v := 9) hx hb dX2_decode_61 (by decide) ?_
          refine lv_isub hx hb dX2_decode_63 ?_
          refine lv_topi (fun z_264 ez_264 => ?_)
          obtain ⟨z_265, ez_265⟩ : ∃ y : Int64, (z_264 : Int32).toInt64 = y := ⟨_, rfl⟩
          refine lv_i2l (v := z_265) hx hb dX2_decode_64 ez_265 ?_
          have hFc := gfree hD hS hA
          refine va_callv (va_runV (As := [.int 9, .long z_265]) (rest := []) ⟨hx, hb, hml, hown, hts⟩ (m_X2_set_y l g H.size ws_14 h0 (9) (z_265) hG o_h0) (cwV 2 hts (gd_V kw_684 kw_793 kw_794 kw_389 kw_792) rfl rfl rfl (by decide +kernel) ⟨Nat.le_of_ble_eq_true rfl, Nat.le_of_ble_eq_true rfl⟩) ⟨gblind, va_recv hK hP (ci := 2) (q0 := k_4) rfl hk_4, fun U hU hW9 => gmk hU hW9 hP hK hD hex hE hS hFc⟩ rfl rfl hl.1 rfl (lv_room (Nat.le_of_ble_eq_true rfl)) dX2_decode_65 ⟨Nat.le_of_ble_eq_true rfl, Nat.le_of_ble_eq_true rfl⟩) hS (fun q _ h => hFc q h) hFc (fun  ws_266 t9 H1 locs ht9 hvm9 hw9 hB9 hz9 hk9 hS => ?_)
          obtain ⟨E_267, Fr_268, hG, hP1, hD1⟩ := hB9
          have hP : va_P (gD g) cl0 ws_266 H1 := by rw [← ht9]; exact hP1
          have hD : va_D A ws_266 := hD1.weaken (fun _ _ _ h => hFc _ h)
          obtain ⟨hw9, xp_271⟩ := hw9
          clear hP1 hD1 hz9 hk9 hvm9 ht9 hw9
          generalize H1 = H at hP hS ⊢
          have aa_272 := a_r7_4
          have o_h0 := E_267.1 _ _ o_h0
          refine lv_goto (tgt := 252) hx hb dX2_decode_68 (by decide) ?_
          refine W.widen (k := 0) (n := 0) (Nat.le_of_ble_eq_true rfl) (Nat.le_of_ble_eq_true rfl) ?_
          exact W.vret hx hb hr (fun t9 ht9 hW9 => ⟨⟨ws_266, rfl, ⟨trivial, ⟨_, _, xp_271, fun h9 => absurd h9 (by unfold isS; decide)⟩⟩, ⟨(E_7.tr (E_11.tr (E_15.tr E_267))), (gF.tr (gF.mo (F' := [(2, 9), (2, 10), (2, 11)]) (C' := []) (S' := none) Fr_8 (by decide) (fun _ h => h) (Or.inl rfl)) (gF.tr (gF.mo (F' := [(2, 9), (2, 10), (2, 11)]) (C' := []) (S' := none) Fr_12 (by decide) (fun _ h => h) (Or.inl rfl)) (gF.tr (gF.mo (F' := [(2, 9), (2, 10), (2, 11)]) (C' := []) (S' := none) Fr_16 (by decide) (fun _ h => h) (Or.inl rfl)) (gF.mo (F' := [(2, 9), (2, 10), (2, 11)]) (C' := []) (S' := none) Fr_268 (by decide) (fun _ h => h) (Or.inr rfl))))), hG, by rw [ht9]; exact hP, hD⟩⟩, hS.F ht9⟩) hS.2.2 dX2_decode_252
    · refine lv_aload_n hx hb dX2_decode_32 rfl (lv_at hl 1 rfl) ?_
      refine lv_bipush (v := 17) hx hb dX2_decode_33 (by decide) ?_
      refine lv_iload_n hx hb dX2_decode_35 rfl (lv_at hl 0 rfl) ?_
      refine lv_iconst (v := 3) hx hb dX2_decode_36 (by decide) ?_
      refine lv_isub hx hb dX2_decode_37 ?_
      refine lv_topi (fun z_273 ez_273 => ?_)
      obtain ⟨z_274, ez_274⟩ : ∃ y : Int64, (z_273 : Int32).toInt64 = y := ⟨_, rfl⟩
      refine lv_i2l (v := z_274) hx hb dX2_decode_38 ez_274 ?_
      have hFc := gfree hD hS hA
      refine va_callv (va_runV (As := [.int 17, .long z_274]) (rest := []) ⟨hx, hb, hml, hown, hts⟩ (m_X2_set_y l g H.size ws_14 h0 (17) (z_274) hG o_h0) (cwV 2 hts (gd_V kw_684 kw_793 kw_794 kw_389 kw_792) rfl rfl rfl (by decide +kernel) ⟨Nat.le_of_ble_eq_true rfl, Nat.le_of_ble_eq_true rfl⟩) ⟨gblind, va_recv hK hP (ci := 2) (q0 := k_4) rfl hk_4, fun U hU hW9 => gmk hU hW9 hP hK hD hex hE hS hFc⟩ rfl rfl hl.1 rfl (lv_room (Nat.le_of_ble_eq_true rfl)) dX2_decode_39 ⟨Nat.le_of_ble_eq_true rfl, Nat.le_of_ble_eq_true rfl⟩) hS (fun q _ h => hFc q h) hFc (fun  ws_275 t9 H1 locs ht9 hvm9 hw9 hB9 hz9 hk9 hS => ?_)
      obtain ⟨E_276, Fr_277, hG, hP1, hD1⟩ := hB9
      have hP : va_P (gD g) cl0 ws_275 H1 := by rw [← ht9]; exact hP1
      have hD : va_D A ws_275 := hD1.weaken (fun _ _ _ h => hFc _ h)
      obtain ⟨hw9, xp_280⟩ := hw9
      clear hP1 hD1 hz9 hk9 hvm9 ht9 hw9
      generalize H1 = H at hP hS ⊢
      have aa_281 := a_r7_4
      have o_h0 := E_276.1 _ _ o_h0
      refine lv_goto (tgt := 252) hx hb dX2_decode_42 (by decide) ?_
      refine W.widen (k := 0) (n := 0) (Nat.le_of_ble_eq_true rfl) (Nat.le_of_ble_eq_true rfl) ?_
      exact W.vret hx hb hr (fun t9 ht9 hW9 => ⟨⟨ws_275, rfl, ⟨trivial, ⟨_, _, xp_280, fun h9 => absurd h9 (by unfold isS; decide)⟩⟩, ⟨(E_7.tr (E_11.tr (E_15.tr E_276))), (gF.tr (gF.mo (F' := [(2, 9), (2, 10), (2, 11)]) (C' := []) (S' := none) Fr_8 (by decide) (fun _ h => h) (Or.inl rfl)) (gF.tr (gF.mo (F' := [(2, 9), (2, 10), (2, 11)]) (C' := []) (S' := none) Fr_12 (by decide) (fun _ h => h) (Or.inl rfl)) (gF.tr (gF.mo (F' := [(2, 9), (2, 10), (2, 11)]) (C' := []) (S' := none) Fr_16 (by decide) (fun _ h => h) (Or.inl rfl)) (gF.mo (F' := [(2, 9), (2, 10), (2, 11)]) (C' := []) (S' := none) Fr_277 (by decide) (fun _ h => h) (Or.inr rfl))))), hG, by rw [ht9]; exact hP, hD⟩⟩, hS.F ht9⟩) hS.2.2 dX2_decode_252
set_option maxHeartbeats 1000000 in
set_option maxRecDepth 100000 in
theorem m_X2_switchCount_y (l : Launch) (g : Gm) (sz : Nat) (ws : va_W) (h0 : Nat) (x1 : Int32) (hG : Good g ws) (o_h0 : gC ws h0 2) : Met l yX2_switchCount (wt yX2_switchCount cX2_switchCount 2 (some .int)) ({ frames := 2, cells := 0, slots := 0, locals := 42 }) (va_Pc [.ref h0, .int x1] (st_G g sz ws)) (va_Qi (fun (r : Int32) (u9 : Unit) => (True) ∧ (∀ (f : Nat → Int32) (e : Int32) (n : Nat) (cd sz : Int32) (o : Int32) (a : Int64), vx ws h0 f e n cd sz → opF ws h0 o a → r = kCnt o f e n cd sz x1)) (gQ0 g (va_A ws sz) ws) (va_A ws sz)) (0) (0) (va_A ws sz) := by
  refine Met.ofW (cc := cX2_switchCount) (maxL := 2) (ret := (some .int)) (by decide) rfl ?_
  intro p e s m args below meth c s₁ B hml hv
  obtain ⟨rfl, hsz, hP, hK, hD0, hex, hE⟩ := hv
  have hx := B.exec
  have hb := B.bytes
  have hr := B.returns
  have hts0 := atoms_spec (ws := wt yX2_switchCount cX2_switchCount 2 (some .int)) B.pre
  have hts : ∀ w ∈ tb, w.before _ s = true := fun w h => hts0 w (List.mem_cons_of_mem _ h)
  have hown : s.vm.findClass RX2 = some m.cls := findClass_of_methodNamed B.named
  subst hsz
  have hD := hD0.self (sz := s.heap.size)
  generalize hAe : va_A ws s.heap.size = A at hD hE ⊢
  have hA : ∀ q : Nat, s.heap.size ≤ q → A q := fun q h => by rw [← hAe]; exact Or.inr h
  have hS : va_S A s.heap s.heap [] := va_S.rf
  have hl := lv_entry ([.ref h0, .int x1]) (n := 2) (Nat.le_of_ble_eq_true rfl)
  rw [lg_entry_eq]
  generalize (lg_sl ([.ref h0, .int x1]) ++ List.replicate (2 - (lg_sl ([.ref h0, .int x1])).length) Slot.unset).toArray = ls at hl ⊢
  have hl : lv_has ls 2 [(0, .ref h0), (1, .int x1)] := hl
  refine lv_aload_n hx hb dX2_switchCount_0 rfl (lv_at hl 0 rfl) ?_
  obtain ⟨k_1, fs9, hk_1⟩ := gC_of o_h0
  obtain ⟨r0_1, c1_1, c2_1, c3_1, c4_1, c5_1, c6_1, r7_1, n7_1, c8_1, c9_1, l10_1, c11_1, rfl, o_r0_1, a_r7_1, f2_1, f3_1, f4_1, -⟩ := (hG.1 _ _ _ _ hk_1).hX2 rfl
  refine va_get (D := gD g) (ci := 2) (v := .int c9_1) (C := RX2) (T := TX2) (N := 12) hx hb hts inX2 hown hK hP k_1 hk_1 rfl 9 (by decide) (hts _ kw_619) (fun _ h9 => h9) rfl dX2_switchCount_1 ?_
  refine lv_sipush (v := 170) hx hb dX2_switchCount_4 (by decide) ?_
  refine lv_icmp_ne (tgt := 31) hx hb dX2_switchCount_7 (by decide) (fun c_2 => ?_) (fun c_2 => ?_)
  · refine lv_aload_n hx hb dX2_switchCount_31 rfl (lv_at hl 0 rfl) ?_
    refine lv_iload_n hx hb dX2_switchCount_32 rfl (lv_at hl 1 rfl) ?_
    refine lv_iconst (v := 4) hx hb dX2_switchCount_33 (by decide) ?_
    refine lv_iadd hx hb dX2_switchCount_34 ?_
    refine lv_topi (fun z_3 ez_3 => ?_)
    have hFc := gfree hD hS hA
    refine va_calli (va_runV (As := [.int z_3]) (rest := []) ⟨hx, hb, hml, hown, hts⟩ (m_X2_s4_x l g s.heap.size ws h0 (z_3) hG o_h0) (cwV 1 hts (gd_V kw_623 kw_790 kw_791 kw_389 kw_789) rfl rfl rfl (by decide +kernel) ⟨Nat.le_of_ble_eq_true rfl, Nat.le_of_ble_eq_true rfl⟩) ⟨gblind, va_recv hK hP (ci := 2) (q0 := k_1) rfl hk_1, fun U hU hW9 => gmk hU hW9 hP hK hD hex hE hS hFc⟩ rfl rfl hl.1 rfl (lv_room (Nat.le_of_ble_eq_true rfl)) dX2_switchCount_35 ⟨Nat.le_of_ble_eq_true rfl, Nat.le_of_ble_eq_true rfl⟩) hS (fun q _ h => hFc q h) hFc (fun r_4 u9 t9 H1 locs ht9 hvm9 hw9 hB9 hz9 hk9 hS => ?_)
    have hP : va_P (gD g) cl0 ws H1 := by rw [← ht9]; exact hB9.1
    obtain ⟨hw9, xp_5⟩ := hw9
    clear hB9 hz9 hk9 hvm9 ht9 hw9
    generalize H1 = H at hP hS ⊢
    refine W.widen (k := 0) (n := 0) (Nat.le_of_ble_eq_true rfl) (Nat.le_of_ble_eq_true rfl) ?_
    exact W.iret (v := r_4) hx hb hr (fun t9 ht9 hW9 => ⟨⟨_, (), rfl, ⟨trivial, (fun f9 e9 n9 c9 s9 o9 a9 q9 p9 => by obtain ⟨h1, -⟩ := opF_un hD hk_1 rfl rfl p9; rw [h1]; have y_c := xp_5 _ _ _ _ _ q9; unfold kCnt; rw [if_neg (by have e170 : (170 : Int32).toInt = 170 := (by decide); have q_c_2 := i_ne c_2; have g_c9_1 := i_rg c9_1; omega)]; simp only [← ez_3, ← y_c])⟩, ⟨by rw [ht9]; exact hP, hD⟩⟩, hS.F ht9⟩) hS.2.2 dX2_switchCount_38
  · refine lv_aload_n hx hb dX2_switchCount_10 rfl (lv_at hl 0 rfl) ?_
    refine lv_iload_n hx hb dX2_switchCount_11 rfl (lv_at hl 1 rfl) ?_
    refine lv_bipush (v := 8) hx hb dX2_switchCount_12 (by decide) ?_
    refine lv_iadd hx hb dX2_switchCount_14 ?_
    refine lv_topi (fun z_6 ez_6 => ?_)
    have hFc := gfree hD hS hA
    refine va_calli (va_runV (As := [.int z_6]) (rest := []) ⟨hx, hb, hml, hown, hts⟩ (m_X2_s4_x l g s.heap.size ws h0 (z_6) hG o_h0) (cwV 1 hts (gd_V kw_623 kw_790 kw_791 kw_389 kw_789) rfl rfl rfl (by decide +kernel) ⟨Nat.le_of_ble_eq_true rfl, Nat.le_of_ble_eq_true rfl⟩) ⟨gblind, va_recv hK hP (ci := 2) (q0 := k_1) rfl hk_1, fun U hU hW9 => gmk hU hW9 hP hK hD hex hE hS hFc⟩ rfl rfl hl.1 rfl (lv_room (Nat.le_of_ble_eq_true rfl)) dX2_switchCount_15 ⟨Nat.le_of_ble_eq_true rfl, Nat.le_of_ble_eq_true rfl⟩) hS (fun q _ h => hFc q h) hFc (fun r_7 u9 t9 H1 locs ht9 hvm9 hw9 hB9 hz9 hk9 hS => ?_)
    have hP : va_P (gD g) cl0 ws H1 := by rw [← ht9]; exact hB9.1
    obtain ⟨hw9, xp_8⟩ := hw9
    clear hB9 hz9 hk9 hvm9 ht9 hw9
    generalize H1 = H at hP hS ⊢
    refine lv_aload_n hx hb dX2_switchCount_18 rfl (lv_at hl 0 rfl) ?_
    refine lv_iload_n hx hb dX2_switchCount_19 rfl (lv_at hl 1 rfl) ?_
    refine lv_iconst (v := 4) hx hb dX2_switchCount_20 (by decide) ?_
    refine lv_iadd hx hb dX2_switchCount_21 ?_
    refine lv_topi (fun z_9 ez_9 => ?_)
    have hFc := gfree hD hS hA
    refine va_calli (va_runV (As := [.int z_9]) (rest := [.int r_7]) ⟨hx, hb, hml, hown, hts⟩ (m_X2_s4_x l g H.size ws h0 (z_9) hG o_h0) (cwV 1 hts (gd_V kw_623 kw_790 kw_791 kw_389 kw_789) rfl rfl rfl (by decide +kernel) ⟨Nat.le_of_ble_eq_true rfl, Nat.le_of_ble_eq_true rfl⟩) ⟨gblind, va_recv hK hP (ci := 2) (q0 := k_1) rfl hk_1, fun U hU hW9 => gmk hU hW9 hP hK hD hex hE hS hFc⟩ rfl rfl hl.1 rfl (lv_room (Nat.le_of_ble_eq_true rfl)) dX2_switchCount_22 ⟨Nat.le_of_ble_eq_true rfl, Nat.le_of_ble_eq_true rfl⟩) hS (fun q _ h => hFc q h) hFc (fun r_10 u9 t9 H1 locs ht9 hvm9 hw9 hB9 hz9 hk9 hS => ?_)
    have hP : va_P (gD g) cl0 ws H1 := by rw [← ht9]; exact hB9.1
    obtain ⟨hw9, xp_11⟩ := hw9
    clear hB9 hz9 hk9 hvm9 ht9 hw9
    generalize H1 = H at hP hS ⊢
    refine lv_isub hx hb dX2_switchCount_25 ?_
    refine lv_topi (fun z_12 ez_12 => ?_)
    refine lv_iconst (v := 1) hx hb dX2_switchCount_26 (by decide) ?_
    refine lv_iadd hx hb dX2_switchCount_27 ?_
    refine lv_topi (fun z_13 ez_13 => ?_)
    refine lv_goto (tgt := 38) hx hb dX2_switchCount_28 (by decide) ?_
    refine W.widen (k := 0) (n := 0) (Nat.le_of_ble_eq_true rfl) (Nat.le_of_ble_eq_true rfl) ?_
    exact W.iret (v := z_13) hx hb hr (fun t9 ht9 hW9 => ⟨⟨_, (), rfl, ⟨trivial, (fun f9 e9 n9 c9 s9 o9 a9 q9 p9 => by obtain ⟨h1, -⟩ := opF_un hD hk_1 rfl rfl p9; rw [h1]; have y_a := xp_8 _ _ _ _ _ q9; have y_b := xp_11 _ _ _ _ _ q9; unfold kCnt; rw [if_pos (by have e170 : (170 : Int32).toInt = 170 := (by decide); have q_c_2 := i_eq c_2; have g_c9_1 := i_rg c9_1; omega)]; simp only [← ez_6, ← y_a, ← ez_9, ← y_b, ← ez_12, ← ez_13])⟩, ⟨by rw [ht9]; exact hP, hD⟩⟩, hS.F ht9⟩) hS.2.2 dX2_switchCount_38
