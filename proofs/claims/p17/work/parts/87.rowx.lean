set_option maxHeartbeats 1000000 in
set_option maxRecDepth 100000 in
theorem m_X6_isJump_z (l : Launch) (g : Gm) (sz : Nat) (ws : va_W) (x0 : Int32) (hG : Good g ws)  : Met l yX6_isJump (wt yX6_isJump cX6_isJump 1 (some .boolean)) ({ frames := 0, cells := 0, slots := 0, locals := 0 }) (va_Pc [.int x0] (st_G g sz ws)) (va_Qi (fun (r : Int32) (u9 : Unit) => (r = 0 ∨ r = 1) ∧ (r.toInt = 1 ↔ ((153 ≤ x0.toInt ∧ x0.toInt ≤ 167) ∨ x0.toInt = 198 ∨ x0.toInt = 199))) (gQ0 g (va_A ws sz) ws) (va_A ws sz)) (0) (0) (va_A ws sz) := by
  refine Met.ofW (cc := cX6_isJump) (maxL := 1) (ret := (some .boolean)) (by decide) rfl ?_
  intro p e s m args below meth c s₁ B hml hv
  obtain ⟨rfl, hsz, hP, hK, hD0, hex, hE⟩ := hv
  have hx := B.exec
  have hb := B.bytes
  have hr := B.returns
  have hts0 := atoms_spec (ws := wt yX6_isJump cX6_isJump 1 (some .boolean)) B.pre
  have hts : ∀ w ∈ tb, w.before _ s = true := fun w h => hts0 w (List.mem_cons_of_mem _ h)
  have hown : s.vm.findClass RX6 = some m.cls := findClass_of_methodNamed B.named
  subst hsz
  have hD := hD0.self (sz := s.heap.size)
  generalize hAe : va_A ws s.heap.size = A at hD hE ⊢
  have hA : ∀ q : Nat, s.heap.size ≤ q → A q := fun q h => by rw [← hAe]; exact Or.inr h
  have hS : va_S A s.heap s.heap [] := va_S.rf
  have hl := lv_entry ([.int x0]) (n := 1) (Nat.le_of_ble_eq_true rfl)
  rw [lg_entry_eq]
  generalize (lg_sl ([.int x0]) ++ List.replicate (1 - (lg_sl ([.int x0])).length) Slot.unset).toArray = ls at hl ⊢
  have hl : lv_has ls 1 [(0, .int x0)] := hl
  refine lv_iload_n hx hb dX6_isJump_0 rfl (lv_at hl 0 rfl) ?_
  refine lv_sipush (v := 153) hx hb dX6_isJump_1 (by decide) ?_
  refine lv_icmp_lt (tgt := 14) hx hb dX6_isJump_4 (by decide) (fun c_1 => ?_) (fun c_1 => ?_)
  · refine lv_iload_n hx hb dX6_isJump_14 rfl (lv_at hl 0 rfl) ?_
    refine lv_sipush (v := 198) hx hb dX6_isJump_15 (by decide) ?_
    refine lv_icmp_eq (tgt := 28) hx hb dX6_isJump_18 (by decide) (fun c_2 => ?_) (fun c_2 => ?_)
    · refine lv_iconst (v := 1) hx hb dX6_isJump_28 (by decide) ?_
      refine lv_goto (tgt := 33) hx hb dX6_isJump_29 (by decide) ?_
      refine W.widen (k := 0) (n := 0) (Nat.le_of_ble_eq_true rfl) (Nat.le_of_ble_eq_true rfl) ?_
      exact W.zret (v := 1) hx hb hr (nz (Or.inr rfl)) (fun t9 ht9 hW9 => ⟨⟨_, (), rfl, ⟨(Or.inr rfl), ⟨fun h9 => (by have e153 : (153 : Int32).toInt = 153 := (by decide); have e198 : (198 : Int32).toInt = 198 := (by decide); have q_c_1 := i_lt c_1; have q_c_2 := i_eq c_2; have g_x0 := i_rg x0; omega), fun h9 => (by decide)⟩⟩, ⟨by rw [ht9]; exact hP, hD⟩⟩, hS.F ht9⟩) hS.2.2 dX6_isJump_33
    · refine lv_iload_n hx hb dX6_isJump_21 rfl (lv_at hl 0 rfl) ?_
      refine lv_sipush (v := 199) hx hb dX6_isJump_22 (by decide) ?_
      refine lv_icmp_ne (tgt := 32) hx hb dX6_isJump_25 (by decide) (fun c_3 => ?_) (fun c_3 => ?_)
      · refine lv_iconst (v := 0) hx hb dX6_isJump_32 (by decide) ?_
        refine W.widen (k := 0) (n := 0) (Nat.le_of_ble_eq_true rfl) (Nat.le_of_ble_eq_true rfl) ?_
        exact W.zret (v := 0) hx hb hr (nz (Or.inl rfl)) (fun t9 ht9 hW9 => ⟨⟨_, (), rfl, ⟨(Or.inl rfl), ⟨fun h9 => (absurd h9 (by decide)), fun h9 => False.elim (by have e153 : (153 : Int32).toInt = 153 := (by decide); have e198 : (198 : Int32).toInt = 198 := (by decide); have e199 : (199 : Int32).toInt = 199 := (by decide); have q_c_1 := i_lt c_1; have q_c_2 := i_ne c_2; have q_c_3 := i_ne c_3; have g_x0 := i_rg x0; omega)⟩⟩, ⟨by rw [ht9]; exact hP, hD⟩⟩, hS.F ht9⟩) hS.2.2 dX6_isJump_33
      · refine lv_iconst (v := 1) hx hb dX6_isJump_28 (by decide) ?_
        refine lv_goto (tgt := 33) hx hb dX6_isJump_29 (by decide) ?_
        refine W.widen (k := 0) (n := 0) (Nat.le_of_ble_eq_true rfl) (Nat.le_of_ble_eq_true rfl) ?_
        exact W.zret (v := 1) hx hb hr (nz (Or.inr rfl)) (fun t9 ht9 hW9 => ⟨⟨_, (), rfl, ⟨(Or.inr rfl), ⟨fun h9 => (by have e153 : (153 : Int32).toInt = 153 := (by decide); have e198 : (198 : Int32).toInt = 198 := (by decide); have e199 : (199 : Int32).toInt = 199 := (by decide); have q_c_1 := i_lt c_1; have q_c_2 := i_ne c_2; have q_c_3 := i_eq c_3; have g_x0 := i_rg x0; omega), fun h9 => (by decide)⟩⟩, ⟨by rw [ht9]; exact hP, hD⟩⟩, hS.F ht9⟩) hS.2.2 dX6_isJump_33
  · refine lv_iload_n hx hb dX6_isJump_7 rfl (lv_at hl 0 rfl) ?_
    refine lv_sipush (v := 167) hx hb dX6_isJump_8 (by decide) ?_
    refine lv_icmp_le (tgt := 28) hx hb dX6_isJump_11 (by decide) (fun c_4 => ?_) (fun c_4 => ?_)
    · refine lv_iconst (v := 1) hx hb dX6_isJump_28 (by decide) ?_
      refine lv_goto (tgt := 33) hx hb dX6_isJump_29 (by decide) ?_
      refine W.widen (k := 0) (n := 0) (Nat.le_of_ble_eq_true rfl) (Nat.le_of_ble_eq_true rfl) ?_
      exact W.zret (v := 1) hx hb hr (nz (Or.inr rfl)) (fun t9 ht9 hW9 => ⟨⟨_, (), rfl, ⟨(Or.inr rfl), ⟨fun h9 => (by have e153 : (153 : Int32).toInt = 153 := (by decide); have e167 : (167 : Int32).toInt = 167 := (by decide); have q_c_1 := i_nlt c_1; have q_c_4 := i_le c_4; have g_x0 := i_rg x0; omega), fun h9 => (by decide)⟩⟩, ⟨by rw [ht9]; exact hP, hD⟩⟩, hS.F ht9⟩) hS.2.2 dX6_isJump_33
    · refine lv_iload_n hx hb dX6_isJump_14 rfl (lv_at hl 0 rfl) ?_
      refine lv_sipush (v := 198) hx hb dX6_isJump_15 (by decide) ?_
      refine lv_icmp_eq (tgt := 28) hx hb dX6_isJump_18 (by decide) (fun c_5 => ?_) (fun c_5 => ?_)
      · refine lv_iconst (v := 1) hx hb dX6_isJump_28 (by decide) ?_
        refine lv_goto (tgt := 33) hx hb dX6_isJump_29 (by decide) ?_
        refine W.widen (k := 0) (n := 0) (Nat.le_of_ble_eq_true rfl) (Nat.le_of_ble_eq_true rfl) ?_
        exact W.zret (v := 1) hx hb hr (nz (Or.inr rfl)) (fun t9 ht9 hW9 => ⟨⟨_, (), rfl, ⟨(Or.inr rfl), ⟨fun h9 => (by have e153 : (153 : Int32).toInt = 153 := (by decide); have e167 : (167 : Int32).toInt = 167 := (by decide); have e198 : (198 : Int32).toInt = 198 := (by decide); have q_c_1 := i_nlt c_1; have q_c_4 := i_nle c_4; have q_c_5 := i_eq c_5; have g_x0 := i_rg x0; omega), fun h9 => (by decide)⟩⟩, ⟨by rw [ht9]; exact hP, hD⟩⟩, hS.F ht9⟩) hS.2.2 dX6_isJump_33
      · refine lv_iload_n hx hb dX6_isJump_21 rfl (lv_at hl 0 rfl) ?_
        refine lv_sipush (v := 199) hx hb dX6_isJump_22 (by decide) ?_
        refine lv_icmp_ne (tgt := 32) hx hb dX6_isJump_25 (by decide) (fun c_6 => ?_) (fun c_6 => ?_)
        · refine lv_iconst (v := 0) hx hb dX6_isJump_32 (by decide) ?_
          refine W.widen (k := 0) (n := 0) (Nat.le_of_ble_eq_true rfl) (Nat.le_of_ble_eq_true rfl) ?_
          exact W.zret (v := 0) hx hb hr (nz (Or.inl rfl)) (fun t9 ht9 hW9 => ⟨⟨_, (), rfl, ⟨(Or.inl rfl), ⟨fun h9 => (absurd h9 (by decide)), fun h9 => False.elim (by have e153 : (153 : Int32).toInt = 153 := (by decide); have e167 : (167 : Int32).toInt = 167 := (by decide); have e198 : (198 : Int32).toInt = 198 := (by decide); have e199 : (199 : Int32).toInt = 199 := (by decide); have q_c_1 := i_nlt c_1; have q_c_4 := i_nle c_4; have q_c_5 := i_ne c_5; have q_c_6 := i_ne c_6; have g_x0 := i_rg x0; omega)⟩⟩, ⟨by rw [ht9]; exact hP, hD⟩⟩, hS.F ht9⟩) hS.2.2 dX6_isJump_33
        · refine lv_iconst (v := 1) hx hb dX6_isJump_28 (by decide) ?_
          refine lv_goto (tgt := 33) hx hb dX6_isJump_29 (by decide) ?_
          refine W.widen (k := 0) (n := 0) (Nat.le_of_ble_eq_true rfl) (Nat.le_of_ble_eq_true rfl) ?_
          exact W.zret (v := 1) hx hb hr (nz (Or.inr rfl)) (fun t9 ht9 hW9 => ⟨⟨_, (), rfl, ⟨(Or.inr rfl), ⟨fun h9 => (by have e153 : (153 : Int32).toInt = 153 := (by decide); have e167 : (167 : Int32).toInt = 167 := (by decide); have e198 : (198 : Int32).toInt = 198 := (by decide); have e199 : (199 : Int32).toInt = 199 := (by decide); have q_c_1 := i_nlt c_1; have q_c_4 := i_nle c_4; have q_c_5 := i_ne c_5; have q_c_6 := i_eq c_6; have g_x0 := i_rg x0; omega), fun h9 => (by decide)⟩⟩, ⟨by rw [ht9]; exact hP, hD⟩⟩, hS.F ht9⟩) hS.2.2 dX6_isJump_33
set_option maxHeartbeats 1000000 in
set_option maxRecDepth 100000 in
theorem m_X8_set_y (l : Launch) (g : Gm) (sz : Nat) (ws : va_W) (h0 : Nat) (x1 : Int32) (x2 : Int32) (y3 : Int64) (P9 : (Nat → Int32) → (Nat → Int64) → (Nat → Int32) → Int → Int → Prop) (hG : Good g ws) (o_h0 : gC ws h0 7) (fp_k : gP ws h0 (fun fs => ∀ (rn n : Nat), fs[0]? = some (.ref rn) → gI ws rn g.cI n → 0 ≤ x1.toInt ∧ x1.toInt < n)) (tk0 : rowC ws h0 P9) : Met l yX8_set (wt yX8_set cX8_set 5 none) ({ frames := 0, cells := 0, slots := 0, locals := 0 }) (va_Pc [.ref h0, .int x1, .int x2, .long y3] (st_G g sz ws)) (va_Qv (fun (u9 : va_W) => (True) ∧ (rowC u9 h0 (stO P9 x1 x2 y3))) (gQ1 g [] [(7, 0), (7, 1)] (some h0) (va_A ws sz) ws) (va_A ws sz)) (0) (0) (va_A ws sz) := by
  refine Met.ofW (cc := cX8_set) (maxL := 5) (ret := none) (by decide) rfl ?_
  intro p e s m args below meth c s₁ B hml hv
  obtain ⟨rfl, hsz, hP, hK, hD0, hex, hE⟩ := hv
  have hx := B.exec
  have hb := B.bytes
  have hr := B.returns
  have hts0 := atoms_spec (ws := wt yX8_set cX8_set 5 none) B.pre
  have hts : ∀ w ∈ tb, w.before _ s = true := fun w h => hts0 w (List.mem_cons_of_mem _ h)
  have hown : s.vm.findClass RX8 = some m.cls := findClass_of_methodNamed B.named
  subst hsz
  have hD := hD0.self (sz := s.heap.size)
  generalize hAe : va_A ws s.heap.size = A at hD hE ⊢
  have hA : ∀ q : Nat, s.heap.size ≤ q → A q := fun q h => by rw [← hAe]; exact Or.inr h
  have hS : va_S A s.heap s.heap [] := va_S.rf
  have hl := lv_entry ([.ref h0, .int x1, .int x2, .long y3]) (n := 5) (Nat.le_of_ble_eq_true rfl)
  rw [lg_entry_eq]
  generalize (lg_sl ([.ref h0, .int x1, .int x2, .long y3]) ++ List.replicate (5 - (lg_sl ([.ref h0, .int x1, .int x2, .long y3])).length) Slot.unset).toArray = ls at hl ⊢
  have hl : lv_has ls 5 [(0, .ref h0), (1, .int x1), (2, .int x2), (3, .long y3)] := hl
  obtain ⟨k_1, fs9, hk_1⟩ := gC_of o_h0
  obtain ⟨r0_1, n0_1, r1_1, n1_1, c2_1, r3_1, n3_1, c4_1, r5_1, n5_1, r6_1, n6_1, r7_1, n7_1, r8_1, n8_1, c9_1, c10_1, c11_1, v12_1, v13_1, v14_1, rfl, a_r0_1, f1_1, a_r1_1, f3_1, a_r3_1, f5_1, a_r5_1, f7_1, a_r6_1, f9_1, a_r7_1, f11_1, a_r8_1, f13_1, o_v12_1, o_v13_1, o_v14_1, f17_1, f18_1, f19_1, f20_1, f21_1, f22_1, f23_1, f24_1, f25_1, f26_1, f27_1, f28_1, f29_1, -⟩ := (hG.1 _ _ _ _ hk_1).hX8 rfl
  have fq_k := fp_k _ _ _ hk_1 _ _ rfl a_r0_1
  refine lv_iload_n hx hb dX8_set_0 rfl (lv_at hl 1 rfl) ?_
  refine lv_if_lt (tgt := 27) hx hb dX8_set_1 (by decide) (fun c_2 => ?_) (fun c_2 => ?_)
  · exact False.elim (by have e0 : (0 : Int32).toInt = 0 := (by decide); have q_fq_k := fq_k; have q_c_2 := i_lt c_2; have q_f1_1 := f1_1; have q_f17_1 := f17_1; have q_f18_1 := f18_1; have q_f20_1 := f20_1; have g_c2_1 := i_rg c2_1; have g_x1 := i_rg x1; omega)
  · refine lv_iload_n hx hb dX8_set_4 rfl (lv_at hl 1 rfl) ?_
    refine lv_aload_n hx hb dX8_set_5 rfl (lv_at hl 0 rfl) ?_
    refine va_get (D := gD g) (ci := 7) (v := .ref r0_1) (C := RX8) (T := TX8) (N := 15) hx hb hts inX8 hown hK hP k_1 hk_1 rfl 0 (by decide) (hts _ kw_1460) (fun _ h9 => h9) rfl dX8_set_6 ?_
    obtain ⟨k_3, f_3, hk_3⟩ := gI_of a_r0_1
    obtain ⟨z_4, ez_4⟩ : ∃ z : Int32, Int32.ofNat n0_1 = z := ⟨_, rfl⟩
    refine va_alen (v := z_4) hx hb hK hP k_3 1 hk_3 rfl ez_4 dX8_set_9 ?_
    refine lv_icmp_ge (tgt := 27) hx hb dX8_set_10 (by decide) (fun c_5 => ?_) (fun c_5 => ?_)
    · exact False.elim (by have e0 : (0 : Int32).toInt = 0 := (by decide); have q_fq_k := fq_k; have q_c_2 := i_nlt c_2; have q_z_4 := i_len ez_4 f1_1; have q_c_5 := i_le c_5; have q_f1_1 := f1_1; have q_f17_1 := f17_1; have q_f18_1 := f18_1; have q_f20_1 := f20_1; have g_c2_1 := i_rg c2_1; have g_x1 := i_rg x1; have g_z_4 := i_rg z_4; omega)
    · refine lv_aload_n hx hb dX8_set_13 rfl (lv_at hl 0 rfl) ?_
      refine va_get (D := gD g) (ci := 7) (v := .ref r0_1) (C := RX8) (T := TX8) (N := 15) hx hb hts inX8 hown hK hP k_1 hk_1 rfl 0 (by decide) (hts _ kw_1460) (fun _ h9 => h9) rfl dX8_set_14 ?_
      refine lv_iload_n hx hb dX8_set_17 rfl (lv_at hl 1 rfl) ?_
      refine lv_iload_n hx hb dX8_set_18 rfl (lv_at hl 2 rfl) ?_
      have hfS := hk_3
      have hkS := hk_1
      have hDS := hD
      have hUS := hG.u
      have hC9 : hol ws r0_1 [(7, 0)] := (hol_u hG.u hk_1 (j := 0) rfl a_r0_1 (by decide))
      have hS9 : holS ws r0_1 (some h0) := holS_u hG.u hk_1 (j := 0) rfl a_r0_1
      refine va_iast hx hb hK hP hD hS k_3 1 hk_3 rfl (i_in2 (by have e0 : (0 : Int32).toInt = 0 := (by decide); have q_f1_1 := f1_1; have q_f17_1 := f17_1; have q_f18_1 := f18_1; have q_f20_1 := f20_1; have q_fq_k := fq_k; have q_c_2 := i_nlt c_2; have q_z_4 := i_len ez_4 f1_1; have q_c_5 := i_nle c_5; have q_f3_1 := f3_1; have q_f19_1 := f19_1; have g_c2_1 := i_rg c2_1; have g_x1 := i_rg x1; have g_z_4 := i_rg z_4; omega)) dX8_set_19 (fun H locs hP hD hS => ?_)
      obtain ⟨ws_6, e_ws_6⟩ : ∃ z, z = ws.set k_3 (r0_1, .inl (g.cI, n0_1, .inl (upd f_3 (x1 : Int32).toNatClampNeg x2))) := ⟨_, rfl⟩
      have hP : va_P (gD g) cl0 ws_6 H := by rw [e_ws_6]; exact hP
      have hD : va_D A ws_6 := by rw [e_ws_6]; exact hD
      have E_7 : gE ws ws_6 := gE_ari e_ws_6 hk_3
      have hG : Good g ws_6 := Good_arI e_ws_6 hk_3 hG
      have Fr_8 : gF [] [(7, 0)] (some h0) ws ws_6 := gF_ar e_ws_6 hk_3 rfl hC9 hS9
      have hk_1 := gset_arO e_ws_6 hk_3 hk_1
      have o_h0 := E_7.1 _ _ o_h0
      have a_r0_1 := E_7.1 _ _ a_r0_1
      have a_r1_1 := E_7.1 _ _ a_r1_1
      have a_r3_1 := E_7.1 _ _ a_r3_1
      have a_r5_1 := E_7.1 _ _ a_r5_1
      have a_r6_1 := E_7.1 _ _ a_r6_1
      have a_r7_1 := E_7.1 _ _ a_r7_1
      have a_r8_1 := E_7.1 _ _ a_r8_1
      have o_v12_1 : ∀ b, v12_1 = some b → ∃ n, gI ws_6 b g.cB n ∧ n < 2147483648 := fun b h => (o_v12_1 b h).imp (fun n h => ⟨E_7.1 _ _ h.1, h.2⟩)
      have o_v13_1 : ∀ b, v13_1 = some b → ∃ n, gJ ws_6 b g.cL n ∧ n < 2147483648 := fun b h => (o_v13_1 b h).imp (fun n h => ⟨E_7.1 _ _ h.1, h.2⟩)
      have o_v14_1 : ∀ b, v14_1 = some b → ∃ n, gJ ws_6 b g.cL n ∧ n < 2147483648 := fun b h => (o_v14_1 b h).imp (fun n h => ⟨E_7.1 _ _ h.1, h.2⟩)
      have tq_9 : rowC ws_6 h0 (stA P9 x1 x2) := rowC_o e_ws_6 hDS hUS hkS rfl hfS tk0 (fun fo _ _ _ _ w => ⟨fo, w, rfl⟩)
      refine lv_aload_n hx hb dX8_set_20 rfl (lv_at hl 0 rfl) ?_
      refine va_get (D := gD g) (ci := 7) (v := .ref r1_1) (C := RX8) (T := TX8) (N := 15) hx hb hts inX8 hown hK hP k_1 hk_1 rfl 1 (by decide) (hts _ kw_1478) (fun _ h9 => h9) rfl dX8_set_21 ?_
      refine lv_iload_n hx hb dX8_set_24 rfl (lv_at hl 1 rfl) ?_
      refine lv_lload_n hx hb dX8_set_25 rfl (lv_at hl 3 rfl) ?_
      obtain ⟨k_10, f_10, hk_10⟩ := gJ_of a_r1_1
      have hfS := hk_10
      have hkS := hk_1
      have hDS := hD
      have hUS := hG.u
      have hC9 : hol ws_6 r1_1 [(7, 1)] := (hol_u hG.u hk_1 (j := 1) rfl a_r1_1 (by decide))
      have hS9 : holS ws_6 r1_1 (some h0) := holS_u hG.u hk_1 (j := 1) rfl a_r1_1
      refine va_last hx hb hK hP hD hS k_10 3 hk_10 rfl (i_in2 (by have e0 : (0 : Int32).toInt = 0 := (by decide); have q_f3_1 := f3_1; have q_f17_1 := f17_1; have q_fq_k := fq_k; have q_c_2 := i_nlt c_2; have q_c_5 := i_nle c_5; have q_f1_1 := f1_1; have q_f18_1 := f18_1; have q_f20_1 := f20_1; have q_z_4 := i_len ez_4 f1_1; have g_c2_1 := i_rg c2_1; have g_x1 := i_rg x1; have g_z_4 := i_rg z_4; omega)) dX8_set_26 (fun H locs hP hD hS => ?_)
      obtain ⟨ws_11, e_ws_11⟩ : ∃ z, z = ws_6.set k_10 (r1_1, .inl (g.cL, n1_1, .inr (.inl (vp_updL f_10 (x1 : Int32).toNatClampNeg y3)))) := ⟨_, rfl⟩
      have hP : va_P (gD g) cl0 ws_11 H := by rw [e_ws_11]; exact hP
      have hD : va_D A ws_11 := by rw [e_ws_11]; exact hD
      have E_12 : gE ws_6 ws_11 := gE_arj e_ws_11 hk_10
      have hG : Good g ws_11 := Good_arj e_ws_11 hk_10 hG
      have Fr_13 : gF [] [(7, 1)] (some h0) ws_6 ws_11 := gF_ar e_ws_11 hk_10 rfl hC9 hS9
      have hk_1 := gset_arO e_ws_11 hk_10 hk_1
      have o_h0 := E_12.1 _ _ o_h0
      have a_r0_1 := E_12.1 _ _ a_r0_1
      have a_r1_1 := E_12.1 _ _ a_r1_1
      have a_r3_1 := E_12.1 _ _ a_r3_1
      have a_r5_1 := E_12.1 _ _ a_r5_1
      have a_r6_1 := E_12.1 _ _ a_r6_1
      have a_r7_1 := E_12.1 _ _ a_r7_1
      have a_r8_1 := E_12.1 _ _ a_r8_1
      have o_v12_1 : ∀ b, v12_1 = some b → ∃ n, gI ws_11 b g.cB n ∧ n < 2147483648 := fun b h => (o_v12_1 b h).imp (fun n h => ⟨E_12.1 _ _ h.1, h.2⟩)
      have o_v13_1 : ∀ b, v13_1 = some b → ∃ n, gJ ws_11 b g.cL n ∧ n < 2147483648 := fun b h => (o_v13_1 b h).imp (fun n h => ⟨E_12.1 _ _ h.1, h.2⟩)
      have o_v14_1 : ∀ b, v14_1 = some b → ∃ n, gJ ws_11 b g.cL n ∧ n < 2147483648 := fun b h => (o_v14_1 b h).imp (fun n h => ⟨E_12.1 _ _ h.1, h.2⟩)
      have tq_14 : rowC ws_11 h0 (stO P9 x1 x2 y3) := rowC_a e_ws_11 hDS hUS hkS rfl hfS tq_9 (fun _ fa _ _ _ w => (by obtain ⟨fo0, w1, w2⟩ := w; exact ⟨fo0, fa, w1, w2, rfl⟩))
      refine W.widen (k := 0) (n := 0) (Nat.le_of_ble_eq_true rfl) (Nat.le_of_ble_eq_true rfl) ?_
      exact W.vret hx hb hr (fun t9 ht9 hW9 => ⟨⟨ws_11, rfl, ⟨trivial, tq_14⟩, ⟨(E_7.tr E_12), (gF.tr (gF.mo (F' := []) (C' := [(7, 0), (7, 1)]) (S' := (some h0)) Fr_8 (fun _ h => h) (by decide) (Or.inr rfl)) (gF.mo (F' := []) (C' := [(7, 0), (7, 1)]) (S' := (some h0)) Fr_13 (fun _ h => h) (by decide) (Or.inr rfl))), hG, by rw [ht9]; exact hP, hD⟩⟩, hS.F ht9⟩) hS.2.2 dX8_set_27
set_option maxHeartbeats 1000000 in
set_option maxRecDepth 100000 in
theorem m_X8_add_y (l : Launch) (g : Gm) (sz : Nat) (ws : va_W) (h0 : Nat) (x1 : Int32) (y2 : Int64) (q1 : Int32) (P9 : (Nat → Int32) → (Nat → Int64) → (Nat → Int32) → Int → Int → Prop) (hG : Good g ws) (o_h0 : gC ws h0 7) (fp_gq1 : gP ws h0 (fun fs => ∀ c : Int32, fs[2]? = some (.int c) → c.toInt = q1.toInt)) (tk0 : rowC ws h0 P9) : Met l yX8_add (wt yX8_add cX8_add 4 none) ({ frames := 1, cells := 0, slots := 0, locals := 24 }) (va_Pc [.ref h0, .int x1, .long y2] (st_G g sz ws)) (va_Qv (fun (u9 : va_W) => (gP u9 h0 (fun fs => ∀ c : Int32, fs[2]? = some (.int c) → ∀ (rn n : Nat), fs[0]? = some (.ref rn) → gI u9 rn g.cI n → c.toInt = q1.toInt + 1 ∨ (c.toInt = q1.toInt ∧ n ≤ c.toInt))) ∧ (rowC u9 h0 (adO P9 x1 y2))) (gQ1 g [(7, 2)] [(7, 0), (7, 1)] (some h0) (va_A ws sz) ws) (va_A ws sz)) (0) (0) (va_A ws sz) := by
  refine Met.ofW (cc := cX8_add) (maxL := 4) (ret := none) (by decide) rfl ?_
  intro p e s m args below meth c s₁ B hml hv
  obtain ⟨rfl, hsz, hP, hK, hD0, hex, hE⟩ := hv
  have hx := B.exec
  have hb := B.bytes
  have hr := B.returns
  have hts0 := atoms_spec (ws := wt yX8_add cX8_add 4 none) B.pre
  have hts : ∀ w ∈ tb, w.before _ s = true := fun w h => hts0 w (List.mem_cons_of_mem _ h)
  have hown : s.vm.findClass RX8 = some m.cls := findClass_of_methodNamed B.named
  subst hsz
  have hD := hD0.self (sz := s.heap.size)
  generalize hAe : va_A ws s.heap.size = A at hD hE ⊢
  have hA : ∀ q : Nat, s.heap.size ≤ q → A q := fun q h => by rw [← hAe]; exact Or.inr h
  have hS : va_S A s.heap s.heap [] := va_S.rf
  have hl := lv_entry ([.ref h0, .int x1, .long y2]) (n := 4) (Nat.le_of_ble_eq_true rfl)
  rw [lg_entry_eq]
  generalize (lg_sl ([.ref h0, .int x1, .long y2]) ++ List.replicate (4 - (lg_sl ([.ref h0, .int x1, .long y2])).length) Slot.unset).toArray = ls at hl ⊢
  have hl : lv_has ls 4 [(0, .ref h0), (1, .int x1), (2, .long y2)] := hl
  obtain ⟨k_1, fs9, hk_1⟩ := gC_of o_h0
  obtain ⟨r0_1, n0_1, r1_1, n1_1, c2_1, r3_1, n3_1, c4_1, r5_1, n5_1, r6_1, n6_1, r7_1, n7_1, r8_1, n8_1, c9_1, c10_1, c11_1, v12_1, v13_1, v14_1, rfl, a_r0_1, f1_1, a_r1_1, f3_1, a_r3_1, f5_1, a_r5_1, f7_1, a_r6_1, f9_1, a_r7_1, f11_1, a_r8_1, f13_1, o_v12_1, o_v13_1, o_v14_1, f17_1, f18_1, f19_1, f20_1, f21_1, f22_1, f23_1, f24_1, f25_1, f26_1, f27_1, f28_1, f29_1, -⟩ := (hG.1 _ _ _ _ hk_1).hX8 rfl
  have fq_gq1 := fp_gq1 _ _ _ hk_1 _ rfl
  refine lv_aload_n hx hb dX8_add_0 rfl (lv_at hl 0 rfl) ?_
  refine va_get (D := gD g) (ci := 7) (v := .int c2_1) (C := RX8) (T := TX8) (N := 15) hx hb hts inX8 hown hK hP k_1 hk_1 rfl 2 (by decide) (hts _ kw_1459) (fun _ h9 => h9) rfl dX8_add_1 ?_
  refine lv_aload_n hx hb dX8_add_4 rfl (lv_at hl 0 rfl) ?_
  refine va_get (D := gD g) (ci := 7) (v := .ref r0_1) (C := RX8) (T := TX8) (N := 15) hx hb hts inX8 hown hK hP k_1 hk_1 rfl 0 (by decide) (hts _ kw_1460) (fun _ h9 => h9) rfl dX8_add_5 ?_
  obtain ⟨k_2, f_2, hk_2⟩ := gI_of a_r0_1
  obtain ⟨z_3, ez_3⟩ : ∃ z : Int32, Int32.ofNat n0_1 = z := ⟨_, rfl⟩
  refine va_alen (v := z_3) hx hb hK hP k_2 1 hk_2 rfl ez_3 dX8_add_8 ?_
  refine lv_icmp_ge (tgt := 32) hx hb dX8_add_9 (by decide) (fun c_4 => ?_) (fun c_4 => ?_)
  · have tq_5 : rowC ws h0 (adO P9 x1 y2) := rowC_im tk0 (fun _ _ _ _ _ w => Or.inl w)
    refine W.widen (k := 0) (n := 0) (Nat.le_of_ble_eq_true rfl) (Nat.le_of_ble_eq_true rfl) ?_
    exact W.vret hx hb hr (fun t9 ht9 hW9 => ⟨⟨ws, rfl, ⟨(gP_of hD hk_1 (fun q90 e90 p91 q91 e91 g91 => by cases e90; cases e91; have z91 := gI_n hD a_r0_1 g91; subst z91; exact (by have q_f1_1 := f1_1; have q_f17_1 := f17_1; have q_f18_1 := f18_1; have q_f19_1 := f19_1; have q_f20_1 := f20_1; have q_fq_gq1 := fq_gq1; have q_z_3 := i_len ez_3 f1_1; have q_c_4 := i_le c_4; have q_f3_1 := f3_1; have g_c2_1 := i_rg c2_1; have g_q1 := i_rg q1; have g_z_3 := i_rg z_3; omega))), tq_5⟩, ⟨gE.rf, gF.rf, hG, by rw [ht9]; exact hP, hD⟩⟩, hS.F ht9⟩) hS.2.2 dX8_add_32
  · refine lv_aload_n hx hb dX8_add_12 rfl (lv_at hl 0 rfl) ?_
    refine lv_aload_n hx hb dX8_add_13 rfl (lv_at hl 0 rfl) ?_
    refine va_get (D := gD g) (ci := 7) (v := .int c2_1) (C := RX8) (T := TX8) (N := 15) hx hb hts inX8 hown hK hP k_1 hk_1 rfl 2 (by decide) (hts _ kw_1459) (fun _ h9 => h9) rfl dX8_add_14 ?_
    refine lv_iload_n hx hb dX8_add_17 rfl (lv_at hl 1 rfl) ?_
    refine lv_lload_n hx hb dX8_add_18 rfl (lv_at hl 2 rfl) ?_
    have hFc := gfree hD hS hA
    refine va_callv (va_runV (As := [.int c2_1, .int x1, .long y2]) (rest := []) ⟨hx, hb, hml, hown, hts⟩ (m_X8_set_y l g s.heap.size ws h0 (c2_1) (x1) (y2) P9 hG o_h0 (gP_of hD hk_1 (fun p90 q90 e90 g90 => by cases e90; have z90 := gI_n hD a_r0_1 g90; subst z90; exact (by have q_f1_1 := f1_1; have q_f17_1 := f17_1; have q_f18_1 := f18_1; have q_f19_1 := f19_1; have q_f20_1 := f20_1; have q_fq_gq1 := fq_gq1; have q_z_3 := i_len ez_3 f1_1; have q_c_4 := i_nle c_4; have q_f3_1 := f3_1; have g_c2_1 := i_rg c2_1; have g_q1 := i_rg q1; have g_z_3 := i_rg z_3; omega))) tk0) (cwV 3 hts (gd_V kw_1461 kw_1523 kw_1524 kw_782 kw_1522) rfl rfl rfl (by decide +kernel) ⟨Nat.le_of_ble_eq_true rfl, Nat.le_of_ble_eq_true rfl⟩) ⟨gblind, va_recv hK hP (ci := 7) (q0 := k_1) rfl hk_1, fun U hU hW9 => gmk hU hW9 hP hK hD hex hE hS hFc⟩ rfl rfl hl.1 rfl (lv_room (Nat.le_of_ble_eq_true rfl)) dX8_add_19 ⟨Nat.le_of_ble_eq_true rfl, Nat.le_of_ble_eq_true rfl⟩) hS (fun q _ h => hFc q h) hFc (fun  ws_6 t9 H1 locs ht9 hvm9 hw9 hB9 hz9 hk9 hS => ?_)
    obtain ⟨E_7, Fr_8, hG, hP1, hD1⟩ := hB9
    have hP : va_P (gD g) cl0 ws_6 H1 := by rw [← ht9]; exact hP1
    have hD : va_D A ws_6 := hD1.weaken (fun _ _ _ h => hFc _ h)
    obtain ⟨hw9, xp_11⟩ := hw9
    clear hP1 hD1 hz9 hk9 hvm9 ht9 hw9
    generalize H1 = H at hP hS ⊢
    have aa_12 := a_r0_1
    have aa_13 := a_r1_1
    have aa_14 := a_r3_1
    have aa_15 := a_r5_1
    have aa_16 := a_r6_1
    have aa_17 := a_r7_1
    have aa_18 := a_r8_1
    have o_h0 := E_7.1 _ _ o_h0
    refine lv_aload_n hx hb dX8_add_22 rfl (lv_at hl 0 rfl) ?_
    refine lv_dup hx hb dX8_add_23 rfl ?_
    obtain ⟨fs9, hk_19, hq_19⟩ := ((gF.a (F' := []) Fr_8 (fun _ h => h))) _ _ _ hk_1
    obtain ⟨r0_19, n0_19, r1_19, n1_19, c2_19, r3_19, n3_19, c4_19, r5_19, n5_19, r6_19, n6_19, r7_19, n7_19, r8_19, n8_19, c9_19, c10_19, c11_19, v12_19, v13_19, v14_19, rfl, a_r0_19, f1_19, a_r1_19, f3_19, a_r3_19, f5_19, a_r5_19, f7_19, a_r6_19, f9_19, a_r7_19, f11_19, a_r8_19, f13_19, o_v12_19, o_v13_19, o_v14_19, f17_19, f18_19, f19_19, f20_19, f21_19, f22_19, f23_19, f24_19, f25_19, f26_19, f27_19, f28_19, f29_19, -⟩ := (hG.1 _ _ _ _ hk_19).hX8 rfl
    obtain rfl := fe_r (hq_19 0 (by decide))
    have hn9 := gI_n hD ((E_7).1 _ _ aa_12) a_r0_19
    subst hn9
    have a_r0_1 := a_r0_19
    obtain rfl := fe_i (hq_19 2 (by decide))
    refine va_get (D := gD g) (ci := 7) (v := .int c2_1) (C := RX8) (T := TX8) (N := 15) hx hb hts inX8 hown hK hP k_1 hk_19 rfl 2 (by decide) (hts _ kw_1459) (fun _ h9 => h9) rfl dX8_add_24 ?_
    refine lv_iconst (v := 1) hx hb dX8_add_27 (by decide) ?_
    refine lv_iadd hx hb dX8_add_28 ?_
    refine lv_topi (fun z_20 ez_20 => ?_)
    have hkS := hk_19
    have hDS := hD
    have hUS := hG.u
    have hV9 : okv ws_6 7 2 (.int z_20) := okv_i
    refine va_put (D := gD g) (ci := 7) (v := .int z_20) (ty := .int) (C := RX8) (T := TX8) (N := 15) hx hb hts inX8 tyX8 tyX8_ok nmX8 hown hK hP hD hS k_1 hk_19 rfl 2 (by decide) (hts _ kw_1459) (fun _ h9 => h9) rfl (by decide +kernel) rfl rfl (Nat.le_of_ble_eq_true rfl) dX8_add_29 (fun H locs hP hD hS => ?_)
    have f_21 : 0 ≤ z_20.toInt := (by have e1 : (1 : Int32).toInt = 1 := (by decide); obtain ⟨u_z_20, q_z_20⟩ := i_add ez_20; have q_f19_1 := f19_1; have q_f20_1 := f20_1; have q_fq_gq1 := fq_gq1; have q_c_4 := i_nle c_4; have q_f1_1 := f1_1; have q_f17_1 := f17_1; have q_f18_1 := f18_1; have q_z_3 := i_len ez_3 f1_1; have q_f17_19 := f17_19; have g_c2_1 := i_rg c2_1; have g_q1 := i_rg q1; have g_z_20 := i_rg z_20; have g_z_3 := i_rg z_3; omega)
    have f_22 : z_20.toInt ≤ n0_1 := (by have e1 : (1 : Int32).toInt = 1 := (by decide); have q_f1_1 := f1_1; have q_f17_1 := f17_1; have q_f18_1 := f18_1; have q_f20_1 := f20_1; have q_z_3 := i_len ez_3 f1_1; have q_f17_19 := f17_19; obtain ⟨u_z_20, q_z_20⟩ := i_add ez_20; have q_f_21 := f_21; have q_f3_1 := f3_1; have q_f19_1 := f19_1; have q_fq_gq1 := fq_gq1; have q_c_4 := i_nle c_4; have q_f3_19 := f3_19; have g_c2_1 := i_rg c2_1; have g_q1 := i_rg q1; have g_z_20 := i_rg z_20; have g_z_3 := i_rg z_3; omega)
    have hi_23 : invX8 g ws_6 h0 [.ref r0_1, .ref r1_19, .int z_20, .ref r3_19, .int c4_19, .ref r5_19, .ref r6_19, .ref r7_19, .ref r8_19, .int c9_19, .int c10_19, .int c11_19, va_rf v12_19, va_rf v13_19, va_rf v14_19] := ⟨r0_1, (n0_1), r1_19, (n1_19), (z_20), r3_19, (n3_19), (c4_19), r5_19, (n5_19), r6_19, (n6_19), r7_19, (n7_19), r8_19, (n8_19), (c9_19), (c10_19), (c11_19), v12_19, v13_19, v14_19, rfl, a_r0_1, f1_19, a_r1_19, f3_19, a_r3_19, f5_19, a_r5_19, f7_19, a_r6_19, f9_19, a_r7_19, f11_19, a_r8_19, f13_19, o_v12_19, o_v13_19, o_v14_19, f17_19, f18_19, f_21, f_22, f21_19, f22_19, f23_19, f24_19, f25_19, f26_19, f27_19, f28_19, f29_19, trivial⟩
    obtain ⟨ws_24, e_ws_24⟩ : ∃ z, z = ws_6.set k_1 (h0, .inr (7, [.ref r0_1, .ref r1_19, .int z_20, .ref r3_19, .int c4_19, .ref r5_19, .ref r6_19, .ref r7_19, .ref r8_19, .int c9_19, .int c10_19, .int c11_19, va_rf v12_19, va_rf v13_19, va_rf v14_19])) := ⟨_, rfl⟩
    have hP : va_P (gD g) cl0 ws_24 H := by rw [e_ws_24]; exact hP
    have hD : va_D A ws_24 := by rw [e_ws_24]; exact hD
    have E_25 : gE ws_6 ws_24 := gE_set e_ws_24 hk_19 (cw_o (fi := 2) (v := .int z_20) rfl (by decide))
    have hG : Good g ws_24 := Good_set (fi := 2) (v := .int z_20) e_ws_24 hk_19 E_25 rfl hV9 hG (ivX8 hi_23)
    have Fr_26 : gF [(7, 2)] [] (some h0) ws_6 ws_24 := gF_put (fi := 2) (v := .int z_20) e_ws_24 hk_19 rfl (by decide)
    have hkN := gset_self e_ws_24 hk_19
    have hk_19 := hkN
    have o_h0 := E_25.1 _ _ o_h0
    have a_r1_19 := E_25.1 _ _ a_r1_19
    have a_r3_19 := E_25.1 _ _ a_r3_19
    have a_r5_19 := E_25.1 _ _ a_r5_19
    have a_r6_19 := E_25.1 _ _ a_r6_19
    have a_r7_19 := E_25.1 _ _ a_r7_19
    have a_r8_19 := E_25.1 _ _ a_r8_19
    have o_v12_19 : ∀ b, v12_19 = some b → ∃ n, gI ws_24 b g.cB n ∧ n < 2147483648 := fun b h => (o_v12_19 b h).imp (fun n h => ⟨E_25.1 _ _ h.1, h.2⟩)
    have o_v13_19 : ∀ b, v13_19 = some b → ∃ n, gJ ws_24 b g.cL n ∧ n < 2147483648 := fun b h => (o_v13_19 b h).imp (fun n h => ⟨E_25.1 _ _ h.1, h.2⟩)
    have o_v14_19 : ∀ b, v14_19 = some b → ∃ n, gJ ws_24 b g.cL n ∧ n < 2147483648 := fun b h => (o_v14_19 b h).imp (fun n h => ⟨E_25.1 _ _ h.1, h.2⟩)
    have a_r0_1 := E_25.1 _ _ a_r0_1
    have tq_27 : rowC ws_24 h0 (adO P9 x1 y2) := rowC_n e_ws_24 hDS hkS rfl (c0 := c2_1) rfl xp_11 (fun fo fa ft tc w => (by obtain ⟨fo0, fa0, w1, w2, w3⟩ := w; exact Or.inr ⟨fo0, fa0, c2_1, w1, (by have e1 : (1 : Int32).toInt = 1 := (by decide); have q_f19_1 := f19_1; have q_f20_1 := f20_1; have q_fq_gq1 := fq_gq1; have q_c_4 := i_nle c_4; obtain ⟨u_z_20, q_z_20⟩ := i_add ez_20; have q_f1_1 := f1_1; have q_f17_1 := f17_1; have q_f18_1 := f18_1; have q_z_3 := i_len ez_3 f1_1; have q_f17_19 := f17_19; have q_f_21 := f_21; have q_f_22 := f_22; have q_f3_1 := f3_1; have q_f3_19 := f3_19; have g_c2_1 := i_rg c2_1; have g_q1 := i_rg q1; have g_z_20 := i_rg z_20; have g_z_3 := i_rg z_3; omega), (by have e1 : (1 : Int32).toInt = 1 := (by decide); have q_f19_1 := f19_1; have q_f20_1 := f20_1; have q_fq_gq1 := fq_gq1; have q_c_4 := i_nle c_4; obtain ⟨u_z_20, q_z_20⟩ := i_add ez_20; have q_f_21 := f_21; have q_f_22 := f_22; have q_f1_1 := f1_1; have q_f17_1 := f17_1; have q_f18_1 := f18_1; have q_z_3 := i_len ez_3 f1_1; have q_f17_19 := f17_19; have q_f3_1 := f3_1; have q_f3_19 := f3_19; have g_c2_1 := i_rg c2_1; have g_q1 := i_rg q1; have g_z_20 := i_rg z_20; have g_z_3 := i_rg z_3; omega), w2, w3⟩))
    refine W.widen (k := 0) (n := 0) (Nat.le_of_ble_eq_true rfl) (Nat.le_of_ble_eq_true rfl) ?_
    exact W.vret hx hb hr (fun t9 ht9 hW9 => ⟨⟨ws_24, rfl, ⟨(gP_of hD hk_19 (fun q90 e90 p91 q91 e91 g91 => by cases e90; cases e91; have z91 := gI_n hD a_r0_1 g91; subst z91; exact (by have e1 : (1 : Int32).toInt = 1 := (by decide); have q_f1_1 := f1_1; have q_f17_1 := f17_1; have q_f18_1 := f18_1; have q_f20_1 := f20_1; have q_fq_gq1 := fq_gq1; have q_z_3 := i_len ez_3 f1_1; have q_f17_19 := f17_19; obtain ⟨u_z_20, q_z_20⟩ := i_add ez_20; have q_f_21 := f_21; have q_f_22 := f_22; have q_f3_1 := f3_1; have q_f19_1 := f19_1; have q_c_4 := i_nle c_4; have q_f3_19 := f3_19; have g_c2_1 := i_rg c2_1; have g_q1 := i_rg q1; have g_z_20 := i_rg z_20; have g_z_3 := i_rg z_3; omega))), tq_27⟩, ⟨(E_7.tr E_25), (gF.tr (gF.mo (F' := [(7, 2)]) (C' := [(7, 0), (7, 1)]) (S' := (some h0)) Fr_8 (fun _ h => absurd h List.not_mem_nil) (fun _ h => h) (Or.inr rfl)) (gF.mo (F' := [(7, 2)]) (C' := [(7, 0), (7, 1)]) (S' := (some h0)) Fr_26 (fun _ h => h) (fun _ h => absurd h List.not_mem_nil) (Or.inr rfl))), hG, by rw [ht9]; exact hP, hD⟩⟩, hS.F ht9⟩) hS.2.2 dX8_add_32
set_option maxHeartbeats 1000000 in
set_option maxRecDepth 100000 in
theorem m_X8_addToTable_y (l : Launch) (g : Gm) (sz : Nat) (ws : va_W) (h0 : Nat) (x1 : Int32) (q4 : Int32) (P9 : (Nat → Int32) → (Nat → Int64) → (Nat → Int32) → Int → Int → Prop) (hG : Good g ws) (o_h0 : gC ws h0 7) (fp_gq4 : gP ws h0 (fun fs => ∀ c : Int32, fs[4]? = some (.int c) → c.toInt = q4.toInt)) (tk0 : rowC ws h0 P9) : Met l yX8_addToTable (wt yX8_addToTable cX8_addToTable 2 none) ({ frames := 0, cells := 0, slots := 0, locals := 0 }) (va_Pc [.ref h0, .int x1] (st_G g sz ws)) (va_Qv (fun (u9 : va_W) => (gP u9 h0 (fun fs => ∀ c : Int32, fs[4]? = some (.int c) → ∀ (rn n : Nat), fs[3]? = some (.ref rn) → gI u9 rn g.cI n → c.toInt = q4.toInt + 1 ∨ (c.toInt = q4.toInt ∧ n ≤ c.toInt))) ∧ (rowC u9 h0 (atO P9 x1))) (gQ1 g [(7, 4)] [(7, 3)] (some h0) (va_A ws sz) ws) (va_A ws sz)) (0) (0) (va_A ws sz) := by
  refine Met.ofW (cc := cX8_addToTable) (maxL := 2) (ret := none) (by decide) rfl ?_
  intro p e s m args below meth c s₁ B hml hv
  obtain ⟨rfl, hsz, hP, hK, hD0, hex, hE⟩ := hv
  have hx := B.exec
  have hb := B.bytes
  have hr := B.returns
  have hts0 := atoms_spec (ws := wt yX8_addToTable cX8_addToTable 2 none) B.pre
  have hts : ∀ w ∈ tb, w.before _ s = true := fun w h => hts0 w (List.mem_cons_of_mem _ h)
  have hown : s.vm.findClass RX8 = some m.cls := findClass_of_methodNamed B.named
  subst hsz
  have hD := hD0.self (sz := s.heap.size)
  generalize hAe : va_A ws s.heap.size = A at hD hE ⊢
  have hA : ∀ q : Nat, s.heap.size ≤ q → A q := fun q h => by rw [← hAe]; exact Or.inr h
  have hS : va_S A s.heap s.heap [] := va_S.rf
  have hl := lv_entry ([.ref h0, .int x1]) (n := 2) (Nat.le_of_ble_eq_true rfl)
  rw [lg_entry_eq]
  generalize (lg_sl ([.ref h0, .int x1]) ++ List.replicate (2 - (lg_sl ([.ref h0, .int x1])).length) Slot.unset).toArray = ls at hl ⊢
  have hl : lv_has ls 2 [(0, .ref h0), (1, .int x1)] := hl
  obtain ⟨k_1, fs9, hk_1⟩ := gC_of o_h0
  obtain ⟨r0_1, n0_1, r1_1, n1_1, c2_1, r3_1, n3_1, c4_1, r5_1, n5_1, r6_1, n6_1, r7_1, n7_1, r8_1, n8_1, c9_1, c10_1, c11_1, v12_1, v13_1, v14_1, rfl, a_r0_1, f1_1, a_r1_1, f3_1, a_r3_1, f5_1, a_r5_1, f7_1, a_r6_1, f9_1, a_r7_1, f11_1, a_r8_1, f13_1, o_v12_1, o_v13_1, o_v14_1, f17_1, f18_1, f19_1, f20_1, f21_1, f22_1, f23_1, f24_1, f25_1, f26_1, f27_1, f28_1, f29_1, -⟩ := (hG.1 _ _ _ _ hk_1).hX8 rfl
  have fq_gq4 := fp_gq4 _ _ _ hk_1 _ rfl
  refine lv_aload_n hx hb dX8_addToTable_0 rfl (lv_at hl 0 rfl) ?_
  refine va_get (D := gD g) (ci := 7) (v := .int c4_1) (C := RX8) (T := TX8) (N := 15) hx hb hts inX8 hown hK hP k_1 hk_1 rfl 4 (by decide) (hts _ kw_1473) (fun _ h9 => h9) rfl dX8_addToTable_1 ?_
  refine lv_aload_n hx hb dX8_addToTable_4 rfl (lv_at hl 0 rfl) ?_
  refine va_get (D := gD g) (ci := 7) (v := .ref r3_1) (C := RX8) (T := TX8) (N := 15) hx hb hts inX8 hown hK hP k_1 hk_1 rfl 3 (by decide) (hts _ kw_1474) (fun _ h9 => h9) rfl dX8_addToTable_5 ?_
  obtain ⟨k_2, f_2, hk_2⟩ := gI_of a_r3_1
  obtain ⟨z_3, ez_3⟩ : ∃ z : Int32, Int32.ofNat n3_1 = z := ⟨_, rfl⟩
  refine va_alen (v := z_3) hx hb hK hP k_2 1 hk_2 rfl ez_3 dX8_addToTable_8 ?_
  refine lv_icmp_ge (tgt := 32) hx hb dX8_addToTable_9 (by decide) (fun c_4 => ?_) (fun c_4 => ?_)
  · have tq_5 : rowC ws h0 (atO P9 x1) := rowC_im tk0 (fun _ _ _ _ _ w => Or.inl w)
    refine W.widen (k := 0) (n := 0) (Nat.le_of_ble_eq_true rfl) (Nat.le_of_ble_eq_true rfl) ?_
    exact W.vret hx hb hr (fun t9 ht9 hW9 => ⟨⟨ws, rfl, ⟨(gP_of hD hk_1 (fun q90 e90 p91 q91 e91 g91 => by cases e90; cases e91; have z91 := gI_n hD a_r3_1 g91; subst z91; exact (by have q_f5_1 := f5_1; have q_f21_1 := f21_1; have q_f22_1 := f22_1; have q_f28_1 := f28_1; have q_fq_gq4 := fq_gq4; have q_z_3 := i_len ez_3 f5_1; have q_c_4 := i_le c_4; have g_c4_1 := i_rg c4_1; have g_q4 := i_rg q4; have g_z_3 := i_rg z_3; omega))), tq_5⟩, ⟨gE.rf, gF.rf, hG, by rw [ht9]; exact hP, hD⟩⟩, hS.F ht9⟩) hS.2.2 dX8_addToTable_32
  · refine lv_aload_n hx hb dX8_addToTable_12 rfl (lv_at hl 0 rfl) ?_
    refine va_get (D := gD g) (ci := 7) (v := .ref r3_1) (C := RX8) (T := TX8) (N := 15) hx hb hts inX8 hown hK hP k_1 hk_1 rfl 3 (by decide) (hts _ kw_1474) (fun _ h9 => h9) rfl dX8_addToTable_13 ?_
    refine lv_aload_n hx hb dX8_addToTable_16 rfl (lv_at hl 0 rfl) ?_
    refine va_get (D := gD g) (ci := 7) (v := .int c4_1) (C := RX8) (T := TX8) (N := 15) hx hb hts inX8 hown hK hP k_1 hk_1 rfl 4 (by decide) (hts _ kw_1473) (fun _ h9 => h9) rfl dX8_addToTable_17 ?_
    refine lv_iload_n hx hb dX8_addToTable_20 rfl (lv_at hl 1 rfl) ?_
    have hfS := hk_2
    have hkS := hk_1
    have hDS := hD
    have hUS := hG.u
    have hC9 : hol ws r3_1 [(7, 3)] := (hol_u hG.u hk_1 (j := 3) rfl a_r3_1 (by decide))
    have hS9 : holS ws r3_1 (some h0) := holS_u hG.u hk_1 (j := 3) rfl a_r3_1
    refine va_iast hx hb hK hP hD hS k_2 1 hk_2 rfl (i_in2 (by have q_f5_1 := f5_1; have q_f21_1 := f21_1; have q_f22_1 := f22_1; have q_f28_1 := f28_1; have q_fq_gq4 := fq_gq4; have q_z_3 := i_len ez_3 f5_1; have q_c_4 := i_nle c_4; have g_c4_1 := i_rg c4_1; have g_q4 := i_rg q4; have g_z_3 := i_rg z_3; omega)) dX8_addToTable_21 (fun H locs hP hD hS => ?_)
    obtain ⟨ws_6, e_ws_6⟩ : ∃ z, z = ws.set k_2 (r3_1, .inl (g.cI, n3_1, .inl (upd f_2 (c4_1 : Int32).toNatClampNeg x1))) := ⟨_, rfl⟩
    have hP : va_P (gD g) cl0 ws_6 H := by rw [e_ws_6]; exact hP
    have hD : va_D A ws_6 := by rw [e_ws_6]; exact hD
    have E_7 : gE ws ws_6 := gE_ari e_ws_6 hk_2
    have hG : Good g ws_6 := Good_arI e_ws_6 hk_2 hG
    have Fr_8 : gF [] [(7, 3)] (some h0) ws ws_6 := gF_ar e_ws_6 hk_2 rfl hC9 hS9
    have hk_1 := gset_arO e_ws_6 hk_2 hk_1
    have o_h0 := E_7.1 _ _ o_h0
    have a_r0_1 := E_7.1 _ _ a_r0_1
    have a_r1_1 := E_7.1 _ _ a_r1_1
    have a_r3_1 := E_7.1 _ _ a_r3_1
    have a_r5_1 := E_7.1 _ _ a_r5_1
    have a_r6_1 := E_7.1 _ _ a_r6_1
    have a_r7_1 := E_7.1 _ _ a_r7_1
    have a_r8_1 := E_7.1 _ _ a_r8_1
    have o_v12_1 : ∀ b, v12_1 = some b → ∃ n, gI ws_6 b g.cB n ∧ n < 2147483648 := fun b h => (o_v12_1 b h).imp (fun n h => ⟨E_7.1 _ _ h.1, h.2⟩)
    have o_v13_1 : ∀ b, v13_1 = some b → ∃ n, gJ ws_6 b g.cL n ∧ n < 2147483648 := fun b h => (o_v13_1 b h).imp (fun n h => ⟨E_7.1 _ _ h.1, h.2⟩)
    have o_v14_1 : ∀ b, v14_1 = some b → ∃ n, gJ ws_6 b g.cL n ∧ n < 2147483648 := fun b h => (o_v14_1 b h).imp (fun n h => ⟨E_7.1 _ _ h.1, h.2⟩)
    have tq_9 : rowC ws_6 h0 (atS P9 c4_1 x1) := rowC_t e_ws_6 hDS hUS hkS rfl hfS tk0 (fun _ _ ft _ _ w => ⟨ft, w, rfl⟩)
    refine lv_aload_n hx hb dX8_addToTable_22 rfl (lv_at hl 0 rfl) ?_
    refine lv_dup hx hb dX8_addToTable_23 rfl ?_
    refine va_get (D := gD g) (ci := 7) (v := .int c4_1) (C := RX8) (T := TX8) (N := 15) hx hb hts inX8 hown hK hP k_1 hk_1 rfl 4 (by decide) (hts _ kw_1473) (fun _ h9 => h9) rfl dX8_addToTable_24 ?_
    refine lv_iconst (v := 1) hx hb dX8_addToTable_27 (by decide) ?_
    refine lv_iadd hx hb dX8_addToTable_28 ?_
    refine lv_topi (fun z_10 ez_10 => ?_)
    have hkS := hk_1
    have hDS := hD
    have hUS := hG.u
    have hV9 : okv ws_6 7 4 (.int z_10) := okv_i
    refine va_put (D := gD g) (ci := 7) (v := .int z_10) (ty := .int) (C := RX8) (T := TX8) (N := 15) hx hb hts inX8 tyX8 tyX8_ok nmX8 hown hK hP hD hS k_1 hk_1 rfl 4 (by decide) (hts _ kw_1473) (fun _ h9 => h9) rfl (by decide +kernel) rfl rfl (Nat.le_of_ble_eq_true rfl) dX8_addToTable_29 (fun H locs hP hD hS => ?_)
    have f_11 : 0 ≤ z_10.toInt := (by have e1 : (1 : Int32).toInt = 1 := (by decide); obtain ⟨u_z_10, q_z_10⟩ := i_add ez_10; have q_f21_1 := f21_1; have q_f22_1 := f22_1; have q_fq_gq4 := fq_gq4; have q_c_4 := i_nle c_4; have q_f5_1 := f5_1; have q_f28_1 := f28_1; have q_z_3 := i_len ez_3 f5_1; have g_c4_1 := i_rg c4_1; have g_q4 := i_rg q4; have g_z_10 := i_rg z_10; have g_z_3 := i_rg z_3; omega)
    have f_12 : z_10.toInt ≤ n3_1 := (by have e1 : (1 : Int32).toInt = 1 := (by decide); have q_f5_1 := f5_1; have q_f22_1 := f22_1; have q_f28_1 := f28_1; have q_z_3 := i_len ez_3 f5_1; obtain ⟨u_z_10, q_z_10⟩ := i_add ez_10; have q_f_11 := f_11; have q_f21_1 := f21_1; have q_fq_gq4 := fq_gq4; have q_c_4 := i_nle c_4; have g_c4_1 := i_rg c4_1; have g_q4 := i_rg q4; have g_z_10 := i_rg z_10; have g_z_3 := i_rg z_3; omega)
    have hi_13 : invX8 g ws_6 h0 [.ref r0_1, .ref r1_1, .int c2_1, .ref r3_1, .int z_10, .ref r5_1, .ref r6_1, .ref r7_1, .ref r8_1, .int c9_1, .int c10_1, .int c11_1, va_rf v12_1, va_rf v13_1, va_rf v14_1] := ⟨r0_1, (n0_1), r1_1, (n1_1), (c2_1), r3_1, (n3_1), (z_10), r5_1, (n5_1), r6_1, (n6_1), r7_1, (n7_1), r8_1, (n8_1), (c9_1), (c10_1), (c11_1), v12_1, v13_1, v14_1, rfl, a_r0_1, f1_1, a_r1_1, f3_1, a_r3_1, f5_1, a_r5_1, f7_1, a_r6_1, f9_1, a_r7_1, f11_1, a_r8_1, f13_1, o_v12_1, o_v13_1, o_v14_1, f17_1, f18_1, f19_1, f20_1, f_11, f_12, f23_1, f24_1, f25_1, f26_1, f27_1, f28_1, f29_1, trivial⟩
    obtain ⟨ws_14, e_ws_14⟩ : ∃ z, z = ws_6.set k_1 (h0, .inr (7, [.ref r0_1, .ref r1_1, .int c2_1, .ref r3_1, .int z_10, .ref r5_1, .ref r6_1, .ref r7_1, .ref r8_1, .int c9_1, .int c10_1, .int c11_1, va_rf v12_1, va_rf v13_1, va_rf v14_1])) := ⟨_, rfl⟩
    have hP : va_P (gD g) cl0 ws_14 H := by rw [e_ws_14]; exact hP
    have hD : va_D A ws_14 := by rw [e_ws_14]; exact hD
    have E_15 : gE ws_6 ws_14 := gE_set e_ws_14 hk_1 (cw_o (fi := 4) (v := .int z_10) rfl (by decide))
    have hG : Good g ws_14 := Good_set (fi := 4) (v := .int z_10) e_ws_14 hk_1 E_15 rfl hV9 hG (ivX8 hi_13)
    have Fr_16 : gF [(7, 4)] [] (some h0) ws_6 ws_14 := gF_put (fi := 4) (v := .int z_10) e_ws_14 hk_1 rfl (by decide)
    have hkN := gset_self e_ws_14 hk_1
    have hk_1 := hkN
    have o_h0 := E_15.1 _ _ o_h0
    have a_r0_1 := E_15.1 _ _ a_r0_1
    have a_r1_1 := E_15.1 _ _ a_r1_1
    have a_r3_1 := E_15.1 _ _ a_r3_1
    have a_r5_1 := E_15.1 _ _ a_r5_1
    have a_r6_1 := E_15.1 _ _ a_r6_1
    have a_r7_1 := E_15.1 _ _ a_r7_1
    have a_r8_1 := E_15.1 _ _ a_r8_1
    have o_v12_1 : ∀ b, v12_1 = some b → ∃ n, gI ws_14 b g.cB n ∧ n < 2147483648 := fun b h => (o_v12_1 b h).imp (fun n h => ⟨E_15.1 _ _ h.1, h.2⟩)
    have o_v13_1 : ∀ b, v13_1 = some b → ∃ n, gJ ws_14 b g.cL n ∧ n < 2147483648 := fun b h => (o_v13_1 b h).imp (fun n h => ⟨E_15.1 _ _ h.1, h.2⟩)
    have o_v14_1 : ∀ b, v14_1 = some b → ∃ n, gJ ws_14 b g.cL n ∧ n < 2147483648 := fun b h => (o_v14_1 b h).imp (fun n h => ⟨E_15.1 _ _ h.1, h.2⟩)
    have tq_17 : rowC ws_14 h0 (atO P9 x1) := rowC_m e_ws_14 hDS hkS rfl (c0 := c4_1) rfl tq_9 (fun fo fa ft cn w => (by obtain ⟨ft0, w1, w2⟩ := w; exact Or.inr ⟨ft0, c4_1, w1, (by have e1 : (1 : Int32).toInt = 1 := (by decide); have q_f21_1 := f21_1; have q_f22_1 := f22_1; have q_fq_gq4 := fq_gq4; have q_c_4 := i_nle c_4; obtain ⟨u_z_10, q_z_10⟩ := i_add ez_10; have q_f5_1 := f5_1; have q_f28_1 := f28_1; have q_z_3 := i_len ez_3 f5_1; have q_f_11 := f_11; have q_f_12 := f_12; have g_c4_1 := i_rg c4_1; have g_q4 := i_rg q4; have g_z_10 := i_rg z_10; have g_z_3 := i_rg z_3; omega), (by have e1 : (1 : Int32).toInt = 1 := (by decide); have q_f21_1 := f21_1; have q_f22_1 := f22_1; have q_fq_gq4 := fq_gq4; have q_c_4 := i_nle c_4; obtain ⟨u_z_10, q_z_10⟩ := i_add ez_10; have q_f_11 := f_11; have q_f_12 := f_12; have q_f5_1 := f5_1; have q_f28_1 := f28_1; have q_z_3 := i_len ez_3 f5_1; have g_c4_1 := i_rg c4_1; have g_q4 := i_rg q4; have g_z_10 := i_rg z_10; have g_z_3 := i_rg z_3; omega), w2⟩))
    refine W.widen (k := 0) (n := 0) (Nat.le_of_ble_eq_true rfl) (Nat.le_of_ble_eq_true rfl) ?_
    exact W.vret hx hb hr (fun t9 ht9 hW9 => ⟨⟨ws_14, rfl, ⟨(gP_of hD hk_1 (fun q90 e90 p91 q91 e91 g91 => by cases e90; cases e91; have z91 := gI_n hD a_r3_1 g91; subst z91; exact (by have e1 : (1 : Int32).toInt = 1 := (by decide); have q_f5_1 := f5_1; have q_f22_1 := f22_1; have q_f28_1 := f28_1; have q_fq_gq4 := fq_gq4; have q_z_3 := i_len ez_3 f5_1; obtain ⟨u_z_10, q_z_10⟩ := i_add ez_10; have q_f_11 := f_11; have q_f_12 := f_12; have q_f21_1 := f21_1; have q_c_4 := i_nle c_4; have g_c4_1 := i_rg c4_1; have g_q4 := i_rg q4; have g_z_10 := i_rg z_10; have g_z_3 := i_rg z_3; omega))), tq_17⟩, ⟨(E_7.tr E_15), (gF.tr (gF.mo (F' := [(7, 4)]) (C' := [(7, 3)]) (S' := (some h0)) Fr_8 (fun _ h => absurd h List.not_mem_nil) (fun _ h => h) (Or.inr rfl)) (gF.mo (F' := [(7, 4)]) (C' := [(7, 3)]) (S' := (some h0)) Fr_16 (fun _ h => h) (fun _ h => absurd h List.not_mem_nil) (Or.inr rfl))), hG, by rw [ht9]; exact hP, hD⟩⟩, hS.F ht9⟩) hS.2.2 dX8_addToTable_32
set_option maxHeartbeats 1000000 in
set_option maxRecDepth 100000 in
theorem m_X8_targetCount_z (l : Launch) (g : Gm) (sz : Nat) (ws : va_W) (h0 : Nat) (x1 : Int32) (hG : Good g ws) (o_h0 : gC ws h0 7) : Met l yX8_targetCount (wt yX8_targetCount cX8_targetCount 3 (some .int)) ({ frames := 1, cells := 0, slots := 0, locals := 21 }) (va_Pc [.ref h0, .int x1] (st_G g sz ws)) (va_Qi (fun (r : Int32) (u9 : Unit) => (True) ∧ (rowC ws h0 (TCy x1.toInt r.toInt))) (gQ0 g (va_A ws sz) ws) (va_A ws sz)) (0) (0) (va_A ws sz) := by
  refine Met.ofW (cc := cX8_targetCount) (maxL := 3) (ret := (some .int)) (by decide) rfl ?_
  intro p e s m args below meth c s₁ B hml hv
  obtain ⟨rfl, hsz, hP, hK, hD0, hex, hE⟩ := hv
  have hx := B.exec
  have hb := B.bytes
  have hr := B.returns
  have hts0 := atoms_spec (ws := wt yX8_targetCount cX8_targetCount 3 (some .int)) B.pre
  have hts : ∀ w ∈ tb, w.before _ s = true := fun w h => hts0 w (List.mem_cons_of_mem _ h)
  have hown : s.vm.findClass RX8 = some m.cls := findClass_of_methodNamed B.named
  subst hsz
  have hD := hD0.self (sz := s.heap.size)
  generalize hAe : va_A ws s.heap.size = A at hD hE ⊢
  have hA : ∀ q : Nat, s.heap.size ≤ q → A q := fun q h => by rw [← hAe]; exact Or.inr h
  have hS : va_S A s.heap s.heap [] := va_S.rf
  have hl := lv_entry ([.ref h0, .int x1]) (n := 3) (Nat.le_of_ble_eq_true rfl)
  rw [lg_entry_eq]
  generalize (lg_sl ([.ref h0, .int x1]) ++ List.replicate (3 - (lg_sl ([.ref h0, .int x1])).length) Slot.unset).toArray = ls at hl ⊢
  have hl : lv_has ls 3 [(0, .ref h0), (1, .int x1)] := hl
  refine lv_aload_n hx hb dX8_targetCount_0 rfl (lv_at hl 0 rfl) ?_
  refine lv_iload_n hx hb dX8_targetCount_1 rfl (lv_at hl 1 rfl) ?_
  have hFc := gfree hD hS hA
  obtain ⟨k_1, fs_1, hk_1⟩ := gC_of o_h0
  refine va_calli (va_runV (As := [.int x1]) (rest := []) ⟨hx, hb, hml, hown, hts⟩ (m_X8_opAt_x l g s.heap.size ws h0 (x1) hG o_h0) (cwV 1 hts (gd_V kw_1528 kw_1513 kw_1514 kw_782 kw_1512) rfl rfl rfl (by decide +kernel) ⟨Nat.le_of_ble_eq_true rfl, Nat.le_of_ble_eq_true rfl⟩) ⟨gblind, va_recv hK hP (ci := 7) (q0 := k_1) rfl hk_1, fun U hU hW9 => gmk hU hW9 hP hK hD hex hE hS hFc⟩ rfl rfl hl.1 rfl (lv_room (Nat.le_of_ble_eq_true rfl)) dX8_targetCount_2 ⟨Nat.le_of_ble_eq_true rfl, Nat.le_of_ble_eq_true rfl⟩) hS (fun q _ h => hFc q h) hFc (fun r_2 u9 t9 H1 locs ht9 hvm9 hw9 hB9 hz9 hk9 hS => ?_)
  have hP : va_P (gD g) cl0 ws H1 := by rw [← ht9]; exact hB9.1
  obtain ⟨hw9, xp_3⟩ := hw9
  clear hB9 hz9 hk9 hvm9 ht9 hw9
  generalize H1 = H at hP hS ⊢
  refine lv_istore_n (lv' := [(2, .int r_2), (0, .ref h0), (1, .int x1)]) hx hb dX8_targetCount_5 rfl hl (by decide) rfl (fun ls hl => ?_)
  refine lv_iload_n hx hb dX8_targetCount_6 rfl (lv_at hl 0 rfl) ?_
  have hFc := gfree hD hS hA
  refine va_calli (va_runS (As := [.int r_2]) (rest := []) ⟨hx, hb, hml, hown, hts⟩ (m_X6_isJump_z l g H.size ws (r_2) hG ) (va_cwS 1 hts (gd_S kw_1529 kw_1225 kw_1207 kw_1224) rfl rfl rfl (by decide +kernel) ⟨Nat.le_of_ble_eq_true rfl, Nat.le_of_ble_eq_true rfl⟩) ⟨gblind, fun U hU hW9 => gmk hU hW9 hP hK hD hex hE hS hFc⟩ rfl rfl hl.1 rfl (lv_room (Nat.le_of_ble_eq_true rfl)) dX8_targetCount_7 ⟨Nat.le_of_ble_eq_true rfl, Nat.le_of_ble_eq_true rfl⟩) hS (fun q _ h => hFc q h) hFc (fun r_4 u9 t9 H1 locs ht9 hvm9 hw9 hB9 hz9 hk9 hS => ?_)
  have hP : va_P (gD g) cl0 ws H1 := by rw [← ht9]; exact hB9.1
  obtain ⟨hw9, xp_5⟩ := hw9
  have hz_r_4 : r_4 = 0 ∨ r_4 = 1 := hw9
  clear hB9 hz9 hk9 hvm9 ht9 hw9
  generalize H1 = H at hP hS ⊢
  refine lv_if_eq (tgt := 15) hx hb dX8_targetCount_10 (by decide) (fun c_6 => ?_) (fun c_6 => ?_)
  · refine lv_iload_n hx hb dX8_targetCount_15 rfl (lv_at hl 0 rfl) ?_
    have hFc := gfree hD hS hA
    refine va_calli (va_runS (As := [.int r_2]) (rest := []) ⟨hx, hb, hml, hown, hts⟩ (m_X6_isSwitch_y l g H.size ws (r_2) hG ) (va_cwS 1 hts (gd_S kw_1543 kw_1233 kw_1207 kw_1232) rfl rfl rfl (by decide +kernel) ⟨Nat.le_of_ble_eq_true rfl, Nat.le_of_ble_eq_true rfl⟩) ⟨gblind, fun U hU hW9 => gmk hU hW9 hP hK hD hex hE hS hFc⟩ rfl rfl hl.1 rfl (lv_room (Nat.le_of_ble_eq_true rfl)) dX8_targetCount_16 ⟨Nat.le_of_ble_eq_true rfl, Nat.le_of_ble_eq_true rfl⟩) hS (fun q _ h => hFc q h) hFc (fun r_7 u9 t9 H1 locs ht9 hvm9 hw9 hB9 hz9 hk9 hS => ?_)
    have hP : va_P (gD g) cl0 ws H1 := by rw [← ht9]; exact hB9.1
    obtain ⟨hw9, xp_8⟩ := hw9
    have hz_r_7 : r_7 = 0 ∨ r_7 = 1 := hw9
    clear hB9 hz9 hk9 hvm9 ht9 hw9
    generalize H1 = H at hP hS ⊢
    refine lv_if_eq (tgt := 35) hx hb dX8_targetCount_19 (by decide) (fun c_9 => ?_) (fun c_9 => ?_)
    · refine lv_iconst (v := 0) hx hb dX8_targetCount_35 (by decide) ?_
      refine W.widen (k := 0) (n := 0) (Nat.le_of_ble_eq_true rfl) (Nat.le_of_ble_eq_true rfl) ?_
      obtain ⟨k_10, fs9, hk_10⟩ := gC_of o_h0
      obtain ⟨r0_10, n0_10, r1_10, n1_10, c2_10, r3_10, n3_10, c4_10, r5_10, n5_10, r6_10, n6_10, r7_10, n7_10, r8_10, n8_10, c9_10, c10_10, c11_10, v12_10, v13_10, v14_10, rfl, a_r0_10, f1_10, a_r1_10, f3_10, a_r3_10, f5_10, a_r5_10, f7_10, a_r6_10, f9_10, a_r7_10, f11_10, a_r8_10, f13_10, o_v12_10, o_v13_10, o_v14_10, f17_10, f18_10, f19_10, f20_10, f21_10, f22_10, f23_10, f24_10, f25_10, f26_10, f27_10, f28_10, f29_10, -⟩ := (hG.1 _ _ _ _ hk_10).hX8 rfl
      obtain ⟨k_11, f_11, hk_11⟩ := gI_of a_r0_10
      obtain ⟨k_12, f_12, hk_12⟩ := gJ_of a_r1_10
      obtain ⟨k_13, f_13, hk_13⟩ := gI_of a_r3_10
      exact W.iret (v := 0) hx hb hr (fun t9 ht9 hW9 => ⟨⟨_, (), rfl, ⟨trivial, rowC_of hk_10 rfl rfl rfl rfl rfl hk_11 hk_12 hk_13 (Or.inl (by decide))⟩, ⟨by rw [ht9]; exact hP, hD⟩⟩, hS.F ht9⟩) hS.2.2 dX8_targetCount_36
    · refine lv_aload_n hx hb dX8_targetCount_22 rfl (lv_at hl 1 rfl) ?_
      refine lv_aload_n hx hb dX8_targetCount_23 rfl (lv_at hl 1 rfl) ?_
      refine lv_iload_n hx hb dX8_targetCount_24 rfl (lv_at hl 2 rfl) ?_
      have hFc := gfree hD hS hA
      obtain ⟨k_14, fs_14, hk_14⟩ := gC_of o_h0
      refine va_calll (va_runV (As := [.int x1]) (rest := [.ref h0]) ⟨hx, hb, hml, hown, hts⟩ (m_X8_argAt_x l g H.size ws h0 (x1) hG o_h0) (cwV 1 hts (gd_V kw_1511 kw_1476 kw_1477 kw_782 kw_1475) rfl rfl rfl (by decide +kernel) ⟨Nat.le_of_ble_eq_true rfl, Nat.le_of_ble_eq_true rfl⟩) ⟨gblind, va_recv hK hP (ci := 7) (q0 := k_14) rfl hk_14, fun U hU hW9 => gmk hU hW9 hP hK hD hex hE hS hFc⟩ rfl rfl hl.1 rfl (lv_room (Nat.le_of_ble_eq_true rfl)) dX8_targetCount_25 ⟨Nat.le_of_ble_eq_true rfl, Nat.le_of_ble_eq_true rfl⟩) hS (fun q _ h => hFc q h) hFc (fun r_15 u9 t9 H1 locs ht9 hvm9 hw9 hB9 hz9 hk9 hS => ?_)
      have hP : va_P (gD g) cl0 ws H1 := by rw [← ht9]; exact hB9.1
      obtain ⟨hw9, xp_16⟩ := hw9
      clear hB9 hz9 hk9 hvm9 ht9 hw9
      generalize H1 = H at hP hS ⊢
      obtain ⟨z_17, ez_17⟩ : ∃ y : Int32, (r_15 : Int64).toInt32 = y := ⟨_, rfl⟩
      refine lv_l2i (v := z_17) hx hb dX8_targetCount_28 ez_17 ?_
      have hFc := gfree hD hS hA
      obtain ⟨k_18, fs_18, hk_18⟩ := gC_of o_h0
      refine va_calli (va_runV (As := [.int z_17]) (rest := []) ⟨hx, hb, hml, hown, hts⟩ (m_X8_tableAt_x l g H.size ws h0 (z_17) hG o_h0) (cwV 1 hts (gd_V kw_1539 kw_1534 kw_1535 kw_782 kw_1533) rfl rfl rfl (by decide +kernel) ⟨Nat.le_of_ble_eq_true rfl, Nat.le_of_ble_eq_true rfl⟩) ⟨gblind, va_recv hK hP (ci := 7) (q0 := k_18) rfl hk_18, fun U hU hW9 => gmk hU hW9 hP hK hD hex hE hS hFc⟩ rfl rfl hl.1 rfl (lv_room (Nat.le_of_ble_eq_true rfl)) dX8_targetCount_29 ⟨Nat.le_of_ble_eq_true rfl, Nat.le_of_ble_eq_true rfl⟩) hS (fun q _ h => hFc q h) hFc (fun r_19 u9 t9 H1 locs ht9 hvm9 hw9 hB9 hz9 hk9 hS => ?_)
      have hP : va_P (gD g) cl0 ws H1 := by rw [← ht9]; exact hB9.1
      obtain ⟨hw9, xp_20⟩ := hw9
      clear hB9 hz9 hk9 hvm9 ht9 hw9
      generalize H1 = H at hP hS ⊢
      refine lv_goto (tgt := 36) hx hb dX8_targetCount_32 (by decide) ?_
      refine W.widen (k := 0) (n := 0) (Nat.le_of_ble_eq_true rfl) (Nat.le_of_ble_eq_true rfl) ?_
      obtain ⟨k_21, fs9, hk_21⟩ := gC_of o_h0
      obtain ⟨r0_21, n0_21, r1_21, n1_21, c2_21, r3_21, n3_21, c4_21, r5_21, n5_21, r6_21, n6_21, r7_21, n7_21, r8_21, n8_21, c9_21, c10_21, c11_21, v12_21, v13_21, v14_21, rfl, a_r0_21, f1_21, a_r1_21, f3_21, a_r3_21, f5_21, a_r5_21, f7_21, a_r6_21, f9_21, a_r7_21, f11_21, a_r8_21, f13_21, o_v12_21, o_v13_21, o_v14_21, f17_21, f18_21, f19_21, f20_21, f21_21, f22_21, f23_21, f24_21, f25_21, f26_21, f27_21, f28_21, f29_21, -⟩ := (hG.1 _ _ _ _ hk_21).hX8 rfl
      obtain ⟨k_22, f_22, hk_22⟩ := gI_of a_r0_21
      obtain ⟨k_23, f_23, hk_23⟩ := gJ_of a_r1_21
      obtain ⟨k_24, f_24, hk_24⟩ := gI_of a_r3_21
      exact W.iret (v := r_19) hx hb hr (fun t9 ht9 hW9 => ⟨⟨_, (), rfl, ⟨trivial, tcy_s hk_21 rfl rfl rfl rfl rfl hk_22 hk_23 hk_24 hD xp_3 (xp_8.mp (by have e0 : (0 : Int32).toInt = 0 := (by decide); have q_c_9 := i_ne c_9; have g_r_7 := i_rg r_7; have b_r_7 := i_bit hz_r_7; omega)) xp_16 ez_17 xp_20⟩, ⟨by rw [ht9]; exact hP, hD⟩⟩, hS.F ht9⟩) hS.2.2 dX8_targetCount_36
  · refine lv_iconst (v := 1) hx hb dX8_targetCount_13 (by decide) ?_
    refine W.widen (k := 0) (n := 0) (Nat.le_of_ble_eq_true rfl) (Nat.le_of_ble_eq_true rfl) ?_
    obtain ⟨k_25, fs9, hk_25⟩ := gC_of o_h0
    obtain ⟨r0_25, n0_25, r1_25, n1_25, c2_25, r3_25, n3_25, c4_25, r5_25, n5_25, r6_25, n6_25, r7_25, n7_25, r8_25, n8_25, c9_25, c10_25, c11_25, v12_25, v13_25, v14_25, rfl, a_r0_25, f1_25, a_r1_25, f3_25, a_r3_25, f5_25, a_r5_25, f7_25, a_r6_25, f9_25, a_r7_25, f11_25, a_r8_25, f13_25, o_v12_25, o_v13_25, o_v14_25, f17_25, f18_25, f19_25, f20_25, f21_25, f22_25, f23_25, f24_25, f25_25, f26_25, f27_25, f28_25, f29_25, -⟩ := (hG.1 _ _ _ _ hk_25).hX8 rfl
    obtain ⟨k_26, f_26, hk_26⟩ := gI_of a_r0_25
    obtain ⟨k_27, f_27, hk_27⟩ := gJ_of a_r1_25
    obtain ⟨k_28, f_28, hk_28⟩ := gI_of a_r3_25
    exact W.iret (v := 1) hx hb hr (fun t9 ht9 hW9 => ⟨⟨_, (), rfl, ⟨trivial, tcy_j hk_25 rfl rfl rfl rfl rfl hk_26 hk_27 hk_28 xp_3 (xp_5.mp (by have e0 : (0 : Int32).toInt = 0 := (by decide); have q_c_6 := i_ne c_6; have g_r_4 := i_rg r_4; have b_r_4 := i_bit hz_r_4; omega)) (by decide)⟩, ⟨by rw [ht9]; exact hP, hD⟩⟩, hS.F ht9⟩) hS.2.2 dX8_targetCount_14
set_option maxHeartbeats 1000000 in
set_option maxRecDepth 100000 in
theorem m_X8_setTarget_y (l : Launch) (g : Gm) (sz : Nat) (ws : va_W) (h0 : Nat) (x1 : Int32) (x2 : Int32) (x3 : Int32) (tn : Int) (hG : Good g ws) (o_h0 : gC ws h0 7) (tk0 : rowC ws h0 (JS x1.toInt tn)) (px2 : 0 ≤ x2.toInt ∧ x2.toInt < tn) : Met l yX8_setTarget (wt yX8_setTarget cX8_setTarget 5 none) ({ frames := 1, cells := 0, slots := 0, locals := 24 }) (va_Pc [.ref h0, .int x1, .int x2, .int x3] (st_G g sz ws)) (va_Qv (fun (u9 : va_W) => (True) ∧ (rowC u9 h0 (JS x1.toInt tn))) (gQ1 g [] [(7, 0), (7, 1), (7, 3)] (some h0) (va_A ws sz) ws) (va_A ws sz)) (0) (0) (va_A ws sz) := by
  refine Met.ofW (cc := cX8_setTarget) (maxL := 5) (ret := none) (by decide) rfl ?_
  intro p e s m args below meth c s₁ B hml hv
  obtain ⟨rfl, hsz, hP, hK, hD0, hex, hE⟩ := hv
  have hx := B.exec
  have hb := B.bytes
  have hr := B.returns
  have hts0 := atoms_spec (ws := wt yX8_setTarget cX8_setTarget 5 none) B.pre
  have hts : ∀ w ∈ tb, w.before _ s = true := fun w h => hts0 w (List.mem_cons_of_mem _ h)
  have hown : s.vm.findClass RX8 = some m.cls := findClass_of_methodNamed B.named
  subst hsz
  have hD := hD0.self (sz := s.heap.size)
  generalize hAe : va_A ws s.heap.size = A at hD hE ⊢
  have hA : ∀ q : Nat, s.heap.size ≤ q → A q := fun q h => by rw [← hAe]; exact Or.inr h
  have hS : va_S A s.heap s.heap [] := va_S.rf
  have hl := lv_entry ([.ref h0, .int x1, .int x2, .int x3]) (n := 5) (Nat.le_of_ble_eq_true rfl)
  rw [lg_entry_eq]
  generalize (lg_sl ([.ref h0, .int x1, .int x2, .int x3]) ++ List.replicate (5 - (lg_sl ([.ref h0, .int x1, .int x2, .int x3])).length) Slot.unset).toArray = ls at hl ⊢
  have hl : lv_has ls 5 [(0, .ref h0), (1, .int x1), (2, .int x2), (3, .int x3)] := hl
  obtain ⟨k_1, fs9, hk_1⟩ := gC_of o_h0
  obtain ⟨r0_1, n0_1, r1_1, n1_1, c2_1, r3_1, n3_1, c4_1, r5_1, n5_1, r6_1, n6_1, r7_1, n7_1, r8_1, n8_1, c9_1, c10_1, c11_1, v12_1, v13_1, v14_1, rfl, a_r0_1, f1_1, a_r1_1, f3_1, a_r3_1, f5_1, a_r5_1, f7_1, a_r6_1, f9_1, a_r7_1, f11_1, a_r8_1, f13_1, o_v12_1, o_v13_1, o_v14_1, f17_1, f18_1, f19_1, f20_1, f21_1, f22_1, f23_1, f24_1, f25_1, f26_1, f27_1, f28_1, f29_1, -⟩ := (hG.1 _ _ _ _ hk_1).hX8 rfl
  obtain ⟨k_2, f_2, hk_2⟩ := gI_of a_r0_1
  obtain ⟨k_3, f_3, hk_3⟩ := gJ_of a_r1_1
  obtain ⟨k_4, f_4, hk_4⟩ := gI_of a_r3_1
  have js_5 := And.intro (js_n (rowC_at hD hk_1 rfl rfl rfl rfl rfl hk_2 hk_3 hk_4 tk0)) (js_tn (rowC_at hD hk_1 rfl rfl rfl rfl rfl hk_2 hk_3 hk_4 tk0))
  refine lv_aload_n hx hb dX8_setTarget_0 rfl (lv_at hl 0 rfl) ?_
  refine lv_iload_n hx hb dX8_setTarget_1 rfl (lv_at hl 1 rfl) ?_
  have hFc := gfree hD hS hA
  refine va_calli (va_runV (As := [.int x1]) (rest := []) ⟨hx, hb, hml, hown, hts⟩ (m_X8_opAt_x l g s.heap.size ws h0 (x1) hG o_h0) (cwV 1 hts (gd_V kw_1528 kw_1513 kw_1514 kw_782 kw_1512) rfl rfl rfl (by decide +kernel) ⟨Nat.le_of_ble_eq_true rfl, Nat.le_of_ble_eq_true rfl⟩) ⟨gblind, va_recv hK hP (ci := 7) (q0 := k_1) rfl hk_1, fun U hU hW9 => gmk hU hW9 hP hK hD hex hE hS hFc⟩ rfl rfl hl.1 rfl (lv_room (Nat.le_of_ble_eq_true rfl)) dX8_setTarget_2 ⟨Nat.le_of_ble_eq_true rfl, Nat.le_of_ble_eq_true rfl⟩) hS (fun q _ h => hFc q h) hFc (fun r_6 u9 t9 H1 locs ht9 hvm9 hw9 hB9 hz9 hk9 hS => ?_)
  have hP : va_P (gD g) cl0 ws H1 := by rw [← ht9]; exact hB9.1
  obtain ⟨hw9, xp_7⟩ := hw9
  clear hB9 hz9 hk9 hvm9 ht9 hw9
  generalize H1 = H at hP hS ⊢
  have hFc := gfree hD hS hA
  refine va_calli (va_runS (As := [.int r_6]) (rest := []) ⟨hx, hb, hml, hown, hts⟩ (m_X6_isJump_z l g H.size ws (r_6) hG ) (va_cwS 1 hts (gd_S kw_1529 kw_1225 kw_1207 kw_1224) rfl rfl rfl (by decide +kernel) ⟨Nat.le_of_ble_eq_true rfl, Nat.le_of_ble_eq_true rfl⟩) ⟨gblind, fun U hU hW9 => gmk hU hW9 hP hK hD hex hE hS hFc⟩ rfl rfl hl.1 rfl (lv_room (Nat.le_of_ble_eq_true rfl)) dX8_setTarget_5 ⟨Nat.le_of_ble_eq_true rfl, Nat.le_of_ble_eq_true rfl⟩) hS (fun q _ h => hFc q h) hFc (fun r_8 u9 t9 H1 locs ht9 hvm9 hw9 hB9 hz9 hk9 hS => ?_)
  have hP : va_P (gD g) cl0 ws H1 := by rw [← ht9]; exact hB9.1
  obtain ⟨hw9, xp_9⟩ := hw9
  have hz_r_8 : r_8 = 0 ∨ r_8 = 1 := hw9
  clear hB9 hz9 hk9 hvm9 ht9 hw9
  generalize H1 = H at hP hS ⊢
  refine lv_if_eq (tgt := 24) hx hb dX8_setTarget_8 (by decide) (fun c_10 => ?_) (fun c_10 => ?_)
  · refine lv_aload_n hx hb dX8_setTarget_24 rfl (lv_at hl 0 rfl) ?_
    refine lv_iload_n hx hb dX8_setTarget_25 rfl (lv_at hl 1 rfl) ?_
    have hFc := gfree hD hS hA
    refine va_calll (va_runV (As := [.int x1]) (rest := []) ⟨hx, hb, hml, hown, hts⟩ (m_X8_argAt_x l g H.size ws h0 (x1) hG o_h0) (cwV 1 hts (gd_V kw_1511 kw_1476 kw_1477 kw_782 kw_1475) rfl rfl rfl (by decide +kernel) ⟨Nat.le_of_ble_eq_true rfl, Nat.le_of_ble_eq_true rfl⟩) ⟨gblind, va_recv hK hP (ci := 7) (q0 := k_1) rfl hk_1, fun U hU hW9 => gmk hU hW9 hP hK hD hex hE hS hFc⟩ rfl rfl hl.1 rfl (lv_room (Nat.le_of_ble_eq_true rfl)) dX8_setTarget_26 ⟨Nat.le_of_ble_eq_true rfl, Nat.le_of_ble_eq_true rfl⟩) hS (fun q _ h => hFc q h) hFc (fun r_11 u9 t9 H1 locs ht9 hvm9 hw9 hB9 hz9 hk9 hS => ?_)
    have hP : va_P (gD g) cl0 ws H1 := by rw [← ht9]; exact hB9.1
    obtain ⟨hw9, xp_12⟩ := hw9
    clear hB9 hz9 hk9 hvm9 ht9 hw9
    generalize H1 = H at hP hS ⊢
    obtain ⟨z_13, ez_13⟩ : ∃ y : Int32, (r_11 : Int64).toInt32 = y := ⟨_, rfl⟩
    refine lv_l2i (v := z_13) hx hb dX8_setTarget_29 ez_13 ?_
    have tq_14 : rowC ws h0 (JSa x1 tn z_13) := rowC_im (rowC_and hD (rowC_and hD tk0 (oe_of hk_1 rfl rfl rfl rfl rfl hk_2 hk_3 hk_4 xp_7 (by have q_f19_1 := f19_1; have q_f20_1 := f20_1; have q_js_5 := js_5; have q_px2 := px2; have q_f1_1 := f1_1; have q_f17_1 := f17_1; have q_f18_1 := f18_1; have q_f3_1 := f3_1; have g_c2_1 := i_rg c2_1; have g_x1 := i_rg x1; have g_x2 := i_rg x2; omega))) (ol_of hk_1 rfl rfl rfl rfl rfl hk_2 hk_3 hk_4 xp_12 (by have q_f19_1 := f19_1; have q_f20_1 := f20_1; have q_js_5 := js_5; have q_px2 := px2; have q_f1_1 := f1_1; have q_f17_1 := f17_1; have q_f18_1 := f18_1; have q_f3_1 := f3_1; have g_c2_1 := i_rg c2_1; have g_x1 := i_rg x1; have g_x2 := i_rg x2; omega))) (fun _ _ _ _ _ w => jsa_of w.1.1 w.1.2 (fun h9 => absurd (xp_9.mpr h9) (by have e0 : (0 : Int32).toInt = 0 := (by decide); have q_c_10 := i_eq c_10; have g_r_8 := i_rg r_8; have b_r_8 := i_bit hz_r_8; omega)) w.2 ez_13)
    have jz_15 := jsa_n (rowC_at hD hk_1 rfl rfl rfl rfl rfl hk_2 hk_3 hk_4 tq_14)
    refine lv_iconst (v := 2) hx hb dX8_setTarget_30 (by decide) ?_
    refine lv_iadd hx hb dX8_setTarget_31 ?_
    refine lv_topi (fun z_16 ez_16 => ?_)
    refine lv_iload_n hx hb dX8_setTarget_32 rfl (lv_at hl 2 rfl) ?_
    refine lv_iadd hx hb dX8_setTarget_33 ?_
    refine lv_topi (fun z_17 ez_17 => ?_)
    refine lv_istore (lv' := [(4, .int z_17), (0, .ref h0), (1, .int x1), (2, .int x2), (3, .int x3)]) hx hb dX8_setTarget_34 hl (by decide) rfl (fun ls hl => ?_)
    refine lv_iload hx hb dX8_setTarget_36 (lv_at hl 0 rfl) ?_
    refine lv_if_lt (tgt := 58) hx hb dX8_setTarget_38 (by decide) (fun c_18 => ?_) (fun c_18 => ?_)
    · refine W.widen (k := 0) (n := 0) (Nat.le_of_ble_eq_true rfl) (Nat.le_of_ble_eq_true rfl) ?_
      exact W.vret hx hb hr (fun t9 ht9 hW9 => ⟨⟨ws, rfl, ⟨trivial, tk0⟩, ⟨gE.rf, gF.rf, hG, by rw [ht9]; exact hP, hD⟩⟩, hS.F ht9⟩) hS.2.2 dX8_setTarget_58
    · refine lv_iload hx hb dX8_setTarget_41 (lv_at hl 0 rfl) ?_
      refine lv_aload_n hx hb dX8_setTarget_43 rfl (lv_at hl 1 rfl) ?_
      refine va_get (D := gD g) (ci := 7) (v := .int c4_1) (C := RX8) (T := TX8) (N := 15) hx hb hts inX8 hown hK hP k_1 hk_1 rfl 4 (by decide) (hts _ kw_1473) (fun _ h9 => h9) rfl dX8_setTarget_44 ?_
      refine lv_icmp_ge (tgt := 58) hx hb dX8_setTarget_47 (by decide) (fun c_19 => ?_) (fun c_19 => ?_)
      · refine W.widen (k := 0) (n := 0) (Nat.le_of_ble_eq_true rfl) (Nat.le_of_ble_eq_true rfl) ?_
        exact W.vret hx hb hr (fun t9 ht9 hW9 => ⟨⟨ws, rfl, ⟨trivial, tk0⟩, ⟨gE.rf, gF.rf, hG, by rw [ht9]; exact hP, hD⟩⟩, hS.F ht9⟩) hS.2.2 dX8_setTarget_58
      · refine lv_aload_n hx hb dX8_setTarget_50 rfl (lv_at hl 1 rfl) ?_
        refine va_get (D := gD g) (ci := 7) (v := .ref r3_1) (C := RX8) (T := TX8) (N := 15) hx hb hts inX8 hown hK hP k_1 hk_1 rfl 3 (by decide) (hts _ kw_1474) (fun _ h9 => h9) rfl dX8_setTarget_51 ?_
        refine lv_iload hx hb dX8_setTarget_54 (lv_at hl 0 rfl) ?_
        refine lv_iload_n hx hb dX8_setTarget_56 rfl (lv_at hl 4 rfl) ?_
        have hfS := hk_4
        have hkS := hk_1
        have hDS := hD
        have hUS := hG.u
        have hC9 : hol ws r3_1 [(7, 3)] := (hol_u hG.u hk_1 (j := 3) rfl a_r3_1 (by decide))
        have hS9 : holS ws r3_1 (some h0) := holS_u hG.u hk_1 (j := 3) rfl a_r3_1
        refine va_iast hx hb hK hP hD hS k_4 1 hk_4 rfl (i_in2 (by have e0 : (0 : Int32).toInt = 0 := (by decide); have e2 : (2 : Int32).toInt = 2 := (by decide); have q_f5_1 := f5_1; have q_f22_1 := f22_1; have q_f28_1 := f28_1; obtain ⟨u_z_17, q_z_17⟩ := i_add ez_17; have q_c_18 := i_nlt c_18; have q_c_19 := i_nle c_19; have q_px2 := px2; have q_f21_1 := f21_1; have q_jz_15 := jz_15; obtain ⟨u_z_16, q_z_16⟩ := i_add ez_16; have q_js_5 := js_5; have q_z_13 := l_2i ez_13; have q_f19_1 := f19_1; have q_f20_1 := f20_1; have g_c2_1 := i_rg c2_1; have g_c4_1 := i_rg c4_1; have g_x1 := i_rg x1; have g_x2 := i_rg x2; have g_z_13 := i_rg z_13; have g_z_16 := i_rg z_16; have g_z_17 := i_rg z_17; omega)) dX8_setTarget_57 (fun H locs hP hD hS => ?_)
        obtain ⟨ws_20, e_ws_20⟩ : ∃ z, z = ws.set k_4 (r3_1, .inl (g.cI, n3_1, .inl (upd f_4 (z_17 : Int32).toNatClampNeg x3))) := ⟨_, rfl⟩
        have hP : va_P (gD g) cl0 ws_20 H := by rw [e_ws_20]; exact hP
        have hD : va_D A ws_20 := by rw [e_ws_20]; exact hD
        have E_21 : gE ws ws_20 := gE_ari e_ws_20 hk_4
        have hG : Good g ws_20 := Good_arI e_ws_20 hk_4 hG
        have Fr_22 : gF [] [(7, 3)] (some h0) ws ws_20 := gF_ar e_ws_20 hk_4 rfl hC9 hS9
        have hk_1 := gset_arO e_ws_20 hk_4 hk_1
        have o_h0 := E_21.1 _ _ o_h0
        have a_r0_1 := E_21.1 _ _ a_r0_1
        have a_r1_1 := E_21.1 _ _ a_r1_1
        have a_r3_1 := E_21.1 _ _ a_r3_1
        have a_r5_1 := E_21.1 _ _ a_r5_1
        have a_r6_1 := E_21.1 _ _ a_r6_1
        have a_r7_1 := E_21.1 _ _ a_r7_1
        have a_r8_1 := E_21.1 _ _ a_r8_1
        have o_v12_1 : ∀ b, v12_1 = some b → ∃ n, gI ws_20 b g.cB n ∧ n < 2147483648 := fun b h => (o_v12_1 b h).imp (fun n h => ⟨E_21.1 _ _ h.1, h.2⟩)
        have o_v13_1 : ∀ b, v13_1 = some b → ∃ n, gJ ws_20 b g.cL n ∧ n < 2147483648 := fun b h => (o_v13_1 b h).imp (fun n h => ⟨E_21.1 _ _ h.1, h.2⟩)
        have o_v14_1 : ∀ b, v14_1 = some b → ∃ n, gJ ws_20 b g.cL n ∧ n < 2147483648 := fun b h => (o_v14_1 b h).imp (fun n h => ⟨E_21.1 _ _ h.1, h.2⟩)
        have tq_23 : rowC ws_20 h0 (JS x1.toInt tn) := rowC_t e_ws_20 hDS hUS hkS rfl hfS tq_14 (fun _ _ _ _ _ w => js_tgt (j := x2.toInt) w px2 (by have e0 : (0 : Int32).toInt = 0 := (by decide); have e2 : (2 : Int32).toInt = 2 := (by decide); have q_px2 := px2; have q_f21_1 := f21_1; have q_f22_1 := f22_1; have q_z_13 := l_2i ez_13; have q_jz_15 := jz_15; obtain ⟨u_z_16, q_z_16⟩ := i_add ez_16; obtain ⟨u_z_17, q_z_17⟩ := i_add ez_17; have q_c_18 := i_nlt c_18; have q_c_19 := i_nle c_19; have q_f5_1 := f5_1; have q_f28_1 := f28_1; have q_js_5 := js_5; have q_f19_1 := f19_1; have q_f20_1 := f20_1; have q_f1_1 := f1_1; have q_f17_1 := f17_1; have q_f18_1 := f18_1; have g_c2_1 := i_rg c2_1; have g_c4_1 := i_rg c4_1; have g_x1 := i_rg x1; have g_x2 := i_rg x2; have g_z_13 := i_rg z_13; have g_z_16 := i_rg z_16; have g_z_17 := i_rg z_17; omega))
        refine W.widen (k := 0) (n := 0) (Nat.le_of_ble_eq_true rfl) (Nat.le_of_ble_eq_true rfl) ?_
        exact W.vret hx hb hr (fun t9 ht9 hW9 => ⟨⟨ws_20, rfl, ⟨trivial, tq_23⟩, ⟨E_21, (gF.mo (F' := []) (C' := [(7, 0), (7, 1), (7, 3)]) (S' := (some h0)) Fr_22 (fun _ h => h) (by decide) (Or.inr rfl)), hG, by rw [ht9]; exact hP, hD⟩⟩, hS.F ht9⟩) hS.2.2 dX8_setTarget_58
  · refine lv_aload_n hx hb dX8_setTarget_11 rfl (lv_at hl 0 rfl) ?_
    refine lv_iload_n hx hb dX8_setTarget_12 rfl (lv_at hl 1 rfl) ?_
    refine lv_aload_n hx hb dX8_setTarget_13 rfl (lv_at hl 0 rfl) ?_
    refine lv_iload_n hx hb dX8_setTarget_14 rfl (lv_at hl 1 rfl) ?_
    have hFc := gfree hD hS hA
    refine va_calli (va_runV (As := [.int x1]) (rest := [.int x1, .ref h0]) ⟨hx, hb, hml, hown, hts⟩ (m_X8_opAt_x l g H.size ws h0 (x1) hG o_h0) (cwV 1 hts (gd_V kw_1528 kw_1513 kw_1514 kw_782 kw_1512) rfl rfl rfl (by decide +kernel) ⟨Nat.le_of_ble_eq_true rfl, Nat.le_of_ble_eq_true rfl⟩) ⟨gblind, va_recv hK hP (ci := 7) (q0 := k_1) rfl hk_1, fun U hU hW9 => gmk hU hW9 hP hK hD hex hE hS hFc⟩ rfl rfl hl.1 rfl (lv_room (Nat.le_of_ble_eq_true rfl)) dX8_setTarget_15 ⟨Nat.le_of_ble_eq_true rfl, Nat.le_of_ble_eq_true rfl⟩) hS (fun q _ h => hFc q h) hFc (fun r_24 u9 t9 H1 locs ht9 hvm9 hw9 hB9 hz9 hk9 hS => ?_)
    have hP : va_P (gD g) cl0 ws H1 := by rw [← ht9]; exact hB9.1
    obtain ⟨hw9, xp_25⟩ := hw9
    clear hB9 hz9 hk9 hvm9 ht9 hw9
    generalize H1 = H at hP hS ⊢
    refine lv_iload_n hx hb dX8_setTarget_18 rfl (lv_at hl 3 rfl) ?_
    have oe_26 : r_24 = r_6 := opX_eq hk_1 rfl rfl hk_2 xp_25 xp_7
    obtain ⟨z_27, ez_27⟩ : ∃ y : Int64, (x3 : Int32).toInt64 = y := ⟨_, rfl⟩
    refine lv_i2l (v := z_27) hx hb dX8_setTarget_19 ez_27 ?_
    have tq_28 : rowC ws h0 (JSo x1 tn r_24) := rowC_im (rowC_and hD tk0 (oe_of hk_1 rfl rfl rfl rfl rfl hk_2 hk_3 hk_4 xp_25 (by have q_f19_1 := f19_1; have q_f20_1 := f20_1; have q_js_5 := js_5; have q_px2 := px2; have q_f1_1 := f1_1; have q_f17_1 := f17_1; have q_f18_1 := f18_1; have q_f3_1 := f3_1; have g_c2_1 := i_rg c2_1; have g_x1 := i_rg x1; have g_x2 := i_rg x2; omega))) (fun _ _ _ _ _ w => w)
    have hFc := gfree hD hS hA
    refine va_callv (va_runV (As := [.int x1, .int r_24, .long z_27]) (rest := []) ⟨hx, hb, hml, hown, hts⟩ (m_X8_set_y l g H.size ws h0 (x1) (r_24) (z_27) (JSo x1 tn r_24) hG o_h0 (gP_of hD hk_1 (fun p90 q90 e90 g90 => by cases e90; have z90 := gI_n hD a_r0_1 g90; subst z90; exact (by have q_f1_1 := f1_1; have q_f17_1 := f17_1; have q_f18_1 := f18_1; have q_f20_1 := f20_1; have q_js_5 := js_5; have q_px2 := px2; have q_f3_1 := f3_1; have q_f19_1 := f19_1; have g_c2_1 := i_rg c2_1; have g_x1 := i_rg x1; have g_x2 := i_rg x2; omega))) tq_28) (cwV 3 hts (gd_V kw_1461 kw_1523 kw_1524 kw_782 kw_1522) rfl rfl rfl (by decide +kernel) ⟨Nat.le_of_ble_eq_true rfl, Nat.le_of_ble_eq_true rfl⟩) ⟨gblind, va_recv hK hP (ci := 7) (q0 := k_1) rfl hk_1, fun U hU hW9 => gmk hU hW9 hP hK hD hex hE hS hFc⟩ rfl rfl hl.1 rfl (lv_room (Nat.le_of_ble_eq_true rfl)) dX8_setTarget_20 ⟨Nat.le_of_ble_eq_true rfl, Nat.le_of_ble_eq_true rfl⟩) hS (fun q _ h => hFc q h) hFc (fun  ws_29 t9 H1 locs ht9 hvm9 hw9 hB9 hz9 hk9 hS => ?_)
    obtain ⟨E_30, Fr_31, hG, hP1, hD1⟩ := hB9
    have hP : va_P (gD g) cl0 ws_29 H1 := by rw [← ht9]; exact hP1
    have hD : va_D A ws_29 := hD1.weaken (fun _ _ _ h => hFc _ h)
    obtain ⟨hw9, xp_34⟩ := hw9
    clear hP1 hD1 hz9 hk9 hvm9 ht9 hw9
    generalize H1 = H at hP hS ⊢
    have aa_35 := a_r0_1
    have aa_36 := a_r1_1
    have aa_37 := a_r3_1
    have aa_38 := a_r5_1
    have aa_39 := a_r6_1
    have aa_40 := a_r7_1
    have aa_41 := a_r8_1
    have o_h0 := E_30.1 _ _ o_h0
    have hj9 : jmO r_6 := (xp_9.mp (by have e0 : (0 : Int32).toInt = 0 := (by decide); have q_c_10 := i_ne c_10; have g_r_8 := i_rg r_8; have b_r_8 := i_bit hz_r_8; omega))
    have tq_42 : rowC ws_29 h0 (JS x1.toInt tn) := rowC_im xp_34 (fun _ _ _ _ _ w => js_set (by rw [oe_26]; exact hj9) w)
    refine W.widen (k := 0) (n := 0) (Nat.le_of_ble_eq_true rfl) (Nat.le_of_ble_eq_true rfl) ?_
    exact W.vret hx hb hr (fun t9 ht9 hW9 => ⟨⟨ws_29, rfl, ⟨trivial, tq_42⟩, ⟨E_30, (gF.mo (F' := []) (C' := [(7, 0), (7, 1), (7, 3)]) (S' := (some h0)) Fr_31 (fun _ h => h) (by decide) (Or.inr rfl)), hG, by rw [ht9]; exact hP, hD⟩⟩, hS.F ht9⟩) hS.2.2 dX8_setTarget_23
