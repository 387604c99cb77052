set_option maxHeartbeats 1000000 in
set_option maxRecDepth 100000 in
theorem m_X7_u1_x (l : Launch) (g : Gm) (sz : Nat) (ws : va_W) (h0 : Nat) (x1 : Int32) (hG : Good g ws) (o_h0 : gC ws h0 6) : Met l yX7_u1 (wt yX7_u1 cX7_u1 2 (some .int)) ({ frames := 0, cells := 0, slots := 0, locals := 0 }) (va_Pc [.ref h0, .int x1] (st_G g sz ws)) (va_Qi (fun (r : Int32) (u9 : Unit) => (0 ≤ r.toInt ∧ r.toInt ≤ 255) ∧ (∀ (f : Nat → Int32) (e : Int32) (n : Nat), vw ws h0 f e n → r = jU1 f e n x1)) (gQ0 g (va_A ws sz) ws) (va_A ws sz)) (0) (0) (va_A ws sz) := by
  refine Met.ofW (cc := cX7_u1) (maxL := 2) (ret := (some .int)) (by decide) rfl ?_
  intro p e s m args below meth c s₁ B hml hv
  obtain ⟨rfl, hsz, hP, hK, hD0, hex, hE⟩ := hv
  have hx := B.exec
  have hb := B.bytes
  have hr := B.returns
  have hts0 := atoms_spec (ws := wt yX7_u1 cX7_u1 2 (some .int)) B.pre
  have hts : ∀ w ∈ tb, w.before _ s = true := fun w h => hts0 w (List.mem_cons_of_mem _ h)
  have hown : s.vm.findClass RX7 = some m.cls := findClass_of_methodNamed B.named
  subst hsz
  have hD := hD0.self (sz := s.heap.size)
  generalize hAe : va_A ws s.heap.size = A at hD hE ⊢
  have hA : ∀ q : Nat, s.heap.size ≤ q → A q := fun q h => by rw [← hAe]; exact Or.inr h
  have hS : va_S A s.heap s.heap [] := va_S.rf
  have hl := lv_entry ([.ref h0, .int x1]) (n := 2) (Nat.le_of_ble_eq_true rfl)
  rw [lg_entry_eq]
  generalize (lg_sl ([.ref h0, .int x1]) ++ List.replicate (2 - (lg_sl ([.ref h0, .int x1])).length) Slot.unset).toArray = ls at hl ⊢
  have hl : lv_has ls 2 [(0, .ref h0), (1, .int x1)] := hl
  refine lv_iload_n hx hb dX7_u1_0 rfl (lv_at hl 1 rfl) ?_
  refine lv_if_lt (tgt := 21) hx hb dX7_u1_1 (by decide) (fun c_1 => ?_) (fun c_1 => ?_)
  · refine lv_iconst (v := 0) hx hb dX7_u1_21 (by decide) ?_
    refine lv_goto (tgt := 35) hx hb dX7_u1_22 (by decide) ?_
    refine W.widen (k := 0) (n := 0) (Nat.le_of_ble_eq_true rfl) (Nat.le_of_ble_eq_true rfl) ?_
    obtain ⟨k_2, fs9, hk_2⟩ := gC_of o_h0
    obtain ⟨r0_2, n0_2, c1_2, c2_2, c3_2, r4_2, n4_2, c5_2, c6_2, c7_2, c8_2, r9_2, n9_2, r10_2, n10_2, r11_2, n11_2, c12_2, c13_2, c14_2, c15_2, c16_2, rfl, a_r0_2, f1_2, a_r4_2, f3_2, a_r9_2, f5_2, a_r10_2, f7_2, a_r11_2, f9_2, f10_2, f11_2, f12_2, f13_2, f14_2, -⟩ := (hG.1 _ _ _ _ hk_2).hX7 rfl
    exact W.iret (v := 0) hx hb hr (fun t9 ht9 hW9 => ⟨⟨_, (), rfl, ⟨(by have e0 : (0 : Int32).toInt = 0 := (by decide); have q_c_1 := i_lt c_1; have g_x1 := i_rg x1; omega), (fun f9 e9 n9 q9 => by obtain ⟨h1, h2⟩ := vw_n hD hk_2 rfl rfl a_r0_2 q9; rw [h1, h2]; unfold jU1; rw [if_pos (by have e0 : (0 : Int32).toInt = 0 := (by decide); have q_c_1 := i_lt c_1; have q_f1_2 := f1_2; have q_f10_2 := f10_2; have g_c1_2 := i_rg c1_2; have g_x1 := i_rg x1; omega)])⟩, ⟨by rw [ht9]; exact hP, hD⟩⟩, hS.F ht9⟩) hS.2.2 dX7_u1_35
  · refine lv_iload_n hx hb dX7_u1_4 rfl (lv_at hl 1 rfl) ?_
    refine lv_aload_n hx hb dX7_u1_5 rfl (lv_at hl 0 rfl) ?_
    obtain ⟨k_3, fs9, hk_3⟩ := gC_of o_h0
    obtain ⟨r0_3, n0_3, c1_3, c2_3, c3_3, r4_3, n4_3, c5_3, c6_3, c7_3, c8_3, r9_3, n9_3, r10_3, n10_3, r11_3, n11_3, c12_3, c13_3, c14_3, c15_3, c16_3, rfl, a_r0_3, f1_3, a_r4_3, f3_3, a_r9_3, f5_3, a_r10_3, f7_3, a_r11_3, f9_3, f10_3, f11_3, f12_3, f13_3, f14_3, -⟩ := (hG.1 _ _ _ _ hk_3).hX7 rfl
    refine va_get (D := gD g) (ci := 6) (v := .int c1_3) (C := RX7) (T := TX7) (N := 17) hx hb hts inX7 hown hK hP k_3 hk_3 rfl 1 (by decide) (hts _ kw_1275) (fun _ h9 => h9) rfl dX7_u1_6 ?_
    refine lv_icmp_ge (tgt := 21) hx hb dX7_u1_9 (by decide) (fun c_4 => ?_) (fun c_4 => ?_)
    · refine lv_iconst (v := 0) hx hb dX7_u1_21 (by decide) ?_
      refine lv_goto (tgt := 35) hx hb dX7_u1_22 (by decide) ?_
      refine W.widen (k := 0) (n := 0) (Nat.le_of_ble_eq_true rfl) (Nat.le_of_ble_eq_true rfl) ?_
      exact W.iret (v := 0) hx hb hr (fun t9 ht9 hW9 => ⟨⟨_, (), rfl, ⟨(by have e0 : (0 : Int32).toInt = 0 := (by decide); have q_c_1 := i_nlt c_1; have q_c_4 := i_le c_4; have q_f10_3 := f10_3; have g_c1_3 := i_rg c1_3; have g_x1 := i_rg x1; omega), (fun f9 e9 n9 q9 => by obtain ⟨h1, h2⟩ := vw_n hD hk_3 rfl rfl a_r0_3 q9; rw [h1, h2]; unfold jU1; rw [if_pos (by have e0 : (0 : Int32).toInt = 0 := (by decide); have q_c_1 := i_nlt c_1; have q_f1_3 := f1_3; have q_f10_3 := f10_3; have q_c_4 := i_le c_4; have g_c1_3 := i_rg c1_3; have g_x1 := i_rg x1; omega)])⟩, ⟨by rw [ht9]; exact hP, hD⟩⟩, hS.F ht9⟩) hS.2.2 dX7_u1_35
    · refine lv_iload_n hx hb dX7_u1_12 rfl (lv_at hl 1 rfl) ?_
      refine lv_aload_n hx hb dX7_u1_13 rfl (lv_at hl 0 rfl) ?_
      refine va_get (D := gD g) (ci := 6) (v := .ref r0_3) (C := RX7) (T := TX7) (N := 17) hx hb hts inX7 hown hK hP k_3 hk_3 rfl 0 (by decide) (hts _ kw_1341) (fun _ h9 => h9) rfl dX7_u1_14 ?_
      obtain ⟨k_5, f_5, hk_5⟩ := gI_of a_r0_3
      obtain ⟨z_6, ez_6⟩ : ∃ z : Int32, Int32.ofNat n0_3 = z := ⟨_, rfl⟩
      refine va_alen (v := z_6) hx hb hK hP k_5 0 hk_5 rfl ez_6 dX7_u1_17 ?_
      refine lv_icmp_lt (tgt := 25) hx hb dX7_u1_18 (by decide) (fun c_7 => ?_) (fun c_7 => ?_)
      · refine lv_aload_n hx hb dX7_u1_25 rfl (lv_at hl 0 rfl) ?_
        refine va_get (D := gD g) (ci := 6) (v := .ref r0_3) (C := RX7) (T := TX7) (N := 17) hx hb hts inX7 hown hK hP k_3 hk_3 rfl 0 (by decide) (hts _ kw_1341) (fun _ h9 => h9) rfl dX7_u1_26 ?_
        refine lv_iload_n hx hb dX7_u1_29 rfl (lv_at hl 1 rfl) ?_
        refine va_bald hx hb hK hP k_5 0 hk_5 rfl (i_in2 (by have e0 : (0 : Int32).toInt = 0 := (by decide); have q_c_1 := i_nlt c_1; have q_f1_3 := f1_3; have q_c_4 := i_nle c_4; have q_z_6 := i_len ez_6 f1_3; have q_c_7 := i_lt c_7; have q_f10_3 := f10_3; have g_c1_3 := i_rg c1_3; have g_x1 := i_rg x1; have g_z_6 := i_rg z_6; omega)) dX7_u1_30 ?_
        refine lv_topi (fun z_8 ez_8 => ?_)
        refine lv_sipush (v := 255) hx hb dX7_u1_31 (by decide) ?_
        refine lv_iand hx hb dX7_u1_34 ?_
        refine lv_topi (fun z_9 ez_9 => ?_)
        refine W.widen (k := 0) (n := 0) (Nat.le_of_ble_eq_true rfl) (Nat.le_of_ble_eq_true rfl) ?_
        exact W.iret (v := z_9) hx hb hr (fun t9 ht9 hW9 => ⟨⟨_, (), rfl, ⟨(by have e0 : (0 : Int32).toInt = 0 := (by decide); have q_c_1 := i_nlt c_1; have q_c_4 := i_nle c_4; have q_c_7 := i_lt c_7; have q_z_9 := i_and (k := 8) (b := 256) ez_9 (by decide) (by decide) (by decide); have q_f10_3 := f10_3; have q_z_6 := i_len ez_6 f1_3; have g_c1_3 := i_rg c1_3; have g_x1 := i_rg x1; have g_z_6 := i_rg z_6; have g_z_8 := i_rg z_8; have g_z_9 := i_rg z_9; omega), (fun f9 e9 n9 q9 => by obtain ⟨h0, h1, h2⟩ := vw_un hD hk_3 rfl rfl hk_5 q9; rw [h0, h1, h2]; unfold jU1; rw [if_neg (by have e0 : (0 : Int32).toInt = 0 := (by decide); have q_c_1 := i_nlt c_1; have q_f1_3 := f1_3; have q_f10_3 := f10_3; have q_c_4 := i_nle c_4; have q_z_6 := i_len ez_6 f1_3; have q_c_7 := i_lt c_7; have g_c1_3 := i_rg c1_3; have g_x1 := i_rg x1; have g_z_6 := i_rg z_6; omega)]; simp only [← ez_8, ← ez_9])⟩, ⟨by rw [ht9]; exact hP, hD⟩⟩, hS.F ht9⟩) hS.2.2 dX7_u1_35
      · refine lv_iconst (v := 0) hx hb dX7_u1_21 (by decide) ?_
        refine lv_goto (tgt := 35) hx hb dX7_u1_22 (by decide) ?_
        refine W.widen (k := 0) (n := 0) (Nat.le_of_ble_eq_true rfl) (Nat.le_of_ble_eq_true rfl) ?_
        exact W.iret (v := 0) hx hb hr (fun t9 ht9 hW9 => ⟨⟨_, (), rfl, ⟨(by have e0 : (0 : Int32).toInt = 0 := (by decide); have q_c_1 := i_nlt c_1; have q_c_4 := i_nle c_4; have q_c_7 := i_nlt c_7; have q_f10_3 := f10_3; have q_z_6 := i_len ez_6 f1_3; have g_c1_3 := i_rg c1_3; have g_x1 := i_rg x1; have g_z_6 := i_rg z_6; omega), (fun f9 e9 n9 q9 => by obtain ⟨h1, h2⟩ := vw_n hD hk_3 rfl rfl a_r0_3 q9; rw [h1, h2]; unfold jU1; rw [if_pos (by have e0 : (0 : Int32).toInt = 0 := (by decide); have q_c_1 := i_nlt c_1; have q_f1_3 := f1_3; have q_f10_3 := f10_3; have q_c_4 := i_nle c_4; have q_z_6 := i_len ez_6 f1_3; have q_c_7 := i_nlt c_7; have g_c1_3 := i_rg c1_3; have g_x1 := i_rg x1; have g_z_6 := i_rg z_6; omega)])⟩, ⟨by rw [ht9]; exact hP, hD⟩⟩, hS.F ht9⟩) hS.2.2 dX7_u1_35
set_option maxHeartbeats 1000000 in
set_option maxRecDepth 100000 in
theorem m_X7_u2_x (l : Launch) (g : Gm) (sz : Nat) (ws : va_W) (h0 : Nat) (x1 : Int32) (hG : Good g ws) (o_h0 : gC ws h0 6) : Met l yX7_u2 (wt yX7_u2 cX7_u2 2 (some .int)) ({ frames := 0, cells := 0, slots := 0, locals := 0 }) (va_Pc [.ref h0, .int x1] (st_G g sz ws)) (va_Qi (fun (r : Int32) (u9 : Unit) => (0 ≤ r.toInt ∧ r.toInt ≤ 65535) ∧ (∀ (f : Nat → Int32) (e : Int32) (n : Nat), vw ws h0 f e n → r = jU2 f e n x1)) (gQ0 g (va_A ws sz) ws) (va_A ws sz)) (0) (0) (va_A ws sz) := by
  refine Met.ofW (cc := cX7_u2) (maxL := 2) (ret := (some .int)) (by decide) rfl ?_
  intro p e s m args below meth c s₁ B hml hv
  obtain ⟨rfl, hsz, hP, hK, hD0, hex, hE⟩ := hv
  have hx := B.exec
  have hb := B.bytes
  have hr := B.returns
  have hts0 := atoms_spec (ws := wt yX7_u2 cX7_u2 2 (some .int)) B.pre
  have hts : ∀ w ∈ tb, w.before _ s = true := fun w h => hts0 w (List.mem_cons_of_mem _ h)
  have hown : s.vm.findClass RX7 = some m.cls := findClass_of_methodNamed B.named
  subst hsz
  have hD := hD0.self (sz := s.heap.size)
  generalize hAe : va_A ws s.heap.size = A at hD hE ⊢
  have hA : ∀ q : Nat, s.heap.size ≤ q → A q := fun q h => by rw [← hAe]; exact Or.inr h
  have hS : va_S A s.heap s.heap [] := va_S.rf
  have hl := lv_entry ([.ref h0, .int x1]) (n := 2) (Nat.le_of_ble_eq_true rfl)
  rw [lg_entry_eq]
  generalize (lg_sl ([.ref h0, .int x1]) ++ List.replicate (2 - (lg_sl ([.ref h0, .int x1])).length) Slot.unset).toArray = ls at hl ⊢
  have hl : lv_has ls 2 [(0, .ref h0), (1, .int x1)] := hl
  refine lv_iload_n hx hb dX7_u2_0 rfl (lv_at hl 1 rfl) ?_
  refine lv_if_lt (tgt := 26) hx hb dX7_u2_1 (by decide) (fun c_1 => ?_) (fun c_1 => ?_)
  · refine lv_iconst (v := 0) hx hb dX7_u2_26 (by decide) ?_
    refine W.widen (k := 0) (n := 0) (Nat.le_of_ble_eq_true rfl) (Nat.le_of_ble_eq_true rfl) ?_
    obtain ⟨k_2, fs9, hk_2⟩ := gC_of o_h0
    obtain ⟨r0_2, n0_2, c1_2, c2_2, c3_2, r4_2, n4_2, c5_2, c6_2, c7_2, c8_2, r9_2, n9_2, r10_2, n10_2, r11_2, n11_2, c12_2, c13_2, c14_2, c15_2, c16_2, rfl, a_r0_2, f1_2, a_r4_2, f3_2, a_r9_2, f5_2, a_r10_2, f7_2, a_r11_2, f9_2, f10_2, f11_2, f12_2, f13_2, f14_2, -⟩ := (hG.1 _ _ _ _ hk_2).hX7 rfl
    exact W.iret (v := 0) hx hb hr (fun t9 ht9 hW9 => ⟨⟨_, (), rfl, ⟨(by have e0 : (0 : Int32).toInt = 0 := (by decide); have q_c_1 := i_lt c_1; have g_x1 := i_rg x1; omega), (fun f9 e9 n9 q9 => by obtain ⟨h1, h2⟩ := vw_n hD hk_2 rfl rfl a_r0_2 q9; rw [h1, h2]; unfold jU2; rw [if_pos (by have e0 : (0 : Int32).toInt = 0 := (by decide); have q_c_1 := i_lt c_1; have q_f1_2 := f1_2; have q_f10_2 := f10_2; have g_c1_2 := i_rg c1_2; have g_x1 := i_rg x1; obtain ⟨u92, q92⟩ := i_sub (rfl : c1_2 - 2 = c1_2 - 2); have e92 : (2 : Int32).toInt = 2 := (by decide); have g92 := i_rg (c1_2 - 2); omega)])⟩, ⟨by rw [ht9]; exact hP, hD⟩⟩, hS.F ht9⟩) hS.2.2 dX7_u2_27
  · refine lv_iload_n hx hb dX7_u2_4 rfl (lv_at hl 1 rfl) ?_
    refine lv_aload_n hx hb dX7_u2_5 rfl (lv_at hl 0 rfl) ?_
    obtain ⟨k_3, fs9, hk_3⟩ := gC_of o_h0
    obtain ⟨r0_3, n0_3, c1_3, c2_3, c3_3, r4_3, n4_3, c5_3, c6_3, c7_3, c8_3, r9_3, n9_3, r10_3, n10_3, r11_3, n11_3, c12_3, c13_3, c14_3, c15_3, c16_3, rfl, a_r0_3, f1_3, a_r4_3, f3_3, a_r9_3, f5_3, a_r10_3, f7_3, a_r11_3, f9_3, f10_3, f11_3, f12_3, f13_3, f14_3, -⟩ := (hG.1 _ _ _ _ hk_3).hX7 rfl
    refine va_get (D := gD g) (ci := 6) (v := .int c1_3) (C := RX7) (T := TX7) (N := 17) hx hb hts inX7 hown hK hP k_3 hk_3 rfl 1 (by decide) (hts _ kw_1275) (fun _ h9 => h9) rfl dX7_u2_6 ?_
    refine lv_iconst (v := 2) hx hb dX7_u2_9 (by decide) ?_
    refine lv_isub hx hb dX7_u2_10 ?_
    refine lv_topi (fun z_4 ez_4 => ?_)
    refine lv_icmp_gt (tgt := 26) hx hb dX7_u2_11 (by decide) (fun c_5 => ?_) (fun c_5 => ?_)
    · refine lv_iconst (v := 0) hx hb dX7_u2_26 (by decide) ?_
      refine W.widen (k := 0) (n := 0) (Nat.le_of_ble_eq_true rfl) (Nat.le_of_ble_eq_true rfl) ?_
      exact W.iret (v := 0) hx hb hr (fun t9 ht9 hW9 => ⟨⟨_, (), rfl, ⟨(by have e0 : (0 : Int32).toInt = 0 := (by decide); have e2 : (2 : Int32).toInt = 2 := (by decide); have q_c_1 := i_nlt c_1; have q_c_5 := i_lt c_5; obtain ⟨u_z_4, q_z_4⟩ := i_sub ez_4; have q_f10_3 := f10_3; have g_c1_3 := i_rg c1_3; have g_x1 := i_rg x1; have g_z_4 := i_rg z_4; omega), (fun f9 e9 n9 q9 => by obtain ⟨h1, h2⟩ := vw_n hD hk_3 rfl rfl a_r0_3 q9; rw [h1, h2]; unfold jU2; rw [if_pos (by have e0 : (0 : Int32).toInt = 0 := (by decide); have e2 : (2 : Int32).toInt = 2 := (by decide); have q_c_1 := i_nlt c_1; have q_f1_3 := f1_3; have q_f10_3 := f10_3; obtain ⟨u_z_4, q_z_4⟩ := i_sub ez_4; have q_c_5 := i_lt c_5; have g_c1_3 := i_rg c1_3; have g_x1 := i_rg x1; have g_z_4 := i_rg z_4; obtain ⟨u92, q92⟩ := i_sub (rfl : c1_3 - 2 = c1_3 - 2); have e92 : (2 : Int32).toInt = 2 := (by decide); have g92 := i_rg (c1_3 - 2); omega)])⟩, ⟨by rw [ht9]; exact hP, hD⟩⟩, hS.F ht9⟩) hS.2.2 dX7_u2_27
    · refine lv_aload_n hx hb dX7_u2_14 rfl (lv_at hl 0 rfl) ?_
      refine va_get (D := gD g) (ci := 6) (v := .int c1_3) (C := RX7) (T := TX7) (N := 17) hx hb hts inX7 hown hK hP k_3 hk_3 rfl 1 (by decide) (hts _ kw_1275) (fun _ h9 => h9) rfl dX7_u2_15 ?_
      refine lv_aload_n hx hb dX7_u2_18 rfl (lv_at hl 0 rfl) ?_
      refine va_get (D := gD g) (ci := 6) (v := .ref r0_3) (C := RX7) (T := TX7) (N := 17) hx hb hts inX7 hown hK hP k_3 hk_3 rfl 0 (by decide) (hts _ kw_1341) (fun _ h9 => h9) rfl dX7_u2_19 ?_
      obtain ⟨k_6, f_6, hk_6⟩ := gI_of a_r0_3
      obtain ⟨z_7, ez_7⟩ : ∃ z : Int32, Int32.ofNat n0_3 = z := ⟨_, rfl⟩
      refine va_alen (v := z_7) hx hb hK hP k_6 0 hk_6 rfl ez_7 dX7_u2_22 ?_
      refine lv_icmp_le (tgt := 28) hx hb dX7_u2_23 (by decide) (fun c_8 => ?_) (fun c_8 => ?_)
      · refine lv_aload_n hx hb dX7_u2_28 rfl (lv_at hl 0 rfl) ?_
        refine va_get (D := gD g) (ci := 6) (v := .ref r0_3) (C := RX7) (T := TX7) (N := 17) hx hb hts inX7 hown hK hP k_3 hk_3 rfl 0 (by decide) (hts _ kw_1341) (fun _ h9 => h9) rfl dX7_u2_29 ?_
        refine lv_iload_n hx hb dX7_u2_32 rfl (lv_at hl 1 rfl) ?_
        refine va_bald hx hb hK hP k_6 0 hk_6 rfl (i_in2 (by have e0 : (0 : Int32).toInt = 0 := (by decide); have e2 : (2 : Int32).toInt = 2 := (by decide); have q_c_1 := i_nlt c_1; have q_f1_3 := f1_3; have q_c_5 := i_nlt c_5; have q_z_7 := i_len ez_7 f1_3; obtain ⟨u_z_4, q_z_4⟩ := i_sub ez_4; have q_c_8 := i_le c_8; have q_f10_3 := f10_3; have g_c1_3 := i_rg c1_3; have g_x1 := i_rg x1; have g_z_4 := i_rg z_4; have g_z_7 := i_rg z_7; omega)) dX7_u2_33 ?_
        refine lv_topi (fun z_9 ez_9 => ?_)
        refine lv_sipush (v := 255) hx hb dX7_u2_34 (by decide) ?_
        refine lv_iand hx hb dX7_u2_37 ?_
        refine lv_topi (fun z_10 ez_10 => ?_)
        refine lv_bipush (v := 8) hx hb dX7_u2_38 (by decide) ?_
        refine lv_ishl hx hb dX7_u2_40 ?_
        refine lv_topi (fun z_11 ez_11 => ?_)
        refine lv_aload_n hx hb dX7_u2_41 rfl (lv_at hl 0 rfl) ?_
        refine va_get (D := gD g) (ci := 6) (v := .ref r0_3) (C := RX7) (T := TX7) (N := 17) hx hb hts inX7 hown hK hP k_3 hk_3 rfl 0 (by decide) (hts _ kw_1341) (fun _ h9 => h9) rfl dX7_u2_42 ?_
        refine lv_iload_n hx hb dX7_u2_45 rfl (lv_at hl 1 rfl) ?_
        refine lv_iconst (v := 1) hx hb dX7_u2_46 (by decide) ?_
        refine lv_iadd hx hb dX7_u2_47 ?_
        refine lv_topi (fun z_12 ez_12 => ?_)
        refine va_bald hx hb hK hP k_6 0 hk_6 rfl (i_in2 (by have e0 : (0 : Int32).toInt = 0 := (by decide); have e1 : (1 : Int32).toInt = 1 := (by decide); have e2 : (2 : Int32).toInt = 2 := (by decide); have q_f1_3 := f1_3; have q_z_7 := i_len ez_7 f1_3; obtain ⟨u_z_12, q_z_12⟩ := i_add ez_12; have q_c_1 := i_nlt c_1; have q_c_5 := i_nlt c_5; have q_c_8 := i_le c_8; have q_f10_3 := f10_3; obtain ⟨u_z_4, q_z_4⟩ := i_sub ez_4; have g_c1_3 := i_rg c1_3; have g_x1 := i_rg x1; have g_z_12 := i_rg z_12; have g_z_4 := i_rg z_4; have g_z_7 := i_rg z_7; omega)) dX7_u2_48 ?_
        refine lv_topi (fun z_13 ez_13 => ?_)
        refine lv_sipush (v := 255) hx hb dX7_u2_49 (by decide) ?_
        refine lv_iand hx hb dX7_u2_52 ?_
        refine lv_topi (fun z_14 ez_14 => ?_)
        refine lv_ior hx hb dX7_u2_53 ?_
        refine lv_topi (fun z_15 ez_15 => ?_)
        refine W.widen (k := 0) (n := 0) (Nat.le_of_ble_eq_true rfl) (Nat.le_of_ble_eq_true rfl) ?_
        exact W.iret (v := z_15) hx hb hr (fun t9 ht9 hW9 => ⟨⟨_, (), rfl, ⟨(by have e0 : (0 : Int32).toInt = 0 := (by decide); have e1 : (1 : Int32).toInt = 1 := (by decide); have e2 : (2 : Int32).toInt = 2 := (by decide); have q_c_1 := i_nlt c_1; have q_c_5 := i_nlt c_5; obtain ⟨u_z_12, q_z_12⟩ := i_add ez_12; have q_z_15 := i_or (k := 16) (b := 65536) ez_15 (by decide) (by decide) (i_shl (k := 8) (j := 8) (b := 256) (c := 65536) ez_11 (by decide) (by decide) (by decide) (by decide) (i_and (k := 8) (b := 256) ez_10 (by decide) (by decide) (by decide))) (i_wid (i_and (k := 8) (b := 256) ez_14 (by decide) (by decide) (by decide)) (by decide)); obtain ⟨u_z_4, q_z_4⟩ := i_sub ez_4; have q_z_11 := i_shl (k := 8) (j := 8) (b := 256) (c := 65536) ez_11 (by decide) (by decide) (by decide) (by decide) (i_and (k := 8) (b := 256) ez_10 (by decide) (by decide) (by decide)); have q_z_14 := i_and (k := 8) (b := 256) ez_14 (by decide) (by decide) (by decide); have q_f10_3 := f10_3; have q_c_8 := i_le c_8; have q_z_10 := i_and (k := 8) (b := 256) ez_10 (by decide) (by decide) (by decide); have g_c1_3 := i_rg c1_3; have g_x1 := i_rg x1; have g_z_10 := i_rg z_10; have g_z_11 := i_rg z_11; have g_z_12 := i_rg z_12; have g_z_13 := i_rg z_13; have g_z_14 := i_rg z_14; have g_z_15 := i_rg z_15; have g_z_4 := i_rg z_4; have g_z_7 := i_rg z_7; have g_z_9 := i_rg z_9; omega), (fun f9 e9 n9 q9 => by obtain ⟨h0, h1, h2⟩ := vw_un hD hk_3 rfl rfl hk_6 q9; rw [h0, h1, h2]; unfold jU2; rw [if_neg (by have e0 : (0 : Int32).toInt = 0 := (by decide); have e1 : (1 : Int32).toInt = 1 := (by decide); have e2 : (2 : Int32).toInt = 2 := (by decide); have q_c_1 := i_nlt c_1; have q_f1_3 := f1_3; have q_f10_3 := f10_3; obtain ⟨u_z_4, q_z_4⟩ := i_sub ez_4; have q_c_5 := i_nlt c_5; have q_z_7 := i_len ez_7 f1_3; have q_c_8 := i_le c_8; obtain ⟨u_z_12, q_z_12⟩ := i_add ez_12; have g_c1_3 := i_rg c1_3; have g_x1 := i_rg x1; have g_z_12 := i_rg z_12; have g_z_4 := i_rg z_4; have g_z_7 := i_rg z_7; obtain ⟨u92, q92⟩ := i_sub (rfl : c1_3 - 2 = c1_3 - 2); have e92 : (2 : Int32).toInt = 2 := (by decide); have g92 := i_rg (c1_3 - 2); omega)]; simp only [← ez_4, ← ez_9, ← ez_10, ← ez_11, ← ez_12, ← ez_13, ← ez_14, ← ez_15])⟩, ⟨by rw [ht9]; exact hP, hD⟩⟩, hS.F ht9⟩) hS.2.2 dX7_u2_54
      · refine lv_iconst (v := 0) hx hb dX7_u2_26 (by decide) ?_
        refine W.widen (k := 0) (n := 0) (Nat.le_of_ble_eq_true rfl) (Nat.le_of_ble_eq_true rfl) ?_
        exact W.iret (v := 0) hx hb hr (fun t9 ht9 hW9 => ⟨⟨_, (), rfl, ⟨(by have e0 : (0 : Int32).toInt = 0 := (by decide); have e2 : (2 : Int32).toInt = 2 := (by decide); have q_c_1 := i_nlt c_1; have q_c_5 := i_nlt c_5; obtain ⟨u_z_4, q_z_4⟩ := i_sub ez_4; have q_f10_3 := f10_3; have q_c_8 := i_nle c_8; have g_c1_3 := i_rg c1_3; have g_x1 := i_rg x1; have g_z_4 := i_rg z_4; have g_z_7 := i_rg z_7; omega), (fun f9 e9 n9 q9 => by obtain ⟨h1, h2⟩ := vw_n hD hk_3 rfl rfl a_r0_3 q9; rw [h1, h2]; unfold jU2; rw [if_pos (by have e0 : (0 : Int32).toInt = 0 := (by decide); have e2 : (2 : Int32).toInt = 2 := (by decide); have q_c_1 := i_nlt c_1; have q_f1_3 := f1_3; have q_f10_3 := f10_3; obtain ⟨u_z_4, q_z_4⟩ := i_sub ez_4; have q_c_5 := i_nlt c_5; have q_z_7 := i_len ez_7 f1_3; have q_c_8 := i_nle c_8; have g_c1_3 := i_rg c1_3; have g_x1 := i_rg x1; have g_z_4 := i_rg z_4; have g_z_7 := i_rg z_7; obtain ⟨u92, q92⟩ := i_sub (rfl : c1_3 - 2 = c1_3 - 2); have e92 : (2 : Int32).toInt = 2 := (by decide); have g92 := i_rg (c1_3 - 2); omega)])⟩, ⟨by rw [ht9]; exact hP, hD⟩⟩, hS.F ht9⟩) hS.2.2 dX7_u2_27
set_option maxHeartbeats 1000000 in
set_option maxRecDepth 100000 in
theorem m_X7_s4_x (l : Launch) (g : Gm) (sz : Nat) (ws : va_W) (h0 : Nat) (x1 : Int32) (hG : Good g ws) (o_h0 : gC ws h0 6) : Met l yX7_s4 (wt yX7_s4 cX7_s4 2 (some .int)) ({ frames := 0, cells := 0, slots := 0, locals := 0 }) (va_Pc [.ref h0, .int x1] (st_G g sz ws)) (va_Qi (fun (r : Int32) (u9 : Unit) => (True) ∧ (∀ (f : Nat → Int32) (e : Int32) (n : Nat), vw ws h0 f e n → r = jS4 f e n x1)) (gQ0 g (va_A ws sz) ws) (va_A ws sz)) (0) (0) (va_A ws sz) := by
  refine Met.ofW (cc := cX7_s4) (maxL := 2) (ret := (some .int)) (by decide) rfl ?_
  intro p e s m args below meth c s₁ B hml hv
  obtain ⟨rfl, hsz, hP, hK, hD0, hex, hE⟩ := hv
  have hx := B.exec
  have hb := B.bytes
  have hr := B.returns
  have hts0 := atoms_spec (ws := wt yX7_s4 cX7_s4 2 (some .int)) B.pre
  have hts : ∀ w ∈ tb, w.before _ s = true := fun w h => hts0 w (List.mem_cons_of_mem _ h)
  have hown : s.vm.findClass RX7 = some m.cls := findClass_of_methodNamed B.named
  subst hsz
  have hD := hD0.self (sz := s.heap.size)
  generalize hAe : va_A ws s.heap.size = A at hD hE ⊢
  have hA : ∀ q : Nat, s.heap.size ≤ q → A q := fun q h => by rw [← hAe]; exact Or.inr h
  have hS : va_S A s.heap s.heap [] := va_S.rf
  have hl := lv_entry ([.ref h0, .int x1]) (n := 2) (Nat.le_of_ble_eq_true rfl)
  rw [lg_entry_eq]
  generalize (lg_sl ([.ref h0, .int x1]) ++ List.replicate (2 - (lg_sl ([.ref h0, .int x1])).length) Slot.unset).toArray = ls at hl ⊢
  have hl : lv_has ls 2 [(0, .ref h0), (1, .int x1)] := hl
  refine lv_iload_n hx hb dX7_s4_0 rfl (lv_at hl 1 rfl) ?_
  refine lv_if_lt (tgt := 26) hx hb dX7_s4_1 (by decide) (fun c_1 => ?_) (fun c_1 => ?_)
  · refine lv_iconst (v := 0) hx hb dX7_s4_26 (by decide) ?_
    refine W.widen (k := 0) (n := 0) (Nat.le_of_ble_eq_true rfl) (Nat.le_of_ble_eq_true rfl) ?_
    obtain ⟨k_2, fs9, hk_2⟩ := gC_of o_h0
    obtain ⟨r0_2, n0_2, c1_2, c2_2, c3_2, r4_2, n4_2, c5_2, c6_2, c7_2, c8_2, r9_2, n9_2, r10_2, n10_2, r11_2, n11_2, c12_2, c13_2, c14_2, c15_2, c16_2, rfl, a_r0_2, f1_2, a_r4_2, f3_2, a_r9_2, f5_2, a_r10_2, f7_2, a_r11_2, f9_2, f10_2, f11_2, f12_2, f13_2, f14_2, -⟩ := (hG.1 _ _ _ _ hk_2).hX7 rfl
    exact W.iret (v := 0) hx hb hr (fun t9 ht9 hW9 => ⟨⟨_, (), rfl, ⟨trivial, (fun f9 e9 n9 q9 => by obtain ⟨h1, h2⟩ := vw_n hD hk_2 rfl rfl a_r0_2 q9; rw [h1, h2]; unfold jS4; rw [if_pos (by have e0 : (0 : Int32).toInt = 0 := (by decide); have q_c_1 := i_lt c_1; have q_f1_2 := f1_2; have q_f10_2 := f10_2; have g_c1_2 := i_rg c1_2; have g_x1 := i_rg x1; obtain ⟨u94, q94⟩ := i_sub (rfl : c1_2 - 4 = c1_2 - 4); have e94 : (4 : Int32).toInt = 4 := (by decide); have g94 := i_rg (c1_2 - 4); omega)])⟩, ⟨by rw [ht9]; exact hP, hD⟩⟩, hS.F ht9⟩) hS.2.2 dX7_s4_27
  · refine lv_iload_n hx hb dX7_s4_4 rfl (lv_at hl 1 rfl) ?_
    refine lv_aload_n hx hb dX7_s4_5 rfl (lv_at hl 0 rfl) ?_
    obtain ⟨k_3, fs9, hk_3⟩ := gC_of o_h0
    obtain ⟨r0_3, n0_3, c1_3, c2_3, c3_3, r4_3, n4_3, c5_3, c6_3, c7_3, c8_3, r9_3, n9_3, r10_3, n10_3, r11_3, n11_3, c12_3, c13_3, c14_3, c15_3, c16_3, rfl, a_r0_3, f1_3, a_r4_3, f3_3, a_r9_3, f5_3, a_r10_3, f7_3, a_r11_3, f9_3, f10_3, f11_3, f12_3, f13_3, f14_3, -⟩ := (hG.1 _ _ _ _ hk_3).hX7 rfl
    refine va_get (D := gD g) (ci := 6) (v := .int c1_3) (C := RX7) (T := TX7) (N := 17) hx hb hts inX7 hown hK hP k_3 hk_3 rfl 1 (by decide) (hts _ kw_1275) (fun _ h9 => h9) rfl dX7_s4_6 ?_
    refine lv_iconst (v := 4) hx hb dX7_s4_9 (by decide) ?_
    refine lv_isub hx hb dX7_s4_10 ?_
    refine lv_topi (fun z_4 ez_4 => ?_)
    refine lv_icmp_gt (tgt := 26) hx hb dX7_s4_11 (by decide) (fun c_5 => ?_) (fun c_5 => ?_)
    · refine lv_iconst (v := 0) hx hb dX7_s4_26 (by decide) ?_
      refine W.widen (k := 0) (n := 0) (Nat.le_of_ble_eq_true rfl) (Nat.le_of_ble_eq_true rfl) ?_
      exact W.iret (v := 0) hx hb hr (fun t9 ht9 hW9 => ⟨⟨_, (), rfl, ⟨trivial, (fun f9 e9 n9 q9 => by obtain ⟨h1, h2⟩ := vw_n hD hk_3 rfl rfl a_r0_3 q9; rw [h1, h2]; unfold jS4; rw [if_pos (by have e0 : (0 : Int32).toInt = 0 := (by decide); have e4 : (4 : Int32).toInt = 4 := (by decide); have q_c_1 := i_nlt c_1; have q_f1_3 := f1_3; have q_f10_3 := f10_3; obtain ⟨u_z_4, q_z_4⟩ := i_sub ez_4; have q_c_5 := i_lt c_5; have g_c1_3 := i_rg c1_3; have g_x1 := i_rg x1; have g_z_4 := i_rg z_4; obtain ⟨u94, q94⟩ := i_sub (rfl : c1_3 - 4 = c1_3 - 4); have e94 : (4 : Int32).toInt = 4 := (by decide); have g94 := i_rg (c1_3 - 4); omega)])⟩, ⟨by rw [ht9]; exact hP, hD⟩⟩, hS.F ht9⟩) hS.2.2 dX7_s4_27
    · refine lv_aload_n hx hb dX7_s4_14 rfl (lv_at hl 0 rfl) ?_
      refine va_get (D := gD g) (ci := 6) (v := .int c1_3) (C := RX7) (T := TX7) (N := 17) hx hb hts inX7 hown hK hP k_3 hk_3 rfl 1 (by decide) (hts _ kw_1275) (fun _ h9 => h9) rfl dX7_s4_15 ?_
      refine lv_aload_n hx hb dX7_s4_18 rfl (lv_at hl 0 rfl) ?_
      refine va_get (D := gD g) (ci := 6) (v := .ref r0_3) (C := RX7) (T := TX7) (N := 17) hx hb hts inX7 hown hK hP k_3 hk_3 rfl 0 (by decide) (hts _ kw_1341) (fun _ h9 => h9) rfl dX7_s4_19 ?_
      obtain ⟨k_6, f_6, hk_6⟩ := gI_of a_r0_3
      obtain ⟨z_7, ez_7⟩ : ∃ z : Int32, Int32.ofNat n0_3 = z := ⟨_, rfl⟩
      refine va_alen (v := z_7) hx hb hK hP k_6 0 hk_6 rfl ez_7 dX7_s4_22 ?_
      refine lv_icmp_le (tgt := 28) hx hb dX7_s4_23 (by decide) (fun c_8 => ?_) (fun c_8 => ?_)
      · refine lv_aload_n hx hb dX7_s4_28 rfl (lv_at hl 0 rfl) ?_
        refine va_get (D := gD g) (ci := 6) (v := .ref r0_3) (C := RX7) (T := TX7) (N := 17) hx hb hts inX7 hown hK hP k_3 hk_3 rfl 0 (by decide) (hts _ kw_1341) (fun _ h9 => h9) rfl dX7_s4_29 ?_
        refine lv_iload_n hx hb dX7_s4_32 rfl (lv_at hl 1 rfl) ?_
        refine va_bald hx hb hK hP k_6 0 hk_6 rfl (i_in2 (by have e0 : (0 : Int32).toInt = 0 := (by decide); have e4 : (4 : Int32).toInt = 4 := (by decide); have q_c_1 := i_nlt c_1; have q_f1_3 := f1_3; have q_c_5 := i_nlt c_5; have q_z_7 := i_len ez_7 f1_3; obtain ⟨u_z_4, q_z_4⟩ := i_sub ez_4; have q_c_8 := i_le c_8; have q_f10_3 := f10_3; have g_c1_3 := i_rg c1_3; have g_x1 := i_rg x1; have g_z_4 := i_rg z_4; have g_z_7 := i_rg z_7; omega)) dX7_s4_33 ?_
        refine lv_topi (fun z_9 ez_9 => ?_)
        refine lv_bipush (v := 24) hx hb dX7_s4_34 (by decide) ?_
        refine lv_ishl hx hb dX7_s4_36 ?_
        refine lv_topi (fun z_10 ez_10 => ?_)
        refine lv_aload_n hx hb dX7_s4_37 rfl (lv_at hl 0 rfl) ?_
        refine va_get (D := gD g) (ci := 6) (v := .ref r0_3) (C := RX7) (T := TX7) (N := 17) hx hb hts inX7 hown hK hP k_3 hk_3 rfl 0 (by decide) (hts _ kw_1341) (fun _ h9 => h9) rfl dX7_s4_38 ?_
        refine lv_iload_n hx hb dX7_s4_41 rfl (lv_at hl 1 rfl) ?_
        refine lv_iconst (v := 1) hx hb dX7_s4_42 (by decide) ?_
        refine lv_iadd hx hb dX7_s4_43 ?_
        refine lv_topi (fun z_11 ez_11 => ?_)
        refine va_bald hx hb hK hP k_6 0 hk_6 rfl (i_in2 (by have e0 : (0 : Int32).toInt = 0 := (by decide); have e1 : (1 : Int32).toInt = 1 := (by decide); have e4 : (4 : Int32).toInt = 4 := (by decide); have q_f1_3 := f1_3; have q_z_7 := i_len ez_7 f1_3; obtain ⟨u_z_11, q_z_11⟩ := i_add ez_11; have q_c_1 := i_nlt c_1; have q_c_5 := i_nlt c_5; have q_c_8 := i_le c_8; have q_f10_3 := f10_3; obtain ⟨u_z_4, q_z_4⟩ := i_sub ez_4; have g_c1_3 := i_rg c1_3; have g_x1 := i_rg x1; have g_z_11 := i_rg z_11; have g_z_4 := i_rg z_4; have g_z_7 := i_rg z_7; omega)) dX7_s4_44 ?_
        refine lv_topi (fun z_12 ez_12 => ?_)
        refine lv_sipush (v := 255) hx hb dX7_s4_45 (by decide) ?_
        refine lv_iand hx hb dX7_s4_48 ?_
        refine lv_topi (fun z_13 ez_13 => ?_)
        refine lv_bipush (v := 16) hx hb dX7_s4_49 (by decide) ?_
        refine lv_ishl hx hb dX7_s4_51 ?_
        refine lv_topi (fun z_14 ez_14 => ?_)
        refine lv_ior hx hb dX7_s4_52 ?_
        refine lv_topi (fun z_15 ez_15 => ?_)
        refine lv_aload_n hx hb dX7_s4_53 rfl (lv_at hl 0 rfl) ?_
        refine va_get (D := gD g) (ci := 6) (v := .ref r0_3) (C := RX7) (T := TX7) (N := 17) hx hb hts inX7 hown hK hP k_3 hk_3 rfl 0 (by decide) (hts _ kw_1341) (fun _ h9 => h9) rfl dX7_s4_54 ?_
        refine lv_iload_n hx hb dX7_s4_57 rfl (lv_at hl 1 rfl) ?_
        refine lv_iconst (v := 2) hx hb dX7_s4_58 (by decide) ?_
        refine lv_iadd hx hb dX7_s4_59 ?_
        refine lv_topi (fun z_16 ez_16 => ?_)
        refine va_bald hx hb hK hP k_6 0 hk_6 rfl (i_in2 (by have e0 : (0 : Int32).toInt = 0 := (by decide); have e1 : (1 : Int32).toInt = 1 := (by decide); have e2 : (2 : Int32).toInt = 2 := (by decide); have e4 : (4 : Int32).toInt = 4 := (by decide); have q_f1_3 := f1_3; have q_z_7 := i_len ez_7 f1_3; obtain ⟨u_z_16, q_z_16⟩ := i_add ez_16; have q_c_1 := i_nlt c_1; have q_c_5 := i_nlt c_5; have q_c_8 := i_le c_8; obtain ⟨u_z_11, q_z_11⟩ := i_add ez_11; have q_f10_3 := f10_3; obtain ⟨u_z_4, q_z_4⟩ := i_sub ez_4; have g_c1_3 := i_rg c1_3; have g_x1 := i_rg x1; have g_z_11 := i_rg z_11; have g_z_16 := i_rg z_16; have g_z_4 := i_rg z_4; have g_z_7 := i_rg z_7; omega)) dX7_s4_60 ?_
        refine lv_topi (fun z_17 ez_17 => ?_)
        refine lv_sipush (v := 255) hx hb dX7_s4_61 (by decide) ?_
        refine lv_iand hx hb dX7_s4_64 ?_
        refine lv_topi (fun z_18 ez_18 => ?_)
        refine lv_bipush (v := 8) hx hb dX7_s4_65 (by decide) ?_
        refine lv_ishl hx hb dX7_s4_67 ?_
        refine lv_topi (fun z_19 ez_19 => ?_)
        refine lv_ior hx hb dX7_s4_68 ?_
        refine lv_topi (fun z_20 ez_20 => ?_)
        refine lv_aload_n hx hb dX7_s4_69 rfl (lv_at hl 0 rfl) ?_
        refine va_get (D := gD g) (ci := 6) (v := .ref r0_3) (C := RX7) (T := TX7) (N := 17) hx hb hts inX7 hown hK hP k_3 hk_3 rfl 0 (by decide) (hts _ kw_1341) (fun _ h9 => h9) rfl dX7_s4_70 ?_
        refine lv_iload_n hx hb dX7_s4_73 rfl (lv_at hl 1 rfl) ?_
        refine lv_iconst (v := 3) hx hb dX7_s4_74 (by decide) ?_
        refine lv_iadd hx hb dX7_s4_75 ?_
        refine lv_topi (fun z_21 ez_21 => ?_)
        refine va_bald hx hb hK hP k_6 0 hk_6 rfl (i_in2 (by have e0 : (0 : Int32).toInt = 0 := (by decide); have e1 : (1 : Int32).toInt = 1 := (by decide); have e2 : (2 : Int32).toInt = 2 := (by decide); have e3 : (3 : Int32).toInt = 3 := (by decide); have e4 : (4 : Int32).toInt = 4 := (by decide); have q_f1_3 := f1_3; have q_z_7 := i_len ez_7 f1_3; obtain ⟨u_z_21, q_z_21⟩ := i_add ez_21; have q_c_1 := i_nlt c_1; have q_c_5 := i_nlt c_5; have q_c_8 := i_le c_8; obtain ⟨u_z_11, q_z_11⟩ := i_add ez_11; obtain ⟨u_z_16, q_z_16⟩ := i_add ez_16; have q_f10_3 := f10_3; obtain ⟨u_z_4, q_z_4⟩ := i_sub ez_4; have g_c1_3 := i_rg c1_3; have g_x1 := i_rg x1; have g_z_11 := i_rg z_11; have g_z_16 := i_rg z_16; have g_z_21 := i_rg z_21; have g_z_4 := i_rg z_4; have g_z_7 := i_rg z_7; omega)) dX7_s4_76 ?_
        refine lv_topi (fun z_22 ez_22 => ?_)
        refine lv_sipush (v := 255) hx hb dX7_s4_77 (by decide) ?_
        refine lv_iand hx hb dX7_s4_80 ?_
        refine lv_topi (fun z_23 ez_23 => ?_)
        refine lv_ior hx hb dX7_s4_81 ?_
        refine lv_topi (fun z_24 ez_24 => ?_)
        refine W.widen (k := 0) (n := 0) (Nat.le_of_ble_eq_true rfl) (Nat.le_of_ble_eq_true rfl) ?_
        exact W.iret (v := z_24) hx hb hr (fun t9 ht9 hW9 => ⟨⟨_, (), rfl, ⟨trivial, (fun f9 e9 n9 q9 => by obtain ⟨h0, h1, h2⟩ := vw_un hD hk_3 rfl rfl hk_6 q9; rw [h0, h1, h2]; unfold jS4; rw [if_neg (by have e0 : (0 : Int32).toInt = 0 := (by decide); have e1 : (1 : Int32).toInt = 1 := (by decide); have e2 : (2 : Int32).toInt = 2 := (by decide); have e3 : (3 : Int32).toInt = 3 := (by decide); have e4 : (4 : Int32).toInt = 4 := (by decide); have q_c_1 := i_nlt c_1; have q_f1_3 := f1_3; have q_f10_3 := f10_3; obtain ⟨u_z_4, q_z_4⟩ := i_sub ez_4; have q_c_5 := i_nlt c_5; have q_z_7 := i_len ez_7 f1_3; have q_c_8 := i_le c_8; obtain ⟨u_z_11, q_z_11⟩ := i_add ez_11; obtain ⟨u_z_16, q_z_16⟩ := i_add ez_16; obtain ⟨u_z_21, q_z_21⟩ := i_add ez_21; have g_c1_3 := i_rg c1_3; have g_x1 := i_rg x1; have g_z_11 := i_rg z_11; have g_z_16 := i_rg z_16; have g_z_21 := i_rg z_21; have g_z_4 := i_rg z_4; have g_z_7 := i_rg z_7; obtain ⟨u94, q94⟩ := i_sub (rfl : c1_3 - 4 = c1_3 - 4); have e94 : (4 : Int32).toInt = 4 := (by decide); have g94 := i_rg (c1_3 - 4); omega)]; simp only [← ez_4, ← ez_9, ← ez_10, ← ez_11, ← ez_12, ← ez_13, ← ez_14, ← ez_15, ← ez_16, ← ez_17, ← ez_18, ← ez_19, ← ez_20, ← ez_21, ← ez_22, ← ez_23, ← ez_24])⟩, ⟨by rw [ht9]; exact hP, hD⟩⟩, hS.F ht9⟩) hS.2.2 dX7_s4_82
      · refine lv_iconst (v := 0) hx hb dX7_s4_26 (by decide) ?_
        refine W.widen (k := 0) (n := 0) (Nat.le_of_ble_eq_true rfl) (Nat.le_of_ble_eq_true rfl) ?_
        exact W.iret (v := 0) hx hb hr (fun t9 ht9 hW9 => ⟨⟨_, (), rfl, ⟨trivial, (fun f9 e9 n9 q9 => by obtain ⟨h1, h2⟩ := vw_n hD hk_3 rfl rfl a_r0_3 q9; rw [h1, h2]; unfold jS4; rw [if_pos (by have e0 : (0 : Int32).toInt = 0 := (by decide); have e4 : (4 : Int32).toInt = 4 := (by decide); have q_c_1 := i_nlt c_1; have q_f1_3 := f1_3; have q_f10_3 := f10_3; obtain ⟨u_z_4, q_z_4⟩ := i_sub ez_4; have q_c_5 := i_nlt c_5; have q_z_7 := i_len ez_7 f1_3; have q_c_8 := i_nle c_8; have g_c1_3 := i_rg c1_3; have g_x1 := i_rg x1; have g_z_4 := i_rg z_4; have g_z_7 := i_rg z_7; obtain ⟨u94, q94⟩ := i_sub (rfl : c1_3 - 4 = c1_3 - 4); have e94 : (4 : Int32).toInt = 4 := (by decide); have g94 := i_rg (c1_3 - 4); omega)])⟩, ⟨by rw [ht9]; exact hP, hD⟩⟩, hS.F ht9⟩) hS.2.2 dX7_s4_27
set_option maxHeartbeats 1000000 in
set_option maxRecDepth 100000 in
theorem m_X2_u1_x (l : Launch) (g : Gm) (sz : Nat) (ws : va_W) (h0 : Nat) (x1 : Int32) (hG : Good g ws) (o_h0 : gC ws h0 2) : Met l yX2_u1 (wt yX2_u1 cX2_u1 2 (some .int)) ({ frames := 1, cells := 0, slots := 0, locals := 21 }) (va_Pc [.ref h0, .int x1] (st_G g sz ws)) (va_Qi (fun (r : Int32) (u9 : Unit) => (True) ∧ (∀ (f : Nat → Int32) (e : Int32) (n : Nat) (cd sz : Int32), vx ws h0 f e n cd sz → r = kU1 f e n cd sz x1)) (gQ0 g (va_A ws sz) ws) (va_A ws sz)) (0) (0) (va_A ws sz) := by
  refine Met.ofW (cc := cX2_u1) (maxL := 2) (ret := (some .int)) (by decide) rfl ?_
  intro p e s m args below meth c s₁ B hml hv
  obtain ⟨rfl, hsz, hP, hK, hD0, hex, hE⟩ := hv
  have hx := B.exec
  have hb := B.bytes
  have hr := B.returns
  have hts0 := atoms_spec (ws := wt yX2_u1 cX2_u1 2 (some .int)) B.pre
  have hts : ∀ w ∈ tb, w.before _ s = true := fun w h => hts0 w (List.mem_cons_of_mem _ h)
  have hown : s.vm.findClass RX2 = some m.cls := findClass_of_methodNamed B.named
  subst hsz
  have hD := hD0.self (sz := s.heap.size)
  generalize hAe : va_A ws s.heap.size = A at hD hE ⊢
  have hA : ∀ q : Nat, s.heap.size ≤ q → A q := fun q h => by rw [← hAe]; exact Or.inr h
  have hS : va_S A s.heap s.heap [] := va_S.rf
  have hl := lv_entry ([.ref h0, .int x1]) (n := 2) (Nat.le_of_ble_eq_true rfl)
  rw [lg_entry_eq]
  generalize (lg_sl ([.ref h0, .int x1]) ++ List.replicate (2 - (lg_sl ([.ref h0, .int x1])).length) Slot.unset).toArray = ls at hl ⊢
  have hl : lv_has ls 2 [(0, .ref h0), (1, .int x1)] := hl
  refine lv_iload_n hx hb dX2_u1_0 rfl (lv_at hl 1 rfl) ?_
  refine lv_if_lt (tgt := 12) hx hb dX2_u1_1 (by decide) (fun c_1 => ?_) (fun c_1 => ?_)
  · refine lv_iconst (v := 0) hx hb dX2_u1_12 (by decide) ?_
    refine lv_goto (tgt := 29) hx hb dX2_u1_13 (by decide) ?_
    refine W.widen (k := 0) (n := 0) (Nat.le_of_ble_eq_true rfl) (Nat.le_of_ble_eq_true rfl) ?_
    obtain ⟨k_2, fs9, hk_2⟩ := gC_of o_h0
    obtain ⟨r0_2, c1_2, c2_2, c3_2, c4_2, c5_2, c6_2, r7_2, n7_2, c8_2, c9_2, l10_2, c11_2, rfl, o_r0_2, a_r7_2, f2_2, f3_2, f4_2, -⟩ := (hG.1 _ _ _ _ hk_2).hX2 rfl
    exact W.iret (v := 0) hx hb hr (fun t9 ht9 hW9 => ⟨⟨_, (), rfl, ⟨trivial, (fun f9 e9 n9 c9 s9 q9 => by obtain ⟨w9, h1, h2⟩ := vx_un hD hk_2 rfl rfl rfl q9; rw [h1, h2]; unfold kU1; rw [if_pos (by have e0 : (0 : Int32).toInt = 0 := (by decide); have q_c_1 := i_lt c_1; have q_f4_2 := f4_2; have g_c2_2 := i_rg c2_2; have g_x1 := i_rg x1; omega)])⟩, ⟨by rw [ht9]; exact hP, hD⟩⟩, hS.F ht9⟩) hS.2.2 dX2_u1_29
  · refine lv_iload_n hx hb dX2_u1_4 rfl (lv_at hl 1 rfl) ?_
    refine lv_aload_n hx hb dX2_u1_5 rfl (lv_at hl 0 rfl) ?_
    obtain ⟨k_3, fs9, hk_3⟩ := gC_of o_h0
    obtain ⟨r0_3, c1_3, c2_3, c3_3, c4_3, c5_3, c6_3, r7_3, n7_3, c8_3, c9_3, l10_3, c11_3, rfl, o_r0_3, a_r7_3, f2_3, f3_3, f4_3, -⟩ := (hG.1 _ _ _ _ hk_3).hX2 rfl
    refine va_get (D := gD g) (ci := 2) (v := .int c2_3) (C := RX2) (T := TX2) (N := 12) hx hb hts inX2 hown hK hP k_3 hk_3 rfl 2 (by decide) (hts _ kw_716) (fun _ h9 => h9) rfl dX2_u1_6 ?_
    refine lv_icmp_lt (tgt := 16) hx hb dX2_u1_9 (by decide) (fun c_4 => ?_) (fun c_4 => ?_)
    · refine lv_aload_n hx hb dX2_u1_16 rfl (lv_at hl 0 rfl) ?_
      refine va_get (D := gD g) (ci := 2) (v := .ref r0_3) (C := RX2) (T := TX2) (N := 12) hx hb hts inX2 hown hK hP k_3 hk_3 rfl 0 (by decide) (hts _ kw_632) (fun _ h9 => h9) rfl dX2_u1_17 ?_
      refine lv_aload_n hx hb dX2_u1_20 rfl (lv_at hl 0 rfl) ?_
      refine va_get (D := gD g) (ci := 2) (v := .int c1_3) (C := RX2) (T := TX2) (N := 12) hx hb hts inX2 hown hK hP k_3 hk_3 rfl 1 (by decide) (hts _ kw_718) (fun _ h9 => h9) rfl dX2_u1_21 ?_
      refine lv_iload_n hx hb dX2_u1_24 rfl (lv_at hl 1 rfl) ?_
      refine lv_iadd hx hb dX2_u1_25 ?_
      refine lv_topi (fun z_5 ez_5 => ?_)
      have hFc := gfree hD hS hA
      obtain ⟨k_6, fs_6, hk_6⟩ := gC_of o_r0_3
      refine va_calli (va_runV (As := [.int z_5]) (rest := []) ⟨hx, hb, hml, hown, hts⟩ (m_X7_u1_x l g s.heap.size ws r0_3 (z_5) hG o_r0_3) (cwV 1 hts (gd_V kw_814 kw_1447 kw_1448 kw_710 kw_1446) rfl rfl rfl (by decide +kernel) ⟨Nat.le_of_ble_eq_true rfl, Nat.le_of_ble_eq_true rfl⟩) ⟨gblind, va_recv hK hP (ci := 6) (q0 := k_6) rfl hk_6, fun U hU hW9 => gmk hU hW9 hP hK hD hex hE hS hFc⟩ rfl rfl hl.1 rfl (lv_room (Nat.le_of_ble_eq_true rfl)) dX2_u1_26 ⟨Nat.le_of_ble_eq_true rfl, Nat.le_of_ble_eq_true rfl⟩) hS (fun q _ h => hFc q h) hFc (fun r_7 u9 t9 H1 locs ht9 hvm9 hw9 hB9 hz9 hk9 hS => ?_)
      have hP : va_P (gD g) cl0 ws H1 := by rw [← ht9]; exact hB9.1
      obtain ⟨hw9, xp_8⟩ := hw9
      have h_r_7 := hw9
      clear hB9 hz9 hk9 hvm9 ht9 hw9
      generalize H1 = H at hP hS ⊢
      refine W.widen (k := 0) (n := 0) (Nat.le_of_ble_eq_true rfl) (Nat.le_of_ble_eq_true rfl) ?_
      exact W.iret (v := r_7) hx hb hr (fun t9 ht9 hW9 => ⟨⟨_, (), rfl, ⟨trivial, (fun f9 e9 n9 c9 s9 q9 => by obtain ⟨w9, h1, h2⟩ := vx_un hD hk_3 rfl rfl rfl q9; rw [h1, h2]; unfold kU1; rw [if_neg (by have e0 : (0 : Int32).toInt = 0 := (by decide); have q_c_1 := i_nlt c_1; have q_f4_3 := f4_3; have q_c_4 := i_lt c_4; obtain ⟨u_z_5, q_z_5⟩ := i_add ez_5; have g_c1_3 := i_rg c1_3; have g_c2_3 := i_rg c2_3; have g_x1 := i_rg x1; have g_z_5 := i_rg z_5; omega)]; have y9 := xp_8 _ _ _ w9; simp only [← ez_5, ← y9])⟩, ⟨by rw [ht9]; exact hP, hD⟩⟩, hS.F ht9⟩) hS.2.2 dX2_u1_29
    · refine lv_iconst (v := 0) hx hb dX2_u1_12 (by decide) ?_
      refine lv_goto (tgt := 29) hx hb dX2_u1_13 (by decide) ?_
      refine W.widen (k := 0) (n := 0) (Nat.le_of_ble_eq_true rfl) (Nat.le_of_ble_eq_true rfl) ?_
      exact W.iret (v := 0) hx hb hr (fun t9 ht9 hW9 => ⟨⟨_, (), rfl, ⟨trivial, (fun f9 e9 n9 c9 s9 q9 => by obtain ⟨w9, h1, h2⟩ := vx_un hD hk_3 rfl rfl rfl q9; rw [h1, h2]; unfold kU1; rw [if_pos (by have e0 : (0 : Int32).toInt = 0 := (by decide); have q_c_1 := i_nlt c_1; have q_f4_3 := f4_3; have q_c_4 := i_nlt c_4; have g_c2_3 := i_rg c2_3; have g_x1 := i_rg x1; omega)])⟩, ⟨by rw [ht9]; exact hP, hD⟩⟩, hS.F ht9⟩) hS.2.2 dX2_u1_29
set_option maxHeartbeats 1000000 in
set_option maxRecDepth 100000 in
theorem m_X2_s4_x (l : Launch) (g : Gm) (sz : Nat) (ws : va_W) (h0 : Nat) (x1 : Int32) (hG : Good g ws) (o_h0 : gC ws h0 2) : Met l yX2_s4 (wt yX2_s4 cX2_s4 2 (some .int)) ({ frames := 1, cells := 0, slots := 0, locals := 21 }) (va_Pc [.ref h0, .int x1] (st_G g sz ws)) (va_Qi (fun (r : Int32) (u9 : Unit) => (True) ∧ (∀ (f : Nat → Int32) (e : Int32) (n : Nat) (cd sz : Int32), vx ws h0 f e n cd sz → r = kS4 f e n cd sz x1)) (gQ0 g (va_A ws sz) ws) (va_A ws sz)) (0) (0) (va_A ws sz) := by
  refine Met.ofW (cc := cX2_s4) (maxL := 2) (ret := (some .int)) (by decide) rfl ?_
  intro p e s m args below meth c s₁ B hml hv
  obtain ⟨rfl, hsz, hP, hK, hD0, hex, hE⟩ := hv
  have hx := B.exec
  have hb := B.bytes
  have hr := B.returns
  have hts0 := atoms_spec (ws := wt yX2_s4 cX2_s4 2 (some .int)) B.pre
  have hts : ∀ w ∈ tb, w.before _ s = true := fun w h => hts0 w (List.mem_cons_of_mem _ h)
  have hown : s.vm.findClass RX2 = some m.cls := findClass_of_methodNamed B.named
  subst hsz
  have hD := hD0.self (sz := s.heap.size)
  generalize hAe : va_A ws s.heap.size = A at hD hE ⊢
  have hA : ∀ q : Nat, s.heap.size ≤ q → A q := fun q h => by rw [← hAe]; exact Or.inr h
  have hS : va_S A s.heap s.heap [] := va_S.rf
  have hl := lv_entry ([.ref h0, .int x1]) (n := 2) (Nat.le_of_ble_eq_true rfl)
  rw [lg_entry_eq]
  generalize (lg_sl ([.ref h0, .int x1]) ++ List.replicate (2 - (lg_sl ([.ref h0, .int x1])).length) Slot.unset).toArray = ls at hl ⊢
  have hl : lv_has ls 2 [(0, .ref h0), (1, .int x1)] := hl
  refine lv_iload_n hx hb dX2_s4_0 rfl (lv_at hl 1 rfl) ?_
  refine lv_if_lt (tgt := 14) hx hb dX2_s4_1 (by decide) (fun c_1 => ?_) (fun c_1 => ?_)
  · refine lv_iconst (v := 0) hx hb dX2_s4_14 (by decide) ?_
    refine lv_goto (tgt := 31) hx hb dX2_s4_15 (by decide) ?_
    refine W.widen (k := 0) (n := 0) (Nat.le_of_ble_eq_true rfl) (Nat.le_of_ble_eq_true rfl) ?_
    obtain ⟨k_2, fs9, hk_2⟩ := gC_of o_h0
    obtain ⟨r0_2, c1_2, c2_2, c3_2, c4_2, c5_2, c6_2, r7_2, n7_2, c8_2, c9_2, l10_2, c11_2, rfl, o_r0_2, a_r7_2, f2_2, f3_2, f4_2, -⟩ := (hG.1 _ _ _ _ hk_2).hX2 rfl
    exact W.iret (v := 0) hx hb hr (fun t9 ht9 hW9 => ⟨⟨_, (), rfl, ⟨trivial, (fun f9 e9 n9 c9 s9 q9 => by obtain ⟨w9, h1, h2⟩ := vx_un hD hk_2 rfl rfl rfl q9; rw [h1, h2]; unfold kS4; rw [if_pos (by have e0 : (0 : Int32).toInt = 0 := (by decide); have q_c_1 := i_lt c_1; have q_f4_2 := f4_2; have g_c2_2 := i_rg c2_2; have g_x1 := i_rg x1; obtain ⟨u94, q94⟩ := i_sub (rfl : c2_2 - 4 = c2_2 - 4); have e94 : (4 : Int32).toInt = 4 := (by decide); have g94 := i_rg (c2_2 - 4); omega)])⟩, ⟨by rw [ht9]; exact hP, hD⟩⟩, hS.F ht9⟩) hS.2.2 dX2_s4_31
  · refine lv_iload_n hx hb dX2_s4_4 rfl (lv_at hl 1 rfl) ?_
    refine lv_aload_n hx hb dX2_s4_5 rfl (lv_at hl 0 rfl) ?_
    obtain ⟨k_3, fs9, hk_3⟩ := gC_of o_h0
    obtain ⟨r0_3, c1_3, c2_3, c3_3, c4_3, c5_3, c6_3, r7_3, n7_3, c8_3, c9_3, l10_3, c11_3, rfl, o_r0_3, a_r7_3, f2_3, f3_3, f4_3, -⟩ := (hG.1 _ _ _ _ hk_3).hX2 rfl
    refine va_get (D := gD g) (ci := 2) (v := .int c2_3) (C := RX2) (T := TX2) (N := 12) hx hb hts inX2 hown hK hP k_3 hk_3 rfl 2 (by decide) (hts _ kw_716) (fun _ h9 => h9) rfl dX2_s4_6 ?_
    refine lv_iconst (v := 4) hx hb dX2_s4_9 (by decide) ?_
    refine lv_isub hx hb dX2_s4_10 ?_
    refine lv_topi (fun z_4 ez_4 => ?_)
    refine lv_icmp_le (tgt := 18) hx hb dX2_s4_11 (by decide) (fun c_5 => ?_) (fun c_5 => ?_)
    · refine lv_aload_n hx hb dX2_s4_18 rfl (lv_at hl 0 rfl) ?_
      refine va_get (D := gD g) (ci := 2) (v := .ref r0_3) (C := RX2) (T := TX2) (N := 12) hx hb hts inX2 hown hK hP k_3 hk_3 rfl 0 (by decide) (hts _ kw_632) (fun _ h9 => h9) rfl dX2_s4_19 ?_
      refine lv_aload_n hx hb dX2_s4_22 rfl (lv_at hl 0 rfl) ?_
      refine va_get (D := gD g) (ci := 2) (v := .int c1_3) (C := RX2) (T := TX2) (N := 12) hx hb hts inX2 hown hK hP k_3 hk_3 rfl 1 (by decide) (hts _ kw_718) (fun _ h9 => h9) rfl dX2_s4_23 ?_
      refine lv_iload_n hx hb dX2_s4_26 rfl (lv_at hl 1 rfl) ?_
      refine lv_iadd hx hb dX2_s4_27 ?_
      refine lv_topi (fun z_6 ez_6 => ?_)
      have hFc := gfree hD hS hA
      obtain ⟨k_7, fs_7, hk_7⟩ := gC_of o_r0_3
      refine va_calli (va_runV (As := [.int z_6]) (rest := []) ⟨hx, hb, hml, hown, hts⟩ (m_X7_s4_x l g s.heap.size ws r0_3 (z_6) hG o_r0_3) (cwV 1 hts (gd_V kw_634 kw_1429 kw_1430 kw_710 kw_1428) rfl rfl rfl (by decide +kernel) ⟨Nat.le_of_ble_eq_true rfl, Nat.le_of_ble_eq_true rfl⟩) ⟨gblind, va_recv hK hP (ci := 6) (q0 := k_7) rfl hk_7, fun U hU hW9 => gmk hU hW9 hP hK hD hex hE hS hFc⟩ rfl rfl hl.1 rfl (lv_room (Nat.le_of_ble_eq_true rfl)) dX2_s4_28 ⟨Nat.le_of_ble_eq_true rfl, Nat.le_of_ble_eq_true rfl⟩) hS (fun q _ h => hFc q h) hFc (fun r_8 u9 t9 H1 locs ht9 hvm9 hw9 hB9 hz9 hk9 hS => ?_)
      have hP : va_P (gD g) cl0 ws H1 := by rw [← ht9]; exact hB9.1
      obtain ⟨hw9, xp_9⟩ := hw9
      clear hB9 hz9 hk9 hvm9 ht9 hw9
      generalize H1 = H at hP hS ⊢
      refine W.widen (k := 0) (n := 0) (Nat.le_of_ble_eq_true rfl) (Nat.le_of_ble_eq_true rfl) ?_
      exact W.iret (v := r_8) hx hb hr (fun t9 ht9 hW9 => ⟨⟨_, (), rfl, ⟨trivial, (fun f9 e9 n9 c9 s9 q9 => by obtain ⟨w9, h1, h2⟩ := vx_un hD hk_3 rfl rfl rfl q9; rw [h1, h2]; unfold kS4; rw [if_neg (by have e0 : (0 : Int32).toInt = 0 := (by decide); have e4 : (4 : Int32).toInt = 4 := (by decide); have q_c_1 := i_nlt c_1; have q_f4_3 := f4_3; obtain ⟨u_z_4, q_z_4⟩ := i_sub ez_4; have q_c_5 := i_le c_5; obtain ⟨u_z_6, q_z_6⟩ := i_add ez_6; have g_c1_3 := i_rg c1_3; have g_c2_3 := i_rg c2_3; have g_x1 := i_rg x1; have g_z_4 := i_rg z_4; have g_z_6 := i_rg z_6; obtain ⟨u94, q94⟩ := i_sub (rfl : c2_3 - 4 = c2_3 - 4); have e94 : (4 : Int32).toInt = 4 := (by decide); have g94 := i_rg (c2_3 - 4); omega)]; have y9 := xp_9 _ _ _ w9; simp only [← ez_4, ← ez_6, ← y9])⟩, ⟨by rw [ht9]; exact hP, hD⟩⟩, hS.F ht9⟩) hS.2.2 dX2_s4_31
    · refine lv_iconst (v := 0) hx hb dX2_s4_14 (by decide) ?_
      refine lv_goto (tgt := 31) hx hb dX2_s4_15 (by decide) ?_
      refine W.widen (k := 0) (n := 0) (Nat.le_of_ble_eq_true rfl) (Nat.le_of_ble_eq_true rfl) ?_
      exact W.iret (v := 0) hx hb hr (fun t9 ht9 hW9 => ⟨⟨_, (), rfl, ⟨trivial, (fun f9 e9 n9 c9 s9 q9 => by obtain ⟨w9, h1, h2⟩ := vx_un hD hk_3 rfl rfl rfl q9; rw [h1, h2]; unfold kS4; rw [if_pos (by have e0 : (0 : Int32).toInt = 0 := (by decide); have e4 : (4 : Int32).toInt = 4 := (by decide); have q_c_1 := i_nlt c_1; have q_f4_3 := f4_3; obtain ⟨u_z_4, q_z_4⟩ := i_sub ez_4; have q_c_5 := i_nle c_5; have g_c2_3 := i_rg c2_3; have g_x1 := i_rg x1; have g_z_4 := i_rg z_4; obtain ⟨u94, q94⟩ := i_sub (rfl : c2_3 - 4 = c2_3 - 4); have e94 : (4 : Int32).toInt = 4 := (by decide); have g94 := i_rg (c2_3 - 4); omega)])⟩, ⟨by rw [ht9]; exact hP, hD⟩⟩, hS.F ht9⟩) hS.2.2 dX2_s4_31
set_option maxHeartbeats 1000000 in
set_option maxRecDepth 100000 in
theorem m_X2_numbersOf_x (l : Launch) (g : Gm) (sz : Nat) (ws : va_W) (x0 : Int32) (hG : Good g ws)  : Met l yX2_numbersOf (wt yX2_numbersOf cX2_numbersOf 1 (some .int)) ({ frames := 0, cells := 0, slots := 0, locals := 0 }) (va_Pc [.int x0] (st_G g sz ws)) (va_Qi (fun (r : Int32) (u9 : Unit) => (x0.toInt < 0 ∨ 2000 < x0.toInt ∨ (x0.toInt + 1 ≤ r.toInt ∧ r.toInt ≤ x0.toInt + 4)) ∧ (r = kNum x0)) (gQ0 g (va_A ws sz) ws) (va_A ws sz)) (0) (0) (va_A ws sz) := by
  refine Met.ofW (cc := cX2_numbersOf) (maxL := 1) (ret := (some .int)) (by decide) rfl ?_
  intro p e s m args below meth c s₁ B hml hv
  obtain ⟨rfl, hsz, hP, hK, hD0, hex, hE⟩ := hv
  have hx := B.exec
  have hb := B.bytes
  have hr := B.returns
  have hts0 := atoms_spec (ws := wt yX2_numbersOf cX2_numbersOf 1 (some .int)) B.pre
  have hts : ∀ w ∈ tb, w.before _ s = true := fun w h => hts0 w (List.mem_cons_of_mem _ h)
  have hown : s.vm.findClass RX2 = some m.cls := findClass_of_methodNamed B.named
  subst hsz
  have hD := hD0.self (sz := s.heap.size)
  generalize hAe : va_A ws s.heap.size = A at hD hE ⊢
  have hA : ∀ q : Nat, s.heap.size ≤ q → A q := fun q h => by rw [← hAe]; exact Or.inr h
  have hS : va_S A s.heap s.heap [] := va_S.rf
  have hl := lv_entry ([.int x0]) (n := 1) (Nat.le_of_ble_eq_true rfl)
  rw [lg_entry_eq]
  generalize (lg_sl ([.int x0]) ++ List.replicate (1 - (lg_sl ([.int x0])).length) Slot.unset).toArray = ls at hl ⊢
  have hl : lv_has ls 1 [(0, .int x0)] := hl
  refine lv_iload_n hx hb dX2_numbersOf_0 rfl (lv_at hl 0 rfl) ?_
  refine lv_iconst (v := 4) hx hb dX2_numbersOf_1 (by decide) ?_
  refine lv_iadd hx hb dX2_numbersOf_2 ?_
  refine lv_topi (fun z_1 ez_1 => ?_)
  refine lv_bipush (v := (-4)) hx hb dX2_numbersOf_3 (by decide) ?_
  refine lv_iand hx hb dX2_numbersOf_5 ?_
  refine lv_topi (fun z_2 ez_2 => ?_)
  refine W.widen (k := 0) (n := 0) (Nat.le_of_ble_eq_true rfl) (Nat.le_of_ble_eq_true rfl) ?_
  exact W.iret (v := z_2) hx hb hr (fun t9 ht9 hW9 => ⟨⟨_, (), rfl, ⟨(by have e4 : (4 : Int32).toInt = 4 := (by decide); obtain ⟨u_z_1, q_z_1⟩ := i_add ez_1; have q_z_2 := i_m4 ez_2 rfl; have g_x0 := i_rg x0; have g_z_1 := i_rg z_1; have g_z_2 := i_rg z_2; omega), (by unfold kNum; simp only [← ez_1, ← ez_2])⟩, ⟨by rw [ht9]; exact hP, hD⟩⟩, hS.F ht9⟩) hS.2.2 dX2_numbersOf_6
set_option maxHeartbeats 1000000 in
set_option maxRecDepth 100000 in
theorem m_X2_tableLength_x (l : Launch) (g : Gm) (sz : Nat) (ws : va_W) (h0 : Nat) (x1 : Int32) (hG : Good g ws) (o_h0 : gC ws h0 2) : Met l yX2_tableLength (wt yX2_tableLength cX2_tableLength 5 (some .int)) ({ frames := 2, cells := 0, slots := 0, locals := 42 }) (va_Pc [.ref h0, .int x1] (st_G g sz ws)) (va_Qi (fun (r : Int32) (u9 : Unit) => (x1.toInt < 0 ∨ 1200 < x1.toInt ∨ r.toInt ≤ 2000) ∧ (∀ (f : Nat → Int32) (e : Int32) (n : Nat) (cd sz : Int32), vx ws h0 f e n cd sz → r = kTab f e n cd sz x1)) (gQ0 g (va_A ws sz) ws) (va_A ws sz)) (0) (0) (va_A ws sz) := by
  refine Met.ofW (cc := cX2_tableLength) (maxL := 5) (ret := (some .int)) (by decide) rfl ?_
  intro p e s m args below meth c s₁ B hml hv
  obtain ⟨rfl, hsz, hP, hK, hD0, hex, hE⟩ := hv
  have hx := B.exec
  have hb := B.bytes
  have hr := B.returns
  have hts0 := atoms_spec (ws := wt yX2_tableLength cX2_tableLength 5 (some .int)) B.pre
  have hts : ∀ w ∈ tb, w.before _ s = true := fun w h => hts0 w (List.mem_cons_of_mem _ h)
  have hown : s.vm.findClass RX2 = some m.cls := findClass_of_methodNamed B.named
  subst hsz
  have hD := hD0.self (sz := s.heap.size)
  generalize hAe : va_A ws s.heap.size = A at hD hE ⊢
  have hA : ∀ q : Nat, s.heap.size ≤ q → A q := fun q h => by rw [← hAe]; exact Or.inr h
  have hS : va_S A s.heap s.heap [] := va_S.rf
  have hl := lv_entry ([.ref h0, .int x1]) (n := 5) (Nat.le_of_ble_eq_true rfl)
  rw [lg_entry_eq]
  generalize (lg_sl ([.ref h0, .int x1]) ++ List.replicate (5 - (lg_sl ([.ref h0, .int x1])).length) Slot.unset).toArray = ls at hl ⊢
  have hl : lv_has ls 5 [(0, .ref h0), (1, .int x1)] := hl
  refine lv_iload_n hx hb dX2_tableLength_0 rfl (lv_at hl 1 rfl) ?_
  have hFc := gfree hD hS hA
  refine va_calli (va_runS (As := [.int x1]) (rest := []) ⟨hx, hb, hml, hown, hts⟩ (m_X2_numbersOf_x l g s.heap.size ws (x1) hG ) (va_cwS 1 hts (gd_S kw_686 kw_764 kw_389 kw_763) rfl rfl rfl (by decide +kernel) ⟨Nat.le_of_ble_eq_true rfl, Nat.le_of_ble_eq_true rfl⟩) ⟨gblind, fun U hU hW9 => gmk hU hW9 hP hK hD hex hE hS hFc⟩ rfl rfl hl.1 rfl (lv_room (Nat.le_of_ble_eq_true rfl)) dX2_tableLength_1 ⟨Nat.le_of_ble_eq_true rfl, Nat.le_of_ble_eq_true rfl⟩) hS (fun q _ h => hFc q h) hFc (fun r_1 u9 t9 H1 locs ht9 hvm9 hw9 hB9 hz9 hk9 hS => ?_)
  have hP : va_P (gD g) cl0 ws H1 := by rw [← ht9]; exact hB9.1
  obtain ⟨hw9, xp_2⟩ := hw9
  have h_r_1 := hw9
  clear hB9 hz9 hk9 hvm9 ht9 hw9
  generalize H1 = H at hP hS ⊢
  refine lv_istore_n (lv' := [(2, .int r_1), (0, .ref h0), (1, .int x1)]) hx hb dX2_tableLength_4 rfl hl (by decide) rfl (fun ls hl => ?_)
  refine lv_aload_n hx hb dX2_tableLength_5 rfl (lv_at hl 1 rfl) ?_
  refine lv_iload_n hx hb dX2_tableLength_6 rfl (lv_at hl 0 rfl) ?_
  refine lv_bipush (v := 8) hx hb dX2_tableLength_7 (by decide) ?_
  refine lv_iadd hx hb dX2_tableLength_9 ?_
  refine lv_topi (fun z_3 ez_3 => ?_)
  have hFc := gfree hD hS hA
  obtain ⟨k_4, fs_4, hk_4⟩ := gC_of o_h0
  refine va_calli (va_runV (As := [.int z_3]) (rest := []) ⟨hx, hb, hml, hown, hts⟩ (m_X2_s4_x l g H.size ws h0 (z_3) hG o_h0) (cwV 1 hts (gd_V kw_623 kw_790 kw_791 kw_389 kw_789) rfl rfl rfl (by decide +kernel) ⟨Nat.le_of_ble_eq_true rfl, Nat.le_of_ble_eq_true rfl⟩) ⟨gblind, va_recv hK hP (ci := 2) (q0 := k_4) rfl hk_4, fun U hU hW9 => gmk hU hW9 hP hK hD hex hE hS hFc⟩ rfl rfl hl.1 rfl (lv_room (Nat.le_of_ble_eq_true rfl)) dX2_tableLength_10 ⟨Nat.le_of_ble_eq_true rfl, Nat.le_of_ble_eq_true rfl⟩) hS (fun q _ h => hFc q h) hFc (fun r_5 u9 t9 H1 locs ht9 hvm9 hw9 hB9 hz9 hk9 hS => ?_)
  have hP : va_P (gD g) cl0 ws H1 := by rw [← ht9]; exact hB9.1
  obtain ⟨hw9, xp_6⟩ := hw9
  clear hB9 hz9 hk9 hvm9 ht9 hw9
  generalize H1 = H at hP hS ⊢
  obtain ⟨z_7, ez_7⟩ : ∃ y : Int64, (r_5 : Int32).toInt64 = y := ⟨_, rfl⟩
  refine lv_i2l (v := z_7) hx hb dX2_tableLength_13 ez_7 ?_
  refine lv_aload_n hx hb dX2_tableLength_14 rfl (lv_at hl 1 rfl) ?_
  refine lv_iload_n hx hb dX2_tableLength_15 rfl (lv_at hl 0 rfl) ?_
  refine lv_iconst (v := 4) hx hb dX2_tableLength_16 (by decide) ?_
  refine lv_iadd hx hb dX2_tableLength_17 ?_
  refine lv_topi (fun z_8 ez_8 => ?_)
  have hFc := gfree hD hS hA
  obtain ⟨k_9, fs_9, hk_9⟩ := gC_of o_h0
  refine va_calli (va_runV (As := [.int z_8]) (rest := [.long z_7]) ⟨hx, hb, hml, hown, hts⟩ (m_X2_s4_x l g H.size ws h0 (z_8) hG o_h0) (cwV 1 hts (gd_V kw_623 kw_790 kw_791 kw_389 kw_789) rfl rfl rfl (by decide +kernel) ⟨Nat.le_of_ble_eq_true rfl, Nat.le_of_ble_eq_true rfl⟩) ⟨gblind, va_recv hK hP (ci := 2) (q0 := k_9) rfl hk_9, fun U hU hW9 => gmk hU hW9 hP hK hD hex hE hS hFc⟩ rfl rfl hl.1 rfl (lv_room (Nat.le_of_ble_eq_true rfl)) dX2_tableLength_18 ⟨Nat.le_of_ble_eq_true rfl, Nat.le_of_ble_eq_true rfl⟩) hS (fun q _ h => hFc q h) hFc (fun r_10 u9 t9 H1 locs ht9 hvm9 hw9 hB9 hz9 hk9 hS => ?_)
  have hP : va_P (gD g) cl0 ws H1 := by rw [← ht9]; exact hB9.1
  obtain ⟨hw9, xp_11⟩ := hw9
  clear hB9 hz9 hk9 hvm9 ht9 hw9
  generalize H1 = H at hP hS ⊢
  obtain ⟨z_12, ez_12⟩ : ∃ y : Int64, (r_10 : Int32).toInt64 = y := ⟨_, rfl⟩
  refine lv_i2l (v := z_12) hx hb dX2_tableLength_21 ez_12 ?_
  refine lv_lsub hx hb dX2_tableLength_22 ?_
  refine lv_topl (fun z_13 ez_13 => ?_)
  refine lv_lstore_n (lv' := [(3, .long z_13), (2, .int r_1), (0, .ref h0), (1, .int x1)]) hx hb dX2_tableLength_23 rfl hl (by decide) rfl (fun ls hl => ?_)
  refine lv_iload_n hx hb dX2_tableLength_24 rfl (lv_at hl 1 rfl) ?_
  refine lv_bipush (v := 12) hx hb dX2_tableLength_25 (by decide) ?_
  refine lv_iadd hx hb dX2_tableLength_27 ?_
  refine lv_topi (fun z_14 ez_14 => ?_)
  refine lv_aload_n hx hb dX2_tableLength_28 rfl (lv_at hl 2 rfl) ?_
  obtain ⟨k_15, fs9, hk_15⟩ := gC_of o_h0
  obtain ⟨r0_15, c1_15, c2_15, c3_15, c4_15, c5_15, c6_15, r7_15, n7_15, c8_15, c9_15, l10_15, c11_15, rfl, o_r0_15, a_r7_15, f2_15, f3_15, f4_15, -⟩ := (hG.1 _ _ _ _ hk_15).hX2 rfl
  refine va_get (D := gD g) (ci := 2) (v := .int c2_15) (C := RX2) (T := TX2) (N := 12) hx hb hts inX2 hown hK hP k_15 hk_15 rfl 2 (by decide) (hts _ kw_716) (fun _ h9 => h9) rfl dX2_tableLength_29 ?_
  refine lv_icmp_gt (tgt := 49) hx hb dX2_tableLength_32 (by decide) (fun c_16 => ?_) (fun c_16 => ?_)
  · refine lv_iconst (v := 0) hx hb dX2_tableLength_49 (by decide) ?_
    refine W.widen (k := 0) (n := 0) (Nat.le_of_ble_eq_true rfl) (Nat.le_of_ble_eq_true rfl) ?_
    exact W.iret (v := 0) hx hb hr (fun t9 ht9 hW9 => ⟨⟨_, (), rfl, ⟨(by have e0 : (0 : Int32).toInt = 0 := (by decide); have e4 : (4 : Int32).toInt = 4 := (by decide); have e8 : (8 : Int32).toInt = 8 := (by decide); have e12 : (12 : Int32).toInt = 12 := (by decide); have q_r_1 := h_r_1; obtain ⟨u_z_3, q_z_3⟩ := i_add ez_3; obtain ⟨u_z_8, q_z_8⟩ := i_add ez_8; obtain ⟨u_z_14, q_z_14⟩ := i_add ez_14; have q_c_16 := i_lt c_16; have q_f4_15 := f4_15; have g_c2_15 := i_rg c2_15; have g_r_1 := i_rg r_1; have g_x1 := i_rg x1; have g_z_14 := i_rg z_14; have g_z_3 := i_rg z_3; have g_z_8 := i_rg z_8; omega), (fun f9 e9 n9 c9 s9 q9 => by obtain ⟨w9, h1, h2⟩ := vx_un hD hk_15 rfl rfl rfl q9; rw [h1, h2] at q9 ⊢; have y_n := xp_2; have y_a := xp_6 _ _ _ _ _ q9; have y_b := xp_11 _ _ _ _ _ q9; unfold kTab; simp only [← y_n, ← ez_3, ← y_a, ez_7, ← ez_8, ← y_b, ez_12, ← ez_13, ← ez_14]; rw [if_pos (by have e4 : (4 : Int32).toInt = 4 := (by decide); have e8 : (8 : Int32).toInt = 8 := (by decide); have e12 : (12 : Int32).toInt = 12 := (by decide); have q_r_1 := h_r_1; obtain ⟨u_z_3, q_z_3⟩ := i_add ez_3; obtain ⟨u_z_8, q_z_8⟩ := i_add ez_8; obtain ⟨u_z_14, q_z_14⟩ := i_add ez_14; have q_f4_15 := f4_15; have q_c_16 := i_lt c_16; have g_c2_15 := i_rg c2_15; have g_r_1 := i_rg r_1; have g_x1 := i_rg x1; have g_z_14 := i_rg z_14; have g_z_3 := i_rg z_3; have g_z_8 := i_rg z_8; omega)])⟩, ⟨by rw [ht9]; exact hP, hD⟩⟩, hS.F ht9⟩) hS.2.2 dX2_tableLength_50
  · refine lv_lload_n hx hb dX2_tableLength_35 rfl (lv_at hl 0 rfl) ?_
    refine lv_lconst (v := 0) hx hb dX2_tableLength_36 (by decide) ?_
    refine W.lcmp hx hb dX2_tableLength_37 ?_
    refine lv_topi (fun z_17 ez_17 => ?_)
    refine lv_if_lt (tgt := 49) hx hb dX2_tableLength_38 (by decide) (fun c_18 => ?_) (fun c_18 => ?_)
    · refine lv_iconst (v := 0) hx hb dX2_tableLength_49 (by decide) ?_
      refine W.widen (k := 0) (n := 0) (Nat.le_of_ble_eq_true rfl) (Nat.le_of_ble_eq_true rfl) ?_
      exact W.iret (v := 0) hx hb hr (fun t9 ht9 hW9 => ⟨⟨_, (), rfl, ⟨(by have e0 : (0 : Int32).toInt = 0 := (by decide); have e4 : (4 : Int32).toInt = 4 := (by decide); have e8 : (8 : Int32).toInt = 8 := (by decide); have e12 : (12 : Int32).toInt = 12 := (by decide); have q_r_1 := h_r_1; obtain ⟨u_z_3, q_z_3⟩ := i_add ez_3; obtain ⟨u_z_8, q_z_8⟩ := i_add ez_8; obtain ⟨u_z_14, q_z_14⟩ := i_add ez_14; have q_c_16 := i_nlt c_16; have q_f4_15 := f4_15; have g_c2_15 := i_rg c2_15; have g_r_1 := i_rg r_1; have g_x1 := i_rg x1; have g_z_14 := i_rg z_14; have g_z_3 := i_rg z_3; have g_z_8 := i_rg z_8; omega), (fun f9 e9 n9 c9 s9 q9 => by obtain ⟨w9, h1, h2⟩ := vx_un hD hk_15 rfl rfl rfl q9; rw [h1, h2] at q9 ⊢; have y_n := xp_2; have y_a := xp_6 _ _ _ _ _ q9; have y_b := xp_11 _ _ _ _ _ q9; unfold kTab; simp only [← y_n, ← ez_3, ← y_a, ez_7, ← ez_8, ← y_b, ez_12, ← ez_13, ← ez_14, ← ez_17]; rw [if_pos (by have e0 : (0 : Int32).toInt = 0 := (by decide); have e4 : (4 : Int32).toInt = 4 := (by decide); have e8 : (8 : Int32).toInt = 8 := (by decide); have e12 : (12 : Int32).toInt = 12 := (by decide); have el0 : (0 : Int64).toInt = 0 := (by decide); have q_r_1 := h_r_1; obtain ⟨u_z_3, q_z_3⟩ := i_add ez_3; obtain ⟨u_z_8, q_z_8⟩ := i_add ez_8; obtain ⟨u_z_14, q_z_14⟩ := i_add ez_14; have q_f4_15 := f4_15; have q_c_16 := i_nlt c_16; have q_z_17 := l_cmp ez_17; have q_c_18 := i_lt c_18; have g_c2_15 := i_rg c2_15; have g_r_1 := i_rg r_1; have g_x1 := i_rg x1; have g_z_14 := i_rg z_14; have g_z_17 := i_rg z_17; have g_z_3 := i_rg z_3; have g_z_8 := i_rg z_8; omega)])⟩, ⟨by rw [ht9]; exact hP, hD⟩⟩, hS.F ht9⟩) hS.2.2 dX2_tableLength_50
    · refine lv_lload_n hx hb dX2_tableLength_41 rfl (lv_at hl 0 rfl) ?_
      refine lv_ldc2 hx hb hown (hts _ kw_804) dX2_tableLength_42 ?_
      refine W.lcmp hx hb dX2_tableLength_45 ?_
      refine lv_topi (fun z_19 ez_19 => ?_)
      refine lv_if_le (tgt := 51) hx hb dX2_tableLength_46 (by decide) (fun c_20 => ?_) (fun c_20 => ?_)
      · refine lv_iload_n hx hb dX2_tableLength_51 rfl (lv_at hl 1 rfl) ?_
        refine lv_bipush (v := 16) hx hb dX2_tableLength_52 (by decide) ?_
        refine lv_iadd hx hb dX2_tableLength_54 ?_
        refine lv_topi (fun z_21 ez_21 => ?_)
        refine lv_iconst (v := 4) hx hb dX2_tableLength_55 (by decide) ?_
        refine lv_lload_n hx hb dX2_tableLength_56 rfl (lv_at hl 0 rfl) ?_
        obtain ⟨z_22, ez_22⟩ : ∃ y : Int32, (z_13 : Int64).toInt32 = y := ⟨_, rfl⟩
        refine lv_l2i (v := z_22) hx hb dX2_tableLength_57 ez_22 ?_
        refine lv_imul hx hb dX2_tableLength_58 ?_
        refine lv_topi (fun z_23 ez_23 => ?_)
        refine lv_iadd hx hb dX2_tableLength_59 ?_
        refine lv_topi (fun z_24 ez_24 => ?_)
        refine lv_iload_n hx hb dX2_tableLength_60 rfl (lv_at hl 3 rfl) ?_
        refine lv_isub hx hb dX2_tableLength_61 ?_
        refine lv_topi (fun z_25 ez_25 => ?_)
        refine W.widen (k := 0) (n := 0) (Nat.le_of_ble_eq_true rfl) (Nat.le_of_ble_eq_true rfl) ?_
        exact W.iret (v := z_25) hx hb hr (fun t9 ht9 hW9 => ⟨⟨_, (), rfl, ⟨(by have e0 : (0 : Int32).toInt = 0 := (by decide); have e4 : (4 : Int32).toInt = 4 := (by decide); have e8 : (8 : Int32).toInt = 8 := (by decide); have e12 : (12 : Int32).toInt = 12 := (by decide); have e16 : (16 : Int32).toInt = 16 := (by decide); have el0 : (0 : Int64).toInt = 0 := (by decide); have el200 : (200 : Int64).toInt = 200 := (by decide); have q_r_1 := h_r_1; obtain ⟨u_z_25, q_z_25⟩ := i_sub ez_25; obtain ⟨u_z_3, q_z_3⟩ := i_add ez_3; obtain ⟨u_z_8, q_z_8⟩ := i_add ez_8; obtain ⟨u_z_14, q_z_14⟩ := i_add ez_14; obtain ⟨u_z_21, q_z_21⟩ := i_add ez_21; obtain ⟨u_z_24, q_z_24⟩ := i_add ez_24; have q_c_16 := i_nlt c_16; have q_z_23 := i_mulL (c := 4) (K := 536870911) ez_23 (by decide) (by decide) (by decide) (by decide); have q_f4_15 := f4_15; have q_z_22 := l_2i ez_22; have q_z_17 := l_cmp ez_17; have q_z_19 := l_cmp ez_19; have q_c_18 := i_nlt c_18; have q_c_20 := i_le c_20; have g_c2_15 := i_rg c2_15; have g_r_1 := i_rg r_1; have g_x1 := i_rg x1; have g_z_14 := i_rg z_14; have g_z_17 := i_rg z_17; have g_z_19 := i_rg z_19; have g_z_21 := i_rg z_21; have g_z_22 := i_rg z_22; have g_z_23 := i_rg z_23; have g_z_24 := i_rg z_24; have g_z_25 := i_rg z_25; have g_z_3 := i_rg z_3; have g_z_8 := i_rg z_8; omega), (fun f9 e9 n9 c9 s9 q9 => by obtain ⟨w9, h1, h2⟩ := vx_un hD hk_15 rfl rfl rfl q9; rw [h1, h2] at q9 ⊢; have y_n := xp_2; have y_a := xp_6 _ _ _ _ _ q9; have y_b := xp_11 _ _ _ _ _ q9; unfold kTab; simp only [← y_n, ← ez_3, ← y_a, ez_7, ← ez_8, ← y_b, ez_12, ← ez_13, ← ez_14, ← ez_17, ← ez_19, ← ez_21, ez_22, ← ez_23, ← ez_24, ← ez_25]; rw [if_neg (by have e0 : (0 : Int32).toInt = 0 := (by decide); have e4 : (4 : Int32).toInt = 4 := (by decide); have e8 : (8 : Int32).toInt = 8 := (by decide); have e12 : (12 : Int32).toInt = 12 := (by decide); have e16 : (16 : Int32).toInt = 16 := (by decide); have el0 : (0 : Int64).toInt = 0 := (by decide); have el200 : (200 : Int64).toInt = 200 := (by decide); have q_r_1 := h_r_1; obtain ⟨u_z_3, q_z_3⟩ := i_add ez_3; obtain ⟨u_z_8, q_z_8⟩ := i_add ez_8; obtain ⟨u_z_14, q_z_14⟩ := i_add ez_14; have q_f4_15 := f4_15; have q_c_16 := i_nlt c_16; have q_z_17 := l_cmp ez_17; have q_z_19 := l_cmp ez_19; obtain ⟨u_z_21, q_z_21⟩ := i_add ez_21; have q_z_22 := l_2i ez_22; obtain ⟨u_z_25, q_z_25⟩ := i_sub ez_25; have q_c_18 := i_nlt c_18; have q_c_20 := i_le c_20; have q_z_23 := i_mulL (c := 4) (K := 536870911) ez_23 (by decide) (by decide) (by decide) (by decide); obtain ⟨u_z_24, q_z_24⟩ := i_add ez_24; have g_c2_15 := i_rg c2_15; have g_r_1 := i_rg r_1; have g_x1 := i_rg x1; have g_z_14 := i_rg z_14; have g_z_17 := i_rg z_17; have g_z_19 := i_rg z_19; have g_z_21 := i_rg z_21; have g_z_22 := i_rg z_22; have g_z_23 := i_rg z_23; have g_z_24 := i_rg z_24; have g_z_25 := i_rg z_25; have g_z_3 := i_rg z_3; have g_z_8 := i_rg z_8; omega)])⟩, ⟨by rw [ht9]; exact hP, hD⟩⟩, hS.F ht9⟩) hS.2.2 dX2_tableLength_62
      · refine lv_iconst (v := 0) hx hb dX2_tableLength_49 (by decide) ?_
        refine W.widen (k := 0) (n := 0) (Nat.le_of_ble_eq_true rfl) (Nat.le_of_ble_eq_true rfl) ?_
        exact W.iret (v := 0) hx hb hr (fun t9 ht9 hW9 => ⟨⟨_, (), rfl, ⟨(by have e0 : (0 : Int32).toInt = 0 := (by decide); have e4 : (4 : Int32).toInt = 4 := (by decide); have e8 : (8 : Int32).toInt = 8 := (by decide); have e12 : (12 : Int32).toInt = 12 := (by decide); have q_r_1 := h_r_1; obtain ⟨u_z_3, q_z_3⟩ := i_add ez_3; obtain ⟨u_z_8, q_z_8⟩ := i_add ez_8; obtain ⟨u_z_14, q_z_14⟩ := i_add ez_14; have q_c_16 := i_nlt c_16; have q_f4_15 := f4_15; have g_c2_15 := i_rg c2_15; have g_r_1 := i_rg r_1; have g_x1 := i_rg x1; have g_z_14 := i_rg z_14; have g_z_3 := i_rg z_3; have g_z_8 := i_rg z_8; omega), (fun f9 e9 n9 c9 s9 q9 => by obtain ⟨w9, h1, h2⟩ := vx_un hD hk_15 rfl rfl rfl q9; rw [h1, h2] at q9 ⊢; have y_n := xp_2; have y_a := xp_6 _ _ _ _ _ q9; have y_b := xp_11 _ _ _ _ _ q9; unfold kTab; simp only [← y_n, ← ez_3, ← y_a, ez_7, ← ez_8, ← y_b, ez_12, ← ez_13, ← ez_14, ← ez_17, ← ez_19]; rw [if_pos (by have e0 : (0 : Int32).toInt = 0 := (by decide); have e4 : (4 : Int32).toInt = 4 := (by decide); have e8 : (8 : Int32).toInt = 8 := (by decide); have e12 : (12 : Int32).toInt = 12 := (by decide); have el0 : (0 : Int64).toInt = 0 := (by decide); have el200 : (200 : Int64).toInt = 200 := (by decide); have q_r_1 := h_r_1; obtain ⟨u_z_3, q_z_3⟩ := i_add ez_3; obtain ⟨u_z_8, q_z_8⟩ := i_add ez_8; obtain ⟨u_z_14, q_z_14⟩ := i_add ez_14; have q_f4_15 := f4_15; have q_c_16 := i_nlt c_16; have q_z_17 := l_cmp ez_17; have q_z_19 := l_cmp ez_19; have q_c_18 := i_nlt c_18; have q_c_20 := i_nle c_20; have g_c2_15 := i_rg c2_15; have g_r_1 := i_rg r_1; have g_x1 := i_rg x1; have g_z_14 := i_rg z_14; have g_z_17 := i_rg z_17; have g_z_19 := i_rg z_19; have g_z_3 := i_rg z_3; have g_z_8 := i_rg z_8; omega)])⟩, ⟨by rw [ht9]; exact hP, hD⟩⟩, hS.F ht9⟩) hS.2.2 dX2_tableLength_50
set_option maxHeartbeats 1000000 in
set_option maxRecDepth 100000 in
theorem m_X6_isLoad_x (l : Launch) (g : Gm) (sz : Nat) (ws : va_W) (x0 : Int32) (hG : Good g ws)  : Met l yX6_isLoad (wt yX6_isLoad cX6_isLoad 1 (some .boolean)) ({ frames := 0, cells := 0, slots := 0, locals := 0 }) (va_Pc [.int x0] (st_G g sz ws)) (va_Qi (fun (r : Int32) (u9 : Unit) => (r = 0 ∨ r = 1) ∧ (r.toInt = 1 ↔ x0.toInt = 21 ∨ x0.toInt = 22 ∨ x0.toInt = 25)) (gQ0 g (va_A ws sz) ws) (va_A ws sz)) (0) (0) (va_A ws sz) := by
  refine Met.ofW (cc := cX6_isLoad) (maxL := 1) (ret := (some .boolean)) (by decide) rfl ?_
  intro p e s m args below meth c s₁ B hml hv
  obtain ⟨rfl, hsz, hP, hK, hD0, hex, hE⟩ := hv
  have hx := B.exec
  have hb := B.bytes
  have hr := B.returns
  have hts0 := atoms_spec (ws := wt yX6_isLoad cX6_isLoad 1 (some .boolean)) B.pre
  have hts : ∀ w ∈ tb, w.before _ s = true := fun w h => hts0 w (List.mem_cons_of_mem _ h)
  have hown : s.vm.findClass RX6 = some m.cls := findClass_of_methodNamed B.named
  subst hsz
  have hD := hD0.self (sz := s.heap.size)
  generalize hAe : va_A ws s.heap.size = A at hD hE ⊢
  have hA : ∀ q : Nat, s.heap.size ≤ q → A q := fun q h => by rw [← hAe]; exact Or.inr h
  have hS : va_S A s.heap s.heap [] := va_S.rf
  have hl := lv_entry ([.int x0]) (n := 1) (Nat.le_of_ble_eq_true rfl)
  rw [lg_entry_eq]
  generalize (lg_sl ([.int x0]) ++ List.replicate (1 - (lg_sl ([.int x0])).length) Slot.unset).toArray = ls at hl ⊢
  have hl : lv_has ls 1 [(0, .int x0)] := hl
  refine lv_iload_n hx hb dX6_isLoad_0 rfl (lv_at hl 0 rfl) ?_
  refine lv_bipush (v := 21) hx hb dX6_isLoad_1 (by decide) ?_
  refine lv_icmp_eq (tgt := 18) hx hb dX6_isLoad_3 (by decide) (fun c_1 => ?_) (fun c_1 => ?_)
  · refine lv_iconst (v := 1) hx hb dX6_isLoad_18 (by decide) ?_
    refine lv_goto (tgt := 23) hx hb dX6_isLoad_19 (by decide) ?_
    refine W.widen (k := 0) (n := 0) (Nat.le_of_ble_eq_true rfl) (Nat.le_of_ble_eq_true rfl) ?_
    exact W.zret (v := 1) hx hb hr (nz (Or.inr rfl)) (fun t9 ht9 hW9 => ⟨⟨_, (), rfl, ⟨(Or.inr rfl), ⟨fun h9 => (by have e21 : (21 : Int32).toInt = 21 := (by decide); have q_c_1 := i_eq c_1; have g_x0 := i_rg x0; omega), fun h9 => (by decide)⟩⟩, ⟨by rw [ht9]; exact hP, hD⟩⟩, hS.F ht9⟩) hS.2.2 dX6_isLoad_23
  · refine lv_iload_n hx hb dX6_isLoad_6 rfl (lv_at hl 0 rfl) ?_
    refine lv_bipush (v := 22) hx hb dX6_isLoad_7 (by decide) ?_
    refine lv_icmp_eq (tgt := 18) hx hb dX6_isLoad_9 (by decide) (fun c_2 => ?_) (fun c_2 => ?_)
    · refine lv_iconst (v := 1) hx hb dX6_isLoad_18 (by decide) ?_
      refine lv_goto (tgt := 23) hx hb dX6_isLoad_19 (by decide) ?_
      refine W.widen (k := 0) (n := 0) (Nat.le_of_ble_eq_true rfl) (Nat.le_of_ble_eq_true rfl) ?_
      exact W.zret (v := 1) hx hb hr (nz (Or.inr rfl)) (fun t9 ht9 hW9 => ⟨⟨_, (), rfl, ⟨(Or.inr rfl), ⟨fun h9 => (by have e21 : (21 : Int32).toInt = 21 := (by decide); have e22 : (22 : Int32).toInt = 22 := (by decide); have q_c_1 := i_ne c_1; have q_c_2 := i_eq c_2; have g_x0 := i_rg x0; omega), fun h9 => (by decide)⟩⟩, ⟨by rw [ht9]; exact hP, hD⟩⟩, hS.F ht9⟩) hS.2.2 dX6_isLoad_23
    · refine lv_iload_n hx hb dX6_isLoad_12 rfl (lv_at hl 0 rfl) ?_
      refine lv_bipush (v := 25) hx hb dX6_isLoad_13 (by decide) ?_
      refine lv_icmp_ne (tgt := 22) hx hb dX6_isLoad_15 (by decide) (fun c_3 => ?_) (fun c_3 => ?_)
      · refine lv_iconst (v := 0) hx hb dX6_isLoad_22 (by decide) ?_
        refine W.widen (k := 0) (n := 0) (Nat.le_of_ble_eq_true rfl) (Nat.le_of_ble_eq_true rfl) ?_
        exact W.zret (v := 0) hx hb hr (nz (Or.inl rfl)) (fun t9 ht9 hW9 => ⟨⟨_, (), rfl, ⟨(Or.inl rfl), ⟨fun h9 => (absurd h9 (by decide)), fun h9 => False.elim (by have e21 : (21 : Int32).toInt = 21 := (by decide); have e22 : (22 : Int32).toInt = 22 := (by decide); have e25 : (25 : Int32).toInt = 25 := (by decide); have q_c_1 := i_ne c_1; have q_c_2 := i_ne c_2; have q_c_3 := i_ne c_3; have g_x0 := i_rg x0; omega)⟩⟩, ⟨by rw [ht9]; exact hP, hD⟩⟩, hS.F ht9⟩) hS.2.2 dX6_isLoad_23
      · refine lv_iconst (v := 1) hx hb dX6_isLoad_18 (by decide) ?_
        refine lv_goto (tgt := 23) hx hb dX6_isLoad_19 (by decide) ?_
        refine W.widen (k := 0) (n := 0) (Nat.le_of_ble_eq_true rfl) (Nat.le_of_ble_eq_true rfl) ?_
        exact W.zret (v := 1) hx hb hr (nz (Or.inr rfl)) (fun t9 ht9 hW9 => ⟨⟨_, (), rfl, ⟨(Or.inr rfl), ⟨fun h9 => (by have e21 : (21 : Int32).toInt = 21 := (by decide); have e22 : (22 : Int32).toInt = 22 := (by decide); have e25 : (25 : Int32).toInt = 25 := (by decide); have q_c_1 := i_ne c_1; have q_c_2 := i_ne c_2; have q_c_3 := i_eq c_3; have g_x0 := i_rg x0; omega), fun h9 => (by decide)⟩⟩, ⟨by rw [ht9]; exact hP, hD⟩⟩, hS.F ht9⟩) hS.2.2 dX6_isLoad_23
set_option maxHeartbeats 1000000 in
set_option maxRecDepth 100000 in
theorem m_X6_isStore_x (l : Launch) (g : Gm) (sz : Nat) (ws : va_W) (x0 : Int32) (hG : Good g ws)  : Met l yX6_isStore (wt yX6_isStore cX6_isStore 1 (some .boolean)) ({ frames := 0, cells := 0, slots := 0, locals := 0 }) (va_Pc [.int x0] (st_G g sz ws)) (va_Qi (fun (r : Int32) (u9 : Unit) => (r = 0 ∨ r = 1) ∧ (r.toInt = 1 ↔ x0.toInt = 54 ∨ x0.toInt = 55 ∨ x0.toInt = 58)) (gQ0 g (va_A ws sz) ws) (va_A ws sz)) (0) (0) (va_A ws sz) := by
  refine Met.ofW (cc := cX6_isStore) (maxL := 1) (ret := (some .boolean)) (by decide) rfl ?_
  intro p e s m args below meth c s₁ B hml hv
  obtain ⟨rfl, hsz, hP, hK, hD0, hex, hE⟩ := hv
  have hx := B.exec
  have hb := B.bytes
  have hr := B.returns
  have hts0 := atoms_spec (ws := wt yX6_isStore cX6_isStore 1 (some .boolean)) B.pre
  have hts : ∀ w ∈ tb, w.before _ s = true := fun w h => hts0 w (List.mem_cons_of_mem _ h)
  have hown : s.vm.findClass RX6 = some m.cls := findClass_of_methodNamed B.named
  subst hsz
  have hD := hD0.self (sz := s.heap.size)
  generalize hAe : va_A ws s.heap.size = A at hD hE ⊢
  have hA : ∀ q : Nat, s.heap.size ≤ q → A q := fun q h => by rw [← hAe]; exact Or.inr h
  have hS : va_S A s.heap s.heap [] := va_S.rf
  have hl := lv_entry ([.int x0]) (n := 1) (Nat.le_of_ble_eq_true rfl)
  rw [lg_entry_eq]
  generalize (lg_sl ([.int x0]) ++ List.replicate (1 - (lg_sl ([.int x0])).length) Slot.unset).toArray = ls at hl ⊢
  have hl : lv_has ls 1 [(0, .int x0)] := hl
  refine lv_iload_n hx hb dX6_isStore_0 rfl (lv_at hl 0 rfl) ?_
  refine lv_bipush (v := 54) hx hb dX6_isStore_1 (by decide) ?_
  refine lv_icmp_eq (tgt := 18) hx hb dX6_isStore_3 (by decide) (fun c_1 => ?_) (fun c_1 => ?_)
  · refine lv_iconst (v := 1) hx hb dX6_isStore_18 (by decide) ?_
    refine lv_goto (tgt := 23) hx hb dX6_isStore_19 (by decide) ?_
    refine W.widen (k := 0) (n := 0) (Nat.le_of_ble_eq_true rfl) (Nat.le_of_ble_eq_true rfl) ?_
    exact W.zret (v := 1) hx hb hr (nz (Or.inr rfl)) (fun t9 ht9 hW9 => ⟨⟨_, (), rfl, ⟨(Or.inr rfl), ⟨fun h9 => (by have e54 : (54 : Int32).toInt = 54 := (by decide); have q_c_1 := i_eq c_1; have g_x0 := i_rg x0; omega), fun h9 => (by decide)⟩⟩, ⟨by rw [ht9]; exact hP, hD⟩⟩, hS.F ht9⟩) hS.2.2 dX6_isStore_23
  · refine lv_iload_n hx hb dX6_isStore_6 rfl (lv_at hl 0 rfl) ?_
    refine lv_bipush (v := 55) hx hb dX6_isStore_7 (by decide) ?_
    refine lv_icmp_eq (tgt := 18) hx hb dX6_isStore_9 (by decide) (fun c_2 => ?_) (fun c_2 => ?_)
    · refine lv_iconst (v := 1) hx hb dX6_isStore_18 (by decide) ?_
      refine lv_goto (tgt := 23) hx hb dX6_isStore_19 (by decide) ?_
      refine W.widen (k := 0) (n := 0) (Nat.le_of_ble_eq_true rfl) (Nat.le_of_ble_eq_true rfl) ?_
      exact W.zret (v := 1) hx hb hr (nz (Or.inr rfl)) (fun t9 ht9 hW9 => ⟨⟨_, (), rfl, ⟨(Or.inr rfl), ⟨fun h9 => (by have e54 : (54 : Int32).toInt = 54 := (by decide); have e55 : (55 : Int32).toInt = 55 := (by decide); have q_c_1 := i_ne c_1; have q_c_2 := i_eq c_2; have g_x0 := i_rg x0; omega), fun h9 => (by decide)⟩⟩, ⟨by rw [ht9]; exact hP, hD⟩⟩, hS.F ht9⟩) hS.2.2 dX6_isStore_23
    · refine lv_iload_n hx hb dX6_isStore_12 rfl (lv_at hl 0 rfl) ?_
      refine lv_bipush (v := 58) hx hb dX6_isStore_13 (by decide) ?_
      refine lv_icmp_ne (tgt := 22) hx hb dX6_isStore_15 (by decide) (fun c_3 => ?_) (fun c_3 => ?_)
      · refine lv_iconst (v := 0) hx hb dX6_isStore_22 (by decide) ?_
        refine W.widen (k := 0) (n := 0) (Nat.le_of_ble_eq_true rfl) (Nat.le_of_ble_eq_true rfl) ?_
        exact W.zret (v := 0) hx hb hr (nz (Or.inl rfl)) (fun t9 ht9 hW9 => ⟨⟨_, (), rfl, ⟨(Or.inl rfl), ⟨fun h9 => (absurd h9 (by decide)), fun h9 => False.elim (by have e54 : (54 : Int32).toInt = 54 := (by decide); have e55 : (55 : Int32).toInt = 55 := (by decide); have e58 : (58 : Int32).toInt = 58 := (by decide); have q_c_1 := i_ne c_1; have q_c_2 := i_ne c_2; have q_c_3 := i_ne c_3; have g_x0 := i_rg x0; omega)⟩⟩, ⟨by rw [ht9]; exact hP, hD⟩⟩, hS.F ht9⟩) hS.2.2 dX6_isStore_23
      · refine lv_iconst (v := 1) hx hb dX6_isStore_18 (by decide) ?_
        refine lv_goto (tgt := 23) hx hb dX6_isStore_19 (by decide) ?_
        refine W.widen (k := 0) (n := 0) (Nat.le_of_ble_eq_true rfl) (Nat.le_of_ble_eq_true rfl) ?_
        exact W.zret (v := 1) hx hb hr (nz (Or.inr rfl)) (fun t9 ht9 hW9 => ⟨⟨_, (), rfl, ⟨(Or.inr rfl), ⟨fun h9 => (by have e54 : (54 : Int32).toInt = 54 := (by decide); have e55 : (55 : Int32).toInt = 55 := (by decide); have e58 : (58 : Int32).toInt = 58 := (by decide); have q_c_1 := i_ne c_1; have q_c_2 := i_ne c_2; have q_c_3 := i_eq c_3; have g_x0 := i_rg x0; omega), fun h9 => (by decide)⟩⟩, ⟨by rw [ht9]; exact hP, hD⟩⟩, hS.F ht9⟩) hS.2.2 dX6_isStore_23
set_option maxHeartbeats 1000000 in
set_option maxRecDepth 100000 in
theorem m_X2_wideLength_x (l : Launch) (g : Gm) (sz : Nat) (ws : va_W) (x0 : Int32) (hG : Good g ws)  : Met l yX2_wideLength (wt yX2_wideLength cX2_wideLength 1 (some .int)) ({ frames := 1, cells := 0, slots := 0, locals := 20 }) (va_Pc [.int x0] (st_G g sz ws)) (va_Qi (fun (r : Int32) (u9 : Unit) => (0 ≤ r.toInt ∧ r.toInt ≤ 6) ∧ (r = kWide x0)) (gQ0 g (va_A ws sz) ws) (va_A ws sz)) (0) (0) (va_A ws sz) := by
  refine Met.ofW (cc := cX2_wideLength) (maxL := 1) (ret := (some .int)) (by decide) rfl ?_
  intro p e s m args below meth c s₁ B hml hv
  obtain ⟨rfl, hsz, hP, hK, hD0, hex, hE⟩ := hv
  have hx := B.exec
  have hb := B.bytes
  have hr := B.returns
  have hts0 := atoms_spec (ws := wt yX2_wideLength cX2_wideLength 1 (some .int)) B.pre
  have hts : ∀ w ∈ tb, w.before _ s = true := fun w h => hts0 w (List.mem_cons_of_mem _ h)
  have hown : s.vm.findClass RX2 = some m.cls := findClass_of_methodNamed B.named
  subst hsz
  have hD := hD0.self (sz := s.heap.size)
  generalize hAe : va_A ws s.heap.size = A at hD hE ⊢
  have hA : ∀ q : Nat, s.heap.size ≤ q → A q := fun q h => by rw [← hAe]; exact Or.inr h
  have hS : va_S A s.heap s.heap [] := va_S.rf
  have hl := lv_entry ([.int x0]) (n := 1) (Nat.le_of_ble_eq_true rfl)
  rw [lg_entry_eq]
  generalize (lg_sl ([.int x0]) ++ List.replicate (1 - (lg_sl ([.int x0])).length) Slot.unset).toArray = ls at hl ⊢
  have hl : lv_has ls 1 [(0, .int x0)] := hl
  refine lv_iload_n hx hb dX2_wideLength_0 rfl (lv_at hl 0 rfl) ?_
  refine lv_sipush (v := 132) hx hb dX2_wideLength_1 (by decide) ?_
  refine lv_icmp_ne (tgt := 10) hx hb dX2_wideLength_4 (by decide) (fun c_1 => ?_) (fun c_1 => ?_)
  · refine lv_iload_n hx hb dX2_wideLength_10 rfl (lv_at hl 0 rfl) ?_
    have hFc := gfree hD hS hA
    refine va_calli (va_runS (As := [.int x0]) (rest := []) ⟨hx, hb, hml, hown, hts⟩ (m_X6_isLoad_x l g s.heap.size ws (x0) hG ) (va_cwS 1 hts (gd_S kw_831 kw_1227 kw_1207 kw_1226) rfl rfl rfl (by decide +kernel) ⟨Nat.le_of_ble_eq_true rfl, Nat.le_of_ble_eq_true rfl⟩) ⟨gblind, fun U hU hW9 => gmk hU hW9 hP hK hD hex hE hS hFc⟩ rfl rfl hl.1 rfl (lv_room (Nat.le_of_ble_eq_true rfl)) dX2_wideLength_11 ⟨Nat.le_of_ble_eq_true rfl, Nat.le_of_ble_eq_true rfl⟩) hS (fun q _ h => hFc q h) hFc (fun r_2 u9 t9 H1 locs ht9 hvm9 hw9 hB9 hz9 hk9 hS => ?_)
    have hP : va_P (gD g) cl0 ws H1 := by rw [← ht9]; exact hB9.1
    obtain ⟨hw9, xp_3⟩ := hw9
    have hz_r_2 : r_2 = 0 ∨ r_2 = 1 := hw9
    clear hB9 hz9 hk9 hvm9 ht9 hw9
    generalize H1 = H at hP hS ⊢
    refine lv_if_ne (tgt := 24) hx hb dX2_wideLength_14 (by decide) (fun c_4 => ?_) (fun c_4 => ?_)
    · refine lv_iconst (v := 4) hx hb dX2_wideLength_24 (by decide) ?_
      refine lv_goto (tgt := 29) hx hb dX2_wideLength_25 (by decide) ?_
      refine W.widen (k := 0) (n := 0) (Nat.le_of_ble_eq_true rfl) (Nat.le_of_ble_eq_true rfl) ?_
      exact W.iret (v := 4) hx hb hr (fun t9 ht9 hW9 => ⟨⟨_, (), rfl, ⟨(by have e4 : (4 : Int32).toInt = 4 := (by decide); have e132 : (132 : Int32).toInt = 132 := (by decide); have q_c_1 := i_ne c_1; have g_x0 := i_rg x0; omega), (by unfold kWide; rw [if_neg (by have e0 : (0 : Int32).toInt = 0 := (by decide); have e132 : (132 : Int32).toInt = 132 := (by decide); have q_c_1 := i_ne c_1; have q_c_4 := i_ne c_4; have g_r_2 := i_rg r_2; have g_x0 := i_rg x0; have b_r_2 := i_bit hz_r_2; have w1 := xp_3; omega), if_pos (by have e0 : (0 : Int32).toInt = 0 := (by decide); have e132 : (132 : Int32).toInt = 132 := (by decide); have q_c_1 := i_ne c_1; have q_c_4 := i_ne c_4; have g_r_2 := i_rg r_2; have g_x0 := i_rg x0; have b_r_2 := i_bit hz_r_2; have w1 := xp_3; omega)])⟩, ⟨by rw [ht9]; exact hP, hD⟩⟩, hS.F ht9⟩) hS.2.2 dX2_wideLength_29
    · refine lv_iload_n hx hb dX2_wideLength_17 rfl (lv_at hl 0 rfl) ?_
      have hFc := gfree hD hS hA
      refine va_calli (va_runS (As := [.int x0]) (rest := []) ⟨hx, hb, hml, hown, hts⟩ (m_X6_isStore_x l g H.size ws (x0) hG ) (va_cwS 1 hts (gd_S kw_832 kw_1231 kw_1207 kw_1230) rfl rfl rfl (by decide +kernel) ⟨Nat.le_of_ble_eq_true rfl, Nat.le_of_ble_eq_true rfl⟩) ⟨gblind, fun U hU hW9 => gmk hU hW9 hP hK hD hex hE hS hFc⟩ rfl rfl hl.1 rfl (lv_room (Nat.le_of_ble_eq_true rfl)) dX2_wideLength_18 ⟨Nat.le_of_ble_eq_true rfl, Nat.le_of_ble_eq_true rfl⟩) hS (fun q _ h => hFc q h) hFc (fun r_5 u9 t9 H1 locs ht9 hvm9 hw9 hB9 hz9 hk9 hS => ?_)
      have hP : va_P (gD g) cl0 ws H1 := by rw [← ht9]; exact hB9.1
      obtain ⟨hw9, xp_6⟩ := hw9
      have hz_r_5 : r_5 = 0 ∨ r_5 = 1 := hw9
      clear hB9 hz9 hk9 hvm9 ht9 hw9
      generalize H1 = H at hP hS ⊢
      refine lv_if_eq (tgt := 28) hx hb dX2_wideLength_21 (by decide) (fun c_7 => ?_) (fun c_7 => ?_)
      · refine lv_iconst (v := 0) hx hb dX2_wideLength_28 (by decide) ?_
        refine W.widen (k := 0) (n := 0) (Nat.le_of_ble_eq_true rfl) (Nat.le_of_ble_eq_true rfl) ?_
        exact W.iret (v := 0) hx hb hr (fun t9 ht9 hW9 => ⟨⟨_, (), rfl, ⟨(by have e0 : (0 : Int32).toInt = 0 := (by decide); have e132 : (132 : Int32).toInt = 132 := (by decide); have q_c_1 := i_ne c_1; have g_x0 := i_rg x0; omega), (by unfold kWide; rw [if_neg (by have e0 : (0 : Int32).toInt = 0 := (by decide); have e132 : (132 : Int32).toInt = 132 := (by decide); have q_c_1 := i_ne c_1; have q_c_4 := i_eq c_4; have q_c_7 := i_eq c_7; have g_r_2 := i_rg r_2; have g_r_5 := i_rg r_5; have g_x0 := i_rg x0; have b_r_2 := i_bit hz_r_2; have b_r_5 := i_bit hz_r_5; have w1 := xp_3; have w2 := xp_6; omega), if_neg (by have e0 : (0 : Int32).toInt = 0 := (by decide); have e132 : (132 : Int32).toInt = 132 := (by decide); have q_c_1 := i_ne c_1; have q_c_4 := i_eq c_4; have q_c_7 := i_eq c_7; have g_r_2 := i_rg r_2; have g_r_5 := i_rg r_5; have g_x0 := i_rg x0; have b_r_2 := i_bit hz_r_2; have b_r_5 := i_bit hz_r_5; have w1 := xp_3; have w2 := xp_6; omega)])⟩, ⟨by rw [ht9]; exact hP, hD⟩⟩, hS.F ht9⟩) hS.2.2 dX2_wideLength_29
      · refine lv_iconst (v := 4) hx hb dX2_wideLength_24 (by decide) ?_
        refine lv_goto (tgt := 29) hx hb dX2_wideLength_25 (by decide) ?_
        refine W.widen (k := 0) (n := 0) (Nat.le_of_ble_eq_true rfl) (Nat.le_of_ble_eq_true rfl) ?_
        exact W.iret (v := 4) hx hb hr (fun t9 ht9 hW9 => ⟨⟨_, (), rfl, ⟨(by have e4 : (4 : Int32).toInt = 4 := (by decide); have e132 : (132 : Int32).toInt = 132 := (by decide); have q_c_1 := i_ne c_1; have g_x0 := i_rg x0; omega), (by unfold kWide; rw [if_neg (by have e0 : (0 : Int32).toInt = 0 := (by decide); have e132 : (132 : Int32).toInt = 132 := (by decide); have q_c_1 := i_ne c_1; have q_c_4 := i_eq c_4; have q_c_7 := i_ne c_7; have g_r_2 := i_rg r_2; have g_r_5 := i_rg r_5; have g_x0 := i_rg x0; have b_r_2 := i_bit hz_r_2; have b_r_5 := i_bit hz_r_5; have w1 := xp_3; have w2 := xp_6; omega), if_pos (by have e0 : (0 : Int32).toInt = 0 := (by decide); have e132 : (132 : Int32).toInt = 132 := (by decide); have q_c_1 := i_ne c_1; have q_c_4 := i_eq c_4; have q_c_7 := i_ne c_7; have g_r_2 := i_rg r_2; have g_r_5 := i_rg r_5; have g_x0 := i_rg x0; have b_r_2 := i_bit hz_r_2; have b_r_5 := i_bit hz_r_5; have w1 := xp_3; have w2 := xp_6; omega)])⟩, ⟨by rw [ht9]; exact hP, hD⟩⟩, hS.F ht9⟩) hS.2.2 dX2_wideLength_29
  · refine lv_bipush (v := 6) hx hb dX2_wideLength_7 (by decide) ?_
    refine W.widen (k := 0) (n := 0) (Nat.le_of_ble_eq_true rfl) (Nat.le_of_ble_eq_true rfl) ?_
    exact W.iret (v := 6) hx hb hr (fun t9 ht9 hW9 => ⟨⟨_, (), rfl, ⟨(by have e6 : (6 : Int32).toInt = 6 := (by decide); have e132 : (132 : Int32).toInt = 132 := (by decide); have q_c_1 := i_eq c_1; have g_x0 := i_rg x0; omega), (by unfold kWide; rw [if_pos (by have e132 : (132 : Int32).toInt = 132 := (by decide); have q_c_1 := i_eq c_1; have g_x0 := i_rg x0; omega)])⟩, ⟨by rw [ht9]; exact hP, hD⟩⟩, hS.F ht9⟩) hS.2.2 dX2_wideLength_9
set_option maxHeartbeats 1000000 in
set_option maxRecDepth 100000 in
theorem m_X6_lengthOf_x (l : Launch) (g : Gm) (sz : Nat) (ws : va_W) (x0 : Int32) (hG : Good g ws)  : Met l yX6_lengthOf (wt yX6_lengthOf cX6_lengthOf 1 (some .int)) ({ frames := 0, cells := 0, slots := 0, locals := 0 }) (va_Pc [.int x0] (st_G g sz ws)) (va_Qi (fun (r : Int32) (u9 : Unit) => (0 ≤ r.toInt ∧ r.toInt ≤ 6) ∧ (r = kOps g.tL x0)) (gQ0 g (va_A ws sz) ws) (va_A ws sz)) (0) (0) (va_A ws sz) := by
  refine Met.ofW (cc := cX6_lengthOf) (maxL := 1) (ret := (some .int)) (by decide) rfl ?_
  intro p e s m args below meth c s₁ B hml hv
  obtain ⟨rfl, hsz, hP, hK, hD0, hex, hE⟩ := hv
  have hx := B.exec
  have hb := B.bytes
  have hr := B.returns
  have hts0 := atoms_spec (ws := wt yX6_lengthOf cX6_lengthOf 1 (some .int)) B.pre
  have hts : ∀ w ∈ tb, w.before _ s = true := fun w h => hts0 w (List.mem_cons_of_mem _ h)
  have hown : s.vm.findClass RX6 = some m.cls := findClass_of_methodNamed B.named
  subst hsz
  have hD := hD0.self (sz := s.heap.size)
  generalize hAe : va_A ws s.heap.size = A at hD hE ⊢
  have hA : ∀ q : Nat, s.heap.size ≤ q → A q := fun q h => by rw [← hAe]; exact Or.inr h
  have hS : va_S A s.heap s.heap [] := va_S.rf
  have hl := lv_entry ([.int x0]) (n := 1) (Nat.le_of_ble_eq_true rfl)
  rw [lg_entry_eq]
  generalize (lg_sl ([.int x0]) ++ List.replicate (1 - (lg_sl ([.int x0])).length) Slot.unset).toArray = ls at hl ⊢
  have hl : lv_has ls 1 [(0, .int x0)] := hl
  refine lv_iload_n hx hb dX6_lengthOf_0 rfl (lv_at hl 0 rfl) ?_
  refine lv_if_lt (tgt := 12) hx hb dX6_lengthOf_1 (by decide) (fun c_1 => ?_) (fun c_1 => ?_)
  · refine lv_iconst (v := 0) hx hb dX6_lengthOf_12 (by decide) ?_
    refine lv_goto (tgt := 21) hx hb dX6_lengthOf_13 (by decide) ?_
    refine W.widen (k := 0) (n := 0) (Nat.le_of_ble_eq_true rfl) (Nat.le_of_ble_eq_true rfl) ?_
    exact W.iret (v := 0) hx hb hr (fun t9 ht9 hW9 => ⟨⟨_, (), rfl, ⟨(by have e0 : (0 : Int32).toInt = 0 := (by decide); have q_c_1 := i_lt c_1; have g_x0 := i_rg x0; omega), (by unfold kOps; rw [if_pos (by have e0 : (0 : Int32).toInt = 0 := (by decide); have q_c_1 := i_lt c_1; have g_x0 := i_rg x0; omega)])⟩, ⟨by rw [ht9]; exact hP, hD⟩⟩, hS.F ht9⟩) hS.2.2 dX6_lengthOf_21
  · refine lv_iload_n hx hb dX6_lengthOf_4 rfl (lv_at hl 0 rfl) ?_
    obtain ⟨t_2, hZ_2, hT_2, hB_2⟩ := hE.2.1
    refine va_gets (C := RX6) (n := "LENGTH_OF") (d := "[I") hx hb hZ_2 hS hown (hts _ kw_1245) (fun _ h9 => h9) dX6_lengthOf_5 ?_
    refine va_tlen (v := 202) hx hb hT_2 hS rfl dX6_lengthOf_8 ?_
    refine lv_icmp_lt (tgt := 16) hx hb dX6_lengthOf_9 (by decide) (fun c_3 => ?_) (fun c_3 => ?_)
    · obtain ⟨t_4, hZ_4, hT_4, hB_4⟩ := hE.2.1
      refine va_gets (C := RX6) (n := "LENGTH_OF") (d := "[I") hx hb hZ_4 hS hown (hts _ kw_1245) (fun _ h9 => h9) dX6_lengthOf_16 ?_
      refine lv_iload_n hx hb dX6_lengthOf_19 rfl (lv_at hl 0 rfl) ?_
      refine va_ti hx hb hT_4 hS (i_in2 (by have e0 : (0 : Int32).toInt = 0 := (by decide); have e202 : (202 : Int32).toInt = 202 := (by decide); have q_c_1 := i_nlt c_1; have q_c_3 := i_lt c_3; have g_x0 := i_rg x0; omega)) rfl dX6_lengthOf_20 ?_
      refine lv_topi (fun z_5 ez_5 => ?_)
      have hb_z_5 := hB_4 (x0 : Int32).toNatClampNeg
      rw [← ez_5] at hb_z_5
      refine W.widen (k := 0) (n := 0) (Nat.le_of_ble_eq_true rfl) (Nat.le_of_ble_eq_true rfl) ?_
      exact W.iret (v := z_5) hx hb hr (fun t9 ht9 hW9 => ⟨⟨_, (), rfl, ⟨(by have e0 : (0 : Int32).toInt = 0 := (by decide); have e202 : (202 : Int32).toInt = 202 := (by decide); have q_c_1 := i_nlt c_1; have q_c_3 := i_lt c_3; have q_z_5 := hb_z_5; have g_x0 := i_rg x0; have g_z_5 := i_rg z_5; omega), (by unfold kOps; rw [if_neg (by have e0 : (0 : Int32).toInt = 0 := (by decide); have e202 : (202 : Int32).toInt = 202 := (by decide); have q_c_1 := i_nlt c_1; have q_c_3 := i_lt c_3; have g_x0 := i_rg x0; omega)]; simp only [← ez_5])⟩, ⟨by rw [ht9]; exact hP, hD⟩⟩, hS.F ht9⟩) hS.2.2 dX6_lengthOf_21
    · refine lv_iconst (v := 0) hx hb dX6_lengthOf_12 (by decide) ?_
      refine lv_goto (tgt := 21) hx hb dX6_lengthOf_13 (by decide) ?_
      refine W.widen (k := 0) (n := 0) (Nat.le_of_ble_eq_true rfl) (Nat.le_of_ble_eq_true rfl) ?_
      exact W.iret (v := 0) hx hb hr (fun t9 ht9 hW9 => ⟨⟨_, (), rfl, ⟨(by have e0 : (0 : Int32).toInt = 0 := (by decide); have e202 : (202 : Int32).toInt = 202 := (by decide); have q_c_1 := i_nlt c_1; have q_c_3 := i_nlt c_3; have g_x0 := i_rg x0; omega), (by unfold kOps; rw [if_pos (by have e0 : (0 : Int32).toInt = 0 := (by decide); have e202 : (202 : Int32).toInt = 202 := (by decide); have q_c_1 := i_nlt c_1; have q_c_3 := i_nlt c_3; have g_x0 := i_rg x0; omega)])⟩, ⟨by rw [ht9]; exact hP, hD⟩⟩, hS.F ht9⟩) hS.2.2 dX6_lengthOf_21
set_option maxHeartbeats 1000000 in
set_option maxRecDepth 100000 in
theorem m_X2_lookupLength_x (l : Launch) (g : Gm) (sz : Nat) (ws : va_W) (h0 : Nat) (x1 : Int32) (hG : Good g ws) (o_h0 : gC ws h0 2) : Met l yX2_lookupLength (wt yX2_lookupLength cX2_lookupLength 5 (some .int)) ({ frames := 2, cells := 0, slots := 0, locals := 42 }) (va_Pc [.ref h0, .int x1] (st_G g sz ws)) (va_Qi (fun (r : Int32) (u9 : Unit) => (x1.toInt < 0 ∨ 1200 < x1.toInt ∨ r.toInt ≤ 2000) ∧ (∀ (f : Nat → Int32) (e : Int32) (n : Nat) (cd sz : Int32), vx ws h0 f e n cd sz → r = kLook f e n cd sz x1)) (gQ0 g (va_A ws sz) ws) (va_A ws sz)) (0) (0) (va_A ws sz) := by
  refine Met.ofW (cc := cX2_lookupLength) (maxL := 5) (ret := (some .int)) (by decide) rfl ?_
  intro p e s m args below meth c s₁ B hml hv
  obtain ⟨rfl, hsz, hP, hK, hD0, hex, hE⟩ := hv
  have hx := B.exec
  have hb := B.bytes
  have hr := B.returns
  have hts0 := atoms_spec (ws := wt yX2_lookupLength cX2_lookupLength 5 (some .int)) B.pre
  have hts : ∀ w ∈ tb, w.before _ s = true := fun w h => hts0 w (List.mem_cons_of_mem _ h)
  have hown : s.vm.findClass RX2 = some m.cls := findClass_of_methodNamed B.named
  subst hsz
  have hD := hD0.self (sz := s.heap.size)
  generalize hAe : va_A ws s.heap.size = A at hD hE ⊢
  have hA : ∀ q : Nat, s.heap.size ≤ q → A q := fun q h => by rw [← hAe]; exact Or.inr h
  have hS : va_S A s.heap s.heap [] := va_S.rf
  have hl := lv_entry ([.ref h0, .int x1]) (n := 5) (Nat.le_of_ble_eq_true rfl)
  rw [lg_entry_eq]
  generalize (lg_sl ([.ref h0, .int x1]) ++ List.replicate (5 - (lg_sl ([.ref h0, .int x1])).length) Slot.unset).toArray = ls at hl ⊢
  have hl : lv_has ls 5 [(0, .ref h0), (1, .int x1)] := hl
  refine lv_iload_n hx hb dX2_lookupLength_0 rfl (lv_at hl 1 rfl) ?_
  have hFc := gfree hD hS hA
  refine va_calli (va_runS (As := [.int x1]) (rest := []) ⟨hx, hb, hml, hown, hts⟩ (m_X2_numbersOf_x l g s.heap.size ws (x1) hG ) (va_cwS 1 hts (gd_S kw_686 kw_764 kw_389 kw_763) rfl rfl rfl (by decide +kernel) ⟨Nat.le_of_ble_eq_true rfl, Nat.le_of_ble_eq_true rfl⟩) ⟨gblind, fun U hU hW9 => gmk hU hW9 hP hK hD hex hE hS hFc⟩ rfl rfl hl.1 rfl (lv_room (Nat.le_of_ble_eq_true rfl)) dX2_lookupLength_1 ⟨Nat.le_of_ble_eq_true rfl, Nat.le_of_ble_eq_true rfl⟩) hS (fun q _ h => hFc q h) hFc (fun r_1 u9 t9 H1 locs ht9 hvm9 hw9 hB9 hz9 hk9 hS => ?_)
  have hP : va_P (gD g) cl0 ws H1 := by rw [← ht9]; exact hB9.1
  obtain ⟨hw9, xp_2⟩ := hw9
  have h_r_1 := hw9
  clear hB9 hz9 hk9 hvm9 ht9 hw9
  generalize H1 = H at hP hS ⊢
  refine lv_istore_n (lv' := [(2, .int r_1), (0, .ref h0), (1, .int x1)]) hx hb dX2_lookupLength_4 rfl hl (by decide) rfl (fun ls hl => ?_)
  refine lv_aload_n hx hb dX2_lookupLength_5 rfl (lv_at hl 1 rfl) ?_
  refine lv_iload_n hx hb dX2_lookupLength_6 rfl (lv_at hl 0 rfl) ?_
  refine lv_iconst (v := 4) hx hb dX2_lookupLength_7 (by decide) ?_
  refine lv_iadd hx hb dX2_lookupLength_8 ?_
  refine lv_topi (fun z_3 ez_3 => ?_)
  have hFc := gfree hD hS hA
  obtain ⟨k_4, fs_4, hk_4⟩ := gC_of o_h0
  refine va_calli (va_runV (As := [.int z_3]) (rest := []) ⟨hx, hb, hml, hown, hts⟩ (m_X2_s4_x l g H.size ws h0 (z_3) hG o_h0) (cwV 1 hts (gd_V kw_623 kw_790 kw_791 kw_389 kw_789) rfl rfl rfl (by decide +kernel) ⟨Nat.le_of_ble_eq_true rfl, Nat.le_of_ble_eq_true rfl⟩) ⟨gblind, va_recv hK hP (ci := 2) (q0 := k_4) rfl hk_4, fun U hU hW9 => gmk hU hW9 hP hK hD hex hE hS hFc⟩ rfl rfl hl.1 rfl (lv_room (Nat.le_of_ble_eq_true rfl)) dX2_lookupLength_9 ⟨Nat.le_of_ble_eq_true rfl, Nat.le_of_ble_eq_true rfl⟩) hS (fun q _ h => hFc q h) hFc (fun r_5 u9 t9 H1 locs ht9 hvm9 hw9 hB9 hz9 hk9 hS => ?_)
  have hP : va_P (gD g) cl0 ws H1 := by rw [← ht9]; exact hB9.1
  obtain ⟨hw9, xp_6⟩ := hw9
  clear hB9 hz9 hk9 hvm9 ht9 hw9
  generalize H1 = H at hP hS ⊢
  refine lv_istore_n (lv' := [(3, .int r_5), (2, .int r_1), (0, .ref h0), (1, .int x1)]) hx hb dX2_lookupLength_12 rfl hl (by decide) rfl (fun ls hl => ?_)
  refine lv_iload_n hx hb dX2_lookupLength_13 rfl (lv_at hl 1 rfl) ?_
  refine lv_bipush (v := 8) hx hb dX2_lookupLength_14 (by decide) ?_
  refine lv_iadd hx hb dX2_lookupLength_16 ?_
  refine lv_topi (fun z_7 ez_7 => ?_)
  refine lv_aload_n hx hb dX2_lookupLength_17 rfl (lv_at hl 2 rfl) ?_
  obtain ⟨k_8, fs9, hk_8⟩ := gC_of o_h0
  obtain ⟨r0_8, c1_8, c2_8, c3_8, c4_8, c5_8, c6_8, r7_8, n7_8, c8_8, c9_8, l10_8, c11_8, rfl, o_r0_8, a_r7_8, f2_8, f3_8, f4_8, -⟩ := (hG.1 _ _ _ _ hk_8).hX2 rfl
  refine va_get (D := gD g) (ci := 2) (v := .int c2_8) (C := RX2) (T := TX2) (N := 12) hx hb hts inX2 hown hK hP k_8 hk_8 rfl 2 (by decide) (hts _ kw_716) (fun _ h9 => h9) rfl dX2_lookupLength_18 ?_
  refine lv_icmp_gt (tgt := 51) hx hb dX2_lookupLength_21 (by decide) (fun c_9 => ?_) (fun c_9 => ?_)
  · refine lv_iconst (v := 0) hx hb dX2_lookupLength_51 (by decide) ?_
    refine W.widen (k := 0) (n := 0) (Nat.le_of_ble_eq_true rfl) (Nat.le_of_ble_eq_true rfl) ?_
    exact W.iret (v := 0) hx hb hr (fun t9 ht9 hW9 => ⟨⟨_, (), rfl, ⟨(by have e0 : (0 : Int32).toInt = 0 := (by decide); have e4 : (4 : Int32).toInt = 4 := (by decide); have e8 : (8 : Int32).toInt = 8 := (by decide); have q_r_1 := h_r_1; obtain ⟨u_z_3, q_z_3⟩ := i_add ez_3; obtain ⟨u_z_7, q_z_7⟩ := i_add ez_7; have q_c_9 := i_lt c_9; have q_f4_8 := f4_8; have g_c2_8 := i_rg c2_8; have g_r_1 := i_rg r_1; have g_x1 := i_rg x1; have g_z_3 := i_rg z_3; have g_z_7 := i_rg z_7; omega), (fun f9 e9 n9 c9 s9 q9 => by obtain ⟨w9, h1, h2⟩ := vx_un hD hk_8 rfl rfl rfl q9; rw [h1, h2] at q9 ⊢; have y_n := xp_2; have y_m := xp_6 _ _ _ _ _ q9; unfold kLook; rw [if_pos (by simp only [← y_n, ← ez_3, ← y_m, ← ez_7]; first | exact Or.inl (by have e4 : (4 : Int32).toInt = 4 := (by decide); have e8 : (8 : Int32).toInt = 8 := (by decide); have q_r_1 := h_r_1; obtain ⟨u_z_3, q_z_3⟩ := i_add ez_3; obtain ⟨u_z_7, q_z_7⟩ := i_add ez_7; have q_f4_8 := f4_8; have q_c_9 := i_lt c_9; have g_c2_8 := i_rg c2_8; have g_r_1 := i_rg r_1; have g_r_5 := i_rg r_5; have g_x1 := i_rg x1; have g_z_3 := i_rg z_3; have g_z_7 := i_rg z_7; omega) | exact Or.inr (Or.inl (by have e4 : (4 : Int32).toInt = 4 := (by decide); have e8 : (8 : Int32).toInt = 8 := (by decide); have q_r_1 := h_r_1; obtain ⟨u_z_3, q_z_3⟩ := i_add ez_3; obtain ⟨u_z_7, q_z_7⟩ := i_add ez_7; have q_f4_8 := f4_8; have q_c_9 := i_lt c_9; have g_c2_8 := i_rg c2_8; have g_r_1 := i_rg r_1; have g_r_5 := i_rg r_5; have g_x1 := i_rg x1; have g_z_3 := i_rg z_3; have g_z_7 := i_rg z_7; omega)) | exact Or.inr (Or.inr (Or.inl (by have e4 : (4 : Int32).toInt = 4 := (by decide); have e8 : (8 : Int32).toInt = 8 := (by decide); have q_r_1 := h_r_1; obtain ⟨u_z_3, q_z_3⟩ := i_add ez_3; obtain ⟨u_z_7, q_z_7⟩ := i_add ez_7; have q_f4_8 := f4_8; have q_c_9 := i_lt c_9; have g_c2_8 := i_rg c2_8; have g_r_1 := i_rg r_1; have g_r_5 := i_rg r_5; have g_x1 := i_rg x1; have g_z_3 := i_rg z_3; have g_z_7 := i_rg z_7; omega))) | exact Or.inr (Or.inr (Or.inr (Or.inl (by have e4 : (4 : Int32).toInt = 4 := (by decide); have e8 : (8 : Int32).toInt = 8 := (by decide); have q_r_1 := h_r_1; obtain ⟨u_z_3, q_z_3⟩ := i_add ez_3; obtain ⟨u_z_7, q_z_7⟩ := i_add ez_7; have q_f4_8 := f4_8; have q_c_9 := i_lt c_9; have g_c2_8 := i_rg c2_8; have g_r_1 := i_rg r_1; have g_r_5 := i_rg r_5; have g_x1 := i_rg x1; have g_z_3 := i_rg z_3; have g_z_7 := i_rg z_7; omega)))))])⟩, ⟨by rw [ht9]; exact hP, hD⟩⟩, hS.F ht9⟩) hS.2.2 dX2_lookupLength_52
  · refine lv_iload_n hx hb dX2_lookupLength_24 rfl (lv_at hl 0 rfl) ?_
    refine lv_if_lt (tgt := 51) hx hb dX2_lookupLength_25 (by decide) (fun c_10 => ?_) (fun c_10 => ?_)
    · refine lv_iconst (v := 0) hx hb dX2_lookupLength_51 (by decide) ?_
      refine W.widen (k := 0) (n := 0) (Nat.le_of_ble_eq_true rfl) (Nat.le_of_ble_eq_true rfl) ?_
      exact W.iret (v := 0) hx hb hr (fun t9 ht9 hW9 => ⟨⟨_, (), rfl, ⟨(by have e0 : (0 : Int32).toInt = 0 := (by decide); have e4 : (4 : Int32).toInt = 4 := (by decide); have e8 : (8 : Int32).toInt = 8 := (by decide); have q_r_1 := h_r_1; obtain ⟨u_z_3, q_z_3⟩ := i_add ez_3; obtain ⟨u_z_7, q_z_7⟩ := i_add ez_7; have q_c_9 := i_nlt c_9; have q_f4_8 := f4_8; have g_c2_8 := i_rg c2_8; have g_r_1 := i_rg r_1; have g_x1 := i_rg x1; have g_z_3 := i_rg z_3; have g_z_7 := i_rg z_7; omega), (fun f9 e9 n9 c9 s9 q9 => by obtain ⟨w9, h1, h2⟩ := vx_un hD hk_8 rfl rfl rfl q9; rw [h1, h2] at q9 ⊢; have y_n := xp_2; have y_m := xp_6 _ _ _ _ _ q9; unfold kLook; rw [if_pos (by simp only [← y_n, ← ez_3, ← y_m, ← ez_7]; first | exact Or.inl (by have e0 : (0 : Int32).toInt = 0 := (by decide); have e4 : (4 : Int32).toInt = 4 := (by decide); have e8 : (8 : Int32).toInt = 8 := (by decide); have q_r_1 := h_r_1; obtain ⟨u_z_3, q_z_3⟩ := i_add ez_3; obtain ⟨u_z_7, q_z_7⟩ := i_add ez_7; have q_f4_8 := f4_8; have q_c_9 := i_nlt c_9; have q_c_10 := i_lt c_10; have g_c2_8 := i_rg c2_8; have g_r_1 := i_rg r_1; have g_r_5 := i_rg r_5; have g_x1 := i_rg x1; have g_z_3 := i_rg z_3; have g_z_7 := i_rg z_7; omega) | exact Or.inr (Or.inl (by have e0 : (0 : Int32).toInt = 0 := (by decide); have e4 : (4 : Int32).toInt = 4 := (by decide); have e8 : (8 : Int32).toInt = 8 := (by decide); have q_r_1 := h_r_1; obtain ⟨u_z_3, q_z_3⟩ := i_add ez_3; obtain ⟨u_z_7, q_z_7⟩ := i_add ez_7; have q_f4_8 := f4_8; have q_c_9 := i_nlt c_9; have q_c_10 := i_lt c_10; have g_c2_8 := i_rg c2_8; have g_r_1 := i_rg r_1; have g_r_5 := i_rg r_5; have g_x1 := i_rg x1; have g_z_3 := i_rg z_3; have g_z_7 := i_rg z_7; omega)) | exact Or.inr (Or.inr (Or.inl (by have e0 : (0 : Int32).toInt = 0 := (by decide); have e4 : (4 : Int32).toInt = 4 := (by decide); have e8 : (8 : Int32).toInt = 8 := (by decide); have q_r_1 := h_r_1; obtain ⟨u_z_3, q_z_3⟩ := i_add ez_3; obtain ⟨u_z_7, q_z_7⟩ := i_add ez_7; have q_f4_8 := f4_8; have q_c_9 := i_nlt c_9; have q_c_10 := i_lt c_10; have g_c2_8 := i_rg c2_8; have g_r_1 := i_rg r_1; have g_r_5 := i_rg r_5; have g_x1 := i_rg x1; have g_z_3 := i_rg z_3; have g_z_7 := i_rg z_7; omega))) | exact Or.inr (Or.inr (Or.inr (Or.inl (by have e0 : (0 : Int32).toInt = 0 := (by decide); have e4 : (4 : Int32).toInt = 4 := (by decide); have e8 : (8 : Int32).toInt = 8 := (by decide); have q_r_1 := h_r_1; obtain ⟨u_z_3, q_z_3⟩ := i_add ez_3; obtain ⟨u_z_7, q_z_7⟩ := i_add ez_7; have q_f4_8 := f4_8; have q_c_9 := i_nlt c_9; have q_c_10 := i_lt c_10; have g_c2_8 := i_rg c2_8; have g_r_1 := i_rg r_1; have g_r_5 := i_rg r_5; have g_x1 := i_rg x1; have g_z_3 := i_rg z_3; have g_z_7 := i_rg z_7; omega)))))])⟩, ⟨by rw [ht9]; exact hP, hD⟩⟩, hS.F ht9⟩) hS.2.2 dX2_lookupLength_52
    · refine lv_iload_n hx hb dX2_lookupLength_28 rfl (lv_at hl 0 rfl) ?_
      refine lv_sipush (v := 200) hx hb dX2_lookupLength_29 (by decide) ?_
      refine lv_icmp_gt (tgt := 51) hx hb dX2_lookupLength_32 (by decide) (fun c_11 => ?_) (fun c_11 => ?_)
      · refine lv_iconst (v := 0) hx hb dX2_lookupLength_51 (by decide) ?_
        refine W.widen (k := 0) (n := 0) (Nat.le_of_ble_eq_true rfl) (Nat.le_of_ble_eq_true rfl) ?_
        exact W.iret (v := 0) hx hb hr (fun t9 ht9 hW9 => ⟨⟨_, (), rfl, ⟨(by have e0 : (0 : Int32).toInt = 0 := (by decide); have e4 : (4 : Int32).toInt = 4 := (by decide); have e8 : (8 : Int32).toInt = 8 := (by decide); have q_r_1 := h_r_1; obtain ⟨u_z_3, q_z_3⟩ := i_add ez_3; obtain ⟨u_z_7, q_z_7⟩ := i_add ez_7; have q_c_9 := i_nlt c_9; have q_f4_8 := f4_8; have g_c2_8 := i_rg c2_8; have g_r_1 := i_rg r_1; have g_x1 := i_rg x1; have g_z_3 := i_rg z_3; have g_z_7 := i_rg z_7; omega), (fun f9 e9 n9 c9 s9 q9 => by obtain ⟨w9, h1, h2⟩ := vx_un hD hk_8 rfl rfl rfl q9; rw [h1, h2] at q9 ⊢; have y_n := xp_2; have y_m := xp_6 _ _ _ _ _ q9; unfold kLook; rw [if_pos (by simp only [← y_n, ← ez_3, ← y_m, ← ez_7]; first | exact Or.inl (by have e0 : (0 : Int32).toInt = 0 := (by decide); have e4 : (4 : Int32).toInt = 4 := (by decide); have e8 : (8 : Int32).toInt = 8 := (by decide); have e200 : (200 : Int32).toInt = 200 := (by decide); have q_r_1 := h_r_1; obtain ⟨u_z_3, q_z_3⟩ := i_add ez_3; obtain ⟨u_z_7, q_z_7⟩ := i_add ez_7; have q_f4_8 := f4_8; have q_c_9 := i_nlt c_9; have q_c_10 := i_nlt c_10; have q_c_11 := i_lt c_11; have g_c2_8 := i_rg c2_8; have g_r_1 := i_rg r_1; have g_r_5 := i_rg r_5; have g_x1 := i_rg x1; have g_z_3 := i_rg z_3; have g_z_7 := i_rg z_7; omega) | exact Or.inr (Or.inl (by have e0 : (0 : Int32).toInt = 0 := (by decide); have e4 : (4 : Int32).toInt = 4 := (by decide); have e8 : (8 : Int32).toInt = 8 := (by decide); have e200 : (200 : Int32).toInt = 200 := (by decide); have q_r_1 := h_r_1; obtain ⟨u_z_3, q_z_3⟩ := i_add ez_3; obtain ⟨u_z_7, q_z_7⟩ := i_add ez_7; have q_f4_8 := f4_8; have q_c_9 := i_nlt c_9; have q_c_10 := i_nlt c_10; have q_c_11 := i_lt c_11; have g_c2_8 := i_rg c2_8; have g_r_1 := i_rg r_1; have g_r_5 := i_rg r_5; have g_x1 := i_rg x1; have g_z_3 := i_rg z_3; have g_z_7 := i_rg z_7; omega)) | exact Or.inr (Or.inr (Or.inl (by have e0 : (0 : Int32).toInt = 0 := (by decide); have e4 : (4 : Int32).toInt = 4 := (by decide); have e8 : (8 : Int32).toInt = 8 := (by decide); have e200 : (200 : Int32).toInt = 200 := (by decide); have q_r_1 := h_r_1; obtain ⟨u_z_3, q_z_3⟩ := i_add ez_3; obtain ⟨u_z_7, q_z_7⟩ := i_add ez_7; have q_f4_8 := f4_8; have q_c_9 := i_nlt c_9; have q_c_10 := i_nlt c_10; have q_c_11 := i_lt c_11; have g_c2_8 := i_rg c2_8; have g_r_1 := i_rg r_1; have g_r_5 := i_rg r_5; have g_x1 := i_rg x1; have g_z_3 := i_rg z_3; have g_z_7 := i_rg z_7; omega))) | exact Or.inr (Or.inr (Or.inr (Or.inl (by have e0 : (0 : Int32).toInt = 0 := (by decide); have e4 : (4 : Int32).toInt = 4 := (by decide); have e8 : (8 : Int32).toInt = 8 := (by decide); have e200 : (200 : Int32).toInt = 200 := (by decide); have q_r_1 := h_r_1; obtain ⟨u_z_3, q_z_3⟩ := i_add ez_3; obtain ⟨u_z_7, q_z_7⟩ := i_add ez_7; have q_f4_8 := f4_8; have q_c_9 := i_nlt c_9; have q_c_10 := i_nlt c_10; have q_c_11 := i_lt c_11; have g_c2_8 := i_rg c2_8; have g_r_1 := i_rg r_1; have g_r_5 := i_rg r_5; have g_x1 := i_rg x1; have g_z_3 := i_rg z_3; have g_z_7 := i_rg z_7; omega)))))])⟩, ⟨by rw [ht9]; exact hP, hD⟩⟩, hS.F ht9⟩) hS.2.2 dX2_lookupLength_52
      · refine lv_iload_n hx hb dX2_lookupLength_35 rfl (lv_at hl 1 rfl) ?_
        refine lv_bipush (v := 8) hx hb dX2_lookupLength_36 (by decide) ?_
        refine lv_iadd hx hb dX2_lookupLength_38 ?_
        refine lv_topi (fun z_12 ez_12 => ?_)
        refine lv_bipush (v := 8) hx hb dX2_lookupLength_39 (by decide) ?_
        refine lv_iload_n hx hb dX2_lookupLength_41 rfl (lv_at hl 0 rfl) ?_
        refine lv_imul hx hb dX2_lookupLength_42 ?_
        refine lv_topi (fun z_13 ez_13 => ?_)
        refine lv_iadd hx hb dX2_lookupLength_43 ?_
        refine lv_topi (fun z_14 ez_14 => ?_)
        refine lv_aload_n hx hb dX2_lookupLength_44 rfl (lv_at hl 2 rfl) ?_
        refine va_get (D := gD g) (ci := 2) (v := .int c2_8) (C := RX2) (T := TX2) (N := 12) hx hb hts inX2 hown hK hP k_8 hk_8 rfl 2 (by decide) (hts _ kw_716) (fun _ h9 => h9) rfl dX2_lookupLength_45 ?_
        refine lv_icmp_le (tgt := 53) hx hb dX2_lookupLength_48 (by decide) (fun c_15 => ?_) (fun c_15 => ?_)
        · refine lv_iconst (v := 1) hx hb dX2_lookupLength_53 (by decide) ?_
          refine lv_istore (lv' := [(4, .int 1), (3, .int r_5), (2, .int r_1), (0, .ref h0), (1, .int x1)]) hx hb dX2_lookupLength_54 hl (by decide) rfl (fun ls hl => ?_)
          have J_56 : ∀ (n9 : Nat) (v4_16 : Int32) (H : Heap) (locs : List Loc) (ls : Array Slot), (2147483647 - v4_16.toInt).toNat = n9 → 0 ≤ v4_16.toInt → 1 ≤ v4_16.toInt → (∀ (f : Nat → Int32) (e : Int32) (n : Nat) (cd sz : Int32), vx ws h0 f e n cd sz → ∀ j : Int32, 1 ≤ j.toInt → j.toInt < v4_16.toInt → (kS4 f e n cd sz (kNum x1 + 8 * j)).toInt < (kS4 f e n cd sz (kNum x1 + 8 + 8 * j)).toInt) → va_P (gD g) cl0 ws H → va_D A ws → va_S A s.heap H locs → lv_has ls 5 [(0, .ref h0), (1, .int x1), (2, .int r_1), (3, .int r_5), (4, .int v4_16)] → W p l e (headSpec (wt yX2_lookupLength cX2_lookupLength 5 (some .int)) ({ frames := 2, cells := 0, slots := 0, locals := 42 })).room s m ([.ref h0, .int x1] : List Value).toArray below meth c H locs (0) (0) (MQ below (va_Qi (fun (r : Int32) (u9 : Unit) => (x1.toInt < 0 ∨ 1200 < x1.toInt ∨ r.toInt ≤ 2000) ∧ (∀ (f : Nat → Int32) (e : Int32) (n : Nat) (cd sz : Int32), vx ws h0 f e n cd sz → r = kLook f e n cd sz x1)) (gQ0 g A ws) A) ([.ref h0, .int x1] : List Value).toArray s (0) (0) A) (F0 m 56 ls []) := by
            intro n9
            induction n9 using Nat.strongRecOn with
            | ind n9 ih_56 =>
              intro v4_16 H locs ls hm9 iv_17 iv_18 j2_56_0 hP hD hS hl
              subst hm9
              refine lv_iload hx hb dX2_lookupLength_56 (lv_at hl 4 rfl) ?_
              refine lv_iload_n hx hb dX2_lookupLength_58 rfl (lv_at hl 3 rfl) ?_
              refine lv_icmp_ge (tgt := 98) hx hb dX2_lookupLength_59 (by decide) (fun c_21 => ?_) (fun c_21 => ?_)
              · refine lv_iload_n hx hb dX2_lookupLength_98 rfl (lv_at hl 2 rfl) ?_
                refine lv_bipush (v := 8) hx hb dX2_lookupLength_99 (by decide) ?_
                refine lv_iadd hx hb dX2_lookupLength_101 ?_
                refine lv_topi (fun z_22 ez_22 => ?_)
                refine lv_bipush (v := 8) hx hb dX2_lookupLength_102 (by decide) ?_
                refine lv_iload_n hx hb dX2_lookupLength_104 rfl (lv_at hl 3 rfl) ?_
                refine lv_imul hx hb dX2_lookupLength_105 ?_
                refine lv_topi (fun z_23 ez_23 => ?_)
                refine lv_iadd hx hb dX2_lookupLength_106 ?_
                refine lv_topi (fun z_24 ez_24 => ?_)
                refine lv_iload_n hx hb dX2_lookupLength_107 rfl (lv_at hl 1 rfl) ?_
                refine lv_isub hx hb dX2_lookupLength_108 ?_
                refine lv_topi (fun z_25 ez_25 => ?_)
                refine W.widen (k := 0) (n := 0) (Nat.le_of_ble_eq_true rfl) (Nat.le_of_ble_eq_true rfl) ?_
                exact W.iret (v := z_25) hx hb hr (fun t9 ht9 hW9 => ⟨⟨_, (), rfl, ⟨(by have e0 : (0 : Int32).toInt = 0 := (by decide); have e4 : (4 : Int32).toInt = 4 := (by decide); have e8 : (8 : Int32).toInt = 8 := (by decide); have e200 : (200 : Int32).toInt = 200 := (by decide); have q_r_1 := h_r_1; obtain ⟨u_z_25, q_z_25⟩ := i_sub ez_25; obtain ⟨u_z_3, q_z_3⟩ := i_add ez_3; obtain ⟨u_z_7, q_z_7⟩ := i_add ez_7; obtain ⟨u_z_12, q_z_12⟩ := i_add ez_12; obtain ⟨u_z_22, q_z_22⟩ := i_add ez_22; obtain ⟨u_z_24, q_z_24⟩ := i_add ez_24; have q_c_9 := i_nlt c_9; obtain ⟨u_z_14, q_z_14⟩ := i_add ez_14; have q_z_23 := i_mulL (c := 8) (K := 268435455) ez_23 (by decide) (by decide) (by decide) (by decide); have q_f4_8 := f4_8; have q_c_10 := i_nlt c_10; have q_c_11 := i_nlt c_11; have q_z_13 := i_mulL (c := 8) (K := 268435455) ez_13 (by decide) (by decide) (by decide) (by decide); have q_c_15 := i_le c_15; have q_c_21 := i_le c_21; have g_c2_8 := i_rg c2_8; have g_r_1 := i_rg r_1; have g_r_5 := i_rg r_5; have g_v4_16 := i_rg v4_16; have g_x1 := i_rg x1; have g_z_12 := i_rg z_12; have g_z_13 := i_rg z_13; have g_z_14 := i_rg z_14; have g_z_22 := i_rg z_22; have g_z_23 := i_rg z_23; have g_z_24 := i_rg z_24; have g_z_25 := i_rg z_25; have g_z_3 := i_rg z_3; have g_z_7 := i_rg z_7; omega), (fun f9 e9 n9 c9 s9 q9 => by obtain ⟨w9, h1, h2⟩ := vx_un hD hk_8 rfl rfl rfl q9; rw [h1, h2] at q9 ⊢; have y_n := xp_2; have y_m := xp_6 _ _ _ _ _ q9; have d_z_12 : z_12 = z_7 := ez_12.trans ez_7.symm; (try simp only [d_z_12] at ez_13); (try simp only [d_z_12] at ez_14); (try simp only [d_z_12] at ez_22); have d_z_22 : z_22 = z_7 := ez_22.trans ez_7.symm; (try simp only [d_z_12, d_z_22] at ez_23); have d_z_23 : z_23 = z_13 := ez_23.trans ez_13.symm; (try simp only [d_z_12, d_z_22, d_z_23] at ez_24); have d_z_24 : z_24 = z_14 := ez_24.trans ez_14.symm; (try simp only [d_z_12, d_z_22, d_z_23, d_z_24] at ez_25); unfold kLook; rw [if_neg (by intro hh; rcases hh with h | h | h | h | ⟨j9, g1, g2, g3⟩; (· (try simp only [d_z_12, d_z_22, d_z_23, d_z_24, ← y_n, ← ez_3, ← y_m, ← ez_7, ← ez_13, ← ez_14, ← ez_25] at h); exact False.elim (by have e0 : (0 : Int32).toInt = 0 := (by decide); have e4 : (4 : Int32).toInt = 4 := (by decide); have e8 : (8 : Int32).toInt = 8 := (by decide); have e200 : (200 : Int32).toInt = 200 := (by decide); have q_r_1 := h_r_1; obtain ⟨u_z_3, q_z_3⟩ := i_add ez_3; obtain ⟨u_z_7, q_z_7⟩ := i_add ez_7; have q_f4_8 := f4_8; have q_c_9 := i_nlt c_9; have q_c_10 := i_nlt c_10; have q_c_11 := i_nlt c_11; obtain ⟨u_z_12, q_z_12⟩ := i_add ez_12; have q_z_13 := i_mulL (c := 8) (K := 268435455) ez_13 (by decide) (by decide) (by decide) (by decide); have q_c_15 := i_le c_15; have q_iv_17 := iv_17; have q_iv_18 := iv_18; have q_c_21 := i_le c_21; obtain ⟨u_z_22, q_z_22⟩ := i_add ez_22; have q_z_23 := i_mulL (c := 8) (K := 268435455) ez_23 (by decide) (by decide) (by decide) (by decide); obtain ⟨u_z_25, q_z_25⟩ := i_sub ez_25; obtain ⟨u_z_14, q_z_14⟩ := i_add ez_14; obtain ⟨u_z_24, q_z_24⟩ := i_add ez_24; have g_c2_8 := i_rg c2_8; have g_r_1 := i_rg r_1; have g_r_5 := i_rg r_5; have g_v4_16 := i_rg v4_16; have g_x1 := i_rg x1; have g_z_12 := i_rg z_12; have g_z_13 := i_rg z_13; have g_z_14 := i_rg z_14; have g_z_22 := i_rg z_22; have g_z_23 := i_rg z_23; have g_z_24 := i_rg z_24; have g_z_25 := i_rg z_25; have g_z_3 := i_rg z_3; have g_z_7 := i_rg z_7; omega)); (· (try simp only [d_z_12, d_z_22, d_z_23, d_z_24, ← y_n, ← ez_3, ← y_m, ← ez_7, ← ez_13, ← ez_14, ← ez_25] at h); exact False.elim (by have e0 : (0 : Int32).toInt = 0 := (by decide); have e4 : (4 : Int32).toInt = 4 := (by decide); have e8 : (8 : Int32).toInt = 8 := (by decide); have e200 : (200 : Int32).toInt = 200 := (by decide); have q_r_1 := h_r_1; obtain ⟨u_z_3, q_z_3⟩ := i_add ez_3; obtain ⟨u_z_7, q_z_7⟩ := i_add ez_7; have q_f4_8 := f4_8; have q_c_9 := i_nlt c_9; have q_c_10 := i_nlt c_10; have q_c_11 := i_nlt c_11; obtain ⟨u_z_12, q_z_12⟩ := i_add ez_12; have q_z_13 := i_mulL (c := 8) (K := 268435455) ez_13 (by decide) (by decide) (by decide) (by decide); have q_c_15 := i_le c_15; have q_iv_17 := iv_17; have q_iv_18 := iv_18; have q_c_21 := i_le c_21; obtain ⟨u_z_22, q_z_22⟩ := i_add ez_22; have q_z_23 := i_mulL (c := 8) (K := 268435455) ez_23 (by decide) (by decide) (by decide) (by decide); obtain ⟨u_z_25, q_z_25⟩ := i_sub ez_25; obtain ⟨u_z_14, q_z_14⟩ := i_add ez_14; obtain ⟨u_z_24, q_z_24⟩ := i_add ez_24; have g_c2_8 := i_rg c2_8; have g_r_1 := i_rg r_1; have g_r_5 := i_rg r_5; have g_v4_16 := i_rg v4_16; have g_x1 := i_rg x1; have g_z_12 := i_rg z_12; have g_z_13 := i_rg z_13; have g_z_14 := i_rg z_14; have g_z_22 := i_rg z_22; have g_z_23 := i_rg z_23; have g_z_24 := i_rg z_24; have g_z_25 := i_rg z_25; have g_z_3 := i_rg z_3; have g_z_7 := i_rg z_7; omega)); (· (try simp only [d_z_12, d_z_22, d_z_23, d_z_24, ← y_n, ← ez_3, ← y_m, ← ez_7, ← ez_13, ← ez_14, ← ez_25] at h); exact False.elim (by have e0 : (0 : Int32).toInt = 0 := (by decide); have e4 : (4 : Int32).toInt = 4 := (by decide); have e8 : (8 : Int32).toInt = 8 := (by decide); have e200 : (200 : Int32).toInt = 200 := (by decide); have q_r_1 := h_r_1; obtain ⟨u_z_3, q_z_3⟩ := i_add ez_3; obtain ⟨u_z_7, q_z_7⟩ := i_add ez_7; have q_f4_8 := f4_8; have q_c_9 := i_nlt c_9; have q_c_10 := i_nlt c_10; have q_c_11 := i_nlt c_11; obtain ⟨u_z_12, q_z_12⟩ := i_add ez_12; have q_z_13 := i_mulL (c := 8) (K := 268435455) ez_13 (by decide) (by decide) (by decide) (by decide); have q_c_15 := i_le c_15; have q_iv_17 := iv_17; have q_iv_18 := iv_18; have q_c_21 := i_le c_21; obtain ⟨u_z_22, q_z_22⟩ := i_add ez_22; have q_z_23 := i_mulL (c := 8) (K := 268435455) ez_23 (by decide) (by decide) (by decide) (by decide); obtain ⟨u_z_25, q_z_25⟩ := i_sub ez_25; obtain ⟨u_z_14, q_z_14⟩ := i_add ez_14; obtain ⟨u_z_24, q_z_24⟩ := i_add ez_24; have g_c2_8 := i_rg c2_8; have g_r_1 := i_rg r_1; have g_r_5 := i_rg r_5; have g_v4_16 := i_rg v4_16; have g_x1 := i_rg x1; have g_z_12 := i_rg z_12; have g_z_13 := i_rg z_13; have g_z_14 := i_rg z_14; have g_z_22 := i_rg z_22; have g_z_23 := i_rg z_23; have g_z_24 := i_rg z_24; have g_z_25 := i_rg z_25; have g_z_3 := i_rg z_3; have g_z_7 := i_rg z_7; omega)); (· (try simp only [d_z_12, d_z_22, d_z_23, d_z_24, ← y_n, ← ez_3, ← y_m, ← ez_7, ← ez_13, ← ez_14, ← ez_25] at h); exact False.elim (by have e0 : (0 : Int32).toInt = 0 := (by decide); have e4 : (4 : Int32).toInt = 4 := (by decide); have e8 : (8 : Int32).toInt = 8 := (by decide); have e200 : (200 : Int32).toInt = 200 := (by decide); have q_r_1 := h_r_1; obtain ⟨u_z_3, q_z_3⟩ := i_add ez_3; obtain ⟨u_z_7, q_z_7⟩ := i_add ez_7; have q_f4_8 := f4_8; have q_c_9 := i_nlt c_9; have q_c_10 := i_nlt c_10; have q_c_11 := i_nlt c_11; obtain ⟨u_z_12, q_z_12⟩ := i_add ez_12; have q_z_13 := i_mulL (c := 8) (K := 268435455) ez_13 (by decide) (by decide) (by decide) (by decide); have q_c_15 := i_le c_15; have q_iv_17 := iv_17; have q_iv_18 := iv_18; have q_c_21 := i_le c_21; obtain ⟨u_z_22, q_z_22⟩ := i_add ez_22; have q_z_23 := i_mulL (c := 8) (K := 268435455) ez_23 (by decide) (by decide) (by decide) (by decide); obtain ⟨u_z_25, q_z_25⟩ := i_sub ez_25; obtain ⟨u_z_14, q_z_14⟩ := i_add ez_14; obtain ⟨u_z_24, q_z_24⟩ := i_add ez_24; have g_c2_8 := i_rg c2_8; have g_r_1 := i_rg r_1; have g_r_5 := i_rg r_5; have g_v4_16 := i_rg v4_16; have g_x1 := i_rg x1; have g_z_12 := i_rg z_12; have g_z_13 := i_rg z_13; have g_z_14 := i_rg z_14; have g_z_22 := i_rg z_22; have g_z_23 := i_rg z_23; have g_z_24 := i_rg z_24; have g_z_25 := i_rg z_25; have g_z_3 := i_rg z_3; have g_z_7 := i_rg z_7; omega)); (· have w := j2_56_0 _ _ _ _ _ q9 j9 g1 (by (try simp only [d_z_12, d_z_22, d_z_23, d_z_24, ← y_n, ← ez_3, ← y_m, ← ez_7, ← ez_13, ← ez_14, ← ez_25] at g2); exact (by have e0 : (0 : Int32).toInt = 0 := (by decide); have e4 : (4 : Int32).toInt = 4 := (by decide); have e8 : (8 : Int32).toInt = 8 := (by decide); have e200 : (200 : Int32).toInt = 200 := (by decide); have q_r_1 := h_r_1; obtain ⟨u_z_3, q_z_3⟩ := i_add ez_3; obtain ⟨u_z_7, q_z_7⟩ := i_add ez_7; have q_f4_8 := f4_8; have q_c_9 := i_nlt c_9; have q_c_10 := i_nlt c_10; have q_c_11 := i_nlt c_11; obtain ⟨u_z_12, q_z_12⟩ := i_add ez_12; have q_z_13 := i_mulL (c := 8) (K := 268435455) ez_13 (by decide) (by decide) (by decide) (by decide); have q_c_15 := i_le c_15; have q_iv_17 := iv_17; have q_iv_18 := iv_18; have q_c_21 := i_le c_21; obtain ⟨u_z_22, q_z_22⟩ := i_add ez_22; have q_z_23 := i_mulL (c := 8) (K := 268435455) ez_23 (by decide) (by decide) (by decide) (by decide); obtain ⟨u_z_25, q_z_25⟩ := i_sub ez_25; obtain ⟨u_z_14, q_z_14⟩ := i_add ez_14; obtain ⟨u_z_24, q_z_24⟩ := i_add ez_24; have g_c2_8 := i_rg c2_8; have g_r_1 := i_rg r_1; have g_r_5 := i_rg r_5; have g_v4_16 := i_rg v4_16; have g_x1 := i_rg x1; have g_z_12 := i_rg z_12; have g_z_13 := i_rg z_13; have g_z_14 := i_rg z_14; have g_z_22 := i_rg z_22; have g_z_23 := i_rg z_23; have g_z_24 := i_rg z_24; have g_z_25 := i_rg z_25; have g_z_3 := i_rg z_3; have g_z_7 := i_rg z_7; omega)); omega))]; simp only [d_z_12, d_z_22, d_z_23, d_z_24, ← y_n, ← ez_3, ← y_m, ← ez_7, ← ez_13, ← ez_14, ← ez_25])⟩, ⟨by rw [ht9]; exact hP, hD⟩⟩, hS.F ht9⟩) hS.2.2 dX2_lookupLength_109
              · refine lv_aload_n hx hb dX2_lookupLength_62 rfl (lv_at hl 0 rfl) ?_
                refine lv_iload_n hx hb dX2_lookupLength_63 rfl (lv_at hl 2 rfl) ?_
                refine lv_bipush (v := 8) hx hb dX2_lookupLength_64 (by decide) ?_
                refine lv_iadd hx hb dX2_lookupLength_66 ?_
                refine lv_topi (fun z_26 ez_26 => ?_)
                refine lv_bipush (v := 8) hx hb dX2_lookupLength_67 (by decide) ?_
                refine lv_iload hx hb dX2_lookupLength_69 (lv_at hl 4 rfl) ?_
                refine lv_imul hx hb dX2_lookupLength_71 ?_
                refine lv_topi (fun z_27 ez_27 => ?_)
                refine lv_iadd hx hb dX2_lookupLength_72 ?_
                refine lv_topi (fun z_28 ez_28 => ?_)
                have hFc := gfree hD hS hA
                refine va_calli (va_runV (As := [.int z_28]) (rest := []) ⟨hx, hb, hml, hown, hts⟩ (m_X2_s4_x l g H.size ws h0 (z_28) hG o_h0) (cwV 1 hts (gd_V kw_623 kw_790 kw_791 kw_389 kw_789) rfl rfl rfl (by decide +kernel) ⟨Nat.le_of_ble_eq_true rfl, Nat.le_of_ble_eq_true rfl⟩) ⟨gblind, va_recv hK hP (ci := 2) (q0 := k_8) rfl hk_8, fun U hU hW9 => gmk hU hW9 hP hK hD hex hE hS hFc⟩ rfl rfl hl.1 rfl (lv_room (Nat.le_of_ble_eq_true rfl)) dX2_lookupLength_73 ⟨Nat.le_of_ble_eq_true rfl, Nat.le_of_ble_eq_true rfl⟩) hS (fun q _ h => hFc q h) hFc (fun r_29 u9 t9 H1 locs ht9 hvm9 hw9 hB9 hz9 hk9 hS => ?_)
                have hP : va_P (gD g) cl0 ws H1 := by rw [← ht9]; exact hB9.1
                obtain ⟨hw9, xp_30⟩ := hw9
                clear hB9 hz9 hk9 hvm9 ht9 hw9
                generalize H1 = H at hP hS ⊢
                refine lv_aload_n hx hb dX2_lookupLength_76 rfl (lv_at hl 0 rfl) ?_
                refine lv_iload_n hx hb dX2_lookupLength_77 rfl (lv_at hl 2 rfl) ?_
                refine lv_bipush (v := 8) hx hb dX2_lookupLength_78 (by decide) ?_
                refine lv_iload hx hb dX2_lookupLength_80 (lv_at hl 4 rfl) ?_
                refine lv_imul hx hb dX2_lookupLength_82 ?_
                refine lv_topi (fun z_31 ez_31 => ?_)
                refine lv_iadd hx hb dX2_lookupLength_83 ?_
                refine lv_topi (fun z_32 ez_32 => ?_)
                have hFc := gfree hD hS hA
                refine va_calli (va_runV (As := [.int z_32]) (rest := [.int r_29]) ⟨hx, hb, hml, hown, hts⟩ (m_X2_s4_x l g H.size ws h0 (z_32) hG o_h0) (cwV 1 hts (gd_V kw_623 kw_790 kw_791 kw_389 kw_789) rfl rfl rfl (by decide +kernel) ⟨Nat.le_of_ble_eq_true rfl, Nat.le_of_ble_eq_true rfl⟩) ⟨gblind, va_recv hK hP (ci := 2) (q0 := k_8) rfl hk_8, fun U hU hW9 => gmk hU hW9 hP hK hD hex hE hS hFc⟩ rfl rfl hl.1 rfl (lv_room (Nat.le_of_ble_eq_true rfl)) dX2_lookupLength_84 ⟨Nat.le_of_ble_eq_true rfl, Nat.le_of_ble_eq_true rfl⟩) hS (fun q _ h => hFc q h) hFc (fun r_33 u9 t9 H1 locs ht9 hvm9 hw9 hB9 hz9 hk9 hS => ?_)
                have hP : va_P (gD g) cl0 ws H1 := by rw [← ht9]; exact hB9.1
                obtain ⟨hw9, xp_34⟩ := hw9
                clear hB9 hz9 hk9 hvm9 ht9 hw9
                generalize H1 = H at hP hS ⊢
                refine lv_icmp_gt (tgt := 92) hx hb dX2_lookupLength_87 (by decide) (fun c_35 => ?_) (fun c_35 => ?_)
                · obtain ⟨z_36, ez_36⟩ : ∃ z : Int32, v4_16 + Int32.ofInt 1 = z := ⟨_, rfl⟩
                  refine lv_iinc (v := z_36) (lv' := [(4, .int z_36), (0, .ref h0), (1, .int x1), (2, .int r_1), (3, .int r_5)]) hx hb dX2_lookupLength_92 hl (k := 4) rfl ez_36 (by decide) rfl (fun ls hl => ?_)
                  refine lv_goto (tgt := 56) hx hb dX2_lookupLength_95 (by decide) ?_
                  exact ih_56 _ (by have e0 : (0 : Int32).toInt = 0 := (by decide); have e4 : (4 : Int32).toInt = 4 := (by decide); have e8 : (8 : Int32).toInt = 8 := (by decide); have e200 : (200 : Int32).toInt = 200 := (by decide); obtain ⟨u_z_36, q_z_36⟩ := i_iz ez_36 (by decide) (by decide); have q_iv_17 := iv_17; have q_iv_18 := iv_18; have q_c_21 := i_nle c_21; have q_z_27 := i_mulL (c := 8) (K := 268435455) ez_27 (by decide) (by decide) (by decide) (by decide); have q_z_31 := i_mulL (c := 8) (K := 268435455) ez_31 (by decide) (by decide) (by decide) (by decide); have q_c_10 := i_nlt c_10; have q_c_11 := i_nlt c_11; have q_z_13 := i_mulL (c := 8) (K := 268435455) ez_13 (by decide) (by decide) (by decide) (by decide); obtain ⟨u_z_28, q_z_28⟩ := i_add ez_28; obtain ⟨u_z_32, q_z_32⟩ := i_add ez_32; have q_r_1 := h_r_1; obtain ⟨u_z_3, q_z_3⟩ := i_add ez_3; obtain ⟨u_z_7, q_z_7⟩ := i_add ez_7; obtain ⟨u_z_12, q_z_12⟩ := i_add ez_12; obtain ⟨u_z_14, q_z_14⟩ := i_add ez_14; obtain ⟨u_z_26, q_z_26⟩ := i_add ez_26; have g_r_1 := i_rg r_1; have g_r_5 := i_rg r_5; have g_v4_16 := i_rg v4_16; have g_x1 := i_rg x1; have g_z_12 := i_rg z_12; have g_z_13 := i_rg z_13; have g_z_14 := i_rg z_14; have g_z_26 := i_rg z_26; have g_z_27 := i_rg z_27; have g_z_28 := i_rg z_28; have g_z_3 := i_rg z_3; have g_z_31 := i_rg z_31; have g_z_32 := i_rg z_32; have g_z_36 := i_rg z_36; have g_z_7 := i_rg z_7; omega) (z_36) H locs ls rfl (by have e0 : (0 : Int32).toInt = 0 := (by decide); have e4 : (4 : Int32).toInt = 4 := (by decide); have e8 : (8 : Int32).toInt = 8 := (by decide); have e200 : (200 : Int32).toInt = 200 := (by decide); obtain ⟨u_z_36, q_z_36⟩ := i_iz ez_36 (by decide) (by decide); have q_iv_17 := iv_17; have q_iv_18 := iv_18; have q_c_21 := i_nle c_21; have q_z_27 := i_mulL (c := 8) (K := 268435455) ez_27 (by decide) (by decide) (by decide) (by decide); have q_z_31 := i_mulL (c := 8) (K := 268435455) ez_31 (by decide) (by decide) (by decide) (by decide); have q_c_10 := i_nlt c_10; have q_c_11 := i_nlt c_11; have q_z_13 := i_mulL (c := 8) (K := 268435455) ez_13 (by decide) (by decide) (by decide) (by decide); obtain ⟨u_z_28, q_z_28⟩ := i_add ez_28; obtain ⟨u_z_32, q_z_32⟩ := i_add ez_32; have q_r_1 := h_r_1; obtain ⟨u_z_3, q_z_3⟩ := i_add ez_3; obtain ⟨u_z_7, q_z_7⟩ := i_add ez_7; obtain ⟨u_z_12, q_z_12⟩ := i_add ez_12; obtain ⟨u_z_14, q_z_14⟩ := i_add ez_14; obtain ⟨u_z_26, q_z_26⟩ := i_add ez_26; have g_r_1 := i_rg r_1; have g_r_5 := i_rg r_5; have g_v4_16 := i_rg v4_16; have g_x1 := i_rg x1; have g_z_12 := i_rg z_12; have g_z_13 := i_rg z_13; have g_z_14 := i_rg z_14; have g_z_26 := i_rg z_26; have g_z_27 := i_rg z_27; have g_z_28 := i_rg z_28; have g_z_3 := i_rg z_3; have g_z_31 := i_rg z_31; have g_z_32 := i_rg z_32; have g_z_36 := i_rg z_36; have g_z_7 := i_rg z_7; omega) (by have e0 : (0 : Int32).toInt = 0 := (by decide); have e4 : (4 : Int32).toInt = 4 := (by decide); have e8 : (8 : Int32).toInt = 8 := (by decide); have e200 : (200 : Int32).toInt = 200 := (by decide); have q_r_1 := h_r_1; obtain ⟨u_z_3, q_z_3⟩ := i_add ez_3; obtain ⟨u_z_7, q_z_7⟩ := i_add ez_7; have q_c_10 := i_nlt c_10; have q_c_11 := i_nlt c_11; obtain ⟨u_z_12, q_z_12⟩ := i_add ez_12; have q_z_13 := i_mulL (c := 8) (K := 268435455) ez_13 (by decide) (by decide) (by decide) (by decide); have q_c_21 := i_nle c_21; obtain ⟨u_z_26, q_z_26⟩ := i_add ez_26; obtain ⟨u_z_32, q_z_32⟩ := i_add ez_32; obtain ⟨u_z_36, q_z_36⟩ := i_iz ez_36 (by decide) (by decide); have q_c_9 := i_nlt c_9; obtain ⟨u_z_14, q_z_14⟩ := i_add ez_14; have q_iv_17 := iv_17; have q_iv_18 := iv_18; have q_z_27 := i_mulL (c := 8) (K := 268435455) ez_27 (by decide) (by decide) (by decide) (by decide); obtain ⟨u_z_28, q_z_28⟩ := i_add ez_28; have q_z_31 := i_mulL (c := 8) (K := 268435455) ez_31 (by decide) (by decide) (by decide) (by decide); have q_f4_8 := f4_8; have q_c_15 := i_le c_15; have g_c2_8 := i_rg c2_8; have g_r_1 := i_rg r_1; have g_r_5 := i_rg r_5; have g_v4_16 := i_rg v4_16; have g_x1 := i_rg x1; have g_z_12 := i_rg z_12; have g_z_13 := i_rg z_13; have g_z_14 := i_rg z_14; have g_z_26 := i_rg z_26; have g_z_27 := i_rg z_27; have g_z_28 := i_rg z_28; have g_z_3 := i_rg z_3; have g_z_31 := i_rg z_31; have g_z_32 := i_rg z_32; have g_z_36 := i_rg z_36; have g_z_7 := i_rg z_7; omega) (fun f9 e9 n9 c9 s9 q9 j9 h8 h9 => by have y_n := xp_2; have y_m := xp_6 _ _ _ _ _ q9; have d_z_12 : z_12 = z_7 := ez_12.trans ez_7.symm; (try simp only [d_z_12] at ez_13); (try simp only [d_z_12] at ez_14); (try simp only [d_z_12] at ez_26); have d_z_26 : z_26 = z_7 := ez_26.trans ez_7.symm; (try simp only [d_z_12, d_z_26] at ez_27); (try simp only [d_z_12, d_z_26] at ez_28); have y_a := xp_30 _ _ _ _ _ q9; (try simp only [d_z_12, d_z_26] at y_a); (try simp only [d_z_12, d_z_26] at ez_31); have d_z_31 : z_31 = z_27 := ez_31.trans ez_27.symm; (try simp only [d_z_12, d_z_26, d_z_31] at ez_32); have y_b := xp_34 _ _ _ _ _ q9; (try simp only [d_z_12, d_z_26, d_z_31] at y_b); by_cases hj : j9.toInt < (v4_16 : Int32).toInt; (· exact j2_56_0 _ _ _ _ _ q9 j9 h8 hj); (· have ej : j9 = v4_16 := Int32.toInt_inj.mp (by have e0 : (0 : Int32).toInt = 0 := (by decide); have e4 : (4 : Int32).toInt = 4 := (by decide); have e8 : (8 : Int32).toInt = 8 := (by decide); have e200 : (200 : Int32).toInt = 200 := (by decide); have q_iv_17 := iv_17; have q_iv_18 := iv_18; have q_c_21 := i_nle c_21; have q_z_27 := i_mulL (c := 8) (K := 268435455) ez_27 (by decide) (by decide) (by decide) (by decide); have q_z_31 := i_mulL (c := 8) (K := 268435455) ez_31 (by decide) (by decide) (by decide) (by decide); obtain ⟨u_z_36, q_z_36⟩ := i_iz ez_36 (by decide) (by decide); have q_c_10 := i_nlt c_10; have q_c_11 := i_nlt c_11; have q_z_13 := i_mulL (c := 8) (K := 268435455) ez_13 (by decide) (by decide) (by decide) (by decide); obtain ⟨u_z_28, q_z_28⟩ := i_add ez_28; obtain ⟨u_z_32, q_z_32⟩ := i_add ez_32; have q_r_1 := h_r_1; obtain ⟨u_z_3, q_z_3⟩ := i_add ez_3; obtain ⟨u_z_7, q_z_7⟩ := i_add ez_7; obtain ⟨u_z_12, q_z_12⟩ := i_add ez_12; obtain ⟨u_z_14, q_z_14⟩ := i_add ez_14; obtain ⟨u_z_26, q_z_26⟩ := i_add ez_26; have q_c_9 := i_nlt c_9; have q_c_15 := i_le c_15; have g_c2_8 := i_rg c2_8; have g_r_1 := i_rg r_1; have g_r_5 := i_rg r_5; have g_v4_16 := i_rg v4_16; have g_x1 := i_rg x1; have g_z_12 := i_rg z_12; have g_z_13 := i_rg z_13; have g_z_14 := i_rg z_14; have g_z_26 := i_rg z_26; have g_z_27 := i_rg z_27; have g_z_28 := i_rg z_28; have g_z_3 := i_rg z_3; have g_z_31 := i_rg z_31; have g_z_32 := i_rg z_32; have g_z_36 := i_rg z_36; have g_z_7 := i_rg z_7; omega); rw [ej]; simp only [d_z_12, d_z_26, d_z_31, ← y_n, ← ez_3, ← y_m, ← ez_7, ← ez_13, ← ez_14, ← ez_27, ← ez_28, ← y_a, ← ez_32, ← y_b]; exact (by have q_c_35 := i_lt c_35; have g_r_29 := i_rg r_29; have g_r_33 := i_rg r_33; omega))) hP hD hS (lv_sub hl [1, 2, 3, 4, 0] rfl)
                · refine lv_iconst (v := 0) hx hb dX2_lookupLength_90 (by decide) ?_
                  refine W.widen (k := 0) (n := 0) (Nat.le_of_ble_eq_true rfl) (Nat.le_of_ble_eq_true rfl) ?_
                  exact W.iret (v := 0) hx hb hr (fun t9 ht9 hW9 => ⟨⟨_, (), rfl, ⟨(by have e0 : (0 : Int32).toInt = 0 := (by decide); have e4 : (4 : Int32).toInt = 4 := (by decide); have e8 : (8 : Int32).toInt = 8 := (by decide); have q_r_1 := h_r_1; obtain ⟨u_z_3, q_z_3⟩ := i_add ez_3; obtain ⟨u_z_7, q_z_7⟩ := i_add ez_7; obtain ⟨u_z_12, q_z_12⟩ := i_add ez_12; obtain ⟨u_z_26, q_z_26⟩ := i_add ez_26; obtain ⟨u_z_32, q_z_32⟩ := i_add ez_32; have q_c_9 := i_nlt c_9; obtain ⟨u_z_14, q_z_14⟩ := i_add ez_14; obtain ⟨u_z_28, q_z_28⟩ := i_add ez_28; have q_z_31 := i_mulL (c := 8) (K := 268435455) ez_31 (by decide) (by decide) (by decide) (by decide); have q_f4_8 := f4_8; have q_z_13 := i_mulL (c := 8) (K := 268435455) ez_13 (by decide) (by decide) (by decide) (by decide); have q_c_15 := i_le c_15; have q_iv_17 := iv_17; have q_iv_18 := iv_18; have q_c_21 := i_nle c_21; have q_z_27 := i_mulL (c := 8) (K := 268435455) ez_27 (by decide) (by decide) (by decide) (by decide); have g_c2_8 := i_rg c2_8; have g_r_1 := i_rg r_1; have g_r_5 := i_rg r_5; have g_v4_16 := i_rg v4_16; have g_x1 := i_rg x1; have g_z_12 := i_rg z_12; have g_z_13 := i_rg z_13; have g_z_14 := i_rg z_14; have g_z_26 := i_rg z_26; have g_z_27 := i_rg z_27; have g_z_28 := i_rg z_28; have g_z_3 := i_rg z_3; have g_z_31 := i_rg z_31; have g_z_32 := i_rg z_32; have g_z_7 := i_rg z_7; omega), (fun f9 e9 n9 c9 s9 q9 => by obtain ⟨w9, h1, h2⟩ := vx_un hD hk_8 rfl rfl rfl q9; rw [h1, h2] at q9 ⊢; have y_n := xp_2; have y_m := xp_6 _ _ _ _ _ q9; have d_z_12 : z_12 = z_7 := ez_12.trans ez_7.symm; (try simp only [d_z_12] at ez_13); (try simp only [d_z_12] at ez_14); (try simp only [d_z_12] at ez_26); have d_z_26 : z_26 = z_7 := ez_26.trans ez_7.symm; (try simp only [d_z_12, d_z_26] at ez_27); (try simp only [d_z_12, d_z_26] at ez_28); have y_a := xp_30 _ _ _ _ _ q9; (try simp only [d_z_12, d_z_26] at y_a); (try simp only [d_z_12, d_z_26] at ez_31); have d_z_31 : z_31 = z_27 := ez_31.trans ez_27.symm; (try simp only [d_z_12, d_z_26, d_z_31] at ez_32); have y_b := xp_34 _ _ _ _ _ q9; (try simp only [d_z_12, d_z_26, d_z_31] at y_b); unfold kLook; rw [if_pos (Or.inr (Or.inr (Or.inr (Or.inr ⟨v4_16, (by have e0 : (0 : Int32).toInt = 0 := (by decide); have e4 : (4 : Int32).toInt = 4 := (by decide); have e8 : (8 : Int32).toInt = 8 := (by decide); have e200 : (200 : Int32).toInt = 200 := (by decide); have q_iv_17 := iv_17; have q_iv_18 := iv_18; have q_c_21 := i_nle c_21; have q_z_27 := i_mulL (c := 8) (K := 268435455) ez_27 (by decide) (by decide) (by decide) (by decide); have q_z_31 := i_mulL (c := 8) (K := 268435455) ez_31 (by decide) (by decide) (by decide) (by decide); have q_c_10 := i_nlt c_10; have q_c_11 := i_nlt c_11; have q_z_13 := i_mulL (c := 8) (K := 268435455) ez_13 (by decide) (by decide) (by decide) (by decide); obtain ⟨u_z_28, q_z_28⟩ := i_add ez_28; obtain ⟨u_z_32, q_z_32⟩ := i_add ez_32; have q_r_1 := h_r_1; obtain ⟨u_z_3, q_z_3⟩ := i_add ez_3; obtain ⟨u_z_7, q_z_7⟩ := i_add ez_7; obtain ⟨u_z_12, q_z_12⟩ := i_add ez_12; obtain ⟨u_z_14, q_z_14⟩ := i_add ez_14; obtain ⟨u_z_26, q_z_26⟩ := i_add ez_26; have q_c_9 := i_nlt c_9; have q_c_15 := i_le c_15; have g_c2_8 := i_rg c2_8; have g_r_1 := i_rg r_1; have g_r_5 := i_rg r_5; have g_v4_16 := i_rg v4_16; have g_x1 := i_rg x1; have g_z_12 := i_rg z_12; have g_z_13 := i_rg z_13; have g_z_14 := i_rg z_14; have g_z_26 := i_rg z_26; have g_z_27 := i_rg z_27; have g_z_28 := i_rg z_28; have g_z_3 := i_rg z_3; have g_z_31 := i_rg z_31; have g_z_32 := i_rg z_32; have g_z_7 := i_rg z_7; omega), (by simp only [d_z_12, d_z_26, d_z_31, ← y_n, ← ez_3, ← y_m, ← ez_7, ← ez_13, ← ez_14, ← ez_27, ← ez_28, ← y_a, ← ez_32, ← y_b]; exact (by have e0 : (0 : Int32).toInt = 0 := (by decide); have e4 : (4 : Int32).toInt = 4 := (by decide); have e8 : (8 : Int32).toInt = 8 := (by decide); have e200 : (200 : Int32).toInt = 200 := (by decide); have q_r_1 := h_r_1; obtain ⟨u_z_3, q_z_3⟩ := i_add ez_3; obtain ⟨u_z_7, q_z_7⟩ := i_add ez_7; have q_f4_8 := f4_8; have q_c_9 := i_nlt c_9; have q_c_10 := i_nlt c_10; have q_c_11 := i_nlt c_11; obtain ⟨u_z_12, q_z_12⟩ := i_add ez_12; have q_z_13 := i_mulL (c := 8) (K := 268435455) ez_13 (by decide) (by decide) (by decide) (by decide); have q_c_15 := i_le c_15; have q_iv_17 := iv_17; have q_iv_18 := iv_18; have q_c_21 := i_nle c_21; obtain ⟨u_z_26, q_z_26⟩ := i_add ez_26; have q_z_27 := i_mulL (c := 8) (K := 268435455) ez_27 (by decide) (by decide) (by decide) (by decide); have q_z_31 := i_mulL (c := 8) (K := 268435455) ez_31 (by decide) (by decide) (by decide) (by decide); obtain ⟨u_z_32, q_z_32⟩ := i_add ez_32; obtain ⟨u_z_14, q_z_14⟩ := i_add ez_14; obtain ⟨u_z_28, q_z_28⟩ := i_add ez_28; have g_c2_8 := i_rg c2_8; have g_r_1 := i_rg r_1; have g_r_5 := i_rg r_5; have g_v4_16 := i_rg v4_16; have g_x1 := i_rg x1; have g_z_12 := i_rg z_12; have g_z_13 := i_rg z_13; have g_z_14 := i_rg z_14; have g_z_26 := i_rg z_26; have g_z_27 := i_rg z_27; have g_z_28 := i_rg z_28; have g_z_3 := i_rg z_3; have g_z_31 := i_rg z_31; have g_z_32 := i_rg z_32; have g_z_7 := i_rg z_7; omega)), (by simp only [d_z_12, d_z_26, d_z_31, ← y_n, ← ez_3, ← y_m, ← ez_7, ← ez_13, ← ez_14, ← ez_27, ← ez_28, ← y_a, ← ez_32, ← y_b]; exact (by have q_c_35 := i_nlt c_35; have g_r_29 := i_rg r_29; have g_r_33 := i_rg r_33; omega))⟩))))])⟩, ⟨by rw [ht9]; exact hP, hD⟩⟩, hS.F ht9⟩) hS.2.2 dX2_lookupLength_91
          exact J_56 _ (1) H locs ls rfl (by have e1 : (1 : Int32).toInt = 1 := (by decide); omega) (by have e0 : (0 : Int32).toInt = 0 := (by decide); have e1 : (1 : Int32).toInt = 1 := (by decide); have e4 : (4 : Int32).toInt = 4 := (by decide); have e8 : (8 : Int32).toInt = 8 := (by decide); have e200 : (200 : Int32).toInt = 200 := (by decide); have q_r_1 := h_r_1; obtain ⟨u_z_3, q_z_3⟩ := i_add ez_3; obtain ⟨u_z_7, q_z_7⟩ := i_add ez_7; have q_c_10 := i_nlt c_10; have q_c_11 := i_nlt c_11; obtain ⟨u_z_12, q_z_12⟩ := i_add ez_12; have q_z_13 := i_mulL (c := 8) (K := 268435455) ez_13 (by decide) (by decide) (by decide) (by decide); have q_c_9 := i_nlt c_9; obtain ⟨u_z_14, q_z_14⟩ := i_add ez_14; have q_f4_8 := f4_8; have q_c_15 := i_le c_15; have g_c2_8 := i_rg c2_8; have g_r_1 := i_rg r_1; have g_r_5 := i_rg r_5; have g_x1 := i_rg x1; have g_z_12 := i_rg z_12; have g_z_13 := i_rg z_13; have g_z_14 := i_rg z_14; have g_z_3 := i_rg z_3; have g_z_7 := i_rg z_7; omega) (fun f9 e9 n9 c9 s9 q9 j9 h8 h9 => absurd h9 (by have e1 : (1 : Int32).toInt = 1 := rfl; omega)) hP hD hS (lv_sub hl [3, 4, 2, 1, 0] rfl)
        · refine lv_iconst (v := 0) hx hb dX2_lookupLength_51 (by decide) ?_
          refine W.widen (k := 0) (n := 0) (Nat.le_of_ble_eq_true rfl) (Nat.le_of_ble_eq_true rfl) ?_
          exact W.iret (v := 0) hx hb hr (fun t9 ht9 hW9 => ⟨⟨_, (), rfl, ⟨(by have e0 : (0 : Int32).toInt = 0 := (by decide); have e4 : (4 : Int32).toInt = 4 := (by decide); have e8 : (8 : Int32).toInt = 8 := (by decide); have q_r_1 := h_r_1; obtain ⟨u_z_3, q_z_3⟩ := i_add ez_3; obtain ⟨u_z_7, q_z_7⟩ := i_add ez_7; obtain ⟨u_z_12, q_z_12⟩ := i_add ez_12; have q_c_9 := i_nlt c_9; obtain ⟨u_z_14, q_z_14⟩ := i_add ez_14; have q_f4_8 := f4_8; have q_z_13 := i_mulL (c := 8) (K := 268435455) ez_13 (by decide) (by decide) (by decide) (by decide); have q_c_15 := i_nle c_15; have g_c2_8 := i_rg c2_8; have g_r_1 := i_rg r_1; have g_r_5 := i_rg r_5; have g_x1 := i_rg x1; have g_z_12 := i_rg z_12; have g_z_13 := i_rg z_13; have g_z_14 := i_rg z_14; have g_z_3 := i_rg z_3; have g_z_7 := i_rg z_7; omega), (fun f9 e9 n9 c9 s9 q9 => by obtain ⟨w9, h1, h2⟩ := vx_un hD hk_8 rfl rfl rfl q9; rw [h1, h2] at q9 ⊢; have y_n := xp_2; have y_m := xp_6 _ _ _ _ _ q9; have d_z_12 : z_12 = z_7 := ez_12.trans ez_7.symm; (try simp only [d_z_12] at ez_13); (try simp only [d_z_12] at ez_14); unfold kLook; rw [if_pos (by simp only [d_z_12, ← y_n, ← ez_3, ← y_m, ← ez_7, ← ez_13, ← ez_14]; first | exact Or.inl (by have e0 : (0 : Int32).toInt = 0 := (by decide); have e4 : (4 : Int32).toInt = 4 := (by decide); have e8 : (8 : Int32).toInt = 8 := (by decide); have e200 : (200 : Int32).toInt = 200 := (by decide); have q_r_1 := h_r_1; obtain ⟨u_z_3, q_z_3⟩ := i_add ez_3; obtain ⟨u_z_7, q_z_7⟩ := i_add ez_7; have q_f4_8 := f4_8; have q_c_9 := i_nlt c_9; have q_c_10 := i_nlt c_10; have q_c_11 := i_nlt c_11; obtain ⟨u_z_12, q_z_12⟩ := i_add ez_12; have q_z_13 := i_mulL (c := 8) (K := 268435455) ez_13 (by decide) (by decide) (by decide) (by decide); have q_c_15 := i_nle c_15; obtain ⟨u_z_14, q_z_14⟩ := i_add ez_14; have g_c2_8 := i_rg c2_8; have g_r_1 := i_rg r_1; have g_r_5 := i_rg r_5; have g_x1 := i_rg x1; have g_z_12 := i_rg z_12; have g_z_13 := i_rg z_13; have g_z_14 := i_rg z_14; have g_z_3 := i_rg z_3; have g_z_7 := i_rg z_7; omega) | exact Or.inr (Or.inl (by have e0 : (0 : Int32).toInt = 0 := (by decide); have e4 : (4 : Int32).toInt = 4 := (by decide); have e8 : (8 : Int32).toInt = 8 := (by decide); have e200 : (200 : Int32).toInt = 200 := (by decide); have q_r_1 := h_r_1; obtain ⟨u_z_3, q_z_3⟩ := i_add ez_3; obtain ⟨u_z_7, q_z_7⟩ := i_add ez_7; have q_f4_8 := f4_8; have q_c_9 := i_nlt c_9; have q_c_10 := i_nlt c_10; have q_c_11 := i_nlt c_11; obtain ⟨u_z_12, q_z_12⟩ := i_add ez_12; have q_z_13 := i_mulL (c := 8) (K := 268435455) ez_13 (by decide) (by decide) (by decide) (by decide); have q_c_15 := i_nle c_15; obtain ⟨u_z_14, q_z_14⟩ := i_add ez_14; have g_c2_8 := i_rg c2_8; have g_r_1 := i_rg r_1; have g_r_5 := i_rg r_5; have g_x1 := i_rg x1; have g_z_12 := i_rg z_12; have g_z_13 := i_rg z_13; have g_z_14 := i_rg z_14; have g_z_3 := i_rg z_3; have g_z_7 := i_rg z_7; omega)) | exact Or.inr (Or.inr (Or.inl (by have e0 : (0 : Int32).toInt = 0 := (by decide); have e4 : (4 : Int32).toInt = 4 := (by decide); have e8 : (8 : Int32).toInt = 8 := (by decide); have e200 : (200 : Int32).toInt = 200 := (by decide); have q_r_1 := h_r_1; obtain ⟨u_z_3, q_z_3⟩ := i_add ez_3; obtain ⟨u_z_7, q_z_7⟩ := i_add ez_7; have q_f4_8 := f4_8; have q_c_9 := i_nlt c_9; have q_c_10 := i_nlt c_10; have q_c_11 := i_nlt c_11; obtain ⟨u_z_12, q_z_12⟩ := i_add ez_12; have q_z_13 := i_mulL (c := 8) (K := 268435455) ez_13 (by decide) (by decide) (by decide) (by decide); have q_c_15 := i_nle c_15; obtain ⟨u_z_14, q_z_14⟩ := i_add ez_14; have g_c2_8 := i_rg c2_8; have g_r_1 := i_rg r_1; have g_r_5 := i_rg r_5; have g_x1 := i_rg x1; have g_z_12 := i_rg z_12; have g_z_13 := i_rg z_13; have g_z_14 := i_rg z_14; have g_z_3 := i_rg z_3; have g_z_7 := i_rg z_7; omega))) | exact Or.inr (Or.inr (Or.inr (Or.inl (by have e0 : (0 : Int32).toInt = 0 := (by decide); have e4 : (4 : Int32).toInt = 4 := (by decide); have e8 : (8 : Int32).toInt = 8 := (by decide); have e200 : (200 : Int32).toInt = 200 := (by decide); have q_r_1 := h_r_1; obtain ⟨u_z_3, q_z_3⟩ := i_add ez_3; obtain ⟨u_z_7, q_z_7⟩ := i_add ez_7; have q_f4_8 := f4_8; have q_c_9 := i_nlt c_9; have q_c_10 := i_nlt c_10; have q_c_11 := i_nlt c_11; obtain ⟨u_z_12, q_z_12⟩ := i_add ez_12; have q_z_13 := i_mulL (c := 8) (K := 268435455) ez_13 (by decide) (by decide) (by decide) (by decide); have q_c_15 := i_nle c_15; obtain ⟨u_z_14, q_z_14⟩ := i_add ez_14; have g_c2_8 := i_rg c2_8; have g_r_1 := i_rg r_1; have g_r_5 := i_rg r_5; have g_x1 := i_rg x1; have g_z_12 := i_rg z_12; have g_z_13 := i_rg z_13; have g_z_14 := i_rg z_14; have g_z_3 := i_rg z_3; have g_z_7 := i_rg z_7; omega)))))])⟩, ⟨by rw [ht9]; exact hP, hD⟩⟩, hS.F ht9⟩) hS.2.2 dX2_lookupLength_52
set_option maxHeartbeats 1000000 in
set_option maxRecDepth 100000 in
theorem m_X2_lengthAt_x (l : Launch) (g : Gm) (sz : Nat) (ws : va_W) (h0 : Nat) (x1 : Int32) (hG : Good g ws) (o_h0 : gC ws h0 2) : Met l yX2_lengthAt (wt yX2_lengthAt cX2_lengthAt 3 (some .int)) ({ frames := 3, cells := 0, slots := 0, locals := 66 }) (va_Pc [.ref h0, .int x1] (st_G g sz ws)) (va_Qi (fun (r : Int32) (u9 : Unit) => (x1.toInt < 0 ∨ 1200 < x1.toInt ∨ r.toInt ≤ 2000) ∧ (∀ (f : Nat → Int32) (e : Int32) (n : Nat) (cd sz : Int32), vx ws h0 f e n cd sz → r = kLen g.tL f e n cd sz x1)) (gQ0 g (va_A ws sz) ws) (va_A ws sz)) (0) (0) (va_A ws sz) := by
  refine Met.ofW (cc := cX2_lengthAt) (maxL := 3) (ret := (some .int)) (by decide) rfl ?_
  intro p e s m args below meth c s₁ B hml hv
  obtain ⟨rfl, hsz, hP, hK, hD0, hex, hE⟩ := hv
  have hx := B.exec
  have hb := B.bytes
  have hr := B.returns
  have hts0 := atoms_spec (ws := wt yX2_lengthAt cX2_lengthAt 3 (some .int)) B.pre
  have hts : ∀ w ∈ tb, w.before _ s = true := fun w h => hts0 w (List.mem_cons_of_mem _ h)
  have hown : s.vm.findClass RX2 = some m.cls := findClass_of_methodNamed B.named
  subst hsz
  have hD := hD0.self (sz := s.heap.size)
  generalize hAe : va_A ws s.heap.size = A at hD hE ⊢
  have hA : ∀ q : Nat, s.heap.size ≤ q → A q := fun q h => by rw [← hAe]; exact Or.inr h
  have hS : va_S A s.heap s.heap [] := va_S.rf
  have hl := lv_entry ([.ref h0, .int x1]) (n := 3) (Nat.le_of_ble_eq_true rfl)
  rw [lg_entry_eq]
  generalize (lg_sl ([.ref h0, .int x1]) ++ List.replicate (3 - (lg_sl ([.ref h0, .int x1])).length) Slot.unset).toArray = ls at hl ⊢
  have hl : lv_has ls 3 [(0, .ref h0), (1, .int x1)] := hl
  refine lv_aload_n hx hb dX2_lengthAt_0 rfl (lv_at hl 0 rfl) ?_
  refine lv_iload_n hx hb dX2_lengthAt_1 rfl (lv_at hl 1 rfl) ?_
  have hFc := gfree hD hS hA
  obtain ⟨k_1, fs_1, hk_1⟩ := gC_of o_h0
  refine va_calli (va_runV (As := [.int x1]) (rest := []) ⟨hx, hb, hml, hown, hts⟩ (m_X2_u1_x l g s.heap.size ws h0 (x1) hG o_h0) (cwV 1 hts (gd_V kw_682 kw_812 kw_813 kw_389 kw_811) rfl rfl rfl (by decide +kernel) ⟨Nat.le_of_ble_eq_true rfl, Nat.le_of_ble_eq_true rfl⟩) ⟨gblind, va_recv hK hP (ci := 2) (q0 := k_1) rfl hk_1, fun U hU hW9 => gmk hU hW9 hP hK hD hex hE hS hFc⟩ rfl rfl hl.1 rfl (lv_room (Nat.le_of_ble_eq_true rfl)) dX2_lengthAt_2 ⟨Nat.le_of_ble_eq_true rfl, Nat.le_of_ble_eq_true rfl⟩) hS (fun q _ h => hFc q h) hFc (fun r_2 u9 t9 H1 locs ht9 hvm9 hw9 hB9 hz9 hk9 hS => ?_)
  have hP : va_P (gD g) cl0 ws H1 := by rw [← ht9]; exact hB9.1
  obtain ⟨hw9, xp_3⟩ := hw9
  clear hB9 hz9 hk9 hvm9 ht9 hw9
  generalize H1 = H at hP hS ⊢
  have K_5_101 : ¬ (r_2 : Int32).toInt = 170 → ¬ (r_2 : Int32).toInt = 171 → ¬ (r_2 : Int32).toInt = 188 → ¬ (r_2 : Int32).toInt = 196 → W p l e (headSpec (wt yX2_lengthAt cX2_lengthAt 3 (some .int)) ({ frames := 3, cells := 0, slots := 0, locals := 66 })).room s m ([.ref h0, .int x1] : List Value).toArray below meth c H locs (0) (0) (MQ below (va_Qi (fun (r : Int32) (u9 : Unit) => (x1.toInt < 0 ∨ 1200 < x1.toInt ∨ r.toInt ≤ 2000) ∧ (∀ (f : Nat → Int32) (e : Int32) (n : Nat) (cd sz : Int32), vx ws h0 f e n cd sz → r = kLen g.tL f e n cd sz x1)) (gQ0 g A ws) A) ([.ref h0, .int x1] : List Value).toArray s (0) (0) A) (F0 m 101 ls []) := by
    intro sw_4 sw_5 sw_6 sw_7
    refine lv_aload_n hx hb dX2_lengthAt_101 rfl (lv_at hl 0 rfl) ?_
    refine lv_iload_n hx hb dX2_lengthAt_102 rfl (lv_at hl 1 rfl) ?_
    have hFc := gfree hD hS hA
    obtain ⟨k_8, fs_8, hk_8⟩ := gC_of o_h0
    refine va_calli (va_runV (As := [.int x1]) (rest := []) ⟨hx, hb, hml, hown, hts⟩ (m_X2_u1_x l g H.size ws h0 (x1) hG o_h0) (cwV 1 hts (gd_V kw_682 kw_812 kw_813 kw_389 kw_811) rfl rfl rfl (by decide +kernel) ⟨Nat.le_of_ble_eq_true rfl, Nat.le_of_ble_eq_true rfl⟩) ⟨gblind, va_recv hK hP (ci := 2) (q0 := k_8) rfl hk_8, fun U hU hW9 => gmk hU hW9 hP hK hD hex hE hS hFc⟩ rfl rfl hl.1 rfl (lv_room (Nat.le_of_ble_eq_true rfl)) dX2_lengthAt_103 ⟨Nat.le_of_ble_eq_true rfl, Nat.le_of_ble_eq_true rfl⟩) hS (fun q _ h => hFc q h) hFc (fun r_9 u9 t9 H1 locs ht9 hvm9 hw9 hB9 hz9 hk9 hS => ?_)
    have hP : va_P (gD g) cl0 ws H1 := by rw [← ht9]; exact hB9.1
    obtain ⟨hw9, xp_10⟩ := hw9
    clear hB9 hz9 hk9 hvm9 ht9 hw9
    generalize H1 = H at hP hS ⊢
    have hFc := gfree hD hS hA
    refine va_calli (va_runS (As := [.int r_9]) (rest := []) ⟨hx, hb, hml, hown, hts⟩ (m_X6_lengthOf_x l g H.size ws (r_9) hG ) (va_cwS 1 hts (gd_S kw_687 kw_1244 kw_1207 kw_1243) rfl rfl rfl (by decide +kernel) ⟨Nat.le_of_ble_eq_true rfl, Nat.le_of_ble_eq_true rfl⟩) ⟨gblind, fun U hU hW9 => gmk hU hW9 hP hK hD hex hE hS hFc⟩ rfl rfl hl.1 rfl (lv_room (Nat.le_of_ble_eq_true rfl)) dX2_lengthAt_106 ⟨Nat.le_of_ble_eq_true rfl, Nat.le_of_ble_eq_true rfl⟩) hS (fun q _ h => hFc q h) hFc (fun r_11 u9 t9 H1 locs ht9 hvm9 hw9 hB9 hz9 hk9 hS => ?_)
    have hP : va_P (gD g) cl0 ws H1 := by rw [← ht9]; exact hB9.1
    obtain ⟨hw9, xp_12⟩ := hw9
    have h_r_11 := hw9
    clear hB9 hz9 hk9 hvm9 ht9 hw9
    generalize H1 = H at hP hS ⊢
    refine lv_istore_n (lv' := [(2, .int r_11), (0, .ref h0), (1, .int x1)]) hx hb dX2_lengthAt_109 rfl hl (by decide) rfl (fun ls hl => ?_)
    refine lv_iload_n hx hb dX2_lengthAt_110 rfl (lv_at hl 2 rfl) ?_
    refine lv_iload_n hx hb dX2_lengthAt_111 rfl (lv_at hl 0 rfl) ?_
    refine lv_iadd hx hb dX2_lengthAt_112 ?_
    refine lv_topi (fun z_13 ez_13 => ?_)
    refine lv_aload_n hx hb dX2_lengthAt_113 rfl (lv_at hl 1 rfl) ?_
    obtain ⟨k_14, fs9, hk_14⟩ := gC_of o_h0
    obtain ⟨r0_14, c1_14, c2_14, c3_14, c4_14, c5_14, c6_14, r7_14, n7_14, c8_14, c9_14, l10_14, c11_14, rfl, o_r0_14, a_r7_14, f2_14, f3_14, f4_14, -⟩ := (hG.1 _ _ _ _ hk_14).hX2 rfl
    refine va_get (D := gD g) (ci := 2) (v := .int c2_14) (C := RX2) (T := TX2) (N := 12) hx hb hts inX2 hown hK hP k_14 hk_14 rfl 2 (by decide) (hts _ kw_716) (fun _ h9 => h9) rfl dX2_lengthAt_114 ?_
    refine lv_icmp_le (tgt := 124) hx hb dX2_lengthAt_117 (by decide) (fun c_15 => ?_) (fun c_15 => ?_)
    · refine lv_iload_n hx hb dX2_lengthAt_124 rfl (lv_at hl 0 rfl) ?_
      refine W.widen (k := 0) (n := 0) (Nat.le_of_ble_eq_true rfl) (Nat.le_of_ble_eq_true rfl) ?_
      exact W.iret (v := r_11) hx hb hr (fun t9 ht9 hW9 => ⟨⟨_, (), rfl, ⟨(by have q_r_11 := h_r_11; obtain ⟨u_z_13, q_z_13⟩ := i_add ez_13; have q_c_15 := i_le c_15; have q_f4_14 := f4_14; have g_c2_14 := i_rg c2_14; have g_r_11 := i_rg r_11; have g_x1 := i_rg x1; have g_z_13 := i_rg z_13; omega), (fun f9 e9 n9 c9 s9 q9 => by obtain ⟨w9, h1, h2⟩ := vx_un hD hk_14 rfl rfl rfl q9; rw [h1, h2] at q9 ⊢; have y_u := xp_3 _ _ _ _ _ q9; have y_w := xp_10 _ _ _ _ _ q9; have y_L0 := xp_12; have hw9 := y_w.trans y_u.symm; rw [hw9] at y_L0; have hL : kL0 g.tL f9 e9 n9 c1_14 c2_14 x1 = r_11 := (by unfold kL0; simp only [← y_u, ← y_L0, ← ez_13]; rw [if_neg (by have q_sw_4 := sw_4; have q_sw_5 := sw_5; have q_sw_6 := sw_6; have q_sw_7 := sw_7; have g_r_2 := i_rg r_2; omega), if_neg (by have q_sw_4 := sw_4; have q_sw_5 := sw_5; have q_sw_6 := sw_6; have q_sw_7 := sw_7; have g_r_2 := i_rg r_2; omega), if_neg (by have q_sw_4 := sw_4; have q_sw_5 := sw_5; have q_sw_6 := sw_6; have q_sw_7 := sw_7; have g_r_2 := i_rg r_2; omega), if_neg (by have q_sw_4 := sw_4; have q_sw_5 := sw_5; have q_sw_6 := sw_6; have q_sw_7 := sw_7; have g_r_2 := i_rg r_2; omega)]); unfold kLen; rw [hL]; (try simp only [← y_u, ← y_L0, ← ez_13]); rw [if_neg (by have q_r_11 := h_r_11; obtain ⟨u_z_13, q_z_13⟩ := i_add ez_13; have q_f4_14 := f4_14; have q_c_15 := i_le c_15; have g_c2_14 := i_rg c2_14; have g_r_11 := i_rg r_11; have g_x1 := i_rg x1; have g_z_13 := i_rg z_13; omega)])⟩, ⟨by rw [ht9]; exact hP, hD⟩⟩, hS.F ht9⟩) hS.2.2 dX2_lengthAt_125
    · refine lv_iconst (v := 0) hx hb dX2_lengthAt_120 (by decide) ?_
      refine lv_goto (tgt := 125) hx hb dX2_lengthAt_121 (by decide) ?_
      refine W.widen (k := 0) (n := 0) (Nat.le_of_ble_eq_true rfl) (Nat.le_of_ble_eq_true rfl) ?_
      exact W.iret (v := 0) hx hb hr (fun t9 ht9 hW9 => ⟨⟨_, (), rfl, ⟨(by have e0 : (0 : Int32).toInt = 0 := (by decide); obtain ⟨u_z_13, q_z_13⟩ := i_add ez_13; have q_r_11 := h_r_11; have q_c_15 := i_nle c_15; have q_f4_14 := f4_14; have g_c2_14 := i_rg c2_14; have g_r_11 := i_rg r_11; have g_x1 := i_rg x1; have g_z_13 := i_rg z_13; omega), (fun f9 e9 n9 c9 s9 q9 => by obtain ⟨w9, h1, h2⟩ := vx_un hD hk_14 rfl rfl rfl q9; rw [h1, h2] at q9 ⊢; have y_u := xp_3 _ _ _ _ _ q9; have y_w := xp_10 _ _ _ _ _ q9; have y_L0 := xp_12; have hw9 := y_w.trans y_u.symm; rw [hw9] at y_L0; have hL : kL0 g.tL f9 e9 n9 c1_14 c2_14 x1 = r_11 := (by unfold kL0; simp only [← y_u, ← y_L0, ← ez_13]; rw [if_neg (by have q_sw_4 := sw_4; have q_sw_5 := sw_5; have q_sw_6 := sw_6; have q_sw_7 := sw_7; have g_r_2 := i_rg r_2; omega), if_neg (by have q_sw_4 := sw_4; have q_sw_5 := sw_5; have q_sw_6 := sw_6; have q_sw_7 := sw_7; have g_r_2 := i_rg r_2; omega), if_neg (by have q_sw_4 := sw_4; have q_sw_5 := sw_5; have q_sw_6 := sw_6; have q_sw_7 := sw_7; have g_r_2 := i_rg r_2; omega), if_neg (by have q_sw_4 := sw_4; have q_sw_5 := sw_5; have q_sw_6 := sw_6; have q_sw_7 := sw_7; have g_r_2 := i_rg r_2; omega)]); unfold kLen; rw [hL]; (try simp only [← y_u, ← y_L0, ← ez_13]); rw [if_pos (by have q_r_11 := h_r_11; obtain ⟨u_z_13, q_z_13⟩ := i_add ez_13; have q_f4_14 := f4_14; have q_c_15 := i_nle c_15; have g_c2_14 := i_rg c2_14; have g_r_11 := i_rg r_11; have g_x1 := i_rg x1; have g_z_13 := i_rg z_13; omega)])⟩, ⟨by rw [ht9]; exact hP, hD⟩⟩, hS.F ht9⟩) hS.2.2 dX2_lengthAt_125
  have K_5_48 : (r_2 : Int32).toInt = 170 → W p l e (headSpec (wt yX2_lengthAt cX2_lengthAt 3 (some .int)) ({ frames := 3, cells := 0, slots := 0, locals := 66 })).room s m ([.ref h0, .int x1] : List Value).toArray below meth c H locs (0) (0) (MQ below (va_Qi (fun (r : Int32) (u9 : Unit) => (x1.toInt < 0 ∨ 1200 < x1.toInt ∨ r.toInt ≤ 2000) ∧ (∀ (f : Nat → Int32) (e : Int32) (n : Nat) (cd sz : Int32), vx ws h0 f e n cd sz → r = kLen g.tL f e n cd sz x1)) (gQ0 g A ws) A) ([.ref h0, .int x1] : List Value).toArray s (0) (0) A) (F0 m 48 ls []) := by
    intro sw_16
    refine lv_aload_n hx hb dX2_lengthAt_48 rfl (lv_at hl 0 rfl) ?_
    refine lv_iload_n hx hb dX2_lengthAt_49 rfl (lv_at hl 1 rfl) ?_
    have hFc := gfree hD hS hA
    obtain ⟨k_17, fs_17, hk_17⟩ := gC_of o_h0
    refine va_calli (va_runV (As := [.int x1]) (rest := []) ⟨hx, hb, hml, hown, hts⟩ (m_X2_tableLength_x l g H.size ws h0 (x1) hG o_h0) (cwV 1 hts (gd_V kw_725 kw_802 kw_803 kw_389 kw_801) rfl rfl rfl (by decide +kernel) ⟨Nat.le_of_ble_eq_true rfl, Nat.le_of_ble_eq_true rfl⟩) ⟨gblind, va_recv hK hP (ci := 2) (q0 := k_17) rfl hk_17, fun U hU hW9 => gmk hU hW9 hP hK hD hex hE hS hFc⟩ rfl rfl hl.1 rfl (lv_room (Nat.le_of_ble_eq_true rfl)) dX2_lengthAt_50 ⟨Nat.le_of_ble_eq_true rfl, Nat.le_of_ble_eq_true rfl⟩) hS (fun q _ h => hFc q h) hFc (fun r_18 u9 t9 H1 locs ht9 hvm9 hw9 hB9 hz9 hk9 hS => ?_)
    have hP : va_P (gD g) cl0 ws H1 := by rw [← ht9]; exact hB9.1
    obtain ⟨hw9, xp_19⟩ := hw9
    have h_r_18 := hw9
    clear hB9 hz9 hk9 hvm9 ht9 hw9
    generalize H1 = H at hP hS ⊢
    refine lv_istore_n (lv' := [(2, .int r_18), (0, .ref h0), (1, .int x1)]) hx hb dX2_lengthAt_53 rfl hl (by decide) rfl (fun ls hl => ?_)
    refine lv_goto (tgt := 110) hx hb dX2_lengthAt_54 (by decide) ?_
    refine lv_iload_n hx hb dX2_lengthAt_110 rfl (lv_at hl 2 rfl) ?_
    refine lv_iload_n hx hb dX2_lengthAt_111 rfl (lv_at hl 0 rfl) ?_
    refine lv_iadd hx hb dX2_lengthAt_112 ?_
    refine lv_topi (fun z_20 ez_20 => ?_)
    refine lv_aload_n hx hb dX2_lengthAt_113 rfl (lv_at hl 1 rfl) ?_
    obtain ⟨k_21, fs9, hk_21⟩ := gC_of o_h0
    obtain ⟨r0_21, c1_21, c2_21, c3_21, c4_21, c5_21, c6_21, r7_21, n7_21, c8_21, c9_21, l10_21, c11_21, rfl, o_r0_21, a_r7_21, f2_21, f3_21, f4_21, -⟩ := (hG.1 _ _ _ _ hk_21).hX2 rfl
    refine va_get (D := gD g) (ci := 2) (v := .int c2_21) (C := RX2) (T := TX2) (N := 12) hx hb hts inX2 hown hK hP k_21 hk_21 rfl 2 (by decide) (hts _ kw_716) (fun _ h9 => h9) rfl dX2_lengthAt_114 ?_
    refine lv_icmp_le (tgt := 124) hx hb dX2_lengthAt_117 (by decide) (fun c_22 => ?_) (fun c_22 => ?_)
    · refine lv_iload_n hx hb dX2_lengthAt_124 rfl (lv_at hl 0 rfl) ?_
      refine W.widen (k := 0) (n := 0) (Nat.le_of_ble_eq_true rfl) (Nat.le_of_ble_eq_true rfl) ?_
      exact W.iret (v := r_18) hx hb hr (fun t9 ht9 hW9 => ⟨⟨_, (), rfl, ⟨(by have q_r_18 := h_r_18; obtain ⟨u_z_20, q_z_20⟩ := i_add ez_20; have q_c_22 := i_le c_22; have q_f4_21 := f4_21; have g_c2_21 := i_rg c2_21; have g_r_18 := i_rg r_18; have g_x1 := i_rg x1; have g_z_20 := i_rg z_20; omega), (fun f9 e9 n9 c9 s9 q9 => by obtain ⟨w9, h1, h2⟩ := vx_un hD hk_21 rfl rfl rfl q9; rw [h1, h2] at q9 ⊢; have y_u := xp_3 _ _ _ _ _ q9; have y_L := xp_19 _ _ _ _ _ q9; have hL : kL0 g.tL f9 e9 n9 c1_21 c2_21 x1 = r_18 := (by unfold kL0; simp only [← y_u, ← y_L, ← ez_20]; rw [if_pos (by have q_sw_16 := sw_16; have g_r_2 := i_rg r_2; omega)]); unfold kLen; rw [hL]; (try simp only [← y_u, ← y_L, ← ez_20]); rw [if_neg (by have q_r_18 := h_r_18; obtain ⟨u_z_20, q_z_20⟩ := i_add ez_20; have q_f4_21 := f4_21; have q_c_22 := i_le c_22; have g_c2_21 := i_rg c2_21; have g_r_18 := i_rg r_18; have g_x1 := i_rg x1; have g_z_20 := i_rg z_20; omega)])⟩, ⟨by rw [ht9]; exact hP, hD⟩⟩, hS.F ht9⟩) hS.2.2 dX2_lengthAt_125
    · refine lv_iconst (v := 0) hx hb dX2_lengthAt_120 (by decide) ?_
      refine lv_goto (tgt := 125) hx hb dX2_lengthAt_121 (by decide) ?_
      refine W.widen (k := 0) (n := 0) (Nat.le_of_ble_eq_true rfl) (Nat.le_of_ble_eq_true rfl) ?_
      exact W.iret (v := 0) hx hb hr (fun t9 ht9 hW9 => ⟨⟨_, (), rfl, ⟨(by have e0 : (0 : Int32).toInt = 0 := (by decide); have q_r_18 := h_r_18; obtain ⟨u_z_20, q_z_20⟩ := i_add ez_20; have q_c_22 := i_nle c_22; have q_f4_21 := f4_21; have g_c2_21 := i_rg c2_21; have g_r_18 := i_rg r_18; have g_x1 := i_rg x1; have g_z_20 := i_rg z_20; omega), (fun f9 e9 n9 c9 s9 q9 => by obtain ⟨w9, h1, h2⟩ := vx_un hD hk_21 rfl rfl rfl q9; rw [h1, h2] at q9 ⊢; have y_u := xp_3 _ _ _ _ _ q9; have y_L := xp_19 _ _ _ _ _ q9; have hL : kL0 g.tL f9 e9 n9 c1_21 c2_21 x1 = r_18 := (by unfold kL0; simp only [← y_u, ← y_L, ← ez_20]; rw [if_pos (by have q_sw_16 := sw_16; have g_r_2 := i_rg r_2; omega)]); unfold kLen; rw [hL]; (try simp only [← y_u, ← y_L, ← ez_20]); rw [if_pos (by have q_r_18 := h_r_18; obtain ⟨u_z_20, q_z_20⟩ := i_add ez_20; have q_f4_21 := f4_21; have q_c_22 := i_nle c_22; have g_c2_21 := i_rg c2_21; have g_r_18 := i_rg r_18; have g_x1 := i_rg x1; have g_z_20 := i_rg z_20; omega)])⟩, ⟨by rw [ht9]; exact hP, hD⟩⟩, hS.F ht9⟩) hS.2.2 dX2_lengthAt_125
  have K_5_57 : (r_2 : Int32).toInt = 171 → W p l e (headSpec (wt yX2_lengthAt cX2_lengthAt 3 (some .int)) ({ frames := 3, cells := 0, slots := 0, locals := 66 })).room s m ([.ref h0, .int x1] : List Value).toArray below meth c H locs (0) (0) (MQ below (va_Qi (fun (r : Int32) (u9 : Unit) => (x1.toInt < 0 ∨ 1200 < x1.toInt ∨ r.toInt ≤ 2000) ∧ (∀ (f : Nat → Int32) (e : Int32) (n : Nat) (cd sz : Int32), vx ws h0 f e n cd sz → r = kLen g.tL f e n cd sz x1)) (gQ0 g A ws) A) ([.ref h0, .int x1] : List Value).toArray s (0) (0) A) (F0 m 57 ls []) := by
    intro sw_23
    refine lv_aload_n hx hb dX2_lengthAt_57 rfl (lv_at hl 0 rfl) ?_
    refine lv_iload_n hx hb dX2_lengthAt_58 rfl (lv_at hl 1 rfl) ?_
    have hFc := gfree hD hS hA
    obtain ⟨k_24, fs_24, hk_24⟩ := gC_of o_h0
    refine va_calli (va_runV (As := [.int x1]) (rest := []) ⟨hx, hb, hml, hown, hts⟩ (m_X2_lookupLength_x l g H.size ws h0 (x1) hG o_h0) (cwV 1 hts (gd_V kw_726 kw_747 kw_748 kw_389 kw_746) rfl rfl rfl (by decide +kernel) ⟨Nat.le_of_ble_eq_true rfl, Nat.le_of_ble_eq_true rfl⟩) ⟨gblind, va_recv hK hP (ci := 2) (q0 := k_24) rfl hk_24, fun U hU hW9 => gmk hU hW9 hP hK hD hex hE hS hFc⟩ rfl rfl hl.1 rfl (lv_room (Nat.le_of_ble_eq_true rfl)) dX2_lengthAt_59 ⟨Nat.le_of_ble_eq_true rfl, Nat.le_of_ble_eq_true rfl⟩) hS (fun q _ h => hFc q h) hFc (fun r_25 u9 t9 H1 locs ht9 hvm9 hw9 hB9 hz9 hk9 hS => ?_)
    have hP : va_P (gD g) cl0 ws H1 := by rw [← ht9]; exact hB9.1
    obtain ⟨hw9, xp_26⟩ := hw9
    have h_r_25 := hw9
    clear hB9 hz9 hk9 hvm9 ht9 hw9
    generalize H1 = H at hP hS ⊢
    refine lv_istore_n (lv' := [(2, .int r_25), (0, .ref h0), (1, .int x1)]) hx hb dX2_lengthAt_62 rfl hl (by decide) rfl (fun ls hl => ?_)
    refine lv_goto (tgt := 110) hx hb dX2_lengthAt_63 (by decide) ?_
    refine lv_iload_n hx hb dX2_lengthAt_110 rfl (lv_at hl 2 rfl) ?_
    refine lv_iload_n hx hb dX2_lengthAt_111 rfl (lv_at hl 0 rfl) ?_
    refine lv_iadd hx hb dX2_lengthAt_112 ?_
    refine lv_topi (fun z_27 ez_27 => ?_)
    refine lv_aload_n hx hb dX2_lengthAt_113 rfl (lv_at hl 1 rfl) ?_
    obtain ⟨k_28, fs9, hk_28⟩ := gC_of o_h0
    obtain ⟨r0_28, c1_28, c2_28, c3_28, c4_28, c5_28, c6_28, r7_28, n7_28, c8_28, c9_28, l10_28, c11_28, rfl, o_r0_28, a_r7_28, f2_28, f3_28, f4_28, -⟩ := (hG.1 _ _ _ _ hk_28).hX2 rfl
    refine va_get (D := gD g) (ci := 2) (v := .int c2_28) (C := RX2) (T := TX2) (N := 12) hx hb hts inX2 hown hK hP k_28 hk_28 rfl 2 (by decide) (hts _ kw_716) (fun _ h9 => h9) rfl dX2_lengthAt_114 ?_
    refine lv_icmp_le (tgt := 124) hx hb dX2_lengthAt_117 (by decide) (fun c_29 => ?_) (fun c_29 => ?_)
    · refine lv_iload_n hx hb dX2_lengthAt_124 rfl (lv_at hl 0 rfl) ?_
      refine W.widen (k := 0) (n := 0) (Nat.le_of_ble_eq_true rfl) (Nat.le_of_ble_eq_true rfl) ?_
      exact W.iret (v := r_25) hx hb hr (fun t9 ht9 hW9 => ⟨⟨_, (), rfl, ⟨(by have q_r_25 := h_r_25; obtain ⟨u_z_27, q_z_27⟩ := i_add ez_27; have q_c_29 := i_le c_29; have q_f4_28 := f4_28; have g_c2_28 := i_rg c2_28; have g_r_25 := i_rg r_25; have g_x1 := i_rg x1; have g_z_27 := i_rg z_27; omega), (fun f9 e9 n9 c9 s9 q9 => by obtain ⟨w9, h1, h2⟩ := vx_un hD hk_28 rfl rfl rfl q9; rw [h1, h2] at q9 ⊢; have y_u := xp_3 _ _ _ _ _ q9; have y_L := xp_26 _ _ _ _ _ q9; have hL : kL0 g.tL f9 e9 n9 c1_28 c2_28 x1 = r_25 := (by unfold kL0; simp only [← y_u, ← y_L, ← ez_27]; rw [if_neg (by have q_sw_23 := sw_23; have g_r_2 := i_rg r_2; omega), if_pos (by have q_sw_23 := sw_23; have g_r_2 := i_rg r_2; omega)]); unfold kLen; rw [hL]; (try simp only [← y_u, ← y_L, ← ez_27]); rw [if_neg (by have q_r_25 := h_r_25; obtain ⟨u_z_27, q_z_27⟩ := i_add ez_27; have q_f4_28 := f4_28; have q_c_29 := i_le c_29; have g_c2_28 := i_rg c2_28; have g_r_25 := i_rg r_25; have g_x1 := i_rg x1; have g_z_27 := i_rg z_27; omega)])⟩, ⟨by rw [ht9]; exact hP, hD⟩⟩, hS.F ht9⟩) hS.2.2 dX2_lengthAt_125
    · refine lv_iconst (v := 0) hx hb dX2_lengthAt_120 (by decide) ?_
      refine lv_goto (tgt := 125) hx hb dX2_lengthAt_121 (by decide) ?_
      refine W.widen (k := 0) (n := 0) (Nat.le_of_ble_eq_true rfl) (Nat.le_of_ble_eq_true rfl) ?_
      exact W.iret (v := 0) hx hb hr (fun t9 ht9 hW9 => ⟨⟨_, (), rfl, ⟨(by have e0 : (0 : Int32).toInt = 0 := (by decide); have q_r_25 := h_r_25; obtain ⟨u_z_27, q_z_27⟩ := i_add ez_27; have q_c_29 := i_nle c_29; have q_f4_28 := f4_28; have g_c2_28 := i_rg c2_28; have g_r_25 := i_rg r_25; have g_x1 := i_rg x1; have g_z_27 := i_rg z_27; omega), (fun f9 e9 n9 c9 s9 q9 => by obtain ⟨w9, h1, h2⟩ := vx_un hD hk_28 rfl rfl rfl q9; rw [h1, h2] at q9 ⊢; have y_u := xp_3 _ _ _ _ _ q9; have y_L := xp_26 _ _ _ _ _ q9; have hL : kL0 g.tL f9 e9 n9 c1_28 c2_28 x1 = r_25 := (by unfold kL0; simp only [← y_u, ← y_L, ← ez_27]; rw [if_neg (by have q_sw_23 := sw_23; have g_r_2 := i_rg r_2; omega), if_pos (by have q_sw_23 := sw_23; have g_r_2 := i_rg r_2; omega)]); unfold kLen; rw [hL]; (try simp only [← y_u, ← y_L, ← ez_27]); rw [if_pos (by have q_r_25 := h_r_25; obtain ⟨u_z_27, q_z_27⟩ := i_add ez_27; have q_f4_28 := f4_28; have q_c_29 := i_nle c_29; have g_c2_28 := i_rg c2_28; have g_r_25 := i_rg r_25; have g_x1 := i_rg x1; have g_z_27 := i_rg z_27; omega)])⟩, ⟨by rw [ht9]; exact hP, hD⟩⟩, hS.F ht9⟩) hS.2.2 dX2_lengthAt_125
  have K_5_80 : (r_2 : Int32).toInt = 188 → W p l e (headSpec (wt yX2_lengthAt cX2_lengthAt 3 (some .int)) ({ frames := 3, cells := 0, slots := 0, locals := 66 })).room s m ([.ref h0, .int x1] : List Value).toArray below meth c H locs (0) (0) (MQ below (va_Qi (fun (r : Int32) (u9 : Unit) => (x1.toInt < 0 ∨ 1200 < x1.toInt ∨ r.toInt ≤ 2000) ∧ (∀ (f : Nat → Int32) (e : Int32) (n : Nat) (cd sz : Int32), vx ws h0 f e n cd sz → r = kLen g.tL f e n cd sz x1)) (gQ0 g A ws) A) ([.ref h0, .int x1] : List Value).toArray s (0) (0) A) (F0 m 80 ls []) := by
    intro sw_30
    refine lv_aload_n hx hb dX2_lengthAt_80 rfl (lv_at hl 0 rfl) ?_
    refine lv_iload_n hx hb dX2_lengthAt_81 rfl (lv_at hl 1 rfl) ?_
    refine lv_iconst (v := 1) hx hb dX2_lengthAt_82 (by decide) ?_
    refine lv_iadd hx hb dX2_lengthAt_83 ?_
    refine lv_topi (fun z_31 ez_31 => ?_)
    have hFc := gfree hD hS hA
    obtain ⟨k_32, fs_32, hk_32⟩ := gC_of o_h0
    refine va_calli (va_runV (As := [.int z_31]) (rest := []) ⟨hx, hb, hml, hown, hts⟩ (m_X2_u1_x l g H.size ws h0 (z_31) hG o_h0) (cwV 1 hts (gd_V kw_682 kw_812 kw_813 kw_389 kw_811) rfl rfl rfl (by decide +kernel) ⟨Nat.le_of_ble_eq_true rfl, Nat.le_of_ble_eq_true rfl⟩) ⟨gblind, va_recv hK hP (ci := 2) (q0 := k_32) rfl hk_32, fun U hU hW9 => gmk hU hW9 hP hK hD hex hE hS hFc⟩ rfl rfl hl.1 rfl (lv_room (Nat.le_of_ble_eq_true rfl)) dX2_lengthAt_84 ⟨Nat.le_of_ble_eq_true rfl, Nat.le_of_ble_eq_true rfl⟩) hS (fun q _ h => hFc q h) hFc (fun r_33 u9 t9 H1 locs ht9 hvm9 hw9 hB9 hz9 hk9 hS => ?_)
    have hP : va_P (gD g) cl0 ws H1 := by rw [← ht9]; exact hB9.1
    obtain ⟨hw9, xp_34⟩ := hw9
    clear hB9 hz9 hk9 hvm9 ht9 hw9
    generalize H1 = H at hP hS ⊢
    refine lv_bipush (v := 10) hx hb dX2_lengthAt_87 (by decide) ?_
    refine lv_icmp_ne (tgt := 96) hx hb dX2_lengthAt_89 (by decide) (fun c_35 => ?_) (fun c_35 => ?_)
    · refine lv_iconst (v := 0) hx hb dX2_lengthAt_96 (by decide) ?_
      refine lv_istore_n (lv' := [(2, .int 0), (0, .ref h0), (1, .int x1)]) hx hb dX2_lengthAt_97 rfl hl (by decide) rfl (fun ls hl => ?_)
      refine lv_goto (tgt := 110) hx hb dX2_lengthAt_98 (by decide) ?_
      refine lv_iload_n hx hb dX2_lengthAt_110 rfl (lv_at hl 2 rfl) ?_
      refine lv_iload_n hx hb dX2_lengthAt_111 rfl (lv_at hl 0 rfl) ?_
      refine lv_iadd hx hb dX2_lengthAt_112 ?_
      refine lv_topi (fun z_36 ez_36 => ?_)
      refine lv_aload_n hx hb dX2_lengthAt_113 rfl (lv_at hl 1 rfl) ?_
      obtain ⟨k_37, fs9, hk_37⟩ := gC_of o_h0
      obtain ⟨r0_37, c1_37, c2_37, c3_37, c4_37, c5_37, c6_37, r7_37, n7_37, c8_37, c9_37, l10_37, c11_37, rfl, o_r0_37, a_r7_37, f2_37, f3_37, f4_37, -⟩ := (hG.1 _ _ _ _ hk_37).hX2 rfl
      refine va_get (D := gD g) (ci := 2) (v := .int c2_37) (C := RX2) (T := TX2) (N := 12) hx hb hts inX2 hown hK hP k_37 hk_37 rfl 2 (by decide) (hts _ kw_716) (fun _ h9 => h9) rfl dX2_lengthAt_114 ?_
      refine lv_icmp_le (tgt := 124) hx hb dX2_lengthAt_117 (by decide) (fun c_38 => ?_) (fun c_38 => ?_)
      · refine lv_iload_n hx hb dX2_lengthAt_124 rfl (lv_at hl 0 rfl) ?_
        refine W.widen (k := 0) (n := 0) (Nat.le_of_ble_eq_true rfl) (Nat.le_of_ble_eq_true rfl) ?_
        exact W.iret (v := 0) hx hb hr (fun t9 ht9 hW9 => ⟨⟨_, (), rfl, ⟨(by have e0 : (0 : Int32).toInt = 0 := (by decide); have e1 : (1 : Int32).toInt = 1 := (by decide); obtain ⟨u_z_31, q_z_31⟩ := i_add ez_31; obtain ⟨u_z_36, q_z_36⟩ := i_add ez_36; have q_c_38 := i_le c_38; have q_f4_37 := f4_37; have g_c2_37 := i_rg c2_37; have g_x1 := i_rg x1; have g_z_31 := i_rg z_31; have g_z_36 := i_rg z_36; omega), (fun f9 e9 n9 c9 s9 q9 => by obtain ⟨w9, h1, h2⟩ := vx_un hD hk_37 rfl rfl rfl q9; rw [h1, h2] at q9 ⊢; have y_u := xp_3 _ _ _ _ _ q9; have y_v := xp_34 _ _ _ _ _ q9; have hL : kL0 g.tL f9 e9 n9 c1_37 c2_37 x1 = (0 : Int32) := (by unfold kL0; simp only [← y_u, ← ez_31, ← y_v, ← ez_36]; rw [if_neg (by have q_sw_30 := sw_30; have g_r_2 := i_rg r_2; omega), if_neg (by have q_sw_30 := sw_30; have g_r_2 := i_rg r_2; omega), if_neg (by have q_sw_30 := sw_30; have g_r_2 := i_rg r_2; omega), if_pos (by have q_sw_30 := sw_30; have g_r_2 := i_rg r_2; omega), if_neg (by have e10 : (10 : Int32).toInt = 10 := (by decide); have q_c_35 := i_ne c_35; have g_r_33 := i_rg r_33; omega)]); unfold kLen; rw [hL]; (try simp only [← y_u, ← ez_31, ← y_v, ← ez_36]); rw [if_neg (by have e0 : (0 : Int32).toInt = 0 := (by decide); have e1 : (1 : Int32).toInt = 1 := (by decide); obtain ⟨u_z_31, q_z_31⟩ := i_add ez_31; obtain ⟨u_z_36, q_z_36⟩ := i_add ez_36; have q_f4_37 := f4_37; have q_c_38 := i_le c_38; have g_c2_37 := i_rg c2_37; have g_x1 := i_rg x1; have g_z_31 := i_rg z_31; have g_z_36 := i_rg z_36; omega)])⟩, ⟨by rw [ht9]; exact hP, hD⟩⟩, hS.F ht9⟩) hS.2.2 dX2_lengthAt_125
      · refine lv_iconst (v := 0) hx hb dX2_lengthAt_120 (by decide) ?_
        refine lv_goto (tgt := 125) hx hb dX2_lengthAt_121 (by decide) ?_
        refine W.widen (k := 0) (n := 0) (Nat.le_of_ble_eq_true rfl) (Nat.le_of_ble_eq_true rfl) ?_
        exact W.iret (v := 0) hx hb hr (fun t9 ht9 hW9 => ⟨⟨_, (), rfl, ⟨(by have e0 : (0 : Int32).toInt = 0 := (by decide); have e1 : (1 : Int32).toInt = 1 := (by decide); obtain ⟨u_z_31, q_z_31⟩ := i_add ez_31; obtain ⟨u_z_36, q_z_36⟩ := i_add ez_36; have q_c_38 := i_nle c_38; have q_f4_37 := f4_37; have g_c2_37 := i_rg c2_37; have g_x1 := i_rg x1; have g_z_31 := i_rg z_31; have g_z_36 := i_rg z_36; omega), (fun f9 e9 n9 c9 s9 q9 => by obtain ⟨w9, h1, h2⟩ := vx_un hD hk_37 rfl rfl rfl q9; rw [h1, h2] at q9 ⊢; have y_u := xp_3 _ _ _ _ _ q9; have y_v := xp_34 _ _ _ _ _ q9; have hL : kL0 g.tL f9 e9 n9 c1_37 c2_37 x1 = (0 : Int32) := (by unfold kL0; simp only [← y_u, ← ez_31, ← y_v, ← ez_36]; rw [if_neg (by have q_sw_30 := sw_30; have g_r_2 := i_rg r_2; omega), if_neg (by have q_sw_30 := sw_30; have g_r_2 := i_rg r_2; omega), if_neg (by have q_sw_30 := sw_30; have g_r_2 := i_rg r_2; omega), if_pos (by have q_sw_30 := sw_30; have g_r_2 := i_rg r_2; omega), if_neg (by have e10 : (10 : Int32).toInt = 10 := (by decide); have q_c_35 := i_ne c_35; have g_r_33 := i_rg r_33; omega)]); unfold kLen; rw [hL]; (try simp only [← y_u, ← ez_31, ← y_v, ← ez_36]); rw [if_pos (by have e0 : (0 : Int32).toInt = 0 := (by decide); have e1 : (1 : Int32).toInt = 1 := (by decide); obtain ⟨u_z_31, q_z_31⟩ := i_add ez_31; obtain ⟨u_z_36, q_z_36⟩ := i_add ez_36; have q_f4_37 := f4_37; have q_c_38 := i_nle c_38; have g_c2_37 := i_rg c2_37; have g_x1 := i_rg x1; have g_z_31 := i_rg z_31; have g_z_36 := i_rg z_36; omega)])⟩, ⟨by rw [ht9]; exact hP, hD⟩⟩, hS.F ht9⟩) hS.2.2 dX2_lengthAt_125
    · refine lv_iconst (v := 2) hx hb dX2_lengthAt_92 (by decide) ?_
      refine lv_goto (tgt := 97) hx hb dX2_lengthAt_93 (by decide) ?_
      refine lv_istore_n (lv' := [(2, .int 2), (0, .ref h0), (1, .int x1)]) hx hb dX2_lengthAt_97 rfl hl (by decide) rfl (fun ls hl => ?_)
      refine lv_goto (tgt := 110) hx hb dX2_lengthAt_98 (by decide) ?_
      refine lv_iload_n hx hb dX2_lengthAt_110 rfl (lv_at hl 2 rfl) ?_
      refine lv_iload_n hx hb dX2_lengthAt_111 rfl (lv_at hl 0 rfl) ?_
      refine lv_iadd hx hb dX2_lengthAt_112 ?_
      refine lv_topi (fun z_39 ez_39 => ?_)
      refine lv_aload_n hx hb dX2_lengthAt_113 rfl (lv_at hl 1 rfl) ?_
      obtain ⟨k_40, fs9, hk_40⟩ := gC_of o_h0
      obtain ⟨r0_40, c1_40, c2_40, c3_40, c4_40, c5_40, c6_40, r7_40, n7_40, c8_40, c9_40, l10_40, c11_40, rfl, o_r0_40, a_r7_40, f2_40, f3_40, f4_40, -⟩ := (hG.1 _ _ _ _ hk_40).hX2 rfl
      refine va_get (D := gD g) (ci := 2) (v := .int c2_40) (C := RX2) (T := TX2) (N := 12) hx hb hts inX2 hown hK hP k_40 hk_40 rfl 2 (by decide) (hts _ kw_716) (fun _ h9 => h9) rfl dX2_lengthAt_114 ?_
      refine lv_icmp_le (tgt := 124) hx hb dX2_lengthAt_117 (by decide) (fun c_41 => ?_) (fun c_41 => ?_)
      · refine lv_iload_n hx hb dX2_lengthAt_124 rfl (lv_at hl 0 rfl) ?_
        refine W.widen (k := 0) (n := 0) (Nat.le_of_ble_eq_true rfl) (Nat.le_of_ble_eq_true rfl) ?_
        exact W.iret (v := 2) hx hb hr (fun t9 ht9 hW9 => ⟨⟨_, (), rfl, ⟨(by have e1 : (1 : Int32).toInt = 1 := (by decide); have e2 : (2 : Int32).toInt = 2 := (by decide); obtain ⟨u_z_31, q_z_31⟩ := i_add ez_31; obtain ⟨u_z_39, q_z_39⟩ := i_add ez_39; have q_c_41 := i_le c_41; have q_f4_40 := f4_40; have g_c2_40 := i_rg c2_40; have g_x1 := i_rg x1; have g_z_31 := i_rg z_31; have g_z_39 := i_rg z_39; omega), (fun f9 e9 n9 c9 s9 q9 => by obtain ⟨w9, h1, h2⟩ := vx_un hD hk_40 rfl rfl rfl q9; rw [h1, h2] at q9 ⊢; have y_u := xp_3 _ _ _ _ _ q9; have y_v := xp_34 _ _ _ _ _ q9; have hL : kL0 g.tL f9 e9 n9 c1_40 c2_40 x1 = (2 : Int32) := (by unfold kL0; simp only [← y_u, ← ez_31, ← y_v, ← ez_39]; rw [if_neg (by have q_sw_30 := sw_30; have g_r_2 := i_rg r_2; omega), if_neg (by have q_sw_30 := sw_30; have g_r_2 := i_rg r_2; omega), if_neg (by have q_sw_30 := sw_30; have g_r_2 := i_rg r_2; omega), if_pos (by have q_sw_30 := sw_30; have g_r_2 := i_rg r_2; omega), if_pos (by have e10 : (10 : Int32).toInt = 10 := (by decide); have q_c_35 := i_eq c_35; have g_r_33 := i_rg r_33; omega)]); unfold kLen; rw [hL]; (try simp only [← y_u, ← ez_31, ← y_v, ← ez_39]); rw [if_neg (by have e1 : (1 : Int32).toInt = 1 := (by decide); have e2 : (2 : Int32).toInt = 2 := (by decide); obtain ⟨u_z_31, q_z_31⟩ := i_add ez_31; obtain ⟨u_z_39, q_z_39⟩ := i_add ez_39; have q_f4_40 := f4_40; have q_c_41 := i_le c_41; have g_c2_40 := i_rg c2_40; have g_x1 := i_rg x1; have g_z_31 := i_rg z_31; have g_z_39 := i_rg z_39; omega)])⟩, ⟨by rw [ht9]; exact hP, hD⟩⟩, hS.F ht9⟩) hS.2.2 dX2_lengthAt_125
      · refine lv_iconst (v := 0) hx hb dX2_lengthAt_120 (by decide) ?_
        refine lv_goto (tgt := 125) hx hb dX2_lengthAt_121 (by decide) ?_
        refine W.widen (k := 0) (n := 0) (Nat.le_of_ble_eq_true rfl) (Nat.le_of_ble_eq_true rfl) ?_
        exact W.iret (v := 0) hx hb hr (fun t9 ht9 hW9 => ⟨⟨_, (), rfl, ⟨(by have e0 : (0 : Int32).toInt = 0 := (by decide); have e1 : (1 : Int32).toInt = 1 := (by decide); have e2 : (2 : Int32).toInt = 2 := (by decide); obtain ⟨u_z_31, q_z_31⟩ := i_add ez_31; obtain ⟨u_z_39, q_z_39⟩ := i_add ez_39; have q_c_41 := i_nle c_41; have q_f4_40 := f4_40; have g_c2_40 := i_rg c2_40; have g_x1 := i_rg x1; have g_z_31 := i_rg z_31; have g_z_39 := i_rg z_39; omega), (fun f9 e9 n9 c9 s9 q9 => by obtain ⟨w9, h1, h2⟩ := vx_un hD hk_40 rfl rfl rfl q9; rw [h1, h2] at q9 ⊢; have y_u := xp_3 _ _ _ _ _ q9; have y_v := xp_34 _ _ _ _ _ q9; have hL : kL0 g.tL f9 e9 n9 c1_40 c2_40 x1 = (2 : Int32) := (by unfold kL0; simp only [← y_u, ← ez_31, ← y_v, ← ez_39]; rw [if_neg (by have q_sw_30 := sw_30; have g_r_2 := i_rg r_2; omega), if_neg (by have q_sw_30 := sw_30; have g_r_2 := i_rg r_2; omega), if_neg (by have q_sw_30 := sw_30; have g_r_2 := i_rg r_2; omega), if_pos (by have q_sw_30 := sw_30; have g_r_2 := i_rg r_2; omega), if_pos (by have e10 : (10 : Int32).toInt = 10 := (by decide); have q_c_35 := i_eq c_35; have g_r_33 := i_rg r_33; omega)]); unfold kLen; rw [hL]; (try simp only [← y_u, ← ez_31, ← y_v, ← ez_39]); rw [if_pos (by have e1 : (1 : Int32).toInt = 1 := (by decide); have e2 : (2 : Int32).toInt = 2 := (by decide); obtain ⟨u_z_31, q_z_31⟩ := i_add ez_31; obtain ⟨u_z_39, q_z_39⟩ := i_add ez_39; have q_f4_40 := f4_40; have q_c_41 := i_nle c_41; have g_c2_40 := i_rg c2_40; have g_x1 := i_rg x1; have g_z_31 := i_rg z_31; have g_z_39 := i_rg z_39; omega)])⟩, ⟨by rw [ht9]; exact hP, hD⟩⟩, hS.F ht9⟩) hS.2.2 dX2_lengthAt_125
  have K_5_66 : (r_2 : Int32).toInt = 196 → W p l e (headSpec (wt yX2_lengthAt cX2_lengthAt 3 (some .int)) ({ frames := 3, cells := 0, slots := 0, locals := 66 })).room s m ([.ref h0, .int x1] : List Value).toArray below meth c H locs (0) (0) (MQ below (va_Qi (fun (r : Int32) (u9 : Unit) => (x1.toInt < 0 ∨ 1200 < x1.toInt ∨ r.toInt ≤ 2000) ∧ (∀ (f : Nat → Int32) (e : Int32) (n : Nat) (cd sz : Int32), vx ws h0 f e n cd sz → r = kLen g.tL f e n cd sz x1)) (gQ0 g A ws) A) ([.ref h0, .int x1] : List Value).toArray s (0) (0) A) (F0 m 66 ls []) := by
    intro sw_42
    refine lv_aload_n hx hb dX2_lengthAt_66 rfl (lv_at hl 0 rfl) ?_
    refine lv_iload_n hx hb dX2_lengthAt_67 rfl (lv_at hl 1 rfl) ?_
    refine lv_iconst (v := 1) hx hb dX2_lengthAt_68 (by decide) ?_
    refine lv_iadd hx hb dX2_lengthAt_69 ?_
    refine lv_topi (fun z_43 ez_43 => ?_)
    have hFc := gfree hD hS hA
    obtain ⟨k_44, fs_44, hk_44⟩ := gC_of o_h0
    refine va_calli (va_runV (As := [.int z_43]) (rest := []) ⟨hx, hb, hml, hown, hts⟩ (m_X2_u1_x l g H.size ws h0 (z_43) hG o_h0) (cwV 1 hts (gd_V kw_682 kw_812 kw_813 kw_389 kw_811) rfl rfl rfl (by decide +kernel) ⟨Nat.le_of_ble_eq_true rfl, Nat.le_of_ble_eq_true rfl⟩) ⟨gblind, va_recv hK hP (ci := 2) (q0 := k_44) rfl hk_44, fun U hU hW9 => gmk hU hW9 hP hK hD hex hE hS hFc⟩ rfl rfl hl.1 rfl (lv_room (Nat.le_of_ble_eq_true rfl)) dX2_lengthAt_70 ⟨Nat.le_of_ble_eq_true rfl, Nat.le_of_ble_eq_true rfl⟩) hS (fun q _ h => hFc q h) hFc (fun r_45 u9 t9 H1 locs ht9 hvm9 hw9 hB9 hz9 hk9 hS => ?_)
    have hP : va_P (gD g) cl0 ws H1 := by rw [← ht9]; exact hB9.1
    obtain ⟨hw9, xp_46⟩ := hw9
    clear hB9 hz9 hk9 hvm9 ht9 hw9
    generalize H1 = H at hP hS ⊢
    have hFc := gfree hD hS hA
    refine va_calli (va_runS (As := [.int r_45]) (rest := []) ⟨hx, hb, hml, hown, hts⟩ (m_X2_wideLength_x l g H.size ws (r_45) hG ) (va_cwS 1 hts (gd_S kw_727 kw_830 kw_389 kw_829) rfl rfl rfl (by decide +kernel) ⟨Nat.le_of_ble_eq_true rfl, Nat.le_of_ble_eq_true rfl⟩) ⟨gblind, fun U hU hW9 => gmk hU hW9 hP hK hD hex hE hS hFc⟩ rfl rfl hl.1 rfl (lv_room (Nat.le_of_ble_eq_true rfl)) dX2_lengthAt_73 ⟨Nat.le_of_ble_eq_true rfl, Nat.le_of_ble_eq_true rfl⟩) hS (fun q _ h => hFc q h) hFc (fun r_47 u9 t9 H1 locs ht9 hvm9 hw9 hB9 hz9 hk9 hS => ?_)
    have hP : va_P (gD g) cl0 ws H1 := by rw [← ht9]; exact hB9.1
    obtain ⟨hw9, xp_48⟩ := hw9
    have h_r_47 := hw9
    clear hB9 hz9 hk9 hvm9 ht9 hw9
    generalize H1 = H at hP hS ⊢
    refine lv_istore_n (lv' := [(2, .int r_47), (0, .ref h0), (1, .int x1)]) hx hb dX2_lengthAt_76 rfl hl (by decide) rfl (fun ls hl => ?_)
    refine lv_goto (tgt := 110) hx hb dX2_lengthAt_77 (by decide) ?_
    refine lv_iload_n hx hb dX2_lengthAt_110 rfl (lv_at hl 2 rfl) ?_
    refine lv_iload_n hx hb dX2_lengthAt_111 rfl (lv_at hl 0 rfl) ?_
    refine lv_iadd hx hb dX2_lengthAt_112 ?_
    refine lv_topi (fun z_49 ez_49 => ?_)
    refine lv_aload_n hx hb dX2_lengthAt_113 rfl (lv_at hl 1 rfl) ?_
    obtain ⟨k_50, fs9, hk_50⟩ := gC_of o_h0
    obtain ⟨r0_50, c1_50, c2_50, c3_50, c4_50, c5_50, c6_50, r7_50, n7_50, c8_50, c9_50, l10_50, c11_50, rfl, o_r0_50, a_r7_50, f2_50, f3_50, f4_50, -⟩ := (hG.1 _ _ _ _ hk_50).hX2 rfl
    refine va_get (D := gD g) (ci := 2) (v := .int c2_50) (C := RX2) (T := TX2) (N := 12) hx hb hts inX2 hown hK hP k_50 hk_50 rfl 2 (by decide) (hts _ kw_716) (fun _ h9 => h9) rfl dX2_lengthAt_114 ?_
    refine lv_icmp_le (tgt := 124) hx hb dX2_lengthAt_117 (by decide) (fun c_51 => ?_) (fun c_51 => ?_)
    · refine lv_iload_n hx hb dX2_lengthAt_124 rfl (lv_at hl 0 rfl) ?_
      refine W.widen (k := 0) (n := 0) (Nat.le_of_ble_eq_true rfl) (Nat.le_of_ble_eq_true rfl) ?_
      exact W.iret (v := r_47) hx hb hr (fun t9 ht9 hW9 => ⟨⟨_, (), rfl, ⟨(by have e1 : (1 : Int32).toInt = 1 := (by decide); obtain ⟨u_z_43, q_z_43⟩ := i_add ez_43; have q_r_47 := h_r_47; obtain ⟨u_z_49, q_z_49⟩ := i_add ez_49; have q_c_51 := i_le c_51; have q_f4_50 := f4_50; have g_c2_50 := i_rg c2_50; have g_r_47 := i_rg r_47; have g_x1 := i_rg x1; have g_z_43 := i_rg z_43; have g_z_49 := i_rg z_49; omega), (fun f9 e9 n9 c9 s9 q9 => by obtain ⟨w9, h1, h2⟩ := vx_un hD hk_50 rfl rfl rfl q9; rw [h1, h2] at q9 ⊢; have y_u := xp_3 _ _ _ _ _ q9; have y_v := xp_46 _ _ _ _ _ q9; have y_L0 := xp_48; have hL : kL0 g.tL f9 e9 n9 c1_50 c2_50 x1 = r_47 := (by unfold kL0; simp only [← y_u, ← ez_43, ← y_v, ← y_L0, ← ez_49]; rw [if_neg (by have q_sw_42 := sw_42; have g_r_2 := i_rg r_2; omega), if_neg (by have q_sw_42 := sw_42; have g_r_2 := i_rg r_2; omega), if_pos (by have q_sw_42 := sw_42; have g_r_2 := i_rg r_2; omega)]); unfold kLen; rw [hL]; (try simp only [← y_u, ← ez_43, ← y_v, ← y_L0, ← ez_49]); rw [if_neg (by have e1 : (1 : Int32).toInt = 1 := (by decide); obtain ⟨u_z_43, q_z_43⟩ := i_add ez_43; have q_r_47 := h_r_47; obtain ⟨u_z_49, q_z_49⟩ := i_add ez_49; have q_f4_50 := f4_50; have q_c_51 := i_le c_51; have g_c2_50 := i_rg c2_50; have g_r_47 := i_rg r_47; have g_x1 := i_rg x1; have g_z_43 := i_rg z_43; have g_z_49 := i_rg z_49; omega)])⟩, ⟨by rw [ht9]; exact hP, hD⟩⟩, hS.F ht9⟩) hS.2.2 dX2_lengthAt_125
    · refine lv_iconst (v := 0) hx hb dX2_lengthAt_120 (by decide) ?_
      refine lv_goto (tgt := 125) hx hb dX2_lengthAt_121 (by decide) ?_
      refine W.widen (k := 0) (n := 0) (Nat.le_of_ble_eq_true rfl) (Nat.le_of_ble_eq_true rfl) ?_
      exact W.iret (v := 0) hx hb hr (fun t9 ht9 hW9 => ⟨⟨_, (), rfl, ⟨(by have e0 : (0 : Int32).toInt = 0 := (by decide); have e1 : (1 : Int32).toInt = 1 := (by decide); obtain ⟨u_z_43, q_z_43⟩ := i_add ez_43; obtain ⟨u_z_49, q_z_49⟩ := i_add ez_49; have q_r_47 := h_r_47; have q_c_51 := i_nle c_51; have q_f4_50 := f4_50; have g_c2_50 := i_rg c2_50; have g_r_47 := i_rg r_47; have g_x1 := i_rg x1; have g_z_43 := i_rg z_43; have g_z_49 := i_rg z_49; omega), (fun f9 e9 n9 c9 s9 q9 => by obtain ⟨w9, h1, h2⟩ := vx_un hD hk_50 rfl rfl rfl q9; rw [h1, h2] at q9 ⊢; have y_u := xp_3 _ _ _ _ _ q9; have y_v := xp_46 _ _ _ _ _ q9; have y_L0 := xp_48; have hL : kL0 g.tL f9 e9 n9 c1_50 c2_50 x1 = r_47 := (by unfold kL0; simp only [← y_u, ← ez_43, ← y_v, ← y_L0, ← ez_49]; rw [if_neg (by have q_sw_42 := sw_42; have g_r_2 := i_rg r_2; omega), if_neg (by have q_sw_42 := sw_42; have g_r_2 := i_rg r_2; omega), if_pos (by have q_sw_42 := sw_42; have g_r_2 := i_rg r_2; omega)]); unfold kLen; rw [hL]; (try simp only [← y_u, ← ez_43, ← y_v, ← y_L0, ← ez_49]); rw [if_pos (by have e1 : (1 : Int32).toInt = 1 := (by decide); obtain ⟨u_z_43, q_z_43⟩ := i_add ez_43; have q_r_47 := h_r_47; obtain ⟨u_z_49, q_z_49⟩ := i_add ez_49; have q_f4_50 := f4_50; have q_c_51 := i_nle c_51; have g_c2_50 := i_rg c2_50; have g_r_47 := i_rg r_47; have g_x1 := i_rg x1; have g_z_43 := i_rg z_43; have g_z_49 := i_rg z_49; omega)])⟩, ⟨by rw [ht9]; exact hP, hD⟩⟩, hS.F ht9⟩) hS.2.2 dX2_lengthAt_125
  by_cases c9_170 : (r_2 : Int32).toInt = 170
  · exact lv_lookup (off := 43) (tgt := 48) hx hb dX2_lengthAt_5 (by decide) (by rw [c9_170]; decide) (by decide) (K_5_48 c9_170)
  by_cases c9_171 : (r_2 : Int32).toInt = 171
  · exact lv_lookup (off := 52) (tgt := 57) hx hb dX2_lengthAt_5 (by decide) (by rw [c9_171]; decide) (by decide) (K_5_57 c9_171)
  by_cases c9_188 : (r_2 : Int32).toInt = 188
  · exact lv_lookup (off := 75) (tgt := 80) hx hb dX2_lengthAt_5 (by decide) (by rw [c9_188]; decide) (by decide) (K_5_80 c9_188)
  by_cases c9_196 : (r_2 : Int32).toInt = 196
  · exact lv_lookup (off := 61) (tgt := 66) hx hb dX2_lengthAt_5 (by decide) (by rw [c9_196]; decide) (by decide) (K_5_66 c9_196)
  exact lv_lookup (off := 96) (tgt := 101) hx hb dX2_lengthAt_5 (by decide) (lk_cons c9_170 (lk_cons c9_171 (lk_cons c9_188 (lk_cons c9_196 lk_nil)))) (by decide) (K_5_101 c9_170 c9_171 c9_188 c9_196)
