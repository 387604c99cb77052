set_option maxHeartbeats 1000000 in
set_option maxRecDepth 100000 in
theorem m_X10_rowAt (l : Launch) (g : Gm) (sz : Nat) (ws : va_W) (h0 : Nat) (x1 : Int32) (hG : Good g ws) (o_h0 : gC ws h0 9) : Met l yX10_rowAt (wt yX10_rowAt cX10_rowAt 2 (some (.object "CodeFoundry$Row"))) ({ frames := 0, cells := 0, slots := 0, locals := 0 }) (va_Pc [.ref h0, .int x1] (st_G g sz ws)) (va_Qq (fun (r : Option Nat) (u9 : Unit) => (∀ b, r = some b → gC ws b 7) ∧ ((∀ b, r = some b → inM ws h0 x1 ∧ rwI ws h0 b) ∧ (full ws h0 → inM ws h0 x1 → ∃ b, r = some b))) (gQ0 g (va_A ws sz) ws) (va_A ws sz)) (0) (0) (va_A ws sz) := by
  refine Met.ofW (cc := cX10_rowAt) (maxL := 2) (ret := (some (.object "CodeFoundry$Row"))) (by decide) rfl ?_
  intro p e s m args below meth c s₁ B hml hv
  obtain ⟨rfl, hsz, hP, hK, hD0, hex, hE⟩ := hv
  have hx := B.exec
  have hb := B.bytes
  have hr := B.returns
  have hts0 := atoms_spec (ws := wt yX10_rowAt cX10_rowAt 2 (some (.object "CodeFoundry$Row"))) B.pre
  have hts : ∀ w ∈ tb, w.before _ s = true := fun w h => hts0 w (List.mem_cons_of_mem _ h)
  have hown : s.vm.findClass RX10 = some m.cls := findClass_of_methodNamed B.named
  subst hsz
  have hD := hD0.self (sz := s.heap.size)
  generalize hAe : va_A ws s.heap.size = A at hD hE ⊢
  have hA : ∀ q : Nat, s.heap.size ≤ q → A q := fun q h => by rw [← hAe]; exact Or.inr h
  have hS : va_S A s.heap s.heap [] := va_S.rf
  have hl := lv_entry ([.ref h0, .int x1]) (n := 2) (Nat.le_of_ble_eq_true rfl)
  rw [lg_entry_eq]
  generalize (lg_sl ([.ref h0, .int x1]) ++ List.replicate (2 - (lg_sl ([.ref h0, .int x1])).length) Slot.unset).toArray = ls at hl ⊢
  have hl : lv_has ls 2 [(0, .ref h0), (1, .int x1)] := hl
  refine lv_iload_n hx hb dX10_rowAt_0 rfl (lv_at hl 1 rfl) ?_
  refine lv_if_lt (tgt := 13) hx hb dX10_rowAt_1 (by decide) (fun c_1 => ?_) (fun c_1 => ?_)
  · refine lv_null hx hb dX10_rowAt_13 ?_
    refine lv_goto (tgt := 23) hx hb dX10_rowAt_14 (by decide) ?_
    refine W.widen (k := 0) (n := 0) (Nat.le_of_ble_eq_true rfl) (Nat.le_of_ble_eq_true rfl) ?_
    obtain ⟨k_2, fs9, hk_2⟩ := gC_of o_h0
    obtain ⟨r0_2, n0_2, c1_2, c2_2, c3_2, c4_2, r5_2, n5_2, r6_2, n6_2, r7_2, n7_2, c8_2, r9_2, n9_2, r10_2, n10_2, r11_2, n11_2, r12_2, n12_2, r13_2, n13_2, c14_2, c15_2, c16_2, c17_2, rfl, a_r0_2, f1_2, a_r5_2, f3_2, a_r6_2, f5_2, a_r7_2, f7_2, a_r9_2, f9_2, a_r10_2, f11_2, a_r11_2, f13_2, a_r12_2, f15_2, a_r13_2, f17_2, hz_c15_2, f19_2, f20_2, f21_2, f22_2, f23_2, f24_2, f25_2, f26_2, f27_2, f28_2, -⟩ := (hG.1 _ _ _ _ hk_2).hX10 rfl
    exact W.aret (v := .null) hx hb hr (Or.inl ⟨_, rfl⟩) (Or.inl rfl) (fun t9 ht9 hW9 => ⟨⟨none, (), rfl, ⟨fun b h9 => (by cases h9), ⟨fun b h9 => (by cases h9), fun F9 M9 => (by have m9 := inM_of hD hk_2 rfl M9; exact False.elim (by have e0 : (0 : Int32).toInt = 0 := (by decide); have q_c_1 := i_lt c_1; have q_f17_2 := f17_2; have q_f22_2 := f22_2; have q_f26_2 := f26_2; have q_f9_2 := f9_2; have q_f23_2 := f23_2; have q_f24_2 := f24_2; have q_f25_2 := f25_2; have q_f27_2 := f27_2; have q_f11_2 := f11_2; have q_f13_2 := f13_2; have q_f15_2 := f15_2; have g_c8_2 := i_rg c8_2; have g_x1 := i_rg x1; omega))⟩⟩, ⟨by rw [ht9]; exact hP, hD⟩⟩, hS.F ht9⟩) hS.2.2 dX10_rowAt_23
  · refine lv_iload_n hx hb dX10_rowAt_4 rfl (lv_at hl 1 rfl) ?_
    refine lv_aload_n hx hb dX10_rowAt_5 rfl (lv_at hl 0 rfl) ?_
    obtain ⟨k_3, fs9, hk_3⟩ := gC_of o_h0
    obtain ⟨r0_3, n0_3, c1_3, c2_3, c3_3, c4_3, r5_3, n5_3, r6_3, n6_3, r7_3, n7_3, c8_3, r9_3, n9_3, r10_3, n10_3, r11_3, n11_3, r12_3, n12_3, r13_3, n13_3, c14_3, c15_3, c16_3, c17_3, rfl, a_r0_3, f1_3, a_r5_3, f3_3, a_r6_3, f5_3, a_r7_3, f7_3, a_r9_3, f9_3, a_r10_3, f11_3, a_r11_3, f13_3, a_r12_3, f15_3, a_r13_3, f17_3, hz_c15_3, f19_3, f20_3, f21_3, f22_3, f23_3, f24_3, f25_3, f26_3, f27_3, f28_3, -⟩ := (hG.1 _ _ _ _ hk_3).hX10 rfl
    refine va_get (D := gD g) (ci := 9) (v := .ref r13_3) (C := RX10) (T := TX10) (N := 18) hx hb hts inX10 hown hK hP k_3 hk_3 rfl 13 (by decide) (hts _ kw_60) (fun _ h9 => h9) rfl dX10_rowAt_6 ?_
    obtain ⟨k_4, f_4, hk_4⟩ := gR_of a_r13_3
    obtain ⟨z_5, ez_5⟩ : ∃ z : Int32, Int32.ofNat n13_3 = z := ⟨_, rfl⟩
    refine va_alen (v := z_5) hx hb hK hP k_4 5 hk_4 rfl ez_5 dX10_rowAt_9 ?_
    refine lv_icmp_lt (tgt := 17) hx hb dX10_rowAt_10 (by decide) (fun c_6 => ?_) (fun c_6 => ?_)
    · refine lv_aload_n hx hb dX10_rowAt_17 rfl (lv_at hl 0 rfl) ?_
      refine va_get (D := gD g) (ci := 9) (v := .ref r13_3) (C := RX10) (T := TX10) (N := 18) hx hb hts inX10 hown hK hP k_3 hk_3 rfl 13 (by decide) (hts _ kw_60) (fun _ h9 => h9) rfl dX10_rowAt_18 ?_
      refine lv_iload_n hx hb dX10_rowAt_21 rfl (lv_at hl 1 rfl) ?_
      refine va_aldq hx hb hK hP k_4 5 hk_4 rfl (i_in2 (by have e0 : (0 : Int32).toInt = 0 := (by decide); have q_c_1 := i_nlt c_1; have q_f17_3 := f17_3; have q_f26_3 := f26_3; have q_z_5 := i_len ez_5 f17_3; have q_c_6 := i_lt c_6; have q_f9_3 := f9_3; have q_f22_3 := f22_3; have q_f23_3 := f23_3; have q_f24_3 := f24_3; have q_f25_3 := f25_3; have q_f27_3 := f27_3; have q_f11_3 := f11_3; have q_f13_3 := f13_3; have q_f15_3 := f15_3; have g_c8_3 := i_rg c8_3; have g_x1 := i_rg x1; have g_z_5 := i_rg z_5; omega)) dX10_rowAt_22 ?_
      obtain ⟨v_7, ev_7⟩ : ∃ z, f_4 (x1 : Int32).toNatClampNeg = z := ⟨_, rfl⟩
      rw [ev_7]
      have o_v_7 : ∀ b, v_7 = some b → gC ws b 7 := fun b h => ((hG.2.1 _ _ _ _ _ hk_4).2 rfl _ b (ev_7.trans h))
      rcases v_7 with _ | b_8
      · skip
        refine W.widen (k := 0) (n := 0) (Nat.le_of_ble_eq_true rfl) (Nat.le_of_ble_eq_true rfl) ?_
        exact W.aret (v := .null) hx hb hr (Or.inl ⟨_, rfl⟩) (Or.inl rfl) (fun t9 ht9 hW9 => ⟨⟨none, (), rfl, ⟨fun b h9 => (by cases h9), ⟨fun b h9 => (by cases h9), fun F9 M9 => (by obtain ⟨b9, hb9⟩ := full_at hD hk_3 (r := r13_3) rfl hk_4 F9 (i := (x1 : Int32).toNatClampNeg) (i_inN (by have e0 : (0 : Int32).toInt = 0 := (by decide); have q_c_1 := i_nlt c_1; have q_f17_3 := f17_3; have q_f26_3 := f26_3; have q_z_5 := i_len ez_5 f17_3; have q_c_6 := i_lt c_6; have q_f9_3 := f9_3; have q_f22_3 := f22_3; have q_f23_3 := f23_3; have q_f24_3 := f24_3; have q_f25_3 := f25_3; have q_f27_3 := f27_3; have q_f11_3 := f11_3; have q_f13_3 := f13_3; have q_f15_3 := f15_3; have g_c8_3 := i_rg c8_3; have g_x1 := i_rg x1; have g_z_5 := i_rg z_5; omega)); rw [ev_7] at hb9; cases hb9)⟩⟩, ⟨by rw [ht9]; exact hP, hD⟩⟩, hS.F ht9⟩) hS.2.2 dX10_rowAt_23
      · have o_b_8 := o_v_7 _ rfl
        refine W.widen (k := 0) (n := 0) (Nat.le_of_ble_eq_true rfl) (Nat.le_of_ble_eq_true rfl) ?_
        exact W.aret (v := .ref b_8) hx hb hr (Or.inl ⟨_, rfl⟩) (Or.inr ⟨_, rfl⟩) (fun t9 ht9 hW9 => ⟨⟨some b_8, (), rfl, ⟨(fun b h9 => by cases h9; exact o_b_8), ⟨fun b h9 => (by cases h9; exact ⟨⟨_, _, _, hk_3, rfl, (by have e0 : (0 : Int32).toInt = 0 := (by decide); have q_c_1 := i_nlt c_1; have q_f17_3 := f17_3; have q_f22_3 := f22_3; have q_f26_3 := f26_3; have q_z_5 := i_len ez_5 f17_3; have q_c_6 := i_lt c_6; have q_f9_3 := f9_3; have q_f23_3 := f23_3; have q_f24_3 := f24_3; have q_f25_3 := f25_3; have q_f27_3 := f27_3; have q_f11_3 := f11_3; have q_f13_3 := f13_3; have q_f15_3 := f15_3; have g_c8_3 := i_rg c8_3; have g_x1 := i_rg x1; have g_z_5 := i_rg z_5; omega)⟩, ⟨_, _, _, _, _, _, _, _, hk_3, rfl, hk_4, i_inN (by have e0 : (0 : Int32).toInt = 0 := (by decide); have q_c_1 := i_nlt c_1; have q_f17_3 := f17_3; have q_f26_3 := f26_3; have q_z_5 := i_len ez_5 f17_3; have q_c_6 := i_lt c_6; have q_f9_3 := f9_3; have q_f22_3 := f22_3; have q_f23_3 := f23_3; have q_f24_3 := f24_3; have q_f25_3 := f25_3; have q_f27_3 := f27_3; have q_f11_3 := f11_3; have q_f13_3 := f13_3; have q_f15_3 := f15_3; have g_c8_3 := i_rg c8_3; have g_x1 := i_rg x1; have g_z_5 := i_rg z_5; omega), ev_7⟩⟩), fun _ _ => ⟨_, rfl⟩⟩⟩, ⟨by rw [ht9]; exact hP, hD⟩⟩, hS.F ht9⟩) hS.2.2 dX10_rowAt_23
    · refine lv_null hx hb dX10_rowAt_13 ?_
      refine lv_goto (tgt := 23) hx hb dX10_rowAt_14 (by decide) ?_
      refine W.widen (k := 0) (n := 0) (Nat.le_of_ble_eq_true rfl) (Nat.le_of_ble_eq_true rfl) ?_
      exact W.aret (v := .null) hx hb hr (Or.inl ⟨_, rfl⟩) (Or.inl rfl) (fun t9 ht9 hW9 => ⟨⟨none, (), rfl, ⟨fun b h9 => (by cases h9), ⟨fun b h9 => (by cases h9), fun F9 M9 => (by have m9 := inM_of hD hk_3 rfl M9; exact False.elim (by have e0 : (0 : Int32).toInt = 0 := (by decide); have q_c_1 := i_nlt c_1; have q_f17_3 := f17_3; have q_f22_3 := f22_3; have q_f26_3 := f26_3; have q_z_5 := i_len ez_5 f17_3; have q_c_6 := i_nlt c_6; have q_f9_3 := f9_3; have q_f23_3 := f23_3; have q_f24_3 := f24_3; have q_f25_3 := f25_3; have q_f27_3 := f27_3; have q_f11_3 := f11_3; have q_f13_3 := f13_3; have q_f15_3 := f15_3; have g_c8_3 := i_rg c8_3; have g_x1 := i_rg x1; have g_z_5 := i_rg z_5; omega))⟩⟩, ⟨by rw [ht9]; exact hP, hD⟩⟩, hS.F ht9⟩) hS.2.2 dX10_rowAt_23
set_option maxHeartbeats 1000000 in
set_option maxRecDepth 100000 in
theorem m_X10_kindOfField (l : Launch) (g : Gm) (sz : Nat) (ws : va_W) (h0 : Nat) (x1 : Int32) (hG : Good g ws) (o_h0 : gC ws h0 9) : Met l yX10_kindOfField (wt yX10_kindOfField cX10_kindOfField 2 (some .int)) ({ frames := 0, cells := 0, slots := 0, locals := 0 }) (va_Pc [.ref h0, .int x1] (st_G g sz ws)) (va_Qi (fun (r : Int32) (u9 : Unit) => True) (gQ0 g (va_A ws sz) ws) (va_A ws sz)) (0) (0) (va_A ws sz) := by
  refine Met.ofW (cc := cX10_kindOfField) (maxL := 2) (ret := (some .int)) (by decide) rfl ?_
  intro p e s m args below meth c s₁ B hml hv
  obtain ⟨rfl, hsz, hP, hK, hD0, hex, hE⟩ := hv
  have hx := B.exec
  have hb := B.bytes
  have hr := B.returns
  have hts0 := atoms_spec (ws := wt yX10_kindOfField cX10_kindOfField 2 (some .int)) B.pre
  have hts : ∀ w ∈ tb, w.before _ s = true := fun w h => hts0 w (List.mem_cons_of_mem _ h)
  have hown : s.vm.findClass RX10 = some m.cls := findClass_of_methodNamed B.named
  subst hsz
  have hD := hD0.self (sz := s.heap.size)
  generalize hAe : va_A ws s.heap.size = A at hD hE ⊢
  have hA : ∀ q : Nat, s.heap.size ≤ q → A q := fun q h => by rw [← hAe]; exact Or.inr h
  have hS : va_S A s.heap s.heap [] := va_S.rf
  have hl := lv_entry ([.ref h0, .int x1]) (n := 2) (Nat.le_of_ble_eq_true rfl)
  rw [lg_entry_eq]
  generalize (lg_sl ([.ref h0, .int x1]) ++ List.replicate (2 - (lg_sl ([.ref h0, .int x1])).length) Slot.unset).toArray = ls at hl ⊢
  have hl : lv_has ls 2 [(0, .ref h0), (1, .int x1)] := hl
  refine lv_iload_n hx hb dX10_kindOfField_0 rfl (lv_at hl 1 rfl) ?_
  have J_23 : ∀ (t_1 : Int32) (H : Heap) (locs : List Loc) (ls : Array Slot), va_P (gD g) cl0 ws H → va_D A ws → va_S A s.heap H locs → lv_has ls 2 [] → W p l e (headSpec (wt yX10_kindOfField cX10_kindOfField 2 (some .int)) ({ frames := 0, cells := 0, slots := 0, locals := 0 })).room s m ([.ref h0, .int x1] : List Value).toArray below meth c H locs (0) (0) (MQ below (va_Qi (fun (r : Int32) (u9 : Unit) => True) (gQ0 g A ws) A) ([.ref h0, .int x1] : List Value).toArray s (0) (0) A) (F0 m 23 ls [.int t_1]) := by
    intro t_1 H locs ls  hP hD hS hl
    refine W.widen (k := 0) (n := 0) (Nat.le_of_ble_eq_true rfl) (Nat.le_of_ble_eq_true rfl) ?_
    exact W.iret (v := t_1) hx hb hr (fun t9 ht9 hW9 => ⟨⟨_, (), rfl, trivial, ⟨by rw [ht9]; exact hP, hD⟩⟩, hS.F ht9⟩) hS.2.2 dX10_kindOfField_23
  have J_13 : ∀  (H : Heap) (locs : List Loc) (ls : Array Slot), va_P (gD g) cl0 ws H → va_D A ws → va_S A s.heap H locs → lv_has ls 2 [] → W p l e (headSpec (wt yX10_kindOfField cX10_kindOfField 2 (some .int)) ({ frames := 0, cells := 0, slots := 0, locals := 0 })).room s m ([.ref h0, .int x1] : List Value).toArray below meth c H locs (0) (0) (MQ below (va_Qi (fun (r : Int32) (u9 : Unit) => True) (gQ0 g A ws) A) ([.ref h0, .int x1] : List Value).toArray s (0) (0) A) (F0 m 13 ls []) := by
    intro  H locs ls  hP hD hS hl
    refine lv_iconst (v := 2) hx hb dX10_kindOfField_13 (by decide) ?_
    refine lv_goto (tgt := 23) hx hb dX10_kindOfField_14 (by decide) ?_
    exact J_23 (2) H locs ls  hP hD hS (lv_sub hl [] rfl)
  refine lv_if_lt (tgt := 13) hx hb dX10_kindOfField_1 (by decide) (fun c_6 => ?_) (fun c_6 => ?_)
  · exact J_13  _ _ ls  hP hD hS (lv_sub hl [] rfl)
  · refine lv_iload_n hx hb dX10_kindOfField_4 rfl (lv_at hl 1 rfl) ?_
    refine lv_aload_n hx hb dX10_kindOfField_5 rfl (lv_at hl 0 rfl) ?_
    obtain ⟨k_7, fs9, hk_7⟩ := gC_of o_h0
    obtain ⟨r0_7, n0_7, c1_7, c2_7, c3_7, c4_7, r5_7, n5_7, r6_7, n6_7, r7_7, n7_7, c8_7, r9_7, n9_7, r10_7, n10_7, r11_7, n11_7, r12_7, n12_7, r13_7, n13_7, c14_7, c15_7, c16_7, c17_7, rfl, a_r0_7, f1_7, a_r5_7, f3_7, a_r6_7, f5_7, a_r7_7, f7_7, a_r9_7, f9_7, a_r10_7, f11_7, a_r11_7, f13_7, a_r12_7, f15_7, a_r13_7, f17_7, hz_c15_7, f19_7, f20_7, f21_7, f22_7, f23_7, f24_7, f25_7, f26_7, f27_7, f28_7, -⟩ := (hG.1 _ _ _ _ hk_7).hX10 rfl
    refine va_get (D := gD g) (ci := 9) (v := .ref r7_7) (C := RX10) (T := TX10) (N := 18) hx hb hts inX10 hown hK hP k_7 hk_7 rfl 7 (by decide) (hts _ kw_54) (fun _ h9 => h9) rfl dX10_kindOfField_6 ?_
    obtain ⟨k_8, f_8, hk_8⟩ := gI_of a_r7_7
    obtain ⟨z_9, ez_9⟩ : ∃ z : Int32, Int32.ofNat n7_7 = z := ⟨_, rfl⟩
    refine va_alen (v := z_9) hx hb hK hP k_8 1 hk_8 rfl ez_9 dX10_kindOfField_9 ?_
    refine lv_icmp_lt (tgt := 17) hx hb dX10_kindOfField_10 (by decide) (fun c_10 => ?_) (fun c_10 => ?_)
    · refine lv_aload_n hx hb dX10_kindOfField_17 rfl (lv_at hl 0 rfl) ?_
      refine va_get (D := gD g) (ci := 9) (v := .ref r7_7) (C := RX10) (T := TX10) (N := 18) hx hb hts inX10 hown hK hP k_7 hk_7 rfl 7 (by decide) (hts _ kw_54) (fun _ h9 => h9) rfl dX10_kindOfField_18 ?_
      refine lv_iload_n hx hb dX10_kindOfField_21 rfl (lv_at hl 1 rfl) ?_
      refine va_iald hx hb hK hP k_8 1 hk_8 rfl (i_in2 (by have e0 : (0 : Int32).toInt = 0 := (by decide); have q_c_6 := i_nlt c_6; have q_f7_7 := f7_7; have q_f21_7 := f21_7; have q_z_9 := i_len ez_9 f7_7; have q_c_10 := i_lt c_10; have q_f3_7 := f3_7; have q_f19_7 := f19_7; have q_f20_7 := f20_7; have q_f28_7 := f28_7; have g_c4_7 := i_rg c4_7; have g_x1 := i_rg x1; have g_z_9 := i_rg z_9; omega)) dX10_kindOfField_22 ?_
      refine lv_topi (fun z_11 ez_11 => ?_)
      exact J_23 (z_11) _ _ ls  hP hD hS (lv_sub hl [] rfl)
    · exact J_13  _ _ ls  hP hD hS (lv_sub hl [] rfl)
set_option maxHeartbeats 1000000 in
set_option maxRecDepth 100000 in
theorem m_X10_takesOfMethod (l : Launch) (g : Gm) (sz : Nat) (ws : va_W) (h0 : Nat) (x1 : Int32) (hG : Good g ws) (o_h0 : gC ws h0 9) : Met l yX10_takesOfMethod (wt yX10_takesOfMethod cX10_takesOfMethod 2 (some .int)) ({ frames := 0, cells := 0, slots := 0, locals := 0 }) (va_Pc [.ref h0, .int x1] (st_G g sz ws)) (va_Qi (fun (r : Int32) (u9 : Unit) => True) (gQ0 g (va_A ws sz) ws) (va_A ws sz)) (0) (0) (va_A ws sz) := by
  refine Met.ofW (cc := cX10_takesOfMethod) (maxL := 2) (ret := (some .int)) (by decide) rfl ?_
  intro p e s m args below meth c s₁ B hml hv
  obtain ⟨rfl, hsz, hP, hK, hD0, hex, hE⟩ := hv
  have hx := B.exec
  have hb := B.bytes
  have hr := B.returns
  have hts0 := atoms_spec (ws := wt yX10_takesOfMethod cX10_takesOfMethod 2 (some .int)) B.pre
  have hts : ∀ w ∈ tb, w.before _ s = true := fun w h => hts0 w (List.mem_cons_of_mem _ h)
  have hown : s.vm.findClass RX10 = some m.cls := findClass_of_methodNamed B.named
  subst hsz
  have hD := hD0.self (sz := s.heap.size)
  generalize hAe : va_A ws s.heap.size = A at hD hE ⊢
  have hA : ∀ q : Nat, s.heap.size ≤ q → A q := fun q h => by rw [← hAe]; exact Or.inr h
  have hS : va_S A s.heap s.heap [] := va_S.rf
  have hl := lv_entry ([.ref h0, .int x1]) (n := 2) (Nat.le_of_ble_eq_true rfl)
  rw [lg_entry_eq]
  generalize (lg_sl ([.ref h0, .int x1]) ++ List.replicate (2 - (lg_sl ([.ref h0, .int x1])).length) Slot.unset).toArray = ls at hl ⊢
  have hl : lv_has ls 2 [(0, .ref h0), (1, .int x1)] := hl
  refine lv_iload_n hx hb dX10_takesOfMethod_0 rfl (lv_at hl 1 rfl) ?_
  have J_23 : ∀ (t_1 : Int32) (H : Heap) (locs : List Loc) (ls : Array Slot), va_P (gD g) cl0 ws H → va_D A ws → va_S A s.heap H locs → lv_has ls 2 [] → W p l e (headSpec (wt yX10_takesOfMethod cX10_takesOfMethod 2 (some .int)) ({ frames := 0, cells := 0, slots := 0, locals := 0 })).room s m ([.ref h0, .int x1] : List Value).toArray below meth c H locs (0) (0) (MQ below (va_Qi (fun (r : Int32) (u9 : Unit) => True) (gQ0 g A ws) A) ([.ref h0, .int x1] : List Value).toArray s (0) (0) A) (F0 m 23 ls [.int t_1]) := by
    intro t_1 H locs ls  hP hD hS hl
    refine W.widen (k := 0) (n := 0) (Nat.le_of_ble_eq_true rfl) (Nat.le_of_ble_eq_true rfl) ?_
    exact W.iret (v := t_1) hx hb hr (fun t9 ht9 hW9 => ⟨⟨_, (), rfl, trivial, ⟨by rw [ht9]; exact hP, hD⟩⟩, hS.F ht9⟩) hS.2.2 dX10_takesOfMethod_23
  have J_13 : ∀  (H : Heap) (locs : List Loc) (ls : Array Slot), va_P (gD g) cl0 ws H → va_D A ws → va_S A s.heap H locs → lv_has ls 2 [] → W p l e (headSpec (wt yX10_takesOfMethod cX10_takesOfMethod 2 (some .int)) ({ frames := 0, cells := 0, slots := 0, locals := 0 })).room s m ([.ref h0, .int x1] : List Value).toArray below meth c H locs (0) (0) (MQ below (va_Qi (fun (r : Int32) (u9 : Unit) => True) (gQ0 g A ws) A) ([.ref h0, .int x1] : List Value).toArray s (0) (0) A) (F0 m 13 ls []) := by
    intro  H locs ls  hP hD hS hl
    refine lv_iconst (v := 0) hx hb dX10_takesOfMethod_13 (by decide) ?_
    refine lv_goto (tgt := 23) hx hb dX10_takesOfMethod_14 (by decide) ?_
    exact J_23 (0) H locs ls  hP hD hS (lv_sub hl [] rfl)
  refine lv_if_lt (tgt := 13) hx hb dX10_takesOfMethod_1 (by decide) (fun c_6 => ?_) (fun c_6 => ?_)
  · exact J_13  _ _ ls  hP hD hS (lv_sub hl [] rfl)
  · refine lv_iload_n hx hb dX10_takesOfMethod_4 rfl (lv_at hl 1 rfl) ?_
    refine lv_aload_n hx hb dX10_takesOfMethod_5 rfl (lv_at hl 0 rfl) ?_
    obtain ⟨k_7, fs9, hk_7⟩ := gC_of o_h0
    obtain ⟨r0_7, n0_7, c1_7, c2_7, c3_7, c4_7, r5_7, n5_7, r6_7, n6_7, r7_7, n7_7, c8_7, r9_7, n9_7, r10_7, n10_7, r11_7, n11_7, r12_7, n12_7, r13_7, n13_7, c14_7, c15_7, c16_7, c17_7, rfl, a_r0_7, f1_7, a_r5_7, f3_7, a_r6_7, f5_7, a_r7_7, f7_7, a_r9_7, f9_7, a_r10_7, f11_7, a_r11_7, f13_7, a_r12_7, f15_7, a_r13_7, f17_7, hz_c15_7, f19_7, f20_7, f21_7, f22_7, f23_7, f24_7, f25_7, f26_7, f27_7, f28_7, -⟩ := (hG.1 _ _ _ _ hk_7).hX10 rfl
    refine va_get (D := gD g) (ci := 9) (v := .ref r11_7) (C := RX10) (T := TX10) (N := 18) hx hb hts inX10 hown hK hP k_7 hk_7 rfl 11 (by decide) (hts _ kw_58) (fun _ h9 => h9) rfl dX10_takesOfMethod_6 ?_
    obtain ⟨k_8, f_8, hk_8⟩ := gI_of a_r11_7
    obtain ⟨z_9, ez_9⟩ : ∃ z : Int32, Int32.ofNat n11_7 = z := ⟨_, rfl⟩
    refine va_alen (v := z_9) hx hb hK hP k_8 1 hk_8 rfl ez_9 dX10_takesOfMethod_9 ?_
    refine lv_icmp_lt (tgt := 17) hx hb dX10_takesOfMethod_10 (by decide) (fun c_10 => ?_) (fun c_10 => ?_)
    · refine lv_aload_n hx hb dX10_takesOfMethod_17 rfl (lv_at hl 0 rfl) ?_
      refine va_get (D := gD g) (ci := 9) (v := .ref r11_7) (C := RX10) (T := TX10) (N := 18) hx hb hts inX10 hown hK hP k_7 hk_7 rfl 11 (by decide) (hts _ kw_58) (fun _ h9 => h9) rfl dX10_takesOfMethod_18 ?_
      refine lv_iload_n hx hb dX10_takesOfMethod_21 rfl (lv_at hl 1 rfl) ?_
      refine va_iald hx hb hK hP k_8 1 hk_8 rfl (i_in2 (by have e0 : (0 : Int32).toInt = 0 := (by decide); have q_c_6 := i_nlt c_6; have q_f13_7 := f13_7; have q_f24_7 := f24_7; have q_z_9 := i_len ez_9 f13_7; have q_c_10 := i_lt c_10; have q_f9_7 := f9_7; have q_f22_7 := f22_7; have q_f23_7 := f23_7; have q_f25_7 := f25_7; have q_f26_7 := f26_7; have q_f27_7 := f27_7; have g_c8_7 := i_rg c8_7; have g_x1 := i_rg x1; have g_z_9 := i_rg z_9; omega)) dX10_takesOfMethod_22 ?_
      refine lv_topi (fun z_11 ez_11 => ?_)
      exact J_23 (z_11) _ _ ls  hP hD hS (lv_sub hl [] rfl)
    · exact J_13  _ _ ls  hP hD hS (lv_sub hl [] rfl)
set_option maxHeartbeats 1000000 in
set_option maxRecDepth 100000 in
theorem m_X10_givesOfMethod (l : Launch) (g : Gm) (sz : Nat) (ws : va_W) (h0 : Nat) (x1 : Int32) (hG : Good g ws) (o_h0 : gC ws h0 9) : Met l yX10_givesOfMethod (wt yX10_givesOfMethod cX10_givesOfMethod 2 (some .int)) ({ frames := 0, cells := 0, slots := 0, locals := 0 }) (va_Pc [.ref h0, .int x1] (st_G g sz ws)) (va_Qi (fun (r : Int32) (u9 : Unit) => True) (gQ0 g (va_A ws sz) ws) (va_A ws sz)) (0) (0) (va_A ws sz) := by
  refine Met.ofW (cc := cX10_givesOfMethod) (maxL := 2) (ret := (some .int)) (by decide) rfl ?_
  intro p e s m args below meth c s₁ B hml hv
  obtain ⟨rfl, hsz, hP, hK, hD0, hex, hE⟩ := hv
  have hx := B.exec
  have hb := B.bytes
  have hr := B.returns
  have hts0 := atoms_spec (ws := wt yX10_givesOfMethod cX10_givesOfMethod 2 (some .int)) B.pre
  have hts : ∀ w ∈ tb, w.before _ s = true := fun w h => hts0 w (List.mem_cons_of_mem _ h)
  have hown : s.vm.findClass RX10 = some m.cls := findClass_of_methodNamed B.named
  subst hsz
  have hD := hD0.self (sz := s.heap.size)
  generalize hAe : va_A ws s.heap.size = A at hD hE ⊢
  have hA : ∀ q : Nat, s.heap.size ≤ q → A q := fun q h => by rw [← hAe]; exact Or.inr h
  have hS : va_S A s.heap s.heap [] := va_S.rf
  have hl := lv_entry ([.ref h0, .int x1]) (n := 2) (Nat.le_of_ble_eq_true rfl)
  rw [lg_entry_eq]
  generalize (lg_sl ([.ref h0, .int x1]) ++ List.replicate (2 - (lg_sl ([.ref h0, .int x1])).length) Slot.unset).toArray = ls at hl ⊢
  have hl : lv_has ls 2 [(0, .ref h0), (1, .int x1)] := hl
  refine lv_iload_n hx hb dX10_givesOfMethod_0 rfl (lv_at hl 1 rfl) ?_
  have J_23 : ∀ (t_1 : Int32) (H : Heap) (locs : List Loc) (ls : Array Slot), va_P (gD g) cl0 ws H → va_D A ws → va_S A s.heap H locs → lv_has ls 2 [] → W p l e (headSpec (wt yX10_givesOfMethod cX10_givesOfMethod 2 (some .int)) ({ frames := 0, cells := 0, slots := 0, locals := 0 })).room s m ([.ref h0, .int x1] : List Value).toArray below meth c H locs (0) (0) (MQ below (va_Qi (fun (r : Int32) (u9 : Unit) => True) (gQ0 g A ws) A) ([.ref h0, .int x1] : List Value).toArray s (0) (0) A) (F0 m 23 ls [.int t_1]) := by
    intro t_1 H locs ls  hP hD hS hl
    refine W.widen (k := 0) (n := 0) (Nat.le_of_ble_eq_true rfl) (Nat.le_of_ble_eq_true rfl) ?_
    exact W.iret (v := t_1) hx hb hr (fun t9 ht9 hW9 => ⟨⟨_, (), rfl, trivial, ⟨by rw [ht9]; exact hP, hD⟩⟩, hS.F ht9⟩) hS.2.2 dX10_givesOfMethod_23
  have J_13 : ∀  (H : Heap) (locs : List Loc) (ls : Array Slot), va_P (gD g) cl0 ws H → va_D A ws → va_S A s.heap H locs → lv_has ls 2 [] → W p l e (headSpec (wt yX10_givesOfMethod cX10_givesOfMethod 2 (some .int)) ({ frames := 0, cells := 0, slots := 0, locals := 0 })).room s m ([.ref h0, .int x1] : List Value).toArray below meth c H locs (0) (0) (MQ below (va_Qi (fun (r : Int32) (u9 : Unit) => True) (gQ0 g A ws) A) ([.ref h0, .int x1] : List Value).toArray s (0) (0) A) (F0 m 13 ls []) := by
    intro  H locs ls  hP hD hS hl
    refine lv_iconst (v := 0) hx hb dX10_givesOfMethod_13 (by decide) ?_
    refine lv_goto (tgt := 23) hx hb dX10_givesOfMethod_14 (by decide) ?_
    exact J_23 (0) H locs ls  hP hD hS (lv_sub hl [] rfl)
  refine lv_if_lt (tgt := 13) hx hb dX10_givesOfMethod_1 (by decide) (fun c_6 => ?_) (fun c_6 => ?_)
  · exact J_13  _ _ ls  hP hD hS (lv_sub hl [] rfl)
  · refine lv_iload_n hx hb dX10_givesOfMethod_4 rfl (lv_at hl 1 rfl) ?_
    refine lv_aload_n hx hb dX10_givesOfMethod_5 rfl (lv_at hl 0 rfl) ?_
    obtain ⟨k_7, fs9, hk_7⟩ := gC_of o_h0
    obtain ⟨r0_7, n0_7, c1_7, c2_7, c3_7, c4_7, r5_7, n5_7, r6_7, n6_7, r7_7, n7_7, c8_7, r9_7, n9_7, r10_7, n10_7, r11_7, n11_7, r12_7, n12_7, r13_7, n13_7, c14_7, c15_7, c16_7, c17_7, rfl, a_r0_7, f1_7, a_r5_7, f3_7, a_r6_7, f5_7, a_r7_7, f7_7, a_r9_7, f9_7, a_r10_7, f11_7, a_r11_7, f13_7, a_r12_7, f15_7, a_r13_7, f17_7, hz_c15_7, f19_7, f20_7, f21_7, f22_7, f23_7, f24_7, f25_7, f26_7, f27_7, f28_7, -⟩ := (hG.1 _ _ _ _ hk_7).hX10 rfl
    refine va_get (D := gD g) (ci := 9) (v := .ref r12_7) (C := RX10) (T := TX10) (N := 18) hx hb hts inX10 hown hK hP k_7 hk_7 rfl 12 (by decide) (hts _ kw_43) (fun _ h9 => h9) rfl dX10_givesOfMethod_6 ?_
    obtain ⟨k_8, f_8, hk_8⟩ := gI_of a_r12_7
    obtain ⟨z_9, ez_9⟩ : ∃ z : Int32, Int32.ofNat n12_7 = z := ⟨_, rfl⟩
    refine va_alen (v := z_9) hx hb hK hP k_8 1 hk_8 rfl ez_9 dX10_givesOfMethod_9 ?_
    refine lv_icmp_lt (tgt := 17) hx hb dX10_givesOfMethod_10 (by decide) (fun c_10 => ?_) (fun c_10 => ?_)
    · refine lv_aload_n hx hb dX10_givesOfMethod_17 rfl (lv_at hl 0 rfl) ?_
      refine va_get (D := gD g) (ci := 9) (v := .ref r12_7) (C := RX10) (T := TX10) (N := 18) hx hb hts inX10 hown hK hP k_7 hk_7 rfl 12 (by decide) (hts _ kw_43) (fun _ h9 => h9) rfl dX10_givesOfMethod_18 ?_
      refine lv_iload_n hx hb dX10_givesOfMethod_21 rfl (lv_at hl 1 rfl) ?_
      refine va_iald hx hb hK hP k_8 1 hk_8 rfl (i_in2 (by have e0 : (0 : Int32).toInt = 0 := (by decide); have q_c_6 := i_nlt c_6; have q_f15_7 := f15_7; have q_f25_7 := f25_7; have q_z_9 := i_len ez_9 f15_7; have q_c_10 := i_lt c_10; have q_f9_7 := f9_7; have q_f22_7 := f22_7; have q_f23_7 := f23_7; have q_f24_7 := f24_7; have q_f26_7 := f26_7; have q_f27_7 := f27_7; have g_c8_7 := i_rg c8_7; have g_x1 := i_rg x1; have g_z_9 := i_rg z_9; omega)) dX10_givesOfMethod_22 ?_
      refine lv_topi (fun z_11 ez_11 => ?_)
      exact J_23 (z_11) _ _ ls  hP hD hS (lv_sub hl [] rfl)
    · exact J_13  _ _ ls  hP hD hS (lv_sub hl [] rfl)
set_option maxHeartbeats 1000000 in
set_option maxRecDepth 100000 in
theorem m_X10_takes (l : Launch) (g : Gm) (sz : Nat) (ws : va_W) (h0 : Nat) (b1 : Nat) (x2 : Int32) (hG : Good g ws) (o_h0 : gC ws h0 9) (o_b1 : gC ws b1 7) : Met l yX10_takes (wt yX10_takes cX10_takes 4 (some .int)) ({ frames := 1, cells := 0, slots := 0, locals := 21 }) (va_Pc [.ref h0, .ref b1, .int x2] (st_G g sz ws)) (va_Qi (fun (r : Int32) (u9 : Unit) => True) (gQ0 g (va_A ws sz) ws) (va_A ws sz)) (0) (0) (va_A ws sz) := by
  refine Met.ofW (cc := cX10_takes) (maxL := 4) (ret := (some .int)) (by decide) rfl ?_
  intro p e s m args below meth c s₁ B hml hv
  obtain ⟨rfl, hsz, hP, hK, hD0, hex, hE⟩ := hv
  have hx := B.exec
  have hb := B.bytes
  have hr := B.returns
  have hts0 := atoms_spec (ws := wt yX10_takes cX10_takes 4 (some .int)) B.pre
  have hts : ∀ w ∈ tb, w.before _ s = true := fun w h => hts0 w (List.mem_cons_of_mem _ h)
  have hown : s.vm.findClass RX10 = some m.cls := findClass_of_methodNamed B.named
  subst hsz
  have hD := hD0.self (sz := s.heap.size)
  generalize hAe : va_A ws s.heap.size = A at hD hE ⊢
  have hA : ∀ q : Nat, s.heap.size ≤ q → A q := fun q h => by rw [← hAe]; exact Or.inr h
  have hS : va_S A s.heap s.heap [] := va_S.rf
  have hl := lv_entry ([.ref h0, .ref b1, .int x2]) (n := 4) (Nat.le_of_ble_eq_true rfl)
  rw [lg_entry_eq]
  generalize (lg_sl ([.ref h0, .ref b1, .int x2]) ++ List.replicate (4 - (lg_sl ([.ref h0, .ref b1, .int x2])).length) Slot.unset).toArray = ls at hl ⊢
  have hl : lv_has ls 4 [(0, .ref h0), (1, .ref b1), (2, .int x2)] := hl
  refine lv_aload_n hx hb dX10_takes_0 rfl (lv_at hl 1 rfl) ?_
  refine lv_iload_n hx hb dX10_takes_1 rfl (lv_at hl 2 rfl) ?_
  have hFc := gfree hD hS hA
  obtain ⟨k_1, fs_1, hk_1⟩ := gC_of o_b1
  refine va_calli (va_runV (As := [.int x2]) (rest := []) ⟨hx, hb, hml, hown, hts⟩ (m_X8_opAt l g s.heap.size ws b1 (x2) hG o_b1) (cwV 1 hts (gd_V kw_35 kw_1513 kw_1514 kw_782 kw_1512) rfl rfl rfl (by decide +kernel) ⟨Nat.le_of_ble_eq_true rfl, Nat.le_of_ble_eq_true rfl⟩) ⟨gblind, va_recv hK hP (ci := 7) (q0 := k_1) rfl hk_1, fun U hU hW9 => gmk hU hW9 hP hK hD hex hE hS hFc⟩ rfl rfl hl.1 rfl (lv_room (Nat.le_of_ble_eq_true rfl)) dX10_takes_2 ⟨Nat.le_of_ble_eq_true rfl, Nat.le_of_ble_eq_true rfl⟩) hS (fun q _ h => hFc q h) hFc (fun r_2 u9 t9 H1 locs ht9 hvm9 hw9 hB9 hz9 hk9 hS => ?_)
  have hP : va_P (gD g) cl0 ws H1 := by rw [← ht9]; exact hB9.1
  clear hB9 hz9 hk9 hvm9 ht9 hw9
  generalize H1 = H at hP hS ⊢
  refine lv_istore_n (lv' := [(3, .int r_2), (0, .ref h0), (1, .ref b1), (2, .int x2)]) hx hb dX10_takes_5 rfl hl (by decide) rfl (fun ls hl => ?_)
  refine lv_iload_n hx hb dX10_takes_6 rfl (lv_at hl 0 rfl) ?_
  refine lv_sipush (v := 179) hx hb dX10_takes_7 (by decide) ?_
  refine lv_icmp_ne (tgt := 24) hx hb dX10_takes_10 (by decide) (fun c_3 => ?_) (fun c_3 => ?_)
  · refine lv_iload_n hx hb dX10_takes_24 rfl (lv_at hl 0 rfl) ?_
    refine lv_sipush (v := 184) hx hb dX10_takes_25 (by decide) ?_
    have J_48 : ∀ (t_4 : Int32) (H : Heap) (locs : List Loc) (ls : Array Slot), va_P (gD g) cl0 ws H → va_D A ws → va_S A s.heap H locs → lv_has ls 4 [] → W p l e (headSpec (wt yX10_takes cX10_takes 4 (some .int)) ({ frames := 1, cells := 0, slots := 0, locals := 21 })).room s m ([.ref h0, .ref b1, .int x2] : List Value).toArray below meth c H locs (0) (0) (MQ below (va_Qi (fun (r : Int32) (u9 : Unit) => True) (gQ0 g A ws) A) ([.ref h0, .ref b1, .int x2] : List Value).toArray s (0) (0) A) (F0 m 48 ls [.int t_4]) := by
      intro t_4 H locs ls  hP hD hS hl
      refine W.widen (k := 0) (n := 0) (Nat.le_of_ble_eq_true rfl) (Nat.le_of_ble_eq_true rfl) ?_
      exact W.iret (v := t_4) hx hb hr (fun t9 ht9 hW9 => ⟨⟨_, (), rfl, trivial, ⟨by rw [ht9]; exact hP, hD⟩⟩, hS.F ht9⟩) hS.2.2 dX10_takes_48
    refine lv_icmp_ne (tgt := 44) hx hb dX10_takes_28 (by decide) (fun c_7 => ?_) (fun c_7 => ?_)
    · refine lv_iload_n hx hb dX10_takes_44 rfl (lv_at hl 0 rfl) ?_
      have hFc := gfree hD hS hA
      refine va_calli (va_runS (As := [.int r_2]) (rest := []) ⟨hx, hb, hml, hown, hts⟩ (m_X6_takes l g H.size ws (r_2) hG ) (va_cwS 1 hts (gd_S kw_76 kw_1255 kw_1207 kw_1254) rfl rfl rfl (by decide +kernel) ⟨Nat.le_of_ble_eq_true rfl, Nat.le_of_ble_eq_true rfl⟩) ⟨gblind, fun U hU hW9 => gmk hU hW9 hP hK hD hex hE hS hFc⟩ rfl rfl hl.1 rfl (lv_room (Nat.le_of_ble_eq_true rfl)) dX10_takes_45 ⟨Nat.le_of_ble_eq_true rfl, Nat.le_of_ble_eq_true rfl⟩) hS (fun q _ h => hFc q h) hFc (fun r_8 u9 t9 H1 locs ht9 hvm9 hw9 hB9 hz9 hk9 hS => ?_)
      have hP : va_P (gD g) cl0 ws H1 := by rw [← ht9]; exact hB9.1
      clear hB9 hz9 hk9 hvm9 ht9 hw9
      generalize H1 = H at hP hS ⊢
      exact J_48 (r_8) H locs ls  hP hD hS (lv_sub hl [] rfl)
    · refine lv_aload_n hx hb dX10_takes_31 rfl (lv_at hl 1 rfl) ?_
      refine lv_aload_n hx hb dX10_takes_32 rfl (lv_at hl 2 rfl) ?_
      refine lv_iload_n hx hb dX10_takes_33 rfl (lv_at hl 3 rfl) ?_
      have hFc := gfree hD hS hA
      obtain ⟨k_9, fs_9, hk_9⟩ := gC_of o_b1
      refine va_calll (va_runV (As := [.int x2]) (rest := [.ref h0]) ⟨hx, hb, hml, hown, hts⟩ (m_X8_argAt l g H.size ws b1 (x2) hG o_b1) (cwV 1 hts (gd_V kw_36 kw_1476 kw_1477 kw_782 kw_1475) rfl rfl rfl (by decide +kernel) ⟨Nat.le_of_ble_eq_true rfl, Nat.le_of_ble_eq_true rfl⟩) ⟨gblind, va_recv hK hP (ci := 7) (q0 := k_9) rfl hk_9, fun U hU hW9 => gmk hU hW9 hP hK hD hex hE hS hFc⟩ rfl rfl hl.1 rfl (lv_room (Nat.le_of_ble_eq_true rfl)) dX10_takes_34 ⟨Nat.le_of_ble_eq_true rfl, Nat.le_of_ble_eq_true rfl⟩) hS (fun q _ h => hFc q h) hFc (fun r_10 u9 t9 H1 locs ht9 hvm9 hw9 hB9 hz9 hk9 hS => ?_)
      have hP : va_P (gD g) cl0 ws H1 := by rw [← ht9]; exact hB9.1
      clear hB9 hz9 hk9 hvm9 ht9 hw9
      generalize H1 = H at hP hS ⊢
      obtain ⟨z_11, ez_11⟩ : ∃ y : Int32, (r_10 : Int64).toInt32 = y := ⟨_, rfl⟩
      refine lv_l2i (v := z_11) hx hb dX10_takes_37 ez_11 ?_
      have hFc := gfree hD hS hA
      obtain ⟨k_12, fs_12, hk_12⟩ := gC_of o_h0
      refine va_calli (va_runV (As := [.int z_11]) (rest := []) ⟨hx, hb, hml, hown, hts⟩ (m_X10_takesOfMethod l g H.size ws h0 (z_11) hG o_h0) (cwV 1 hts (gd_V kw_75 kw_78 kw_79 kw_34 kw_77) rfl rfl rfl (by decide +kernel) ⟨Nat.le_of_ble_eq_true rfl, Nat.le_of_ble_eq_true rfl⟩) ⟨gblind, va_recv hK hP (ci := 9) (q0 := k_12) rfl hk_12, fun U hU hW9 => gmk hU hW9 hP hK hD hex hE hS hFc⟩ rfl rfl hl.1 rfl (lv_room (Nat.le_of_ble_eq_true rfl)) dX10_takes_38 ⟨Nat.le_of_ble_eq_true rfl, Nat.le_of_ble_eq_true rfl⟩) hS (fun q _ h => hFc q h) hFc (fun r_13 u9 t9 H1 locs ht9 hvm9 hw9 hB9 hz9 hk9 hS => ?_)
      have hP : va_P (gD g) cl0 ws H1 := by rw [← ht9]; exact hB9.1
      clear hB9 hz9 hk9 hvm9 ht9 hw9
      generalize H1 = H at hP hS ⊢
      refine lv_goto (tgt := 48) hx hb dX10_takes_41 (by decide) ?_
      exact J_48 (r_13) H locs ls  hP hD hS (lv_sub hl [] rfl)
  · refine lv_aload_n hx hb dX10_takes_13 rfl (lv_at hl 1 rfl) ?_
    refine lv_aload_n hx hb dX10_takes_14 rfl (lv_at hl 2 rfl) ?_
    refine lv_iload_n hx hb dX10_takes_15 rfl (lv_at hl 3 rfl) ?_
    have hFc := gfree hD hS hA
    obtain ⟨k_14, fs_14, hk_14⟩ := gC_of o_b1
    refine va_calll (va_runV (As := [.int x2]) (rest := [.ref h0]) ⟨hx, hb, hml, hown, hts⟩ (m_X8_argAt l g H.size ws b1 (x2) hG o_b1) (cwV 1 hts (gd_V kw_36 kw_1476 kw_1477 kw_782 kw_1475) rfl rfl rfl (by decide +kernel) ⟨Nat.le_of_ble_eq_true rfl, Nat.le_of_ble_eq_true rfl⟩) ⟨gblind, va_recv hK hP (ci := 7) (q0 := k_14) rfl hk_14, fun U hU hW9 => gmk hU hW9 hP hK hD hex hE hS hFc⟩ rfl rfl hl.1 rfl (lv_room (Nat.le_of_ble_eq_true rfl)) dX10_takes_16 ⟨Nat.le_of_ble_eq_true rfl, Nat.le_of_ble_eq_true rfl⟩) hS (fun q _ h => hFc q h) hFc (fun r_15 u9 t9 H1 locs ht9 hvm9 hw9 hB9 hz9 hk9 hS => ?_)
    have hP : va_P (gD g) cl0 ws H1 := by rw [← ht9]; exact hB9.1
    clear hB9 hz9 hk9 hvm9 ht9 hw9
    generalize H1 = H at hP hS ⊢
    obtain ⟨z_16, ez_16⟩ : ∃ y : Int32, (r_15 : Int64).toInt32 = y := ⟨_, rfl⟩
    refine lv_l2i (v := z_16) hx hb dX10_takes_19 ez_16 ?_
    have hFc := gfree hD hS hA
    obtain ⟨k_17, fs_17, hk_17⟩ := gC_of o_h0
    refine va_calli (va_runV (As := [.int z_16]) (rest := []) ⟨hx, hb, hml, hown, hts⟩ (m_X10_kindOfField l g H.size ws h0 (z_16) hG o_h0) (cwV 1 hts (gd_V kw_37 kw_62 kw_63 kw_34 kw_61) rfl rfl rfl (by decide +kernel) ⟨Nat.le_of_ble_eq_true rfl, Nat.le_of_ble_eq_true rfl⟩) ⟨gblind, va_recv hK hP (ci := 9) (q0 := k_17) rfl hk_17, fun U hU hW9 => gmk hU hW9 hP hK hD hex hE hS hFc⟩ rfl rfl hl.1 rfl (lv_room (Nat.le_of_ble_eq_true rfl)) dX10_takes_20 ⟨Nat.le_of_ble_eq_true rfl, Nat.le_of_ble_eq_true rfl⟩) hS (fun q _ h => hFc q h) hFc (fun r_18 u9 t9 H1 locs ht9 hvm9 hw9 hB9 hz9 hk9 hS => ?_)
    have hP : va_P (gD g) cl0 ws H1 := by rw [← ht9]; exact hB9.1
    clear hB9 hz9 hk9 hvm9 ht9 hw9
    generalize H1 = H at hP hS ⊢
    refine W.widen (k := 0) (n := 0) (Nat.le_of_ble_eq_true rfl) (Nat.le_of_ble_eq_true rfl) ?_
    exact W.iret (v := r_18) hx hb hr (fun t9 ht9 hW9 => ⟨⟨_, (), rfl, trivial, ⟨by rw [ht9]; exact hP, hD⟩⟩, hS.F ht9⟩) hS.2.2 dX10_takes_23
set_option maxHeartbeats 1000000 in
set_option maxRecDepth 100000 in
theorem m_X10_gives (l : Launch) (g : Gm) (sz : Nat) (ws : va_W) (h0 : Nat) (b1 : Nat) (x2 : Int32) (hG : Good g ws) (o_h0 : gC ws h0 9) (o_b1 : gC ws b1 7) : Met l yX10_gives (wt yX10_gives cX10_gives 4 (some .int)) ({ frames := 1, cells := 0, slots := 0, locals := 21 }) (va_Pc [.ref h0, .ref b1, .int x2] (st_G g sz ws)) (va_Qi (fun (r : Int32) (u9 : Unit) => True) (gQ0 g (va_A ws sz) ws) (va_A ws sz)) (0) (0) (va_A ws sz) := by
  refine Met.ofW (cc := cX10_gives) (maxL := 4) (ret := (some .int)) (by decide) rfl ?_
  intro p e s m args below meth c s₁ B hml hv
  obtain ⟨rfl, hsz, hP, hK, hD0, hex, hE⟩ := hv
  have hx := B.exec
  have hb := B.bytes
  have hr := B.returns
  have hts0 := atoms_spec (ws := wt yX10_gives cX10_gives 4 (some .int)) B.pre
  have hts : ∀ w ∈ tb, w.before _ s = true := fun w h => hts0 w (List.mem_cons_of_mem _ h)
  have hown : s.vm.findClass RX10 = some m.cls := findClass_of_methodNamed B.named
  subst hsz
  have hD := hD0.self (sz := s.heap.size)
  generalize hAe : va_A ws s.heap.size = A at hD hE ⊢
  have hA : ∀ q : Nat, s.heap.size ≤ q → A q := fun q h => by rw [← hAe]; exact Or.inr h
  have hS : va_S A s.heap s.heap [] := va_S.rf
  have hl := lv_entry ([.ref h0, .ref b1, .int x2]) (n := 4) (Nat.le_of_ble_eq_true rfl)
  rw [lg_entry_eq]
  generalize (lg_sl ([.ref h0, .ref b1, .int x2]) ++ List.replicate (4 - (lg_sl ([.ref h0, .ref b1, .int x2])).length) Slot.unset).toArray = ls at hl ⊢
  have hl : lv_has ls 4 [(0, .ref h0), (1, .ref b1), (2, .int x2)] := hl
  refine lv_aload_n hx hb dX10_gives_0 rfl (lv_at hl 1 rfl) ?_
  refine lv_iload_n hx hb dX10_gives_1 rfl (lv_at hl 2 rfl) ?_
  have hFc := gfree hD hS hA
  obtain ⟨k_1, fs_1, hk_1⟩ := gC_of o_b1
  refine va_calli (va_runV (As := [.int x2]) (rest := []) ⟨hx, hb, hml, hown, hts⟩ (m_X8_opAt l g s.heap.size ws b1 (x2) hG o_b1) (cwV 1 hts (gd_V kw_35 kw_1513 kw_1514 kw_782 kw_1512) rfl rfl rfl (by decide +kernel) ⟨Nat.le_of_ble_eq_true rfl, Nat.le_of_ble_eq_true rfl⟩) ⟨gblind, va_recv hK hP (ci := 7) (q0 := k_1) rfl hk_1, fun U hU hW9 => gmk hU hW9 hP hK hD hex hE hS hFc⟩ rfl rfl hl.1 rfl (lv_room (Nat.le_of_ble_eq_true rfl)) dX10_gives_2 ⟨Nat.le_of_ble_eq_true rfl, Nat.le_of_ble_eq_true rfl⟩) hS (fun q _ h => hFc q h) hFc (fun r_2 u9 t9 H1 locs ht9 hvm9 hw9 hB9 hz9 hk9 hS => ?_)
  have hP : va_P (gD g) cl0 ws H1 := by rw [← ht9]; exact hB9.1
  clear hB9 hz9 hk9 hvm9 ht9 hw9
  generalize H1 = H at hP hS ⊢
  refine lv_istore_n (lv' := [(3, .int r_2), (0, .ref h0), (1, .ref b1), (2, .int x2)]) hx hb dX10_gives_5 rfl hl (by decide) rfl (fun ls hl => ?_)
  refine lv_iload_n hx hb dX10_gives_6 rfl (lv_at hl 0 rfl) ?_
  refine lv_sipush (v := 178) hx hb dX10_gives_7 (by decide) ?_
  refine lv_icmp_ne (tgt := 24) hx hb dX10_gives_10 (by decide) (fun c_3 => ?_) (fun c_3 => ?_)
  · refine lv_iload_n hx hb dX10_gives_24 rfl (lv_at hl 0 rfl) ?_
    refine lv_sipush (v := 184) hx hb dX10_gives_25 (by decide) ?_
    have J_48 : ∀ (t_4 : Int32) (H : Heap) (locs : List Loc) (ls : Array Slot), va_P (gD g) cl0 ws H → va_D A ws → va_S A s.heap H locs → lv_has ls 4 [] → W p l e (headSpec (wt yX10_gives cX10_gives 4 (some .int)) ({ frames := 1, cells := 0, slots := 0, locals := 21 })).room s m ([.ref h0, .ref b1, .int x2] : List Value).toArray below meth c H locs (0) (0) (MQ below (va_Qi (fun (r : Int32) (u9 : Unit) => True) (gQ0 g A ws) A) ([.ref h0, .ref b1, .int x2] : List Value).toArray s (0) (0) A) (F0 m 48 ls [.int t_4]) := by
      intro t_4 H locs ls  hP hD hS hl
      refine W.widen (k := 0) (n := 0) (Nat.le_of_ble_eq_true rfl) (Nat.le_of_ble_eq_true rfl) ?_
      exact W.iret (v := t_4) hx hb hr (fun t9 ht9 hW9 => ⟨⟨_, (), rfl, trivial, ⟨by rw [ht9]; exact hP, hD⟩⟩, hS.F ht9⟩) hS.2.2 dX10_gives_48
    refine lv_icmp_ne (tgt := 44) hx hb dX10_gives_28 (by decide) (fun c_7 => ?_) (fun c_7 => ?_)
    · refine lv_iload_n hx hb dX10_gives_44 rfl (lv_at hl 0 rfl) ?_
      have hFc := gfree hD hS hA
      refine va_calli (va_runS (As := [.int r_2]) (rest := []) ⟨hx, hb, hml, hown, hts⟩ (m_X6_gives l g H.size ws (r_2) hG ) (va_cwS 1 hts (gd_S kw_39 kw_1216 kw_1207 kw_1215) rfl rfl rfl (by decide +kernel) ⟨Nat.le_of_ble_eq_true rfl, Nat.le_of_ble_eq_true rfl⟩) ⟨gblind, fun U hU hW9 => gmk hU hW9 hP hK hD hex hE hS hFc⟩ rfl rfl hl.1 rfl (lv_room (Nat.le_of_ble_eq_true rfl)) dX10_gives_45 ⟨Nat.le_of_ble_eq_true rfl, Nat.le_of_ble_eq_true rfl⟩) hS (fun q _ h => hFc q h) hFc (fun r_8 u9 t9 H1 locs ht9 hvm9 hw9 hB9 hz9 hk9 hS => ?_)
      have hP : va_P (gD g) cl0 ws H1 := by rw [← ht9]; exact hB9.1
      clear hB9 hz9 hk9 hvm9 ht9 hw9
      generalize H1 = H at hP hS ⊢
      exact J_48 (r_8) H locs ls  hP hD hS (lv_sub hl [] rfl)
    · refine lv_aload_n hx hb dX10_gives_31 rfl (lv_at hl 1 rfl) ?_
      refine lv_aload_n hx hb dX10_gives_32 rfl (lv_at hl 2 rfl) ?_
      refine lv_iload_n hx hb dX10_gives_33 rfl (lv_at hl 3 rfl) ?_
      have hFc := gfree hD hS hA
      obtain ⟨k_9, fs_9, hk_9⟩ := gC_of o_b1
      refine va_calll (va_runV (As := [.int x2]) (rest := [.ref h0]) ⟨hx, hb, hml, hown, hts⟩ (m_X8_argAt l g H.size ws b1 (x2) hG o_b1) (cwV 1 hts (gd_V kw_36 kw_1476 kw_1477 kw_782 kw_1475) rfl rfl rfl (by decide +kernel) ⟨Nat.le_of_ble_eq_true rfl, Nat.le_of_ble_eq_true rfl⟩) ⟨gblind, va_recv hK hP (ci := 7) (q0 := k_9) rfl hk_9, fun U hU hW9 => gmk hU hW9 hP hK hD hex hE hS hFc⟩ rfl rfl hl.1 rfl (lv_room (Nat.le_of_ble_eq_true rfl)) dX10_gives_34 ⟨Nat.le_of_ble_eq_true rfl, Nat.le_of_ble_eq_true rfl⟩) hS (fun q _ h => hFc q h) hFc (fun r_10 u9 t9 H1 locs ht9 hvm9 hw9 hB9 hz9 hk9 hS => ?_)
      have hP : va_P (gD g) cl0 ws H1 := by rw [← ht9]; exact hB9.1
      clear hB9 hz9 hk9 hvm9 ht9 hw9
      generalize H1 = H at hP hS ⊢
      obtain ⟨z_11, ez_11⟩ : ∃ y : Int32, (r_10 : Int64).toInt32 = y := ⟨_, rfl⟩
      refine lv_l2i (v := z_11) hx hb dX10_gives_37 ez_11 ?_
      have hFc := gfree hD hS hA
      obtain ⟨k_12, fs_12, hk_12⟩ := gC_of o_h0
      refine va_calli (va_runV (As := [.int z_11]) (rest := []) ⟨hx, hb, hml, hown, hts⟩ (m_X10_givesOfMethod l g H.size ws h0 (z_11) hG o_h0) (cwV 1 hts (gd_V kw_38 kw_41 kw_42 kw_34 kw_40) rfl rfl rfl (by decide +kernel) ⟨Nat.le_of_ble_eq_true rfl, Nat.le_of_ble_eq_true rfl⟩) ⟨gblind, va_recv hK hP (ci := 9) (q0 := k_12) rfl hk_12, fun U hU hW9 => gmk hU hW9 hP hK hD hex hE hS hFc⟩ rfl rfl hl.1 rfl (lv_room (Nat.le_of_ble_eq_true rfl)) dX10_gives_38 ⟨Nat.le_of_ble_eq_true rfl, Nat.le_of_ble_eq_true rfl⟩) hS (fun q _ h => hFc q h) hFc (fun r_13 u9 t9 H1 locs ht9 hvm9 hw9 hB9 hz9 hk9 hS => ?_)
      have hP : va_P (gD g) cl0 ws H1 := by rw [← ht9]; exact hB9.1
      clear hB9 hz9 hk9 hvm9 ht9 hw9
      generalize H1 = H at hP hS ⊢
      refine lv_goto (tgt := 48) hx hb dX10_gives_41 (by decide) ?_
      exact J_48 (r_13) H locs ls  hP hD hS (lv_sub hl [] rfl)
  · refine lv_aload_n hx hb dX10_gives_13 rfl (lv_at hl 1 rfl) ?_
    refine lv_aload_n hx hb dX10_gives_14 rfl (lv_at hl 2 rfl) ?_
    refine lv_iload_n hx hb dX10_gives_15 rfl (lv_at hl 3 rfl) ?_
    have hFc := gfree hD hS hA
    obtain ⟨k_14, fs_14, hk_14⟩ := gC_of o_b1
    refine va_calll (va_runV (As := [.int x2]) (rest := [.ref h0]) ⟨hx, hb, hml, hown, hts⟩ (m_X8_argAt l g H.size ws b1 (x2) hG o_b1) (cwV 1 hts (gd_V kw_36 kw_1476 kw_1477 kw_782 kw_1475) rfl rfl rfl (by decide +kernel) ⟨Nat.le_of_ble_eq_true rfl, Nat.le_of_ble_eq_true rfl⟩) ⟨gblind, va_recv hK hP (ci := 7) (q0 := k_14) rfl hk_14, fun U hU hW9 => gmk hU hW9 hP hK hD hex hE hS hFc⟩ rfl rfl hl.1 rfl (lv_room (Nat.le_of_ble_eq_true rfl)) dX10_gives_16 ⟨Nat.le_of_ble_eq_true rfl, Nat.le_of_ble_eq_true rfl⟩) hS (fun q _ h => hFc q h) hFc (fun r_15 u9 t9 H1 locs ht9 hvm9 hw9 hB9 hz9 hk9 hS => ?_)
    have hP : va_P (gD g) cl0 ws H1 := by rw [← ht9]; exact hB9.1
    clear hB9 hz9 hk9 hvm9 ht9 hw9
    generalize H1 = H at hP hS ⊢
    obtain ⟨z_16, ez_16⟩ : ∃ y : Int32, (r_15 : Int64).toInt32 = y := ⟨_, rfl⟩
    refine lv_l2i (v := z_16) hx hb dX10_gives_19 ez_16 ?_
    have hFc := gfree hD hS hA
    obtain ⟨k_17, fs_17, hk_17⟩ := gC_of o_h0
    refine va_calli (va_runV (As := [.int z_16]) (rest := []) ⟨hx, hb, hml, hown, hts⟩ (m_X10_kindOfField l g H.size ws h0 (z_16) hG o_h0) (cwV 1 hts (gd_V kw_37 kw_62 kw_63 kw_34 kw_61) rfl rfl rfl (by decide +kernel) ⟨Nat.le_of_ble_eq_true rfl, Nat.le_of_ble_eq_true rfl⟩) ⟨gblind, va_recv hK hP (ci := 9) (q0 := k_17) rfl hk_17, fun U hU hW9 => gmk hU hW9 hP hK hD hex hE hS hFc⟩ rfl rfl hl.1 rfl (lv_room (Nat.le_of_ble_eq_true rfl)) dX10_gives_20 ⟨Nat.le_of_ble_eq_true rfl, Nat.le_of_ble_eq_true rfl⟩) hS (fun q _ h => hFc q h) hFc (fun r_18 u9 t9 H1 locs ht9 hvm9 hw9 hB9 hz9 hk9 hS => ?_)
    have hP : va_P (gD g) cl0 ws H1 := by rw [← ht9]; exact hB9.1
    clear hB9 hz9 hk9 hvm9 ht9 hw9
    generalize H1 = H at hP hS ⊢
    refine W.widen (k := 0) (n := 0) (Nat.le_of_ble_eq_true rfl) (Nat.le_of_ble_eq_true rfl) ?_
    exact W.iret (v := r_18) hx hb hr (fun t9 ht9 hW9 => ⟨⟨_, (), rfl, trivial, ⟨by rw [ht9]; exact hP, hD⟩⟩, hS.F ht9⟩) hS.2.2 dX10_gives_23
set_option maxHeartbeats 1000000 in
set_option maxRecDepth 100000 in
theorem m_X10_placesGiven (l : Launch) (g : Gm) (sz : Nat) (ws : va_W) (h0 : Nat) (b1 : Nat) (x2 : Int32) (hG : Good g ws) (o_h0 : gC ws h0 9) (o_b1 : gC ws b1 7) : Met l yX10_placesGiven (wt yX10_placesGiven cX10_placesGiven 3 (some .int)) ({ frames := 2, cells := 0, slots := 0, locals := 44 }) (va_Pc [.ref h0, .ref b1, .int x2] (st_G g sz ws)) (va_Qi (fun (r : Int32) (u9 : Unit) => True) (gQ0 g (va_A ws sz) ws) (va_A ws sz)) (0) (0) (va_A ws sz) := by
  refine Met.ofW (cc := cX10_placesGiven) (maxL := 3) (ret := (some .int)) (by decide) rfl ?_
  intro p e s m args below meth c s₁ B hml hv
  obtain ⟨rfl, hsz, hP, hK, hD0, hex, hE⟩ := hv
  have hx := B.exec
  have hb := B.bytes
  have hr := B.returns
  have hts0 := atoms_spec (ws := wt yX10_placesGiven cX10_placesGiven 3 (some .int)) B.pre
  have hts : ∀ w ∈ tb, w.before _ s = true := fun w h => hts0 w (List.mem_cons_of_mem _ h)
  have hown : s.vm.findClass RX10 = some m.cls := findClass_of_methodNamed B.named
  subst hsz
  have hD := hD0.self (sz := s.heap.size)
  generalize hAe : va_A ws s.heap.size = A at hD hE ⊢
  have hA : ∀ q : Nat, s.heap.size ≤ q → A q := fun q h => by rw [← hAe]; exact Or.inr h
  have hS : va_S A s.heap s.heap [] := va_S.rf
  have hl := lv_entry ([.ref h0, .ref b1, .int x2]) (n := 3) (Nat.le_of_ble_eq_true rfl)
  rw [lg_entry_eq]
  generalize (lg_sl ([.ref h0, .ref b1, .int x2]) ++ List.replicate (3 - (lg_sl ([.ref h0, .ref b1, .int x2])).length) Slot.unset).toArray = ls at hl ⊢
  have hl : lv_has ls 3 [(0, .ref h0), (1, .ref b1), (2, .int x2)] := hl
  refine lv_aload_n hx hb dX10_placesGiven_0 rfl (lv_at hl 1 rfl) ?_
  refine lv_iload_n hx hb dX10_placesGiven_1 rfl (lv_at hl 2 rfl) ?_
  have hFc := gfree hD hS hA
  obtain ⟨k_1, fs_1, hk_1⟩ := gC_of o_b1
  refine va_calli (va_runV (As := [.int x2]) (rest := []) ⟨hx, hb, hml, hown, hts⟩ (m_X8_opAt l g s.heap.size ws b1 (x2) hG o_b1) (cwV 1 hts (gd_V kw_35 kw_1513 kw_1514 kw_782 kw_1512) rfl rfl rfl (by decide +kernel) ⟨Nat.le_of_ble_eq_true rfl, Nat.le_of_ble_eq_true rfl⟩) ⟨gblind, va_recv hK hP (ci := 7) (q0 := k_1) rfl hk_1, fun U hU hW9 => gmk hU hW9 hP hK hD hex hE hS hFc⟩ rfl rfl hl.1 rfl (lv_room (Nat.le_of_ble_eq_true rfl)) dX10_placesGiven_2 ⟨Nat.le_of_ble_eq_true rfl, Nat.le_of_ble_eq_true rfl⟩) hS (fun q _ h => hFc q h) hFc (fun r_2 u9 t9 H1 locs ht9 hvm9 hw9 hB9 hz9 hk9 hS => ?_)
  have hP : va_P (gD g) cl0 ws H1 := by rw [← ht9]; exact hB9.1
  clear hB9 hz9 hk9 hvm9 ht9 hw9
  generalize H1 = H at hP hS ⊢
  have K_5_54 : W p l e (headSpec (wt yX10_placesGiven cX10_placesGiven 3 (some .int)) ({ frames := 2, cells := 0, slots := 0, locals := 44 })).room s m ([.ref h0, .ref b1, .int x2] : List Value).toArray below meth c H locs (0) (0) (MQ below (va_Qi (fun (r : Int32) (u9 : Unit) => True) (gQ0 g A ws) A) ([.ref h0, .ref b1, .int x2] : List Value).toArray s (0) (0) A) (F0 m 54 ls []) := by
    refine lv_aload_n hx hb dX10_placesGiven_54 rfl (lv_at hl 0 rfl) ?_
    refine lv_aload_n hx hb dX10_placesGiven_55 rfl (lv_at hl 1 rfl) ?_
    refine lv_iload_n hx hb dX10_placesGiven_56 rfl (lv_at hl 2 rfl) ?_
    have hFc := gfree hD hS hA
    obtain ⟨k_3, fs_3, hk_3⟩ := gC_of o_h0
    refine va_calli (va_runV (As := [.ref b1, .int x2]) (rest := []) ⟨hx, hb, hml, hown, hts⟩ (m_X10_gives l g H.size ws h0 b1 (x2) hG o_h0 o_b1) (cwV 2 hts (gd_V kw_67 kw_32 kw_33 kw_34 kw_31) rfl rfl rfl (by decide +kernel) ⟨Nat.le_of_ble_eq_true rfl, Nat.le_of_ble_eq_true rfl⟩) ⟨gblind, va_recv hK hP (ci := 9) (q0 := k_3) rfl hk_3, fun U hU hW9 => gmk hU hW9 hP hK hD hex hE hS hFc⟩ rfl rfl hl.1 rfl (lv_room (Nat.le_of_ble_eq_true rfl)) dX10_placesGiven_57 ⟨Nat.le_of_ble_eq_true rfl, Nat.le_of_ble_eq_true rfl⟩) hS (fun q _ h => hFc q h) hFc (fun r_4 u9 t9 H1 locs ht9 hvm9 hw9 hB9 hz9 hk9 hS => ?_)
    have hP : va_P (gD g) cl0 ws H1 := by rw [← ht9]; exact hB9.1
    clear hB9 hz9 hk9 hvm9 ht9 hw9
    generalize H1 = H at hP hS ⊢
    have hFc := gfree hD hS hA
    refine va_calli (va_runS (As := [.int r_4]) (rest := []) ⟨hx, hb, hml, hown, hts⟩ (m_X6_placesOf l g H.size ws (r_4) hG ) (va_cwS 1 hts (gd_S kw_68 kw_1253 kw_1207 kw_1252) rfl rfl rfl (by decide +kernel) ⟨Nat.le_of_ble_eq_true rfl, Nat.le_of_ble_eq_true rfl⟩) ⟨gblind, fun U hU hW9 => gmk hU hW9 hP hK hD hex hE hS hFc⟩ rfl rfl hl.1 rfl (lv_room (Nat.le_of_ble_eq_true rfl)) dX10_placesGiven_60 ⟨Nat.le_of_ble_eq_true rfl, Nat.le_of_ble_eq_true rfl⟩) hS (fun q _ h => hFc q h) hFc (fun r_5 u9 t9 H1 locs ht9 hvm9 hw9 hB9 hz9 hk9 hS => ?_)
    have hP : va_P (gD g) cl0 ws H1 := by rw [← ht9]; exact hB9.1
    have h_r_5 := hw9
    clear hB9 hz9 hk9 hvm9 ht9 hw9
    generalize H1 = H at hP hS ⊢
    refine W.widen (k := 0) (n := 0) (Nat.le_of_ble_eq_true rfl) (Nat.le_of_ble_eq_true rfl) ?_
    exact W.iret (v := r_5) hx hb hr (fun t9 ht9 hW9 => ⟨⟨_, (), rfl, trivial, ⟨by rw [ht9]; exact hP, hD⟩⟩, hS.F ht9⟩) hS.2.2 dX10_placesGiven_63
  have K_5_48 : W p l e (headSpec (wt yX10_placesGiven cX10_placesGiven 3 (some .int)) ({ frames := 2, cells := 0, slots := 0, locals := 44 })).room s m ([.ref h0, .ref b1, .int x2] : List Value).toArray below meth c H locs (0) (0) (MQ below (va_Qi (fun (r : Int32) (u9 : Unit) => True) (gQ0 g A ws) A) ([.ref h0, .ref b1, .int x2] : List Value).toArray s (0) (0) A) (F0 m 48 ls []) := by
    refine lv_iconst (v := 2) hx hb dX10_placesGiven_48 (by decide) ?_
    refine W.widen (k := 0) (n := 0) (Nat.le_of_ble_eq_true rfl) (Nat.le_of_ble_eq_true rfl) ?_
    exact W.iret (v := 2) hx hb hr (fun t9 ht9 hW9 => ⟨⟨_, (), rfl, trivial, ⟨by rw [ht9]; exact hP, hD⟩⟩, hS.F ht9⟩) hS.2.2 dX10_placesGiven_49
  have K_5_50 : W p l e (headSpec (wt yX10_placesGiven cX10_placesGiven 3 (some .int)) ({ frames := 2, cells := 0, slots := 0, locals := 44 })).room s m ([.ref h0, .ref b1, .int x2] : List Value).toArray below meth c H locs (0) (0) (MQ below (va_Qi (fun (r : Int32) (u9 : Unit) => True) (gQ0 g A ws) A) ([.ref h0, .ref b1, .int x2] : List Value).toArray s (0) (0) A) (F0 m 50 ls []) := by
    refine lv_iconst (v := 3) hx hb dX10_placesGiven_50 (by decide) ?_
    refine W.widen (k := 0) (n := 0) (Nat.le_of_ble_eq_true rfl) (Nat.le_of_ble_eq_true rfl) ?_
    exact W.iret (v := 3) hx hb hr (fun t9 ht9 hW9 => ⟨⟨_, (), rfl, trivial, ⟨by rw [ht9]; exact hP, hD⟩⟩, hS.F ht9⟩) hS.2.2 dX10_placesGiven_51
  have K_5_52 : W p l e (headSpec (wt yX10_placesGiven cX10_placesGiven 3 (some .int)) ({ frames := 2, cells := 0, slots := 0, locals := 44 })).room s m ([.ref h0, .ref b1, .int x2] : List Value).toArray below meth c H locs (0) (0) (MQ below (va_Qi (fun (r : Int32) (u9 : Unit) => True) (gQ0 g A ws) A) ([.ref h0, .ref b1, .int x2] : List Value).toArray s (0) (0) A) (F0 m 52 ls []) := by
    refine lv_iconst (v := 4) hx hb dX10_placesGiven_52 (by decide) ?_
    refine W.widen (k := 0) (n := 0) (Nat.le_of_ble_eq_true rfl) (Nat.le_of_ble_eq_true rfl) ?_
    exact W.iret (v := 4) hx hb hr (fun t9 ht9 hW9 => ⟨⟨_, (), rfl, trivial, ⟨by rw [ht9]; exact hP, hD⟩⟩, hS.F ht9⟩) hS.2.2 dX10_placesGiven_53
  rcases Classical.em ((r_2 : Int32).toInt < 89 ∨ 95 < (r_2 : Int32).toInt) with c9 | c9
  · exact lv_tableOut (tgt := 54) hx hb dX10_placesGiven_5 c9 (by decide) K_5_54
  · rcases (show (r_2 : Int32).toInt = 89 ∨ (r_2 : Int32).toInt = 90 ∨ (r_2 : Int32).toInt = 91 ∨ (r_2 : Int32).toInt = 92 ∨ (r_2 : Int32).toInt = 93 ∨ (r_2 : Int32).toInt = 94 ∨ (r_2 : Int32).toInt = 95 by omega) with c9 | c9 | c9 | c9 | c9 | c9 | c9
    · exact lv_tableIn (off := 43) (tgt := 48) hx hb dX10_placesGiven_5 (by rw [c9]; decide) (by rw [c9]; decide) (by rw [c9]; rfl) (by decide) K_5_48
    · exact lv_tableIn (off := 45) (tgt := 50) hx hb dX10_placesGiven_5 (by rw [c9]; decide) (by rw [c9]; decide) (by rw [c9]; rfl) (by decide) K_5_50
    · exact lv_tableIn (off := 49) (tgt := 54) hx hb dX10_placesGiven_5 (by rw [c9]; decide) (by rw [c9]; decide) (by rw [c9]; rfl) (by decide) K_5_54
    · exact lv_tableIn (off := 47) (tgt := 52) hx hb dX10_placesGiven_5 (by rw [c9]; decide) (by rw [c9]; decide) (by rw [c9]; rfl) (by decide) K_5_52
    · exact lv_tableIn (off := 49) (tgt := 54) hx hb dX10_placesGiven_5 (by rw [c9]; decide) (by rw [c9]; decide) (by rw [c9]; rfl) (by decide) K_5_54
    · exact lv_tableIn (off := 49) (tgt := 54) hx hb dX10_placesGiven_5 (by rw [c9]; decide) (by rw [c9]; decide) (by rw [c9]; rfl) (by decide) K_5_54
    · exact lv_tableIn (off := 43) (tgt := 48) hx hb dX10_placesGiven_5 (by rw [c9]; decide) (by rw [c9]; decide) (by rw [c9]; rfl) (by decide) K_5_48
