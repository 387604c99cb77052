set_option maxHeartbeats 1000000 in
set_option maxRecDepth 100000 in
theorem m_X3_tell (l : Launch) (g : Gm) (sz : Nat) (ws : va_W) (h0 : Nat) (x1 : Int32) (x2 : Int32) (hG : Good g ws) (o_h0 : gC ws h0 3) (tk0 : grR ws h0) : Met l yX3_tell (wt yX3_tell cX3_tell 3 (some .int)) ({ frames := 0, cells := 0, slots := 0, locals := 0 }) (va_Pc [.ref h0, .int x1, .int x2] (st_G g sz ws)) (va_Qi (fun (r : Int32) (u9 : Unit) => True) (gQ0 g (va_A ws sz) ws) (va_A ws sz)) (0) (0) (va_A ws sz) := by
  refine Met.ofW (cc := cX3_tell) (maxL := 3) (ret := (some .int)) (by decide) rfl ?_
  intro p e s m args below meth c s₁ B hml hv
  obtain ⟨rfl, hsz, hP, hK, hD0, hex, hE⟩ := hv
  have hx := B.exec
  have hb := B.bytes
  have hr := B.returns
  have hts0 := atoms_spec (ws := wt yX3_tell cX3_tell 3 (some .int)) B.pre
  have hts : ∀ w ∈ tb, w.before _ s = true := fun w h => hts0 w (List.mem_cons_of_mem _ h)
  have hown : s.vm.findClass RX3 = some m.cls := findClass_of_methodNamed B.named
  subst hsz
  have hD := hD0.self (sz := s.heap.size)
  generalize hAe : va_A ws s.heap.size = A at hD hE ⊢
  have hA : ∀ q : Nat, s.heap.size ≤ q → A q := fun q h => by rw [← hAe]; exact Or.inr h
  have hS : va_S A s.heap s.heap [] := va_S.rf
  have hl := lv_entry ([.ref h0, .int x1, .int x2]) (n := 3) (Nat.le_of_ble_eq_true rfl)
  rw [lg_entry_eq]
  generalize (lg_sl ([.ref h0, .int x1, .int x2]) ++ List.replicate (3 - (lg_sl ([.ref h0, .int x1, .int x2])).length) Slot.unset).toArray = ls at hl ⊢
  have hl : lv_has ls 3 [(0, .ref h0), (1, .int x1), (2, .int x2)] := hl
  obtain ⟨k_1, fs9, hk_1⟩ := gC_of o_h0
  refine opn_X3 hG hk_1 (fun v0_1 c1_1 r2_1 n2_1 r3_1 n3_1 r4_1 n4_1 r5_1 n5_1 r6_1 n6_1 r7_1 n7_1 r8_1 n8_1 r9_1 n9_1 c10_1 r11_1 n11_1 r12_1 n12_1 r13_1 n13_1 r14_1 n14_1 r15_1 n15_1 hf9 o_v0_1 a_r2_1 f2_1 a_r3_1 f4_1 a_r4_1 f6_1 a_r5_1 f8_1 a_r6_1 f10_1 a_r7_1 f12_1 a_r8_1 f14_1 a_r9_1 f16_1 a_r11_1 f18_1 a_r12_1 f20_1 a_r13_1 f22_1 a_r14_1 f24_1 a_r15_1 f26_1 f27_1 f28_1 f29_1 f30_1 f31_1 f32_1 f33_1 f34_1 f35_1 f36_1 f37_1 f38_1 f39_1 f40_1 => ?_)
  subst hf9
  obtain ⟨k_2, f_2, hk_2⟩ := gI_of a_r2_1
  obtain ⟨k_3, f_3, hk_3⟩ := gI_of a_r8_1
  obtain ⟨k_4, f_4, hk_4⟩ := gI_of a_r5_1
  have gn_5 := grR_n hD hk_1 rfl rfl rfl rfl hk_2 hk_3 hk_4 tk0
  replace gn_5 := hide gn_5
  refine lv_iload_n hx hb dX3_tell_0 rfl (lv_at hl 1 rfl) ?_
  have J_12 : ∀  (H : Heap) (locs : List Loc) (ls : Array Slot), va_P (gD g) cl0 ws H → va_D A ws → va_S A s.heap H locs → lv_has ls 3 [] → W p l e (headSpec (wt yX3_tell cX3_tell 3 (some .int)) ({ frames := 0, cells := 0, slots := 0, locals := 0 })).room s m ([.ref h0, .int x1, .int x2] : List Value).toArray below meth c H locs (0) (0) (MQ below (va_Qi (fun (r : Int32) (u9 : Unit) => True) (gQ0 g A ws) A) ([.ref h0, .int x1, .int x2] : List Value).toArray s (0) (0) A) (F0 m 12 ls []) := by
    intro  H locs ls  hP hD hS hl
    refine lv_iconst (v := (-1)) hx hb dX3_tell_12 (by decide) ?_
    refine W.widen (k := 0) (n := 0) (Nat.le_of_ble_eq_true rfl) (Nat.le_of_ble_eq_true rfl) ?_
    exact W.iret (v := (-1)) hx hb hr (fun t9 ht9 hW9 => ⟨⟨_, (), rfl, trivial, ⟨by rw [ht9]; exact hP, hD⟩⟩, hS.F ht9⟩) hS.2.2 dX3_tell_13
  refine lv_if_lt (tgt := 12) hx hb dX3_tell_1 (by decide) (fun c_8 => ?_) (fun c_8 => ?_)
  · exact J_12  _ _ ls  hP hD hS (lv_sub hl [] rfl)
  · refine lv_iload_n hx hb dX3_tell_4 rfl (lv_at hl 1 rfl) ?_
    refine lv_aload_n hx hb dX3_tell_5 rfl (lv_at hl 0 rfl) ?_
    refine va_get (D := gD g) (ci := 3) (v := .int c1_1) (C := RX3) (T := TX3) (N := 16) hx hb hts inX3 hown hK hP k_1 hk_1 rfl 1 (by decide) (hts _ kw_851) (fun _ h9 => h9) rfl dX3_tell_6 ?_
    refine lv_icmp_lt (tgt := 14) hx hb dX3_tell_9 (by decide) (fun c_9 => ?_) (fun c_9 => ?_)
    · refine lv_iload_n hx hb dX3_tell_14 rfl (lv_at hl 2 rfl) ?_
      have K_15_119 : W p l e (headSpec (wt yX3_tell cX3_tell 3 (some .int)) ({ frames := 0, cells := 0, slots := 0, locals := 0 })).room s m ([.ref h0, .int x1, .int x2] : List Value).toArray below meth c s.heap [] (0) (0) (MQ below (va_Qi (fun (r : Int32) (u9 : Unit) => True) (gQ0 g A ws) A) ([.ref h0, .int x1, .int x2] : List Value).toArray s (0) (0) A) (F0 m 119 ls []) := by
        refine lv_iconst (v := (-1)) hx hb dX3_tell_119 (by decide) ?_
        refine W.widen (k := 0) (n := 0) (Nat.le_of_ble_eq_true rfl) (Nat.le_of_ble_eq_true rfl) ?_
        exact W.iret (v := (-1)) hx hb hr (fun t9 ht9 hW9 => ⟨⟨_, (), rfl, trivial, ⟨by rw [ht9]; exact hP, hD⟩⟩, hS.F ht9⟩) hS.2.2 dX3_tell_120
      have K_15_52 : W p l e (headSpec (wt yX3_tell cX3_tell 3 (some .int)) ({ frames := 0, cells := 0, slots := 0, locals := 0 })).room s m ([.ref h0, .int x1, .int x2] : List Value).toArray below meth c s.heap [] (0) (0) (MQ below (va_Qi (fun (r : Int32) (u9 : Unit) => True) (gQ0 g A ws) A) ([.ref h0, .int x1, .int x2] : List Value).toArray s (0) (0) A) (F0 m 52 ls []) := by
        refine lv_aload_n hx hb dX3_tell_52 rfl (lv_at hl 0 rfl) ?_
        refine va_get (D := gD g) (ci := 3) (v := .ref r2_1) (C := RX3) (T := TX3) (N := 16) hx hb hts inX3 hown hK hP k_1 hk_1 rfl 2 (by decide) (hts _ kw_862) (fun _ h9 => h9) rfl dX3_tell_53 ?_
        refine lv_iload_n hx hb dX3_tell_56 rfl (lv_at hl 1 rfl) ?_
        refine va_iald hx hb hK hP k_2 1 hk_2 rfl (i_in2 (by first | (have e0 : (0 : Int32).toInt = 0 := (by decide); have q_gn_5 := Hide.out gn_5; have q_c_8 := i_nlt c_8; have q_c_9 := i_lt c_9; have g_c1_1 := i_rg c1_1; have g_x1 := i_rg x1; omega) | (have e0 : (0 : Int32).toInt = 0 := (by decide); have q_gn_5 := Hide.out gn_5; have q_c_8 := i_nlt c_8; have q_c_9 := i_lt c_9; have q_f29_1 := Hide.out f29_1; have q_f30_1 := Hide.out f30_1; have q_f31_1 := Hide.out f31_1; have q_f32_1 := Hide.out f32_1; have q_f37_1 := Hide.out f37_1; have g_c1_1 := i_rg c1_1; have g_x1 := i_rg x1; omega))) dX3_tell_57 ?_
        refine lv_topi (fun z_10 ez_10 => ?_)
        refine W.widen (k := 0) (n := 0) (Nat.le_of_ble_eq_true rfl) (Nat.le_of_ble_eq_true rfl) ?_
        exact W.iret (v := z_10) hx hb hr (fun t9 ht9 hW9 => ⟨⟨_, (), rfl, trivial, ⟨by rw [ht9]; exact hP, hD⟩⟩, hS.F ht9⟩) hS.2.2 dX3_tell_58
      have K_15_59 : W p l e (headSpec (wt yX3_tell cX3_tell 3 (some .int)) ({ frames := 0, cells := 0, slots := 0, locals := 0 })).room s m ([.ref h0, .int x1, .int x2] : List Value).toArray below meth c s.heap [] (0) (0) (MQ below (va_Qi (fun (r : Int32) (u9 : Unit) => True) (gQ0 g A ws) A) ([.ref h0, .int x1, .int x2] : List Value).toArray s (0) (0) A) (F0 m 59 ls []) := by
        refine lv_aload_n hx hb dX3_tell_59 rfl (lv_at hl 0 rfl) ?_
        refine va_get (D := gD g) (ci := 3) (v := .ref r8_1) (C := RX3) (T := TX3) (N := 16) hx hb hts inX3 hown hK hP k_1 hk_1 rfl 8 (by decide) (hts _ kw_847) (fun _ h9 => h9) rfl dX3_tell_60 ?_
        refine lv_iload_n hx hb dX3_tell_63 rfl (lv_at hl 1 rfl) ?_
        refine va_zald hx hb hK hP k_3 2 hk_3 rfl (i_in2 (by have e0 : (0 : Int32).toInt = 0 := (by decide); have q_f29_1 := Hide.out f29_1; have q_f30_1 := Hide.out f30_1; have q_f31_1 := Hide.out f31_1; have q_f32_1 := Hide.out f32_1; have q_f37_1 := Hide.out f37_1; have q_gn_5 := Hide.out gn_5; have q_c_8 := i_nlt c_8; have q_c_9 := i_lt c_9; have g_c1_1 := i_rg c1_1; have g_x1 := i_rg x1; omega)) dX3_tell_64 ?_
        refine lv_topi (fun z_11 ez_11 => ?_)
        have J_73 : ∀ (t_12 : Int32) (H : Heap) (locs : List Loc) (ls : Array Slot), t_12 = 0 ∨ t_12 = 1 → va_P (gD g) cl0 ws H → va_D A ws → va_S A s.heap H locs → lv_has ls 3 [] → W p l e (headSpec (wt yX3_tell cX3_tell 3 (some .int)) ({ frames := 0, cells := 0, slots := 0, locals := 0 })).room s m ([.ref h0, .int x1, .int x2] : List Value).toArray below meth c H locs (0) (0) (MQ below (va_Qi (fun (r : Int32) (u9 : Unit) => True) (gQ0 g A ws) A) ([.ref h0, .int x1, .int x2] : List Value).toArray s (0) (0) A) (F0 m 73 ls [.int t_12]) := by
          intro t_12 H locs ls iv_13 hP hD hS hl
          have hz_t_12 := iv_13
          refine W.widen (k := 0) (n := 0) (Nat.le_of_ble_eq_true rfl) (Nat.le_of_ble_eq_true rfl) ?_
          exact W.iret (v := t_12) hx hb hr (fun t9 ht9 hW9 => ⟨⟨_, (), rfl, trivial, ⟨by rw [ht9]; exact hP, hD⟩⟩, hS.F ht9⟩) hS.2.2 dX3_tell_73
        refine lv_if_eq (tgt := 72) hx hb dX3_tell_65 (by decide) (fun c_16 => ?_) (fun c_16 => ?_)
        · refine lv_iconst (v := 0) hx hb dX3_tell_72 (by decide) ?_
          exact J_73 (0) _ _ ls (Or.inl rfl) hP hD hS (lv_sub hl [] rfl)
        · refine lv_iconst (v := 1) hx hb dX3_tell_68 (by decide) ?_
          refine lv_goto (tgt := 73) hx hb dX3_tell_69 (by decide) ?_
          exact J_73 (1) _ _ ls (Or.inr rfl) hP hD hS (lv_sub hl [] rfl)
      have K_15_74 : W p l e (headSpec (wt yX3_tell cX3_tell 3 (some .int)) ({ frames := 0, cells := 0, slots := 0, locals := 0 })).room s m ([.ref h0, .int x1, .int x2] : List Value).toArray below meth c s.heap [] (0) (0) (MQ below (va_Qi (fun (r : Int32) (u9 : Unit) => True) (gQ0 g A ws) A) ([.ref h0, .int x1, .int x2] : List Value).toArray s (0) (0) A) (F0 m 74 ls []) := by
        refine lv_aload_n hx hb dX3_tell_74 rfl (lv_at hl 0 rfl) ?_
        refine va_get (D := gD g) (ci := 3) (v := .ref r11_1) (C := RX3) (T := TX3) (N := 16) hx hb hts inX3 hown hK hP k_1 hk_1 rfl 11 (by decide) (hts _ kw_907) (fun _ h9 => h9) rfl dX3_tell_75 ?_
        refine lv_iload_n hx hb dX3_tell_78 rfl (lv_at hl 1 rfl) ?_
        obtain ⟨k_17, f_17, hk_17⟩ := gI_of a_r11_1
        refine va_iald hx hb hK hP k_17 1 hk_17 rfl (i_in2 (by first | (have e0 : (0 : Int32).toInt = 0 := (by decide); have q_f30_1 := Hide.out f30_1; have q_c_8 := i_nlt c_8; have q_c_9 := i_lt c_9; have g_c1_1 := i_rg c1_1; have g_x1 := i_rg x1; omega) | (have e0 : (0 : Int32).toInt = 0 := (by decide); have q_f30_1 := Hide.out f30_1; have q_c_8 := i_nlt c_8; have q_c_9 := i_lt c_9; have q_f29_1 := Hide.out f29_1; have q_f31_1 := Hide.out f31_1; have q_f32_1 := Hide.out f32_1; have q_f37_1 := Hide.out f37_1; have q_gn_5 := Hide.out gn_5; have g_c1_1 := i_rg c1_1; have g_x1 := i_rg x1; omega))) dX3_tell_79 ?_
        refine lv_topi (fun z_18 ez_18 => ?_)
        refine W.widen (k := 0) (n := 0) (Nat.le_of_ble_eq_true rfl) (Nat.le_of_ble_eq_true rfl) ?_
        exact W.iret (v := z_18) hx hb hr (fun t9 ht9 hW9 => ⟨⟨_, (), rfl, trivial, ⟨by rw [ht9]; exact hP, hD⟩⟩, hS.F ht9⟩) hS.2.2 dX3_tell_80
      have K_15_81 : W p l e (headSpec (wt yX3_tell cX3_tell 3 (some .int)) ({ frames := 0, cells := 0, slots := 0, locals := 0 })).room s m ([.ref h0, .int x1, .int x2] : List Value).toArray below meth c s.heap [] (0) (0) (MQ below (va_Qi (fun (r : Int32) (u9 : Unit) => True) (gQ0 g A ws) A) ([.ref h0, .int x1, .int x2] : List Value).toArray s (0) (0) A) (F0 m 81 ls []) := by
        refine lv_aload_n hx hb dX3_tell_81 rfl (lv_at hl 0 rfl) ?_
        refine va_get (D := gD g) (ci := 3) (v := .ref r12_1) (C := RX3) (T := TX3) (N := 16) hx hb hts inX3 hown hK hP k_1 hk_1 rfl 12 (by decide) (hts _ kw_918) (fun _ h9 => h9) rfl dX3_tell_82 ?_
        refine lv_iload_n hx hb dX3_tell_85 rfl (lv_at hl 1 rfl) ?_
        obtain ⟨k_19, f_19, hk_19⟩ := gI_of a_r12_1
        refine va_iald hx hb hK hP k_19 1 hk_19 rfl (i_in2 (by first | (have e0 : (0 : Int32).toInt = 0 := (by decide); have q_f31_1 := Hide.out f31_1; have q_c_8 := i_nlt c_8; have q_c_9 := i_lt c_9; have g_c1_1 := i_rg c1_1; have g_x1 := i_rg x1; omega) | (have e0 : (0 : Int32).toInt = 0 := (by decide); have q_f31_1 := Hide.out f31_1; have q_c_8 := i_nlt c_8; have q_c_9 := i_lt c_9; have q_f29_1 := Hide.out f29_1; have q_f30_1 := Hide.out f30_1; have q_f32_1 := Hide.out f32_1; have q_f37_1 := Hide.out f37_1; have q_gn_5 := Hide.out gn_5; have g_c1_1 := i_rg c1_1; have g_x1 := i_rg x1; omega))) dX3_tell_86 ?_
        refine lv_topi (fun z_20 ez_20 => ?_)
        have J_95 : ∀ (t_21 : Int32) (H : Heap) (locs : List Loc) (ls : Array Slot), t_21 = 0 ∨ t_21 = 1 → va_P (gD g) cl0 ws H → va_D A ws → va_S A s.heap H locs → lv_has ls 3 [] → W p l e (headSpec (wt yX3_tell cX3_tell 3 (some .int)) ({ frames := 0, cells := 0, slots := 0, locals := 0 })).room s m ([.ref h0, .int x1, .int x2] : List Value).toArray below meth c H locs (0) (0) (MQ below (va_Qi (fun (r : Int32) (u9 : Unit) => True) (gQ0 g A ws) A) ([.ref h0, .int x1, .int x2] : List Value).toArray s (0) (0) A) (F0 m 95 ls [.int t_21]) := by
          intro t_21 H locs ls iv_22 hP hD hS hl
          have hz_t_21 := iv_22
          refine W.widen (k := 0) (n := 0) (Nat.le_of_ble_eq_true rfl) (Nat.le_of_ble_eq_true rfl) ?_
          exact W.iret (v := t_21) hx hb hr (fun t9 ht9 hW9 => ⟨⟨_, (), rfl, trivial, ⟨by rw [ht9]; exact hP, hD⟩⟩, hS.F ht9⟩) hS.2.2 dX3_tell_95
        refine lv_if_le (tgt := 94) hx hb dX3_tell_87 (by decide) (fun c_25 => ?_) (fun c_25 => ?_)
        · refine lv_iconst (v := 0) hx hb dX3_tell_94 (by decide) ?_
          exact J_95 (0) _ _ ls (Or.inl rfl) hP hD hS (lv_sub hl [] rfl)
        · refine lv_iconst (v := 1) hx hb dX3_tell_90 (by decide) ?_
          refine lv_goto (tgt := 95) hx hb dX3_tell_91 (by decide) ?_
          exact J_95 (1) _ _ ls (Or.inr rfl) hP hD hS (lv_sub hl [] rfl)
      have K_15_96 : W p l e (headSpec (wt yX3_tell cX3_tell 3 (some .int)) ({ frames := 0, cells := 0, slots := 0, locals := 0 })).room s m ([.ref h0, .int x1, .int x2] : List Value).toArray below meth c s.heap [] (0) (0) (MQ below (va_Qi (fun (r : Int32) (u9 : Unit) => True) (gQ0 g A ws) A) ([.ref h0, .int x1, .int x2] : List Value).toArray s (0) (0) A) (F0 m 96 ls []) := by
        refine lv_aload_n hx hb dX3_tell_96 rfl (lv_at hl 0 rfl) ?_
        refine va_get (D := gD g) (ci := 3) (v := .ref r13_1) (C := RX3) (T := TX3) (N := 16) hx hb hts inX3 hown hK hP k_1 hk_1 rfl 13 (by decide) (hts _ kw_845) (fun _ h9 => h9) rfl dX3_tell_97 ?_
        refine lv_iload_n hx hb dX3_tell_100 rfl (lv_at hl 1 rfl) ?_
        obtain ⟨k_26, f_26, hk_26⟩ := gI_of a_r13_1
        refine va_iald hx hb hK hP k_26 1 hk_26 rfl (i_in2 (by first | (have e0 : (0 : Int32).toInt = 0 := (by decide); have q_f32_1 := Hide.out f32_1; have q_c_8 := i_nlt c_8; have q_c_9 := i_lt c_9; have g_c1_1 := i_rg c1_1; have g_x1 := i_rg x1; omega) | (have e0 : (0 : Int32).toInt = 0 := (by decide); have q_f32_1 := Hide.out f32_1; have q_c_8 := i_nlt c_8; have q_c_9 := i_lt c_9; have q_f29_1 := Hide.out f29_1; have q_f30_1 := Hide.out f30_1; have q_f31_1 := Hide.out f31_1; have q_f37_1 := Hide.out f37_1; have q_gn_5 := Hide.out gn_5; have g_c1_1 := i_rg c1_1; have g_x1 := i_rg x1; omega))) dX3_tell_101 ?_
        refine lv_topi (fun z_27 ez_27 => ?_)
        refine W.widen (k := 0) (n := 0) (Nat.le_of_ble_eq_true rfl) (Nat.le_of_ble_eq_true rfl) ?_
        exact W.iret (v := z_27) hx hb hr (fun t9 ht9 hW9 => ⟨⟨_, (), rfl, trivial, ⟨by rw [ht9]; exact hP, hD⟩⟩, hS.F ht9⟩) hS.2.2 dX3_tell_102
      have K_15_103 : W p l e (headSpec (wt yX3_tell cX3_tell 3 (some .int)) ({ frames := 0, cells := 0, slots := 0, locals := 0 })).room s m ([.ref h0, .int x1, .int x2] : List Value).toArray below meth c s.heap [] (0) (0) (MQ below (va_Qi (fun (r : Int32) (u9 : Unit) => True) (gQ0 g A ws) A) ([.ref h0, .int x1, .int x2] : List Value).toArray s (0) (0) A) (F0 m 103 ls []) := by
        refine lv_aload_n hx hb dX3_tell_103 rfl (lv_at hl 0 rfl) ?_
        refine va_get (D := gD g) (ci := 3) (v := .ref r4_1) (C := RX3) (T := TX3) (N := 16) hx hb hts inX3 hown hK hP k_1 hk_1 rfl 4 (by decide) (hts _ kw_885) (fun _ h9 => h9) rfl dX3_tell_104 ?_
        refine lv_iload_n hx hb dX3_tell_107 rfl (lv_at hl 1 rfl) ?_
        refine lv_iconst (v := 1) hx hb dX3_tell_108 (by decide) ?_
        refine lv_iadd hx hb dX3_tell_109 ?_
        refine lv_topi (fun z_28 ez_28 => ?_)
        obtain ⟨k_29, f_29, hk_29⟩ := gI_of a_r4_1
        refine va_iald hx hb hK hP k_29 1 hk_29 rfl (i_in2 (by first | (have e1 : (1 : Int32).toInt = 1 := (by decide); have q_f29_1 := Hide.out f29_1; obtain ⟨u_z_28, q_z_28⟩ := i_add ez_28; have g_x1 := i_rg x1; have g_z_28 := i_rg z_28; omega) | (have e0 : (0 : Int32).toInt = 0 := (by decide); have e1 : (1 : Int32).toInt = 1 := (by decide); have q_f29_1 := Hide.out f29_1; obtain ⟨u_z_28, q_z_28⟩ := i_add ez_28; have q_f30_1 := Hide.out f30_1; have q_f31_1 := Hide.out f31_1; have q_f32_1 := Hide.out f32_1; have q_f37_1 := Hide.out f37_1; have q_gn_5 := Hide.out gn_5; have q_c_8 := i_nlt c_8; have q_c_9 := i_lt c_9; have g_c1_1 := i_rg c1_1; have g_x1 := i_rg x1; have g_z_28 := i_rg z_28; omega))) dX3_tell_110 ?_
        refine lv_topi (fun z_30 ez_30 => ?_)
        refine lv_aload_n hx hb dX3_tell_111 rfl (lv_at hl 0 rfl) ?_
        refine va_get (D := gD g) (ci := 3) (v := .ref r4_1) (C := RX3) (T := TX3) (N := 16) hx hb hts inX3 hown hK hP k_1 hk_1 rfl 4 (by decide) (hts _ kw_885) (fun _ h9 => h9) rfl dX3_tell_112 ?_
        refine lv_iload_n hx hb dX3_tell_115 rfl (lv_at hl 1 rfl) ?_
        refine va_iald hx hb hK hP k_29 1 hk_29 rfl (i_in2 (by first | (have e0 : (0 : Int32).toInt = 0 := (by decide); have e1 : (1 : Int32).toInt = 1 := (by decide); have q_f29_1 := Hide.out f29_1; have q_c_8 := i_nlt c_8; have q_c_9 := i_lt c_9; obtain ⟨u_z_28, q_z_28⟩ := i_add ez_28; have g_c1_1 := i_rg c1_1; have g_x1 := i_rg x1; have g_z_28 := i_rg z_28; omega) | (have e0 : (0 : Int32).toInt = 0 := (by decide); have e1 : (1 : Int32).toInt = 1 := (by decide); have q_f29_1 := Hide.out f29_1; have q_c_8 := i_nlt c_8; have q_c_9 := i_lt c_9; obtain ⟨u_z_28, q_z_28⟩ := i_add ez_28; have q_f30_1 := Hide.out f30_1; have q_f31_1 := Hide.out f31_1; have q_f32_1 := Hide.out f32_1; have q_f37_1 := Hide.out f37_1; have q_gn_5 := Hide.out gn_5; have g_c1_1 := i_rg c1_1; have g_x1 := i_rg x1; have g_z_28 := i_rg z_28; omega))) dX3_tell_116 ?_
        refine lv_topi (fun z_31 ez_31 => ?_)
        refine lv_isub hx hb dX3_tell_117 ?_
        refine lv_topi (fun z_32 ez_32 => ?_)
        refine W.widen (k := 0) (n := 0) (Nat.le_of_ble_eq_true rfl) (Nat.le_of_ble_eq_true rfl) ?_
        exact W.iret (v := z_32) hx hb hr (fun t9 ht9 hW9 => ⟨⟨_, (), rfl, trivial, ⟨by rw [ht9]; exact hP, hD⟩⟩, hS.F ht9⟩) hS.2.2 dX3_tell_118
      rcases Classical.em ((x2 : Int32).toInt < 0 ∨ 5 < (x2 : Int32).toInt) with c9 | c9
      · exact lv_tableOut (tgt := 119) hx hb dX3_tell_15 c9 (by decide) K_15_119
      · rcases (show (x2 : Int32).toInt = 0 ∨ (x2 : Int32).toInt = 1 ∨ (x2 : Int32).toInt = 2 ∨ (x2 : Int32).toInt = 3 ∨ (x2 : Int32).toInt = 4 ∨ (x2 : Int32).toInt = 5 by omega) with c9 | c9 | c9 | c9 | c9 | c9
        · exact lv_tableIn (off := 37) (tgt := 52) hx hb dX3_tell_15 (by rw [c9]; decide) (by rw [c9]; decide) (by rw [c9]; rfl) (by decide) K_15_52
        · exact lv_tableIn (off := 44) (tgt := 59) hx hb dX3_tell_15 (by rw [c9]; decide) (by rw [c9]; decide) (by rw [c9]; rfl) (by decide) K_15_59
        · exact lv_tableIn (off := 59) (tgt := 74) hx hb dX3_tell_15 (by rw [c9]; decide) (by rw [c9]; decide) (by rw [c9]; rfl) (by decide) K_15_74
        · exact lv_tableIn (off := 66) (tgt := 81) hx hb dX3_tell_15 (by rw [c9]; decide) (by rw [c9]; decide) (by rw [c9]; rfl) (by decide) K_15_81
        · exact lv_tableIn (off := 81) (tgt := 96) hx hb dX3_tell_15 (by rw [c9]; decide) (by rw [c9]; decide) (by rw [c9]; rfl) (by decide) K_15_96
        · exact lv_tableIn (off := 88) (tgt := 103) hx hb dX3_tell_15 (by rw [c9]; decide) (by rw [c9]; decide) (by rw [c9]; rfl) (by decide) K_15_103
    · exact J_12  _ _ ls  hP hD hS (lv_sub hl [] rfl)
set_option maxHeartbeats 1000000 in
set_option maxRecDepth 100000 in
theorem m_X3_hasEdge (l : Launch) (g : Gm) (sz : Nat) (ws : va_W) (h0 : Nat) (x1 : Int32) (x2 : Int32) (hG : Good g ws) (o_h0 : gC ws h0 3) (tk0 : grR ws h0) : Met l yX3_hasEdge (wt yX3_hasEdge cX3_hasEdge 4 (some .boolean)) ({ frames := 0, cells := 0, slots := 0, locals := 0 }) (va_Pc [.ref h0, .int x1, .int x2] (st_G g sz ws)) (va_Qi (fun (r : Int32) (u9 : Unit) => r = 0 ∨ r = 1) (gQ0 g (va_A ws sz) ws) (va_A ws sz)) (0) (0) (va_A ws sz) := by
  refine Met.ofW (cc := cX3_hasEdge) (maxL := 4) (ret := (some .boolean)) (by decide) rfl ?_
  intro p e s m args below meth c s₁ B hml hv
  obtain ⟨rfl, hsz, hP, hK, hD0, hex, hE⟩ := hv
  have hx := B.exec
  have hb := B.bytes
  have hr := B.returns
  have hts0 := atoms_spec (ws := wt yX3_hasEdge cX3_hasEdge 4 (some .boolean)) B.pre
  have hts : ∀ w ∈ tb, w.before _ s = true := fun w h => hts0 w (List.mem_cons_of_mem _ h)
  have hown : s.vm.findClass RX3 = some m.cls := findClass_of_methodNamed B.named
  subst hsz
  have hD := hD0.self (sz := s.heap.size)
  generalize hAe : va_A ws s.heap.size = A at hD hE ⊢
  have hA : ∀ q : Nat, s.heap.size ≤ q → A q := fun q h => by rw [← hAe]; exact Or.inr h
  have hS : va_S A s.heap s.heap [] := va_S.rf
  have hl := lv_entry ([.ref h0, .int x1, .int x2]) (n := 4) (Nat.le_of_ble_eq_true rfl)
  rw [lg_entry_eq]
  generalize (lg_sl ([.ref h0, .int x1, .int x2]) ++ List.replicate (4 - (lg_sl ([.ref h0, .int x1, .int x2])).length) Slot.unset).toArray = ls at hl ⊢
  have hl : lv_has ls 4 [(0, .ref h0), (1, .int x1), (2, .int x2)] := hl
  obtain ⟨k_1, fs9, hk_1⟩ := gC_of o_h0
  refine opn_X3 hG hk_1 (fun v0_1 c1_1 r2_1 n2_1 r3_1 n3_1 r4_1 n4_1 r5_1 n5_1 r6_1 n6_1 r7_1 n7_1 r8_1 n8_1 r9_1 n9_1 c10_1 r11_1 n11_1 r12_1 n12_1 r13_1 n13_1 r14_1 n14_1 r15_1 n15_1 hf9 o_v0_1 a_r2_1 f2_1 a_r3_1 f4_1 a_r4_1 f6_1 a_r5_1 f8_1 a_r6_1 f10_1 a_r7_1 f12_1 a_r8_1 f14_1 a_r9_1 f16_1 a_r11_1 f18_1 a_r12_1 f20_1 a_r13_1 f22_1 a_r14_1 f24_1 a_r15_1 f26_1 f27_1 f28_1 f29_1 f30_1 f31_1 f32_1 f33_1 f34_1 f35_1 f36_1 f37_1 f38_1 f39_1 f40_1 => ?_)
  subst hf9
  obtain ⟨k_2, f_2, hk_2⟩ := gI_of a_r2_1
  obtain ⟨k_3, f_3, hk_3⟩ := gI_of a_r8_1
  obtain ⟨k_4, f_4, hk_4⟩ := gI_of a_r5_1
  have gn_5 := grR_n hD hk_1 rfl rfl rfl rfl hk_2 hk_3 hk_4 tk0
  replace gn_5 := hide gn_5
  obtain ⟨N_r, hr4, hr5, hr2, hr8⟩ := id tk0
  refine lv_iload_n hx hb dX3_hasEdge_0 rfl (lv_at hl 1 rfl) ?_
  have J_12 : ∀  (H : Heap) (locs : List Loc) (ls : Array Slot), va_P (gD g) cl0 ws H → va_D A ws → va_S A s.heap H locs → lv_has ls 4 [] → W p l e (headSpec (wt yX3_hasEdge cX3_hasEdge 4 (some .boolean)) ({ frames := 0, cells := 0, slots := 0, locals := 0 })).room s m ([.ref h0, .int x1, .int x2] : List Value).toArray below meth c H locs (0) (0) (MQ below (va_Qi (fun (r : Int32) (u9 : Unit) => r = 0 ∨ r = 1) (gQ0 g A ws) A) ([.ref h0, .int x1, .int x2] : List Value).toArray s (0) (0) A) (F0 m 12 ls []) := by
    intro  H locs ls  hP hD hS hl
    refine lv_iconst (v := 0) hx hb dX3_hasEdge_12 (by decide) ?_
    refine W.widen (k := 0) (n := 0) (Nat.le_of_ble_eq_true rfl) (Nat.le_of_ble_eq_true rfl) ?_
    exact W.zret (v := 0) hx hb hr (nz (Or.inl rfl)) (fun t9 ht9 hW9 => ⟨⟨_, (), rfl, (Or.inl rfl), ⟨by rw [ht9]; exact hP, hD⟩⟩, hS.F ht9⟩) hS.2.2 dX3_hasEdge_13
  refine lv_if_lt (tgt := 12) hx hb dX3_hasEdge_1 (by decide) (fun c_8 => ?_) (fun c_8 => ?_)
  · exact J_12  _ _ ls  hP hD hS (lv_sub hl [] rfl)
  · refine lv_iload_n hx hb dX3_hasEdge_4 rfl (lv_at hl 1 rfl) ?_
    refine lv_aload_n hx hb dX3_hasEdge_5 rfl (lv_at hl 0 rfl) ?_
    refine va_get (D := gD g) (ci := 3) (v := .int c1_1) (C := RX3) (T := TX3) (N := 16) hx hb hts inX3 hown hK hP k_1 hk_1 rfl 1 (by decide) (hts _ kw_851) (fun _ h9 => h9) rfl dX3_hasEdge_6 ?_
    refine lv_icmp_lt (tgt := 14) hx hb dX3_hasEdge_9 (by decide) (fun c_9 => ?_) (fun c_9 => ?_)
    · obtain ⟨k_10, f_10, hk_10⟩ := gI_of a_r4_1
      have tq_11 : aC4 ws h0 (EW N_r) := aC_of hk_1 rfl rfl hk_10 ((aC_at hD hk_1 rfl rfl hk_10 hr4).resolve_left (by first | (have e0 : (0 : Int32).toInt = 0 := (by decide); have q_gn_5 := Hide.out gn_5; have q_c_8 := i_nlt c_8; have q_c_9 := i_lt c_9; have g_c1_1 := i_rg c1_1; have g_x1 := i_rg x1; omega) | (have e0 : (0 : Int32).toInt = 0 := (by decide); have q_gn_5 := Hide.out gn_5; have q_c_8 := i_nlt c_8; have q_c_9 := i_lt c_9; have q_f29_1 := Hide.out f29_1; have q_f35_1 := Hide.out f35_1; have q_f37_1 := Hide.out f37_1; have q_f39_1 := Hide.out f39_1; have g_c1_1 := i_rg c1_1; have g_x1 := i_rg x1; omega)))
      have er_12 := (aC_at hD hk_1 rfl rfl hk_4 hr5).1
      replace er_12 := hide er_12
      refine lv_aload_n hx hb dX3_hasEdge_14 rfl (lv_at hl 0 rfl) ?_
      refine va_get (D := gD g) (ci := 3) (v := .ref r4_1) (C := RX3) (T := TX3) (N := 16) hx hb hts inX3 hown hK hP k_1 hk_1 rfl 4 (by decide) (hts _ kw_885) (fun _ h9 => h9) rfl dX3_hasEdge_15 ?_
      refine lv_iload_n hx hb dX3_hasEdge_18 rfl (lv_at hl 1 rfl) ?_
      refine va_iald hx hb hK hP k_10 1 hk_10 rfl (i_in2 (by first | (have e0 : (0 : Int32).toInt = 0 := (by decide); have q_f29_1 := Hide.out f29_1; have q_c_8 := i_nlt c_8; have q_c_9 := i_lt c_9; have g_c1_1 := i_rg c1_1; have g_x1 := i_rg x1; omega) | (have e0 : (0 : Int32).toInt = 0 := (by decide); have q_f29_1 := Hide.out f29_1; have q_c_8 := i_nlt c_8; have q_c_9 := i_lt c_9; have q_f37_1 := Hide.out f37_1; have q_gn_5 := Hide.out gn_5; have g_c1_1 := i_rg c1_1; have g_x1 := i_rg x1; omega) | (have e0 : (0 : Int32).toInt = 0 := (by decide); have q_f29_1 := Hide.out f29_1; have q_c_8 := i_nlt c_8; have q_c_9 := i_lt c_9; have q_f37_1 := Hide.out f37_1; have q_gn_5 := Hide.out gn_5; have q_f35_1 := Hide.out f35_1; have q_f39_1 := Hide.out f39_1; have q_er_12 := Hide.out er_12; have g_c1_1 := i_rg c1_1; have g_x1 := i_rg x1; omega))) dX3_hasEdge_19 ?_
      refine lv_topi (fun z_13 ez_13 => ?_)
      have aq_14 := EW_in (aC_at hD hk_1 rfl rfl hk_10 tq_11) (i := x1) ez_13 (by first | (have e0 : (0 : Int32).toInt = 0 := (by decide); have q_gn_5 := Hide.out gn_5; have q_c_8 := i_nlt c_8; have q_c_9 := i_lt c_9; have q_er_12 := Hide.out er_12; have g_c1_1 := i_rg c1_1; have g_x1 := i_rg x1; omega) | (have e0 : (0 : Int32).toInt = 0 := (by decide); have q_gn_5 := Hide.out gn_5; have q_c_8 := i_nlt c_8; have q_c_9 := i_lt c_9; have q_er_12 := Hide.out er_12; have q_f29_1 := Hide.out f29_1; have q_f35_1 := Hide.out f35_1; have q_f37_1 := Hide.out f37_1; have q_f39_1 := Hide.out f39_1; have g_c1_1 := i_rg c1_1; have g_x1 := i_rg x1; omega))
      replace aq_14 := hide aq_14
      refine lv_istore_n (lv' := [(3, .int z_13), (0, .ref h0), (1, .int x1), (2, .int x2)]) hx hb dX3_hasEdge_20 rfl hl (by decide) rfl (fun ls hl => ?_)
      have J_21 : ∀ (n9 : Nat) (v3_15 : Int32) (H : Heap) (locs : List Loc) (ls : Array Slot), (2147483647 - v3_15.toInt).toNat = n9 → 0 ≤ v3_15.toInt → va_P (gD g) cl0 ws H → va_D A ws → va_S A s.heap H locs → lv_has ls 4 [(0, .ref h0), (1, .int x1), (2, .int x2), (3, .int v3_15)] → W p l e (headSpec (wt yX3_hasEdge cX3_hasEdge 4 (some .boolean)) ({ frames := 0, cells := 0, slots := 0, locals := 0 })).room s m ([.ref h0, .int x1, .int x2] : List Value).toArray below meth c H locs (0) (0) (MQ below (va_Qi (fun (r : Int32) (u9 : Unit) => r = 0 ∨ r = 1) (gQ0 g A ws) A) ([.ref h0, .int x1, .int x2] : List Value).toArray s (0) (0) A) (F0 m 21 ls []) := by
        intro n9
        induction n9 using Nat.strongRecOn with
        | ind n9 ih_21 =>
          intro v3_15 H locs ls hm9 iv_16 hP hD hS hl
          subst hm9
          replace iv_16 := hide iv_16
          refine lv_iload_n hx hb dX3_hasEdge_21 rfl (lv_at hl 3 rfl) ?_
          refine lv_aload_n hx hb dX3_hasEdge_22 rfl (lv_at hl 0 rfl) ?_
          refine va_get (D := gD g) (ci := 3) (v := .ref r4_1) (C := RX3) (T := TX3) (N := 16) hx hb hts inX3 hown hK hP k_1 hk_1 rfl 4 (by decide) (hts _ kw_885) (fun _ h9 => h9) rfl dX3_hasEdge_23 ?_
          refine lv_iload_n hx hb dX3_hasEdge_26 rfl (lv_at hl 1 rfl) ?_
          refine lv_iconst (v := 1) hx hb dX3_hasEdge_27 (by decide) ?_
          refine lv_iadd hx hb dX3_hasEdge_28 ?_
          refine lv_topi (fun z_19 ez_19 => ?_)
          refine va_iald hx hb hK hP k_10 1 hk_10 rfl (i_in2 (by first | (have e1 : (1 : Int32).toInt = 1 := (by decide); have q_f29_1 := Hide.out f29_1; obtain ⟨u_z_19, q_z_19⟩ := i_add ez_19; have g_x1 := i_rg x1; have g_z_19 := i_rg z_19; omega) | (have e0 : (0 : Int32).toInt = 0 := (by decide); have e1 : (1 : Int32).toInt = 1 := (by decide); have q_f29_1 := Hide.out f29_1; obtain ⟨u_z_19, q_z_19⟩ := i_add ez_19; have q_f37_1 := Hide.out f37_1; have q_gn_5 := Hide.out gn_5; have q_c_8 := i_nlt c_8; have q_c_9 := i_lt c_9; have g_c1_1 := i_rg c1_1; have g_x1 := i_rg x1; have g_z_19 := i_rg z_19; omega) | (have e0 : (0 : Int32).toInt = 0 := (by decide); have e1 : (1 : Int32).toInt = 1 := (by decide); have q_f29_1 := Hide.out f29_1; obtain ⟨u_z_19, q_z_19⟩ := i_add ez_19; have q_f37_1 := Hide.out f37_1; have q_gn_5 := Hide.out gn_5; have q_c_8 := i_nlt c_8; have q_c_9 := i_lt c_9; have q_f35_1 := Hide.out f35_1; have q_f39_1 := Hide.out f39_1; have q_er_12 := Hide.out er_12; have q_aq_14 := Hide.out aq_14; have g_c1_1 := i_rg c1_1; have g_x1 := i_rg x1; have g_z_13 := i_rg z_13; have g_z_19 := i_rg z_19; omega))) dX3_hasEdge_29 ?_
          refine lv_topi (fun z_20 ez_20 => ?_)
          have aq_21 := EW_in (aC_at hD hk_1 rfl rfl hk_10 tq_11) (i := z_19) ez_20 (by first | (have e1 : (1 : Int32).toInt = 1 := (by decide); have q_gn_5 := Hide.out gn_5; have q_c_9 := i_lt c_9; have q_er_12 := Hide.out er_12; have q_aq_14 := Hide.out aq_14; obtain ⟨u_z_19, q_z_19⟩ := i_add ez_19; have g_c1_1 := i_rg c1_1; have g_x1 := i_rg x1; have g_z_13 := i_rg z_13; have g_z_19 := i_rg z_19; omega) | (have e0 : (0 : Int32).toInt = 0 := (by decide); have e1 : (1 : Int32).toInt = 1 := (by decide); have q_gn_5 := Hide.out gn_5; have q_c_9 := i_lt c_9; have q_er_12 := Hide.out er_12; have q_aq_14 := Hide.out aq_14; obtain ⟨u_z_19, q_z_19⟩ := i_add ez_19; have q_f29_1 := Hide.out f29_1; have q_f35_1 := Hide.out f35_1; have q_f37_1 := Hide.out f37_1; have q_f39_1 := Hide.out f39_1; have q_c_8 := i_nlt c_8; have g_c1_1 := i_rg c1_1; have g_x1 := i_rg x1; have g_z_13 := i_rg z_13; have g_z_19 := i_rg z_19; omega))
          replace aq_21 := hide aq_21
          refine lv_icmp_ge (tgt := 51) hx hb dX3_hasEdge_30 (by decide) (fun c_22 => ?_) (fun c_22 => ?_)
          · refine lv_iconst (v := 0) hx hb dX3_hasEdge_51 (by decide) ?_
            refine W.widen (k := 0) (n := 0) (Nat.le_of_ble_eq_true rfl) (Nat.le_of_ble_eq_true rfl) ?_
            exact W.zret (v := 0) hx hb hr (nz (Or.inl rfl)) (fun t9 ht9 hW9 => ⟨⟨_, (), rfl, (Or.inl rfl), ⟨by rw [ht9]; exact hP, hD⟩⟩, hS.F ht9⟩) hS.2.2 dX3_hasEdge_52
          · refine lv_aload_n hx hb dX3_hasEdge_33 rfl (lv_at hl 0 rfl) ?_
            refine va_get (D := gD g) (ci := 3) (v := .ref r5_1) (C := RX3) (T := TX3) (N := 16) hx hb hts inX3 hown hK hP k_1 hk_1 rfl 5 (by decide) (hts _ kw_840) (fun _ h9 => h9) rfl dX3_hasEdge_34 ?_
            refine lv_iload_n hx hb dX3_hasEdge_37 rfl (lv_at hl 3 rfl) ?_
            refine va_iald hx hb hK hP k_4 1 hk_4 rfl (i_in2 (by first | (have q_f35_1 := Hide.out f35_1; have q_f39_1 := Hide.out f39_1; have q_gn_5 := Hide.out gn_5; have q_er_12 := Hide.out er_12; have q_iv_16 := Hide.out iv_16; have q_c_22 := i_nle c_22; have g_c1_1 := i_rg c1_1; have g_v3_15 := i_rg v3_15; have g_z_20 := i_rg z_20; omega) | (have q_f35_1 := Hide.out f35_1; have q_f39_1 := Hide.out f39_1; have q_gn_5 := Hide.out gn_5; have q_er_12 := Hide.out er_12; have q_iv_16 := Hide.out iv_16; have q_c_22 := i_nle c_22; have q_f29_1 := Hide.out f29_1; have q_f37_1 := Hide.out f37_1; have q_c_9 := i_lt c_9; have q_aq_14 := Hide.out aq_14; have q_aq_21 := Hide.out aq_21; have g_c1_1 := i_rg c1_1; have g_v3_15 := i_rg v3_15; have g_x1 := i_rg x1; have g_z_13 := i_rg z_13; have g_z_20 := i_rg z_20; omega) | (have e0 : (0 : Int32).toInt = 0 := (by decide); have e1 : (1 : Int32).toInt = 1 := (by decide); have q_f35_1 := Hide.out f35_1; have q_f39_1 := Hide.out f39_1; have q_gn_5 := Hide.out gn_5; have q_er_12 := Hide.out er_12; have q_iv_16 := Hide.out iv_16; have q_c_22 := i_nle c_22; have q_f29_1 := Hide.out f29_1; have q_f37_1 := Hide.out f37_1; have q_c_9 := i_lt c_9; have q_aq_14 := Hide.out aq_14; have q_aq_21 := Hide.out aq_21; have q_c_8 := i_nlt c_8; obtain ⟨u_z_19, q_z_19⟩ := i_add ez_19; have g_c1_1 := i_rg c1_1; have g_v3_15 := i_rg v3_15; have g_x1 := i_rg x1; have g_z_13 := i_rg z_13; have g_z_19 := i_rg z_19; have g_z_20 := i_rg z_20; omega))) dX3_hasEdge_38 ?_
            refine lv_topi (fun z_23 ez_23 => ?_)
            refine lv_iload_n hx hb dX3_hasEdge_39 rfl (lv_at hl 2 rfl) ?_
            refine lv_icmp_ne (tgt := 45) hx hb dX3_hasEdge_40 (by decide) (fun c_24 => ?_) (fun c_24 => ?_)
            · obtain ⟨z_25, ez_25⟩ : ∃ z : Int32, v3_15 + Int32.ofInt 1 = z := ⟨_, rfl⟩
              refine lv_iinc (v := z_25) (lv' := [(3, .int z_25), (0, .ref h0), (1, .int x1), (2, .int x2)]) hx hb dX3_hasEdge_45 hl (k := 3) rfl ez_25 (by decide) rfl (fun ls hl => ?_)
              refine lv_goto (tgt := 21) hx hb dX3_hasEdge_48 (by decide) ?_
              exact ih_21 _ (by first | (obtain ⟨u_z_25, q_z_25⟩ := i_iz ez_25 (by decide) (by decide); have g_v3_15 := i_rg v3_15; have g_z_25 := i_rg z_25; omega) | (obtain ⟨u_z_25, q_z_25⟩ := i_iz ez_25 (by decide) (by decide); have q_iv_16 := Hide.out iv_16; have q_c_22 := i_nle c_22; have g_v3_15 := i_rg v3_15; have g_z_20 := i_rg z_20; have g_z_25 := i_rg z_25; omega) | (obtain ⟨u_z_25, q_z_25⟩ := i_iz ez_25 (by decide) (by decide); have q_iv_16 := Hide.out iv_16; have q_c_22 := i_nle c_22; have q_aq_21 := Hide.out aq_21; have g_c1_1 := i_rg c1_1; have g_v3_15 := i_rg v3_15; have g_z_20 := i_rg z_20; have g_z_25 := i_rg z_25; omega)) (z_25) H locs ls rfl (by first | (obtain ⟨u_z_25, q_z_25⟩ := i_iz ez_25 (by decide) (by decide); have g_v3_15 := i_rg v3_15; have g_z_25 := i_rg z_25; omega) | (obtain ⟨u_z_25, q_z_25⟩ := i_iz ez_25 (by decide) (by decide); have q_iv_16 := Hide.out iv_16; have q_c_22 := i_nle c_22; have g_v3_15 := i_rg v3_15; have g_z_20 := i_rg z_20; have g_z_25 := i_rg z_25; omega) | (obtain ⟨u_z_25, q_z_25⟩ := i_iz ez_25 (by decide) (by decide); have q_iv_16 := Hide.out iv_16; have q_c_22 := i_nle c_22; have q_aq_21 := Hide.out aq_21; have g_c1_1 := i_rg c1_1; have g_v3_15 := i_rg v3_15; have g_z_20 := i_rg z_20; have g_z_25 := i_rg z_25; omega)) hP hD hS (lv_sub hl [1, 2, 3, 0] rfl)
            · refine lv_iconst (v := 1) hx hb dX3_hasEdge_43 (by decide) ?_
              refine W.widen (k := 0) (n := 0) (Nat.le_of_ble_eq_true rfl) (Nat.le_of_ble_eq_true rfl) ?_
              exact W.zret (v := 1) hx hb hr (nz (Or.inr rfl)) (fun t9 ht9 hW9 => ⟨⟨_, (), rfl, (Or.inr rfl), ⟨by rw [ht9]; exact hP, hD⟩⟩, hS.F ht9⟩) hS.2.2 dX3_hasEdge_44
      exact J_21 _ (z_13) _ _ ls rfl (by first | (have q_aq_14 := Hide.out aq_14; have g_c1_1 := i_rg c1_1; have g_z_13 := i_rg z_13; omega) | (have q_aq_14 := Hide.out aq_14; have q_gn_5 := Hide.out gn_5; have q_c_9 := i_lt c_9; have q_er_12 := Hide.out er_12; have g_c1_1 := i_rg c1_1; have g_x1 := i_rg x1; have g_z_13 := i_rg z_13; omega) | (have e0 : (0 : Int32).toInt = 0 := (by decide); have q_aq_14 := Hide.out aq_14; have q_gn_5 := Hide.out gn_5; have q_c_9 := i_lt c_9; have q_er_12 := Hide.out er_12; have q_f35_1 := Hide.out f35_1; have q_f37_1 := Hide.out f37_1; have q_f39_1 := Hide.out f39_1; have q_c_8 := i_nlt c_8; have g_c1_1 := i_rg c1_1; have g_x1 := i_rg x1; have g_z_13 := i_rg z_13; omega)) hP hD hS (lv_sub hl [1, 2, 3, 0] rfl)
    · exact J_12  _ _ ls  hP hD hS (lv_sub hl [] rfl)
