set_option maxHeartbeats 1000000 in
set_option maxRecDepth 100000 in
theorem m_X3_isReached (l : Launch) (g : Gm) (sz : Nat) (ws : va_W) (h0 : Nat) (x1 : Int32) (hG : Good g ws) (o_h0 : gC ws h0 3) (fp_k : gP ws h0 (fun fs => ∀ c : Int32, fs[1]? = some (.int c) → ∀ (rn n : Nat), fs[8]? = some (.ref rn) → gI ws rn g.cZ n → c.toInt ≤ n)) : Met l yX3_isReached (wt yX3_isReached cX3_isReached 2 (some .boolean)) ({ frames := 0, cells := 0, slots := 0, locals := 0 }) (va_Pc [.ref h0, .int x1] (st_G g sz ws)) (va_Qi (fun (r : Int32) (u9 : Unit) => r = 0 ∨ r = 1) (gQ0 g (va_A ws sz) ws) (va_A ws sz)) (0) (0) (va_A ws sz) := by
  refine Met.ofW (cc := cX3_isReached) (maxL := 2) (ret := (some .boolean)) (by decide) rfl ?_
  intro p e s m args below meth c s₁ B hml hv
  obtain ⟨rfl, hsz, hP, hK, hD0, hex, hE⟩ := hv
  have hx := B.exec
  have hb := B.bytes
  have hr := B.returns
  have hts0 := atoms_spec (ws := wt yX3_isReached cX3_isReached 2 (some .boolean)) B.pre
  have hts : ∀ w ∈ tb, w.before _ s = true := fun w h => hts0 w (List.mem_cons_of_mem _ h)
  have hown : s.vm.findClass RX3 = some m.cls := findClass_of_methodNamed B.named
  subst hsz
  have hD := hD0.self (sz := s.heap.size)
  generalize hAe : va_A ws s.heap.size = A at hD hE ⊢
  have hA : ∀ q : Nat, s.heap.size ≤ q → A q := fun q h => by rw [← hAe]; exact Or.inr h
  have hS : va_S A s.heap s.heap [] := va_S.rf
  have hl := lv_entry ([.ref h0, .int x1]) (n := 2) (Nat.le_of_ble_eq_true rfl)
  rw [lg_entry_eq]
  generalize (lg_sl ([.ref h0, .int x1]) ++ List.replicate (2 - (lg_sl ([.ref h0, .int x1])).length) Slot.unset).toArray = ls at hl ⊢
  have hl : lv_has ls 2 [(0, .ref h0), (1, .int x1)] := hl
  obtain ⟨k_1, fs9, hk_1⟩ := gC_of o_h0
  obtain ⟨v0_1, c1_1, r2_1, n2_1, r3_1, n3_1, r4_1, n4_1, r5_1, n5_1, r6_1, n6_1, r7_1, n7_1, r8_1, n8_1, r9_1, n9_1, c10_1, r11_1, n11_1, r12_1, n12_1, r13_1, n13_1, r14_1, n14_1, r15_1, n15_1, rfl, o_v0_1, a_r2_1, f2_1, a_r3_1, f4_1, a_r4_1, f6_1, a_r5_1, f8_1, a_r6_1, f10_1, a_r7_1, f12_1, a_r8_1, f14_1, a_r9_1, f16_1, a_r11_1, f18_1, a_r12_1, f20_1, a_r13_1, f22_1, a_r14_1, f24_1, a_r15_1, f26_1, f27_1, f28_1, f29_1, f30_1, f31_1, f32_1, f33_1, f34_1, f35_1, f36_1, f37_1, f38_1, f39_1, f40_1, -⟩ := (hG.1 _ _ _ _ hk_1).hX3 rfl
  have fq_k := fp_k _ _ _ hk_1 _ rfl _ _ rfl a_r8_1
  refine lv_iload_n hx hb dX3_isReached_0 rfl (lv_at hl 1 rfl) ?_
  have J_26 : ∀ (t_2 : Int32) (H : Heap) (locs : List Loc) (ls : Array Slot), t_2 = 0 ∨ t_2 = 1 → va_P (gD g) cl0 ws H → va_D A ws → va_S A s.heap H locs → lv_has ls 2 [] → W p l e (headSpec (wt yX3_isReached cX3_isReached 2 (some .boolean)) ({ frames := 0, cells := 0, slots := 0, locals := 0 })).room s m ([.ref h0, .int x1] : List Value).toArray below meth c H locs (0) (0) (MQ below (va_Qi (fun (r : Int32) (u9 : Unit) => r = 0 ∨ r = 1) (gQ0 g A ws) A) ([.ref h0, .int x1] : List Value).toArray s (0) (0) A) (F0 m 26 ls [.int t_2]) := by
    intro t_2 H locs ls iv_3 hP hD hS hl
    have hz_t_2 := iv_3
    refine W.widen (k := 0) (n := 0) (Nat.le_of_ble_eq_true rfl) (Nat.le_of_ble_eq_true rfl) ?_
    exact W.zret (v := t_2) hx hb hr (nz hz_t_2) (fun t9 ht9 hW9 => ⟨⟨_, (), rfl, hz_t_2, ⟨by rw [ht9]; exact hP, hD⟩⟩, hS.F ht9⟩) hS.2.2 dX3_isReached_26
  have J_25 : ∀  (H : Heap) (locs : List Loc) (ls : Array Slot), va_P (gD g) cl0 ws H → va_D A ws → va_S A s.heap H locs → lv_has ls 2 [] → W p l e (headSpec (wt yX3_isReached cX3_isReached 2 (some .boolean)) ({ frames := 0, cells := 0, slots := 0, locals := 0 })).room s m ([.ref h0, .int x1] : List Value).toArray below meth c H locs (0) (0) (MQ below (va_Qi (fun (r : Int32) (u9 : Unit) => r = 0 ∨ r = 1) (gQ0 g A ws) A) ([.ref h0, .int x1] : List Value).toArray s (0) (0) A) (F0 m 25 ls []) := by
    intro  H locs ls  hP hD hS hl
    refine lv_iconst (v := 0) hx hb dX3_isReached_25 (by decide) ?_
    exact J_26 (0) H locs ls (Or.inl rfl) hP hD hS (lv_sub hl [] rfl)
  refine lv_if_lt (tgt := 25) hx hb dX3_isReached_1 (by decide) (fun c_8 => ?_) (fun c_8 => ?_)
  · exact J_25  _ _ ls  hP hD hS (lv_sub hl [] rfl)
  · refine lv_iload_n hx hb dX3_isReached_4 rfl (lv_at hl 1 rfl) ?_
    refine lv_aload_n hx hb dX3_isReached_5 rfl (lv_at hl 0 rfl) ?_
    refine va_get (D := gD g) (ci := 3) (v := .int c1_1) (C := RX3) (T := TX3) (N := 16) hx hb hts inX3 hown hK hP k_1 hk_1 rfl 1 (by decide) (hts _ kw_851) (fun _ h9 => h9) rfl dX3_isReached_6 ?_
    refine lv_icmp_ge (tgt := 25) hx hb dX3_isReached_9 (by decide) (fun c_9 => ?_) (fun c_9 => ?_)
    · exact J_25  _ _ ls  hP hD hS (lv_sub hl [] rfl)
    · refine lv_aload_n hx hb dX3_isReached_12 rfl (lv_at hl 0 rfl) ?_
      refine va_get (D := gD g) (ci := 3) (v := .ref r8_1) (C := RX3) (T := TX3) (N := 16) hx hb hts inX3 hown hK hP k_1 hk_1 rfl 8 (by decide) (hts _ kw_847) (fun _ h9 => h9) rfl dX3_isReached_13 ?_
      refine lv_iload_n hx hb dX3_isReached_16 rfl (lv_at hl 1 rfl) ?_
      obtain ⟨k_10, f_10, hk_10⟩ := gI_of a_r8_1
      refine va_zald hx hb hK hP k_10 2 hk_10 rfl (i_in2 (by have e0 : (0 : Int32).toInt = 0 := (by decide); have q_f14_1 := f14_1; have q_f29_1 := f29_1; have q_f30_1 := f30_1; have q_f31_1 := f31_1; have q_f32_1 := f32_1; have q_f33_1 := f33_1; have q_f34_1 := f34_1; have q_f37_1 := f37_1; have q_fq_k := fq_k; have q_c_8 := i_nlt c_8; have q_c_9 := i_nle c_9; have q_f6_1 := f6_1; have q_f18_1 := f18_1; have q_f20_1 := f20_1; have q_f22_1 := f22_1; have q_f24_1 := f24_1; have q_f26_1 := f26_1; have q_f28_1 := f28_1; have g_c1_1 := i_rg c1_1; have g_x1 := i_rg x1; omega)) dX3_isReached_17 ?_
      refine lv_topi (fun z_11 ez_11 => ?_)
      refine lv_if_eq (tgt := 25) hx hb dX3_isReached_18 (by decide) (fun c_12 => ?_) (fun c_12 => ?_)
      · exact J_25  _ _ ls  hP hD hS (lv_sub hl [] rfl)
      · refine lv_iconst (v := 1) hx hb dX3_isReached_21 (by decide) ?_
        refine lv_goto (tgt := 26) hx hb dX3_isReached_22 (by decide) ?_
        exact J_26 (1) _ _ ls (Or.inr rfl) hP hD hS (lv_sub hl [] rfl)
set_option maxHeartbeats 1000000 in
set_option maxRecDepth 100000 in
theorem m_X3_reachedCount (l : Launch) (g : Gm) (sz : Nat) (ws : va_W) (h0 : Nat) (hG : Good g ws) (o_h0 : gC ws h0 3) (fp_k : gP ws h0 (fun fs => ∀ c : Int32, fs[1]? = some (.int c) → ∀ (rn n : Nat), fs[8]? = some (.ref rn) → gI ws rn g.cZ n → c.toInt ≤ n)) : Met l yX3_reachedCount (wt yX3_reachedCount cX3_reachedCount 3 (some .int)) ({ frames := 0, cells := 0, slots := 0, locals := 0 }) (va_Pc [.ref h0] (st_G g sz ws)) (va_Qi (fun (r : Int32) (u9 : Unit) => True) (gQ0 g (va_A ws sz) ws) (va_A ws sz)) (0) (0) (va_A ws sz) := by
  refine Met.ofW (cc := cX3_reachedCount) (maxL := 3) (ret := (some .int)) (by decide) rfl ?_
  intro p e s m args below meth c s₁ B hml hv
  obtain ⟨rfl, hsz, hP, hK, hD0, hex, hE⟩ := hv
  have hx := B.exec
  have hb := B.bytes
  have hr := B.returns
  have hts0 := atoms_spec (ws := wt yX3_reachedCount cX3_reachedCount 3 (some .int)) B.pre
  have hts : ∀ w ∈ tb, w.before _ s = true := fun w h => hts0 w (List.mem_cons_of_mem _ h)
  have hown : s.vm.findClass RX3 = some m.cls := findClass_of_methodNamed B.named
  subst hsz
  have hD := hD0.self (sz := s.heap.size)
  generalize hAe : va_A ws s.heap.size = A at hD hE ⊢
  have hA : ∀ q : Nat, s.heap.size ≤ q → A q := fun q h => by rw [← hAe]; exact Or.inr h
  have hS : va_S A s.heap s.heap [] := va_S.rf
  have hl := lv_entry ([.ref h0]) (n := 3) (Nat.le_of_ble_eq_true rfl)
  rw [lg_entry_eq]
  generalize (lg_sl ([.ref h0]) ++ List.replicate (3 - (lg_sl ([.ref h0])).length) Slot.unset).toArray = ls at hl ⊢
  have hl : lv_has ls 3 [(0, .ref h0)] := hl
  obtain ⟨k_1, fs9, hk_1⟩ := gC_of o_h0
  obtain ⟨v0_1, c1_1, r2_1, n2_1, r3_1, n3_1, r4_1, n4_1, r5_1, n5_1, r6_1, n6_1, r7_1, n7_1, r8_1, n8_1, r9_1, n9_1, c10_1, r11_1, n11_1, r12_1, n12_1, r13_1, n13_1, r14_1, n14_1, r15_1, n15_1, rfl, o_v0_1, a_r2_1, f2_1, a_r3_1, f4_1, a_r4_1, f6_1, a_r5_1, f8_1, a_r6_1, f10_1, a_r7_1, f12_1, a_r8_1, f14_1, a_r9_1, f16_1, a_r11_1, f18_1, a_r12_1, f20_1, a_r13_1, f22_1, a_r14_1, f24_1, a_r15_1, f26_1, f27_1, f28_1, f29_1, f30_1, f31_1, f32_1, f33_1, f34_1, f35_1, f36_1, f37_1, f38_1, f39_1, f40_1, -⟩ := (hG.1 _ _ _ _ hk_1).hX3 rfl
  have fq_k := fp_k _ _ _ hk_1 _ rfl _ _ rfl a_r8_1
  refine lv_iconst (v := 0) hx hb dX3_reachedCount_0 (by decide) ?_
  refine lv_istore_n (lv' := [(1, .int 0), (0, .ref h0)]) hx hb dX3_reachedCount_1 rfl hl (by decide) rfl (fun ls hl => ?_)
  refine lv_iconst (v := 0) hx hb dX3_reachedCount_2 (by decide) ?_
  refine lv_istore_n (lv' := [(2, .int 0), (1, .int 0), (0, .ref h0)]) hx hb dX3_reachedCount_3 rfl hl (by decide) rfl (fun ls hl => ?_)
  have J_4 : ∀ (n9 : Nat) (v1_2 : Int32) (v2_3 : Int32) (H : Heap) (locs : List Loc) (ls : Array Slot), (2147483647 - v2_3.toInt).toNat = n9 → 0 ≤ v2_3.toInt → va_P (gD g) cl0 ws H → va_D A ws → va_S A s.heap H locs → lv_has ls 3 [(0, .ref h0), (1, .int v1_2), (2, .int v2_3)] → W p l e (headSpec (wt yX3_reachedCount cX3_reachedCount 3 (some .int)) ({ frames := 0, cells := 0, slots := 0, locals := 0 })).room s m ([.ref h0] : List Value).toArray below meth c H locs (0) (0) (MQ below (va_Qi (fun (r : Int32) (u9 : Unit) => True) (gQ0 g A ws) A) ([.ref h0] : List Value).toArray s (0) (0) A) (F0 m 4 ls []) := by
    intro n9
    induction n9 using Nat.strongRecOn with
    | ind n9 ih_4 =>
      intro v1_2 v2_3 H locs ls hm9 iv_4 hP hD hS hl
      subst hm9
      refine lv_iload_n hx hb dX3_reachedCount_4 rfl (lv_at hl 2 rfl) ?_
      refine lv_aload_n hx hb dX3_reachedCount_5 rfl (lv_at hl 0 rfl) ?_
      refine va_get (D := gD g) (ci := 3) (v := .int c1_1) (C := RX3) (T := TX3) (N := 16) hx hb hts inX3 hown hK hP k_1 hk_1 rfl 1 (by decide) (hts _ kw_851) (fun _ h9 => h9) rfl dX3_reachedCount_6 ?_
      refine lv_icmp_ge (tgt := 35) hx hb dX3_reachedCount_9 (by decide) (fun c_7 => ?_) (fun c_7 => ?_)
      · refine lv_iload_n hx hb dX3_reachedCount_35 rfl (lv_at hl 1 rfl) ?_
        refine W.widen (k := 0) (n := 0) (Nat.le_of_ble_eq_true rfl) (Nat.le_of_ble_eq_true rfl) ?_
        exact W.iret (v := v1_2) hx hb hr (fun t9 ht9 hW9 => ⟨⟨_, (), rfl, trivial, ⟨by rw [ht9]; exact hP, hD⟩⟩, hS.F ht9⟩) hS.2.2 dX3_reachedCount_36
      · refine lv_iload_n hx hb dX3_reachedCount_12 rfl (lv_at hl 1 rfl) ?_
        refine lv_aload_n hx hb dX3_reachedCount_13 rfl (lv_at hl 0 rfl) ?_
        refine va_get (D := gD g) (ci := 3) (v := .ref r8_1) (C := RX3) (T := TX3) (N := 16) hx hb hts inX3 hown hK hP k_1 hk_1 rfl 8 (by decide) (hts _ kw_847) (fun _ h9 => h9) rfl dX3_reachedCount_14 ?_
        refine lv_iload_n hx hb dX3_reachedCount_17 rfl (lv_at hl 2 rfl) ?_
        obtain ⟨k_8, f_8, hk_8⟩ := gI_of a_r8_1
        refine va_zald hx hb hK hP k_8 2 hk_8 rfl (i_in2 (by have q_f14_1 := f14_1; have q_f29_1 := f29_1; have q_f30_1 := f30_1; have q_f31_1 := f31_1; have q_f32_1 := f32_1; have q_f33_1 := f33_1; have q_f34_1 := f34_1; have q_f37_1 := f37_1; have q_fq_k := fq_k; have q_iv_4 := iv_4; have q_c_7 := i_nle c_7; have q_f6_1 := f6_1; have q_f18_1 := f18_1; have q_f20_1 := f20_1; have q_f22_1 := f22_1; have q_f24_1 := f24_1; have q_f26_1 := f26_1; have q_f28_1 := f28_1; have g_c1_1 := i_rg c1_1; have g_v2_3 := i_rg v2_3; omega)) dX3_reachedCount_18 ?_
        refine lv_topi (fun z_9 ez_9 => ?_)
        have J_27 : ∀ (t_10 : Int32) (H : Heap) (locs : List Loc) (ls : Array Slot), t_10 = 0 ∨ t_10 = 1 → va_P (gD g) cl0 ws H → va_D A ws → va_S A s.heap H locs → lv_has ls 3 [(0, .ref h0), (2, .int v2_3)] → W p l e (headSpec (wt yX3_reachedCount cX3_reachedCount 3 (some .int)) ({ frames := 0, cells := 0, slots := 0, locals := 0 })).room s m ([.ref h0] : List Value).toArray below meth c H locs (0) (0) (MQ below (va_Qi (fun (r : Int32) (u9 : Unit) => True) (gQ0 g A ws) A) ([.ref h0] : List Value).toArray s (0) (0) A) (F0 m 27 ls [.int t_10, .int v1_2]) := by
          intro t_10 H locs ls iv_11 hP hD hS hl
          have hz_t_10 := iv_11
          refine lv_iadd hx hb dX3_reachedCount_27 ?_
          refine lv_topi (fun z_14 ez_14 => ?_)
          refine lv_istore_n (lv' := [(1, .int z_14), (0, .ref h0), (2, .int v2_3)]) hx hb dX3_reachedCount_28 rfl hl (by decide) rfl (fun ls hl => ?_)
          obtain ⟨z_15, ez_15⟩ : ∃ z : Int32, v2_3 + Int32.ofInt 1 = z := ⟨_, rfl⟩
          refine lv_iinc (v := z_15) (lv' := [(2, .int z_15), (1, .int z_14), (0, .ref h0)]) hx hb dX3_reachedCount_29 hl (k := 2) rfl ez_15 (by decide) rfl (fun ls hl => ?_)
          refine lv_goto (tgt := 4) hx hb dX3_reachedCount_32 (by decide) ?_
          exact ih_4 _ (by obtain ⟨u_z_14, q_z_14⟩ := i_add ez_14; obtain ⟨u_z_15, q_z_15⟩ := i_iz ez_15 (by decide) (by decide); have q_iv_4 := iv_4; have q_c_7 := i_nle c_7; have g_c1_1 := i_rg c1_1; have g_t_10 := i_rg t_10; have g_v1_2 := i_rg v1_2; have g_v2_3 := i_rg v2_3; have g_z_14 := i_rg z_14; have g_z_15 := i_rg z_15; have b_t_10 := i_bit hz_t_10; omega) (z_14) (z_15) H locs ls rfl (by obtain ⟨u_z_15, q_z_15⟩ := i_iz ez_15 (by decide) (by decide); have q_iv_4 := iv_4; have q_c_7 := i_nle c_7; have g_c1_1 := i_rg c1_1; have g_v2_3 := i_rg v2_3; have g_z_15 := i_rg z_15; omega) hP hD hS (lv_sub hl [2, 1, 0] rfl)
        refine lv_if_eq (tgt := 26) hx hb dX3_reachedCount_19 (by decide) (fun c_16 => ?_) (fun c_16 => ?_)
        · refine lv_iconst (v := 0) hx hb dX3_reachedCount_26 (by decide) ?_
          exact J_27 (0) H locs ls (Or.inl rfl) hP hD hS (lv_sub hl [0, 2] rfl)
        · refine lv_iconst (v := 1) hx hb dX3_reachedCount_22 (by decide) ?_
          refine lv_goto (tgt := 27) hx hb dX3_reachedCount_23 (by decide) ?_
          exact J_27 (1) H locs ls (Or.inr rfl) hP hD hS (lv_sub hl [0, 2] rfl)
  exact J_4 _ (0) (0) _ _ ls rfl (by have e0 : (0 : Int32).toInt = 0 := (by decide); omega) hP hD hS (lv_sub hl [2, 1, 0] rfl)
set_option maxHeartbeats 1000000 in
set_option maxRecDepth 100000 in
theorem m_X3_blockAt (l : Launch) (g : Gm) (sz : Nat) (ws : va_W) (h0 : Nat) (x1 : Int32) (hG : Good g ws) (o_h0 : gC ws h0 3) (nn_h0_0 : gN ws h0 0) (fp_s : gP ws h0 (fun fs => ∀ c : Int32, fs[1]? = some (.int c) → ∀ (rn n : Nat), fs[2]? = some (.ref rn) → gI ws rn g.cI n → c.toInt ≤ n)) : Met l yX3_blockAt (wt yX3_blockAt cX3_blockAt 3 (some .int)) ({ frames := 0, cells := 0, slots := 0, locals := 0 }) (va_Pc [.ref h0, .int x1] (st_G g sz ws)) (va_Qi (fun (r : Int32) (u9 : Unit) => True) (gQ0 g (va_A ws sz) ws) (va_A ws sz)) (0) (0) (va_A ws sz) := by
  refine Met.ofW (cc := cX3_blockAt) (maxL := 3) (ret := (some .int)) (by decide) rfl ?_
  intro p e s m args below meth c s₁ B hml hv
  obtain ⟨rfl, hsz, hP, hK, hD0, hex, hE⟩ := hv
  have hx := B.exec
  have hb := B.bytes
  have hr := B.returns
  have hts0 := atoms_spec (ws := wt yX3_blockAt cX3_blockAt 3 (some .int)) B.pre
  have hts : ∀ w ∈ tb, w.before _ s = true := fun w h => hts0 w (List.mem_cons_of_mem _ h)
  have hown : s.vm.findClass RX3 = some m.cls := findClass_of_methodNamed B.named
  subst hsz
  have hD := hD0.self (sz := s.heap.size)
  generalize hAe : va_A ws s.heap.size = A at hD hE ⊢
  have hA : ∀ q : Nat, s.heap.size ≤ q → A q := fun q h => by rw [← hAe]; exact Or.inr h
  have hS : va_S A s.heap s.heap [] := va_S.rf
  have hl := lv_entry ([.ref h0, .int x1]) (n := 3) (Nat.le_of_ble_eq_true rfl)
  rw [lg_entry_eq]
  generalize (lg_sl ([.ref h0, .int x1]) ++ List.replicate (3 - (lg_sl ([.ref h0, .int x1])).length) Slot.unset).toArray = ls at hl ⊢
  have hl : lv_has ls 3 [(0, .ref h0), (1, .int x1)] := hl
  obtain ⟨k_1, fs9, hk_1⟩ := gC_of o_h0
  obtain ⟨v0_1, c1_1, r2_1, n2_1, r3_1, n3_1, r4_1, n4_1, r5_1, n5_1, r6_1, n6_1, r7_1, n7_1, r8_1, n8_1, r9_1, n9_1, c10_1, r11_1, n11_1, r12_1, n12_1, r13_1, n13_1, r14_1, n14_1, r15_1, n15_1, rfl, o_v0_1, a_r2_1, f2_1, a_r3_1, f4_1, a_r4_1, f6_1, a_r5_1, f8_1, a_r6_1, f10_1, a_r7_1, f12_1, a_r8_1, f14_1, a_r9_1, f16_1, a_r11_1, f18_1, a_r12_1, f20_1, a_r13_1, f22_1, a_r14_1, f24_1, a_r15_1, f26_1, f27_1, f28_1, f29_1, f30_1, f31_1, f32_1, f33_1, f34_1, f35_1, f36_1, f37_1, f38_1, f39_1, f40_1, -⟩ := (hG.1 _ _ _ _ hk_1).hX3 rfl
  have fq_s := fp_s _ _ _ hk_1 _ rfl _ _ rfl a_r2_1
  obtain ⟨b_2, hn9⟩ := nn_h0_0 _ _ _ hk_1
  have hn9 := fe_qr hn9
  subst hn9
  have o_b_2 := o_v0_1 _ rfl
  refine lv_iload_n hx hb dX3_blockAt_0 rfl (lv_at hl 1 rfl) ?_
  have J_24 : ∀  (H : Heap) (locs : List Loc) (ls : Array Slot), va_P (gD g) cl0 ws H → va_D A ws → va_S A s.heap H locs → lv_has ls 3 [] → W p l e (headSpec (wt yX3_blockAt cX3_blockAt 3 (some .int)) ({ frames := 0, cells := 0, slots := 0, locals := 0 })).room s m ([.ref h0, .int x1] : List Value).toArray below meth c H locs (0) (0) (MQ below (va_Qi (fun (r : Int32) (u9 : Unit) => True) (gQ0 g A ws) A) ([.ref h0, .int x1] : List Value).toArray s (0) (0) A) (F0 m 24 ls []) := by
    intro  H locs ls  hP hD hS hl
    refine lv_iconst (v := (-1)) hx hb dX3_blockAt_24 (by decide) ?_
    refine W.widen (k := 0) (n := 0) (Nat.le_of_ble_eq_true rfl) (Nat.le_of_ble_eq_true rfl) ?_
    exact W.iret (v := (-1)) hx hb hr (fun t9 ht9 hW9 => ⟨⟨_, (), rfl, trivial, ⟨by rw [ht9]; exact hP, hD⟩⟩, hS.F ht9⟩) hS.2.2 dX3_blockAt_25
  refine lv_if_lt (tgt := 24) hx hb dX3_blockAt_1 (by decide) (fun c_5 => ?_) (fun c_5 => ?_)
  · exact J_24  _ _ ls  hP hD hS (lv_sub hl [] rfl)
  · refine lv_iload_n hx hb dX3_blockAt_4 rfl (lv_at hl 1 rfl) ?_
    refine lv_aload_n hx hb dX3_blockAt_5 rfl (lv_at hl 0 rfl) ?_
    refine va_get (D := gD g) (ci := 3) (v := .ref r3_1) (C := RX3) (T := TX3) (N := 16) hx hb hts inX3 hown hK hP k_1 hk_1 rfl 3 (by decide) (hts _ kw_839) (fun _ h9 => h9) rfl dX3_blockAt_6 ?_
    obtain ⟨k_6, f_6, hk_6⟩ := gI_of a_r3_1
    obtain ⟨z_7, ez_7⟩ : ∃ z : Int32, Int32.ofNat n3_1 = z := ⟨_, rfl⟩
    refine va_alen (v := z_7) hx hb hK hP k_6 1 hk_6 rfl ez_7 dX3_blockAt_9 ?_
    refine lv_icmp_ge (tgt := 24) hx hb dX3_blockAt_10 (by decide) (fun c_8 => ?_) (fun c_8 => ?_)
    · exact J_24  _ _ ls  hP hD hS (lv_sub hl [] rfl)
    · refine lv_iload_n hx hb dX3_blockAt_13 rfl (lv_at hl 1 rfl) ?_
      refine lv_aload_n hx hb dX3_blockAt_14 rfl (lv_at hl 0 rfl) ?_
      refine va_get (D := gD g) (ci := 3) (v := .ref b_2) (C := RX3) (T := TX3) (N := 16) hx hb hts inX3 hown hK hP k_1 hk_1 rfl 0 (by decide) (hts _ kw_836) (fun _ h9 => h9) rfl dX3_blockAt_15 ?_
      obtain ⟨k_9, fs9, hk_9⟩ := gC_of o_b_2
      obtain ⟨r0_9, n0_9, r1_9, n1_9, c2_9, r3_9, n3_9, c4_9, r5_9, n5_9, r6_9, n6_9, r7_9, n7_9, r8_9, n8_9, c9_9, c10_9, c11_9, v12_9, v13_9, v14_9, rfl, a_r0_9, f1_9, a_r1_9, f3_9, a_r3_9, f5_9, a_r5_9, f7_9, a_r6_9, f9_9, a_r7_9, f11_9, a_r8_9, f13_9, o_v12_9, o_v13_9, o_v14_9, f17_9, f18_9, f19_9, f20_9, f21_9, f22_9, f23_9, f24_9, f25_9, f26_9, f27_9, f28_9, f29_9, -⟩ := (hG.1 _ _ _ _ hk_9).hX8 rfl
      refine va_get (D := gD g) (ci := 7) (v := .int c2_9) (C := RX8) (T := TX8) (N := 15) hx hb hts inX8 hown hK hP k_9 hk_9 rfl 2 (by decide) (hts _ kw_837) (fun _ h9 => h9) rfl dX3_blockAt_18 ?_
      refine lv_icmp_lt (tgt := 26) hx hb dX3_blockAt_21 (by decide) (fun c_10 => ?_) (fun c_10 => ?_)
      · refine lv_aload_n hx hb dX3_blockAt_26 rfl (lv_at hl 0 rfl) ?_
        refine va_get (D := gD g) (ci := 3) (v := .ref r3_1) (C := RX3) (T := TX3) (N := 16) hx hb hts inX3 hown hK hP k_1 hk_1 rfl 3 (by decide) (hts _ kw_839) (fun _ h9 => h9) rfl dX3_blockAt_27 ?_
        refine lv_iload_n hx hb dX3_blockAt_30 rfl (lv_at hl 1 rfl) ?_
        refine va_iald hx hb hK hP k_6 1 hk_6 rfl (i_in2 (by have e0 : (0 : Int32).toInt = 0 := (by decide); have q_f4_1 := f4_1; have q_f27_1 := f27_1; have q_f36_1 := f36_1; have q_c_5 := i_nlt c_5; have q_z_7 := i_len ez_7 f4_1; have q_c_8 := i_nle c_8; have q_c_10 := i_lt c_10; have q_f2_1 := f2_1; have q_fq_s := fq_s; have q_f19_9 := f19_9; have q_f20_9 := f20_9; have g_c1_1 := i_rg c1_1; have g_c2_9 := i_rg c2_9; have g_x1 := i_rg x1; have g_z_7 := i_rg z_7; omega)) dX3_blockAt_31 ?_
        refine lv_topi (fun z_11 ez_11 => ?_)
        refine lv_istore_n (lv' := [(2, .int z_11), (0, .ref h0), (1, .int x1)]) hx hb dX3_blockAt_32 rfl hl (by decide) rfl (fun ls hl => ?_)
        refine lv_iload_n hx hb dX3_blockAt_33 rfl (lv_at hl 0 rfl) ?_
        have J_60 : ∀ (t_12 : Int32) (H : Heap) (locs : List Loc) (ls : Array Slot), va_P (gD g) cl0 ws H → va_D A ws → va_S A s.heap H locs → lv_has ls 3 [] → W p l e (headSpec (wt yX3_blockAt cX3_blockAt 3 (some .int)) ({ frames := 0, cells := 0, slots := 0, locals := 0 })).room s m ([.ref h0, .int x1] : List Value).toArray below meth c H locs (0) (0) (MQ below (va_Qi (fun (r : Int32) (u9 : Unit) => True) (gQ0 g A ws) A) ([.ref h0, .int x1] : List Value).toArray s (0) (0) A) (F0 m 60 ls [.int t_12]) := by
          intro t_12 H locs ls  hP hD hS hl
          refine W.widen (k := 0) (n := 0) (Nat.le_of_ble_eq_true rfl) (Nat.le_of_ble_eq_true rfl) ?_
          exact W.iret (v := t_12) hx hb hr (fun t9 ht9 hW9 => ⟨⟨_, (), rfl, trivial, ⟨by rw [ht9]; exact hP, hD⟩⟩, hS.F ht9⟩) hS.2.2 dX3_blockAt_60
        have J_59 : ∀  (H : Heap) (locs : List Loc) (ls : Array Slot), va_P (gD g) cl0 ws H → va_D A ws → va_S A s.heap H locs → lv_has ls 3 [] → W p l e (headSpec (wt yX3_blockAt cX3_blockAt 3 (some .int)) ({ frames := 0, cells := 0, slots := 0, locals := 0 })).room s m ([.ref h0, .int x1] : List Value).toArray below meth c H locs (0) (0) (MQ below (va_Qi (fun (r : Int32) (u9 : Unit) => True) (gQ0 g A ws) A) ([.ref h0, .int x1] : List Value).toArray s (0) (0) A) (F0 m 59 ls []) := by
          intro  H locs ls  hP hD hS hl
          refine lv_iconst (v := (-1)) hx hb dX3_blockAt_59 (by decide) ?_
          exact J_60 ((-1)) H locs ls  hP hD hS (lv_sub hl [] rfl)
        refine lv_if_lt (tgt := 59) hx hb dX3_blockAt_34 (by decide) (fun c_17 => ?_) (fun c_17 => ?_)
        · exact J_59  _ _ ls  hP hD hS (lv_sub hl [] rfl)
        · refine lv_iload_n hx hb dX3_blockAt_37 rfl (lv_at hl 0 rfl) ?_
          refine lv_aload_n hx hb dX3_blockAt_38 rfl (lv_at hl 1 rfl) ?_
          refine va_get (D := gD g) (ci := 3) (v := .int c1_1) (C := RX3) (T := TX3) (N := 16) hx hb hts inX3 hown hK hP k_1 hk_1 rfl 1 (by decide) (hts _ kw_851) (fun _ h9 => h9) rfl dX3_blockAt_39 ?_
          refine lv_icmp_ge (tgt := 59) hx hb dX3_blockAt_42 (by decide) (fun c_18 => ?_) (fun c_18 => ?_)
          · exact J_59  _ _ ls  hP hD hS (lv_sub hl [] rfl)
          · refine lv_aload_n hx hb dX3_blockAt_45 rfl (lv_at hl 1 rfl) ?_
            refine va_get (D := gD g) (ci := 3) (v := .ref r2_1) (C := RX3) (T := TX3) (N := 16) hx hb hts inX3 hown hK hP k_1 hk_1 rfl 2 (by decide) (hts _ kw_862) (fun _ h9 => h9) rfl dX3_blockAt_46 ?_
            refine lv_iload_n hx hb dX3_blockAt_49 rfl (lv_at hl 0 rfl) ?_
            obtain ⟨k_19, f_19, hk_19⟩ := gI_of a_r2_1
            refine va_iald hx hb hK hP k_19 1 hk_19 rfl (i_in2 (by have e0 : (0 : Int32).toInt = 0 := (by decide); have q_f2_1 := f2_1; have q_f27_1 := f27_1; have q_fq_s := fq_s; have q_c_17 := i_nlt c_17; have q_c_18 := i_nle c_18; have q_f4_1 := f4_1; have q_f36_1 := f36_1; have q_z_7 := i_len ez_7 f4_1; have g_c1_1 := i_rg c1_1; have g_z_11 := i_rg z_11; have g_z_7 := i_rg z_7; omega)) dX3_blockAt_50 ?_
            refine lv_topi (fun z_20 ez_20 => ?_)
            refine lv_iload_n hx hb dX3_blockAt_51 rfl (lv_at hl 2 rfl) ?_
            refine lv_icmp_ne (tgt := 59) hx hb dX3_blockAt_52 (by decide) (fun c_21 => ?_) (fun c_21 => ?_)
            · exact J_59  _ _ ls  hP hD hS (lv_sub hl [] rfl)
            · refine lv_iload_n hx hb dX3_blockAt_55 rfl (lv_at hl 0 rfl) ?_
              refine lv_goto (tgt := 60) hx hb dX3_blockAt_56 (by decide) ?_
              exact J_60 (z_11) _ _ ls  hP hD hS (lv_sub hl [] rfl)
      · exact J_24  _ _ ls  hP hD hS (lv_sub hl [] rfl)
set_option maxHeartbeats 1000000 in
set_option maxRecDepth 100000 in
theorem m_X3_lastOf (l : Launch) (g : Gm) (sz : Nat) (ws : va_W) (h0 : Nat) (x1 : Int32) (hG : Good g ws) (o_h0 : gC ws h0 3) (nn_h0_0 : gN ws h0 0) (fp_s : gP ws h0 (fun fs => ∀ c : Int32, fs[1]? = some (.int c) → ∀ (rn n : Nat), fs[2]? = some (.ref rn) → gI ws rn g.cI n → c.toInt ≤ n)) (p0 : 0 ≤ x1.toInt ∧ x1.toInt ≤ 100000) : Met l yX3_lastOf (wt yX3_lastOf cX3_lastOf 2 (some .int)) ({ frames := 0, cells := 0, slots := 0, locals := 0 }) (va_Pc [.ref h0, .int x1] (st_G g sz ws)) (va_Qi (fun (r : Int32) (u9 : Unit) => True) (gQ0 g (va_A ws sz) ws) (va_A ws sz)) (0) (0) (va_A ws sz) := by
  refine Met.ofW (cc := cX3_lastOf) (maxL := 2) (ret := (some .int)) (by decide) rfl ?_
  intro p e s m args below meth c s₁ B hml hv
  obtain ⟨rfl, hsz, hP, hK, hD0, hex, hE⟩ := hv
  have hx := B.exec
  have hb := B.bytes
  have hr := B.returns
  have hts0 := atoms_spec (ws := wt yX3_lastOf cX3_lastOf 2 (some .int)) B.pre
  have hts : ∀ w ∈ tb, w.before _ s = true := fun w h => hts0 w (List.mem_cons_of_mem _ h)
  have hown : s.vm.findClass RX3 = some m.cls := findClass_of_methodNamed B.named
  subst hsz
  have hD := hD0.self (sz := s.heap.size)
  generalize hAe : va_A ws s.heap.size = A at hD hE ⊢
  have hA : ∀ q : Nat, s.heap.size ≤ q → A q := fun q h => by rw [← hAe]; exact Or.inr h
  have hS : va_S A s.heap s.heap [] := va_S.rf
  have hl := lv_entry ([.ref h0, .int x1]) (n := 2) (Nat.le_of_ble_eq_true rfl)
  rw [lg_entry_eq]
  generalize (lg_sl ([.ref h0, .int x1]) ++ List.replicate (2 - (lg_sl ([.ref h0, .int x1])).length) Slot.unset).toArray = ls at hl ⊢
  have hl : lv_has ls 2 [(0, .ref h0), (1, .int x1)] := hl
  obtain ⟨k_1, fs9, hk_1⟩ := gC_of o_h0
  obtain ⟨v0_1, c1_1, r2_1, n2_1, r3_1, n3_1, r4_1, n4_1, r5_1, n5_1, r6_1, n6_1, r7_1, n7_1, r8_1, n8_1, r9_1, n9_1, c10_1, r11_1, n11_1, r12_1, n12_1, r13_1, n13_1, r14_1, n14_1, r15_1, n15_1, rfl, o_v0_1, a_r2_1, f2_1, a_r3_1, f4_1, a_r4_1, f6_1, a_r5_1, f8_1, a_r6_1, f10_1, a_r7_1, f12_1, a_r8_1, f14_1, a_r9_1, f16_1, a_r11_1, f18_1, a_r12_1, f20_1, a_r13_1, f22_1, a_r14_1, f24_1, a_r15_1, f26_1, f27_1, f28_1, f29_1, f30_1, f31_1, f32_1, f33_1, f34_1, f35_1, f36_1, f37_1, f38_1, f39_1, f40_1, -⟩ := (hG.1 _ _ _ _ hk_1).hX3 rfl
  have fq_s := fp_s _ _ _ hk_1 _ rfl _ _ rfl a_r2_1
  obtain ⟨b_2, hn9⟩ := nn_h0_0 _ _ _ hk_1
  have hn9 := fe_qr hn9
  subst hn9
  have o_b_2 := o_v0_1 _ rfl
  refine lv_iload_n hx hb dX3_lastOf_0 rfl (lv_at hl 1 rfl) ?_
  refine lv_iconst (v := 1) hx hb dX3_lastOf_1 (by decide) ?_
  refine lv_iadd hx hb dX3_lastOf_2 ?_
  refine lv_topi (fun z_3 ez_3 => ?_)
  refine lv_aload_n hx hb dX3_lastOf_3 rfl (lv_at hl 0 rfl) ?_
  refine va_get (D := gD g) (ci := 3) (v := .int c1_1) (C := RX3) (T := TX3) (N := 16) hx hb hts inX3 hown hK hP k_1 hk_1 rfl 1 (by decide) (hts _ kw_851) (fun _ h9 => h9) rfl dX3_lastOf_4 ?_
  have J_28 : ∀ (t_4 : Int32) (H : Heap) (locs : List Loc) (ls : Array Slot), va_P (gD g) cl0 ws H → va_D A ws → va_S A s.heap H locs → lv_has ls 2 [] → W p l e (headSpec (wt yX3_lastOf cX3_lastOf 2 (some .int)) ({ frames := 0, cells := 0, slots := 0, locals := 0 })).room s m ([.ref h0, .int x1] : List Value).toArray below meth c H locs (0) (0) (MQ below (va_Qi (fun (r : Int32) (u9 : Unit) => True) (gQ0 g A ws) A) ([.ref h0, .int x1] : List Value).toArray s (0) (0) A) (F0 m 28 ls [.int t_4]) := by
    intro t_4 H locs ls  hP hD hS hl
    refine lv_iconst (v := 1) hx hb dX3_lastOf_28 (by decide) ?_
    refine lv_isub hx hb dX3_lastOf_29 ?_
    refine lv_topi (fun z_7 ez_7 => ?_)
    refine W.widen (k := 0) (n := 0) (Nat.le_of_ble_eq_true rfl) (Nat.le_of_ble_eq_true rfl) ?_
    exact W.iret (v := z_7) hx hb hr (fun t9 ht9 hW9 => ⟨⟨_, (), rfl, trivial, ⟨by rw [ht9]; exact hP, hD⟩⟩, hS.F ht9⟩) hS.2.2 dX3_lastOf_30
  refine lv_icmp_ge (tgt := 21) hx hb dX3_lastOf_7 (by decide) (fun c_8 => ?_) (fun c_8 => ?_)
  · refine lv_aload_n hx hb dX3_lastOf_21 rfl (lv_at hl 0 rfl) ?_
    refine va_get (D := gD g) (ci := 3) (v := .ref b_2) (C := RX3) (T := TX3) (N := 16) hx hb hts inX3 hown hK hP k_1 hk_1 rfl 0 (by decide) (hts _ kw_836) (fun _ h9 => h9) rfl dX3_lastOf_22 ?_
    obtain ⟨k_9, fs9, hk_9⟩ := gC_of o_b_2
    obtain ⟨r0_9, n0_9, r1_9, n1_9, c2_9, r3_9, n3_9, c4_9, r5_9, n5_9, r6_9, n6_9, r7_9, n7_9, r8_9, n8_9, c9_9, c10_9, c11_9, v12_9, v13_9, v14_9, rfl, a_r0_9, f1_9, a_r1_9, f3_9, a_r3_9, f5_9, a_r5_9, f7_9, a_r6_9, f9_9, a_r7_9, f11_9, a_r8_9, f13_9, o_v12_9, o_v13_9, o_v14_9, f17_9, f18_9, f19_9, f20_9, f21_9, f22_9, f23_9, f24_9, f25_9, f26_9, f27_9, f28_9, f29_9, -⟩ := (hG.1 _ _ _ _ hk_9).hX8 rfl
    refine va_get (D := gD g) (ci := 7) (v := .int c2_9) (C := RX8) (T := TX8) (N := 15) hx hb hts inX8 hown hK hP k_9 hk_9 rfl 2 (by decide) (hts _ kw_837) (fun _ h9 => h9) rfl dX3_lastOf_25 ?_
    exact J_28 (c2_9) _ _ ls  hP hD hS (lv_sub hl [] rfl)
  · refine lv_aload_n hx hb dX3_lastOf_10 rfl (lv_at hl 0 rfl) ?_
    refine va_get (D := gD g) (ci := 3) (v := .ref r2_1) (C := RX3) (T := TX3) (N := 16) hx hb hts inX3 hown hK hP k_1 hk_1 rfl 2 (by decide) (hts _ kw_862) (fun _ h9 => h9) rfl dX3_lastOf_11 ?_
    refine lv_iload_n hx hb dX3_lastOf_14 rfl (lv_at hl 1 rfl) ?_
    refine lv_iconst (v := 1) hx hb dX3_lastOf_15 (by decide) ?_
    refine lv_iadd hx hb dX3_lastOf_16 ?_
    refine lv_topi (fun z_10 ez_10 => ?_)
    obtain ⟨k_11, f_11, hk_11⟩ := gI_of a_r2_1
    refine va_iald hx hb hK hP k_11 1 hk_11 rfl (i_in2 (by have e1 : (1 : Int32).toInt = 1 := (by decide); have q_f2_1 := f2_1; have q_f27_1 := f27_1; have q_fq_s := fq_s; obtain ⟨u_z_10, q_z_10⟩ := i_add ez_10; have q_p0 := p0; have q_f4_1 := f4_1; have q_f36_1 := f36_1; obtain ⟨u_z_3, q_z_3⟩ := i_add ez_3; have q_c_8 := i_nle c_8; have g_c1_1 := i_rg c1_1; have g_x1 := i_rg x1; have g_z_10 := i_rg z_10; have g_z_3 := i_rg z_3; omega)) dX3_lastOf_17 ?_
    refine lv_topi (fun z_12 ez_12 => ?_)
    refine lv_goto (tgt := 28) hx hb dX3_lastOf_18 (by decide) ?_
    exact J_28 (z_12) _ _ ls  hP hD hS (lv_sub hl [] rfl)
set_option maxHeartbeats 1000000 in
set_option maxRecDepth 100000 in
theorem m_X3_begin (l : Launch) (g : Gm) (sz : Nat) (ws : va_W) (h0 : Nat) (x1 : Int32) (hG : Good g ws) (o_h0 : gC ws h0 3) (nn_h0_0 : gN ws h0 0) (f2_b : ∀ (k k2 b : Nat) (fs gs : List Value), ows ws k h0 3 fs → fs[0]? = some (.ref b) → ows ws k2 b 7 gs → ∀ c : Int32, gs[2]? = some (.int c) → ∀ (rn n : Nat), fs[3]? = some (.ref rn) → gI ws rn g.cI n → c.toInt ≤ n) : Met l yX3_begin (wt yX3_begin cX3_begin 2 none) ({ frames := 0, cells := 0, slots := 0, locals := 0 }) (va_Pc [.ref h0, .int x1] (st_G g sz ws)) (va_Qv (fun (u9 : va_W) => True) (gQ1 g [] [(3, 3)] none (va_A ws sz) ws) (va_A ws sz)) (0) (0) (va_A ws sz) := by
  refine Met.ofW (cc := cX3_begin) (maxL := 2) (ret := none) (by decide) rfl ?_
  intro p e s m args below meth c s₁ B hml hv
  obtain ⟨rfl, hsz, hP, hK, hD0, hex, hE⟩ := hv
  have hx := B.exec
  have hb := B.bytes
  have hr := B.returns
  have hts0 := atoms_spec (ws := wt yX3_begin cX3_begin 2 none) B.pre
  have hts : ∀ w ∈ tb, w.before _ s = true := fun w h => hts0 w (List.mem_cons_of_mem _ h)
  have hown : s.vm.findClass RX3 = some m.cls := findClass_of_methodNamed B.named
  subst hsz
  have hD := hD0.self (sz := s.heap.size)
  generalize hAe : va_A ws s.heap.size = A at hD hE ⊢
  have hA : ∀ q : Nat, s.heap.size ≤ q → A q := fun q h => by rw [← hAe]; exact Or.inr h
  have hS : va_S A s.heap s.heap [] := va_S.rf
  have hl := lv_entry ([.ref h0, .int x1]) (n := 2) (Nat.le_of_ble_eq_true rfl)
  rw [lg_entry_eq]
  generalize (lg_sl ([.ref h0, .int x1]) ++ List.replicate (2 - (lg_sl ([.ref h0, .int x1])).length) Slot.unset).toArray = ls at hl ⊢
  have hl : lv_has ls 2 [(0, .ref h0), (1, .int x1)] := hl
  obtain ⟨k_1, fs9, hk_1⟩ := gC_of o_h0
  obtain ⟨v0_1, c1_1, r2_1, n2_1, r3_1, n3_1, r4_1, n4_1, r5_1, n5_1, r6_1, n6_1, r7_1, n7_1, r8_1, n8_1, r9_1, n9_1, c10_1, r11_1, n11_1, r12_1, n12_1, r13_1, n13_1, r14_1, n14_1, r15_1, n15_1, rfl, o_v0_1, a_r2_1, f2_1, a_r3_1, f4_1, a_r4_1, f6_1, a_r5_1, f8_1, a_r6_1, f10_1, a_r7_1, f12_1, a_r8_1, f14_1, a_r9_1, f16_1, a_r11_1, f18_1, a_r12_1, f20_1, a_r13_1, f22_1, a_r14_1, f24_1, a_r15_1, f26_1, f27_1, f28_1, f29_1, f30_1, f31_1, f32_1, f33_1, f34_1, f35_1, f36_1, f37_1, f38_1, f39_1, f40_1, -⟩ := (hG.1 _ _ _ _ hk_1).hX3 rfl
  obtain ⟨b_2, hn9⟩ := nn_h0_0 _ _ _ hk_1
  have hn9 := fe_qr hn9
  subst hn9
  have o_b_2 := o_v0_1 _ rfl
  obtain ⟨k_3, fs9, hk_3⟩ := gC_of o_b_2
  obtain ⟨r0_3, n0_3, r1_3, n1_3, c2_3, r3_3, n3_3, c4_3, r5_3, n5_3, r6_3, n6_3, r7_3, n7_3, r8_3, n8_3, c9_3, c10_3, c11_3, v12_3, v13_3, v14_3, rfl, a_r0_3, f1_3, a_r1_3, f3_3, a_r3_3, f5_3, a_r5_3, f7_3, a_r6_3, f9_3, a_r7_3, f11_3, a_r8_3, f13_3, o_v12_3, o_v13_3, o_v14_3, f17_3, f18_3, f19_3, f20_3, f21_3, f22_3, f23_3, f24_3, f25_3, f26_3, f27_3, f28_3, f29_3, -⟩ := (hG.1 _ _ _ _ hk_3).hX8 rfl
  have fq2_b := f2_b _ _ _ _ _ hk_1 rfl hk_3 _ rfl _ _ rfl a_r3_1
  refine lv_iload_n hx hb dX3_begin_0 rfl (lv_at hl 1 rfl) ?_
  have J_22 : ∀ (ws_4 : va_W) (H : Heap) (locs : List Loc) (ls : Array Slot), gE ws ws_4 → gF [] [(3, 3)] none ws ws_4 → Good g ws_4 → va_P (gD g) cl0 ws_4 H → va_D A ws_4 → va_S A s.heap H locs → lv_has ls 2 [] → W p l e (headSpec (wt yX3_begin cX3_begin 2 none) ({ frames := 0, cells := 0, slots := 0, locals := 0 })).room s m ([.ref h0, .int x1] : List Value).toArray below meth c H locs (0) (0) (MQ below (va_Qv (fun (u9 : va_W) => True) (gQ1 g [] [(3, 3)] none A ws) A) ([.ref h0, .int x1] : List Value).toArray s (0) (0) A) (F0 m 22 ls []) := by
    intro ws_4 H locs ls  E_5 Fr_6 hG hP hD hS hl
    have aa_7 := a_r2_1
    have aa_8 := a_r3_1
    have aa_9 := a_r4_1
    have aa_10 := a_r5_1
    have aa_11 := a_r6_1
    have aa_12 := a_r7_1
    have aa_13 := a_r8_1
    have aa_14 := a_r9_1
    have aa_15 := a_r11_1
    have aa_16 := a_r12_1
    have aa_17 := a_r13_1
    have aa_18 := a_r14_1
    have aa_19 := a_r15_1
    have aa_20 := a_r0_3
    have aa_21 := a_r1_3
    have aa_22 := a_r3_3
    have aa_23 := a_r5_3
    have aa_24 := a_r6_3
    have aa_25 := a_r7_3
    have aa_26 := a_r8_3
    have o_h0 := E_5.1 _ _ o_h0
    refine W.widen (k := 0) (n := 0) (Nat.le_of_ble_eq_true rfl) (Nat.le_of_ble_eq_true rfl) ?_
    exact W.vret hx hb hr (fun t9 ht9 hW9 => ⟨⟨ws_4, rfl, trivial, ⟨E_5, Fr_6, hG, by rw [ht9]; exact hP, hD⟩⟩, hS.F ht9⟩) hS.2.2 dX3_begin_22
  refine lv_if_lt (tgt := 22) hx hb dX3_begin_1 (by decide) (fun c_27 => ?_) (fun c_27 => ?_)
  · exact J_22 ws _ _ ls (gE.rf) (gF.rf) hG hP hD hS (lv_sub hl [] rfl)
  · refine lv_iload_n hx hb dX3_begin_4 rfl (lv_at hl 1 rfl) ?_
    refine lv_aload_n hx hb dX3_begin_5 rfl (lv_at hl 0 rfl) ?_
    refine va_get (D := gD g) (ci := 3) (v := .ref b_2) (C := RX3) (T := TX3) (N := 16) hx hb hts inX3 hown hK hP k_1 hk_1 rfl 0 (by decide) (hts _ kw_836) (fun _ h9 => h9) rfl dX3_begin_6 ?_
    refine va_get (D := gD g) (ci := 7) (v := .int c2_3) (C := RX8) (T := TX8) (N := 15) hx hb hts inX8 hown hK hP k_3 hk_3 rfl 2 (by decide) (hts _ kw_837) (fun _ h9 => h9) rfl dX3_begin_9 ?_
    refine lv_icmp_ge (tgt := 22) hx hb dX3_begin_12 (by decide) (fun c_28 => ?_) (fun c_28 => ?_)
    · exact J_22 ws _ _ ls (gE.rf) (gF.rf) hG hP hD hS (lv_sub hl [] rfl)
    · refine lv_aload_n hx hb dX3_begin_15 rfl (lv_at hl 0 rfl) ?_
      refine va_get (D := gD g) (ci := 3) (v := .ref r3_1) (C := RX3) (T := TX3) (N := 16) hx hb hts inX3 hown hK hP k_1 hk_1 rfl 3 (by decide) (hts _ kw_839) (fun _ h9 => h9) rfl dX3_begin_16 ?_
      refine lv_iload_n hx hb dX3_begin_19 rfl (lv_at hl 1 rfl) ?_
      refine lv_iconst (v := 1) hx hb dX3_begin_20 (by decide) ?_
      obtain ⟨k_29, f_29, hk_29⟩ := gI_of a_r3_1
      have hC9 : hol ws r3_1 [(3, 3)] := (hol_u hG.u hk_1 (j := 3) rfl a_r3_1 (by decide))
      have hS9 : holS ws r3_1 none := holS_n
      refine va_iast hx hb hK hP hD hS k_29 1 hk_29 rfl (i_in2 (by have e0 : (0 : Int32).toInt = 0 := (by decide); have q_f4_1 := f4_1; have q_f27_1 := f27_1; have q_f36_1 := f36_1; have q_fq2_b := fq2_b; have q_c_27 := i_nlt c_27; have q_c_28 := i_nle c_28; have q_f2_1 := f2_1; have q_f19_3 := f19_3; have q_f20_3 := f20_3; have g_c2_3 := i_rg c2_3; have g_x1 := i_rg x1; omega)) dX3_begin_21 (fun H locs hP hD hS => ?_)
      obtain ⟨ws_30, e_ws_30⟩ : ∃ z, z = ws.set k_29 (r3_1, .inl (g.cI, n3_1, .inl (upd f_29 (x1 : Int32).toNatClampNeg 1))) := ⟨_, rfl⟩
      have hP : va_P (gD g) cl0 ws_30 H := by rw [e_ws_30]; exact hP
      have hD : va_D A ws_30 := by rw [e_ws_30]; exact hD
      have E_31 : gE ws ws_30 := gE_ari e_ws_30 hk_29
      have hG : Good g ws_30 := Good_arI e_ws_30 hk_29 hG
      have Fr_32 : gF [] [(3, 3)] none ws ws_30 := gF_ar e_ws_30 hk_29 rfl hC9 hS9
      have hk_1 := gset_arO e_ws_30 hk_29 hk_1
      have hk_3 := gset_arO e_ws_30 hk_29 hk_3
      have o_h0 := E_31.1 _ _ o_h0
      have a_r2_1 := E_31.1 _ _ a_r2_1
      have a_r3_1 := E_31.1 _ _ a_r3_1
      have a_r4_1 := E_31.1 _ _ a_r4_1
      have a_r5_1 := E_31.1 _ _ a_r5_1
      have a_r6_1 := E_31.1 _ _ a_r6_1
      have a_r7_1 := E_31.1 _ _ a_r7_1
      have a_r8_1 := E_31.1 _ _ a_r8_1
      have a_r9_1 := E_31.1 _ _ a_r9_1
      have a_r11_1 := E_31.1 _ _ a_r11_1
      have a_r12_1 := E_31.1 _ _ a_r12_1
      have a_r13_1 := E_31.1 _ _ a_r13_1
      have a_r14_1 := E_31.1 _ _ a_r14_1
      have a_r15_1 := E_31.1 _ _ a_r15_1
      have o_b_2 := E_31.1 _ _ o_b_2
      have a_r0_3 := E_31.1 _ _ a_r0_3
      have a_r1_3 := E_31.1 _ _ a_r1_3
      have a_r3_3 := E_31.1 _ _ a_r3_3
      have a_r5_3 := E_31.1 _ _ a_r5_3
      have a_r6_3 := E_31.1 _ _ a_r6_3
      have a_r7_3 := E_31.1 _ _ a_r7_3
      have a_r8_3 := E_31.1 _ _ a_r8_3
      have o_v12_3 : ∀ b, v12_3 = some b → ∃ n, gI ws_30 b g.cB n ∧ n < 2147483648 := fun b h => (o_v12_3 b h).imp (fun n h => ⟨E_31.1 _ _ h.1, h.2⟩)
      have o_v13_3 : ∀ b, v13_3 = some b → ∃ n, gJ ws_30 b g.cL n ∧ n < 2147483648 := fun b h => (o_v13_3 b h).imp (fun n h => ⟨E_31.1 _ _ h.1, h.2⟩)
      have o_v14_3 : ∀ b, v14_3 = some b → ∃ n, gJ ws_30 b g.cL n ∧ n < 2147483648 := fun b h => (o_v14_3 b h).imp (fun n h => ⟨E_31.1 _ _ h.1, h.2⟩)
      exact J_22 ws_30 H locs ls (E_31) (Fr_32) hG hP hD hS (lv_sub hl [] rfl)
