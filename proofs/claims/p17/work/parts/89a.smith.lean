set_option maxHeartbeats 1000000 in
set_option maxRecDepth 100000 in
theorem m_X8_set_z (l : Launch) (g : Gm) (sz : Nat) (ws : va_W) (h0 : Nat) (x1 : Int32) (x2 : Int32) (y3 : Int64) (P9 : (Nat → Int32) → (Nat → Int64) → (Nat → Int32) → Int → Int → Prop) (hG : Good g ws) (o_h0 : gC ws h0 7) (tk0 : rowC ws h0 P9) : Met l yX8_set (wt yX8_set cX8_set 5 none) ({ frames := 0, cells := 0, slots := 0, locals := 0 }) (va_Pc [.ref h0, .int x1, .int x2, .long y3] (st_G g sz ws)) (va_Qv (fun (u9 : va_W) => (True) ∧ (rowC u9 h0 (stQ P9 x1 x2 y3))) (gQ1 g [] [(7, 0), (7, 1)] (some h0) (va_A ws sz) ws) (va_A ws sz)) (0) (0) (va_A ws sz) := by
  refine Met.ofW (cc := cX8_set) (maxL := 5) (ret := none) (by decide) rfl ?_
  intro p e s m args below meth c s₁ B hml hv
  obtain ⟨rfl, hsz, hP, hK, hD0, hex, hE⟩ := hv
  have hx := B.exec
  have hb := B.bytes
  have hr := B.returns
  have hts0 := atoms_spec (ws := wt yX8_set cX8_set 5 none) B.pre
  have hts : ∀ w ∈ tb, w.before _ s = true := fun w h => hts0 w (List.mem_cons_of_mem _ h)
  have hown : s.vm.findClass RX8 = some m.cls := findClass_of_methodNamed B.named
  subst hsz
  have hD := hD0.self (sz := s.heap.size)
  generalize hAe : va_A ws s.heap.size = A at hD hE ⊢
  have hA : ∀ q : Nat, s.heap.size ≤ q → A q := fun q h => by rw [← hAe]; exact Or.inr h
  have hS : va_S A s.heap s.heap [] := va_S.rf
  have hl := lv_entry ([.ref h0, .int x1, .int x2, .long y3]) (n := 5) (Nat.le_of_ble_eq_true rfl)
  rw [lg_entry_eq]
  generalize (lg_sl ([.ref h0, .int x1, .int x2, .long y3]) ++ List.replicate (5 - (lg_sl ([.ref h0, .int x1, .int x2, .long y3])).length) Slot.unset).toArray = ls at hl ⊢
  have hl : lv_has ls 5 [(0, .ref h0), (1, .int x1), (2, .int x2), (3, .long y3)] := hl
  refine lv_iload_n hx hb dX8_set_0 rfl (lv_at hl 1 rfl) ?_
  refine lv_if_lt (tgt := 27) hx hb dX8_set_1 (by decide) (fun c_1 => ?_) (fun c_1 => ?_)
  · have tq_2 : rowC ws h0 (stQ P9 x1 x2 y3) := rowC_im tk0 (fun _ _ _ _ _ w => Or.inl w)
    refine W.widen (k := 0) (n := 0) (Nat.le_of_ble_eq_true rfl) (Nat.le_of_ble_eq_true rfl) ?_
    exact W.vret hx hb hr (fun t9 ht9 hW9 => ⟨⟨ws, rfl, ⟨trivial, tq_2⟩, ⟨gE.rf, gF.rf, hG, by rw [ht9]; exact hP, hD⟩⟩, hS.F ht9⟩) hS.2.2 dX8_set_27
  · refine lv_iload_n hx hb dX8_set_4 rfl (lv_at hl 1 rfl) ?_
    refine lv_aload_n hx hb dX8_set_5 rfl (lv_at hl 0 rfl) ?_
    obtain ⟨k_3, fs9, hk_3⟩ := gC_of o_h0
    refine opn_X8 hG hk_3 (fun r0_3 n0_3 r1_3 n1_3 c2_3 r3_3 n3_3 c4_3 r5_3 n5_3 r6_3 n6_3 r7_3 n7_3 r8_3 n8_3 c9_3 c10_3 c11_3 v12_3 v13_3 v14_3 hf9 a_r0_3 f1_3 a_r1_3 f3_3 a_r3_3 f5_3 a_r5_3 f7_3 a_r6_3 f9_3 a_r7_3 f11_3 a_r8_3 f13_3 o_v12_3 o_v13_3 o_v14_3 f17_3 f18_3 f19_3 f20_3 f21_3 f22_3 f23_3 f24_3 f25_3 f26_3 f27_3 f28_3 f29_3 => ?_)
    subst hf9
    refine va_get (D := gD g) (ci := 7) (v := .ref r0_3) (C := RX8) (T := TX8) (N := 15) hx hb hts inX8 hown hK hP k_3 hk_3 rfl 0 (by decide) (hts _ kw_1460) (fun _ h9 => h9) rfl dX8_set_6 ?_
    obtain ⟨k_4, f_4, hk_4⟩ := gI_of a_r0_3
    obtain ⟨z_5, ez_5⟩ : ∃ z : Int32, Int32.ofNat n0_3 = z := ⟨_, rfl⟩
    refine va_alen (v := z_5) hx hb hK hP k_4 1 hk_4 rfl ez_5 dX8_set_9 ?_
    refine lv_icmp_ge (tgt := 27) hx hb dX8_set_10 (by decide) (fun c_6 => ?_) (fun c_6 => ?_)
    · have tq_7 : rowC ws h0 (stQ P9 x1 x2 y3) := rowC_im tk0 (fun _ _ _ _ _ w => Or.inl w)
      refine W.widen (k := 0) (n := 0) (Nat.le_of_ble_eq_true rfl) (Nat.le_of_ble_eq_true rfl) ?_
      exact W.vret hx hb hr (fun t9 ht9 hW9 => ⟨⟨ws, rfl, ⟨trivial, tq_7⟩, ⟨gE.rf, gF.rf, hG, by rw [ht9]; exact hP, hD⟩⟩, hS.F ht9⟩) hS.2.2 dX8_set_27
    · refine lv_aload_n hx hb dX8_set_13 rfl (lv_at hl 0 rfl) ?_
      refine va_get (D := gD g) (ci := 7) (v := .ref r0_3) (C := RX8) (T := TX8) (N := 15) hx hb hts inX8 hown hK hP k_3 hk_3 rfl 0 (by decide) (hts _ kw_1460) (fun _ h9 => h9) rfl dX8_set_14 ?_
      refine lv_iload_n hx hb dX8_set_17 rfl (lv_at hl 1 rfl) ?_
      refine lv_iload_n hx hb dX8_set_18 rfl (lv_at hl 2 rfl) ?_
      have hfS := hk_4
      have hkS := hk_3
      have hDS := hD
      have hUS := hG.u
      have hC9 : hol ws r0_3 [(7, 0)] := (hol_u hG.u hk_3 (j := 0) rfl a_r0_3 (by decide))
      have hS9 : holS ws r0_3 (some h0) := holS_u hG.u hk_3 (j := 0) rfl a_r0_3
      refine va_iast hx hb hK hP hD hS k_4 1 hk_4 rfl (i_in2 (by first | (have e0 : (0 : Int32).toInt = 0 := (by decide); have q_c_1 := i_nlt c_1; have q_f1_3 := Hide.out f1_3; have q_f17_3 := Hide.out f17_3; have q_f18_3 := Hide.out f18_3; have q_f20_3 := Hide.out f20_3; have q_z_5 := i_len ez_5 f1_3; have q_c_6 := i_nle c_6; have g_c2_3 := i_rg c2_3; have g_x1 := i_rg x1; have g_z_5 := i_rg z_5; omega) | (have e0 : (0 : Int32).toInt = 0 := (by decide); have q_c_1 := i_nlt c_1; have q_f1_3 := Hide.out f1_3; have q_f17_3 := Hide.out f17_3; have q_f18_3 := Hide.out f18_3; have q_f20_3 := Hide.out f20_3; have q_z_5 := i_len ez_5 f1_3; have q_c_6 := i_nle c_6; have q_f3_3 := Hide.out f3_3; have q_f19_3 := Hide.out f19_3; have g_c2_3 := i_rg c2_3; have g_x1 := i_rg x1; have g_z_5 := i_rg z_5; omega))) dX8_set_19 (fun H locs hP hD hS => ?_)
      obtain ⟨ws_8, e_ws_8⟩ : ∃ z, z = ws.set k_4 (r0_3, .inl (g.cI, n0_3, .inl (upd f_4 (x1 : Int32).toNatClampNeg x2))) := ⟨_, rfl⟩
      have hP : va_P (gD g) cl0 ws_8 H := by rw [e_ws_8]; exact hP
      have hD : va_D A ws_8 := by rw [e_ws_8]; exact hD
      have E_9 : gE ws ws_8 := gE_ari e_ws_8 hk_4
      have hG : Good g ws_8 := Good_arI e_ws_8 hk_4 hG
      have Fr_10 : gF [] [(7, 0)] (some h0) ws ws_8 := gF_ar e_ws_8 hk_4 rfl hC9 hS9
      have hk_3 := gset_arO e_ws_8 hk_4 hk_3
      have o_h0 := E_9.1 _ _ o_h0
      have a_r0_3 := E_9.1 _ _ a_r0_3
      have a_r1_3 := E_9.1 _ _ a_r1_3
      have a_r3_3 := E_9.1 _ _ a_r3_3
      have a_r5_3 := E_9.1 _ _ a_r5_3
      have a_r6_3 := E_9.1 _ _ a_r6_3
      have a_r7_3 := E_9.1 _ _ a_r7_3
      have a_r8_3 := E_9.1 _ _ a_r8_3
      have o_v12_3 : ∀ b, v12_3 = some b → ∃ n, gI ws_8 b g.cB n ∧ n < 2147483648 := fun b h => (o_v12_3 b h).imp (fun n h => ⟨E_9.1 _ _ h.1, h.2⟩)
      have o_v13_3 : ∀ b, v13_3 = some b → ∃ n, gJ ws_8 b g.cL n ∧ n < 2147483648 := fun b h => (o_v13_3 b h).imp (fun n h => ⟨E_9.1 _ _ h.1, h.2⟩)
      have o_v14_3 : ∀ b, v14_3 = some b → ∃ n, gJ ws_8 b g.cL n ∧ n < 2147483648 := fun b h => (o_v14_3 b h).imp (fun n h => ⟨E_9.1 _ _ h.1, h.2⟩)
      have tq_11 : rowC ws_8 h0 (stA P9 x1 x2) := rowC_o e_ws_8 hDS hUS hkS rfl hfS tk0 (fun fo _ _ _ _ w => ⟨fo, w, rfl⟩)
      refine lv_aload_n hx hb dX8_set_20 rfl (lv_at hl 0 rfl) ?_
      refine va_get (D := gD g) (ci := 7) (v := .ref r1_3) (C := RX8) (T := TX8) (N := 15) hx hb hts inX8 hown hK hP k_3 hk_3 rfl 1 (by decide) (hts _ kw_1478) (fun _ h9 => h9) rfl dX8_set_21 ?_
      refine lv_iload_n hx hb dX8_set_24 rfl (lv_at hl 1 rfl) ?_
      refine lv_lload_n hx hb dX8_set_25 rfl (lv_at hl 3 rfl) ?_
      obtain ⟨k_12, f_12, hk_12⟩ := gJ_of a_r1_3
      have hfS := hk_12
      have hkS := hk_3
      have hDS := hD
      have hUS := hG.u
      have hC9 : hol ws_8 r1_3 [(7, 1)] := (hol_u hG.u hk_3 (j := 1) rfl a_r1_3 (by decide))
      have hS9 : holS ws_8 r1_3 (some h0) := holS_u hG.u hk_3 (j := 1) rfl a_r1_3
      refine va_last hx hb hK hP hD hS k_12 3 hk_12 rfl (i_in2 (by first | (have e0 : (0 : Int32).toInt = 0 := (by decide); have q_c_1 := i_nlt c_1; have q_f3_3 := Hide.out f3_3; have q_f17_3 := Hide.out f17_3; have q_c_6 := i_nle c_6; have g_x1 := i_rg x1; have g_z_5 := i_rg z_5; omega) | (have e0 : (0 : Int32).toInt = 0 := (by decide); have q_c_1 := i_nlt c_1; have q_f3_3 := Hide.out f3_3; have q_f17_3 := Hide.out f17_3; have q_c_6 := i_nle c_6; have q_f1_3 := Hide.out f1_3; have q_f18_3 := Hide.out f18_3; have q_f20_3 := Hide.out f20_3; have q_z_5 := i_len ez_5 f1_3; have g_c2_3 := i_rg c2_3; have g_x1 := i_rg x1; have g_z_5 := i_rg z_5; omega))) dX8_set_26 (fun H locs hP hD hS => ?_)
      obtain ⟨ws_13, e_ws_13⟩ : ∃ z, z = ws_8.set k_12 (r1_3, .inl (g.cL, n1_3, .inr (.inl (vp_updL f_12 (x1 : Int32).toNatClampNeg y3)))) := ⟨_, rfl⟩
      have hP : va_P (gD g) cl0 ws_13 H := by rw [e_ws_13]; exact hP
      have hD : va_D A ws_13 := by rw [e_ws_13]; exact hD
      have E_14 : gE ws_8 ws_13 := gE_arj e_ws_13 hk_12
      have hG : Good g ws_13 := Good_arj e_ws_13 hk_12 hG
      have Fr_15 : gF [] [(7, 1)] (some h0) ws_8 ws_13 := gF_ar e_ws_13 hk_12 rfl hC9 hS9
      have hk_3 := gset_arO e_ws_13 hk_12 hk_3
      have o_h0 := E_14.1 _ _ o_h0
      have a_r0_3 := E_14.1 _ _ a_r0_3
      have a_r1_3 := E_14.1 _ _ a_r1_3
      have a_r3_3 := E_14.1 _ _ a_r3_3
      have a_r5_3 := E_14.1 _ _ a_r5_3
      have a_r6_3 := E_14.1 _ _ a_r6_3
      have a_r7_3 := E_14.1 _ _ a_r7_3
      have a_r8_3 := E_14.1 _ _ a_r8_3
      have o_v12_3 : ∀ b, v12_3 = some b → ∃ n, gI ws_13 b g.cB n ∧ n < 2147483648 := fun b h => (o_v12_3 b h).imp (fun n h => ⟨E_14.1 _ _ h.1, h.2⟩)
      have o_v13_3 : ∀ b, v13_3 = some b → ∃ n, gJ ws_13 b g.cL n ∧ n < 2147483648 := fun b h => (o_v13_3 b h).imp (fun n h => ⟨E_14.1 _ _ h.1, h.2⟩)
      have o_v14_3 : ∀ b, v14_3 = some b → ∃ n, gJ ws_13 b g.cL n ∧ n < 2147483648 := fun b h => (o_v14_3 b h).imp (fun n h => ⟨E_14.1 _ _ h.1, h.2⟩)
      have tq_16 : rowC ws_13 h0 (stQ P9 x1 x2 y3) := rowC_im (rowC_a e_ws_13 hDS hUS hkS rfl hfS tq_11 (fun _ fa _ _ _ w => (by obtain ⟨fo0, w1, w2⟩ := w; exact ⟨fo0, fa, w1, w2, rfl⟩))) (fun _ _ _ _ _ w => Or.inr w)
      refine W.widen (k := 0) (n := 0) (Nat.le_of_ble_eq_true rfl) (Nat.le_of_ble_eq_true rfl) ?_
      exact W.vret hx hb hr (fun t9 ht9 hW9 => ⟨⟨ws_13, rfl, ⟨trivial, tq_16⟩, ⟨(E_9.tr E_14), (gF.tr (gF.mo (F' := []) (C' := [(7, 0), (7, 1)]) (S' := (some h0)) Fr_10 (fun _ h => h) (by decide) (Or.inr rfl)) (gF.mo (F' := []) (C' := [(7, 0), (7, 1)]) (S' := (some h0)) Fr_15 (fun _ h => h) (by decide) (Or.inr rfl))), hG, by rw [ht9]; exact hP, hD⟩⟩, hS.F ht9⟩) hS.2.2 dX8_set_27
set_option maxHeartbeats 4000000 in
set_option maxRecDepth 100000 in
theorem m_X9_putPush_x (l : Launch) (g : Gm) (sz : Nat) (ws : va_W) (h0 : Nat) (x1 : Int32) (x2 : Int32) (y3 : Int64) (hG : Good g ws) (o_h0 : gC ws h0 8) (tk0 : smR ws h0) : Met l yX9_putPush (wt yX9_putPush cX9_putPush 5 none) ({ frames := 1, cells := 0, slots := 0, locals := 24 }) (va_Pc [.ref h0, .int x1, .int x2, .long y3] (st_G g sz ws)) (va_Qv (fun (u9 : va_W) => (True) ∧ (smR u9 h0) ∧ (KS ws u9 h0)) (gQ1 g [] [(7, 0), (7, 1)] none (va_A ws sz) ws) (va_A ws sz)) (0) (0) (va_A ws sz) := by
  refine Met.ofW (cc := cX9_putPush) (maxL := 5) (ret := none) (by decide) rfl ?_
  intro p e s m args below meth c s₁ B hml hv
  obtain ⟨rfl, hsz, hP, hK, hD0, hex, hE⟩ := hv
  have hx := B.exec
  have hb := B.bytes
  have hr := B.returns
  have hts0 := atoms_spec (ws := wt yX9_putPush cX9_putPush 5 none) B.pre
  have hts : ∀ w ∈ tb, w.before _ s = true := fun w h => hts0 w (List.mem_cons_of_mem _ h)
  have hown : s.vm.findClass RX9 = some m.cls := findClass_of_methodNamed B.named
  subst hsz
  have hD := hD0.self (sz := s.heap.size)
  generalize hAe : va_A ws s.heap.size = A at hD hE ⊢
  have hA : ∀ q : Nat, s.heap.size ≤ q → A q := fun q h => by rw [← hAe]; exact Or.inr h
  have hS : va_S A s.heap s.heap [] := va_S.rf
  have hl := lv_entry ([.ref h0, .int x1, .int x2, .long y3]) (n := 5) (Nat.le_of_ble_eq_true rfl)
  rw [lg_entry_eq]
  generalize (lg_sl ([.ref h0, .int x1, .int x2, .long y3]) ++ List.replicate (5 - (lg_sl ([.ref h0, .int x1, .int x2, .long y3])).length) Slot.unset).toArray = ls at hl ⊢
  have hl : lv_has ls 5 [(0, .ref h0), (1, .int x1), (2, .int x2), (3, .long y3)] := hl
  obtain ⟨k_1, fs9, hk_1⟩ := gC_of o_h0
  refine opn_X9 hG hk_1 (fun r0_1 r1_1 n1_1 r2_1 n2_1 r3_1 n3_1 r4_1 n4_1 r5_1 n5_1 hf9 o_r0_1 a_r1_1 f2_1 a_r2_1 f4_1 a_r3_1 f6_1 a_r4_1 f8_1 a_r5_1 f10_1 f11_1 => ?_)
  subst hf9
  have hkH9 := hk_1
  have hDH9 := hD
  have tq_2 : KR ws ws r0_1 := KR_rf
  refine lv_aload_n hx hb dX9_putPush_0 rfl (lv_at hl 0 rfl) ?_
  refine va_get (D := gD g) (ci := 8) (v := .ref r0_1) (C := RX9) (T := TX9) (N := 6) hx hb hts inX9 hown hK hP k_1 hk_1 rfl 0 (by decide) (hts _ kw_1552) (fun _ h9 => h9) rfl dX9_putPush_1 ?_
  refine lv_iload_n hx hb dX9_putPush_4 rfl (lv_at hl 1 rfl) ?_
  refine lv_iload_n hx hb dX9_putPush_5 rfl (lv_at hl 2 rfl) ?_
  refine lv_iconst (v := 2) hx hb dX9_putPush_6 (by decide) ?_
  have J_17 : ∀ (t_3 : Int32) (H : Heap) (locs : List Loc) (ls : Array Slot), 17 ≤ t_3.toInt ∧ t_3.toInt ≤ 20 → va_P (gD g) cl0 ws H → va_D A ws → va_S A s.heap H locs → lv_has ls 5 [(3, .long y3)] → W p l e (headSpec (wt yX9_putPush cX9_putPush 5 none) ({ frames := 1, cells := 0, slots := 0, locals := 24 })).room s m ([.ref h0, .int x1, .int x2, .long y3] : List Value).toArray below meth c H locs (0) (0) (MQ below (va_Qv (fun (u9 : va_W) => (True) ∧ (smR u9 h0) ∧ (KS ws u9 h0)) (gQ1 g [] [(7, 0), (7, 1)] none A ws) A) ([.ref h0, .int x1, .int x2, .long y3] : List Value).toArray s (0) (0) A) (F0 m 17 ls [.int t_3, .int x1, .ref r0_1]) := by
    intro t_3 H locs ls iv_4 hP hD hS hl
    replace iv_4 := hide iv_4
    refine lv_lload_n hx hb dX9_putPush_17 rfl (lv_at hl 0 rfl) ?_
    have tq_7 : rowC ws r0_1 RW := smR_at hD hk_1 rfl tk0
    have hFc := gfree hD hS hA
    obtain ⟨k_8, fs_8, hk_8⟩ := gC_of o_r0_1
    refine va_callv (va_runV (As := [.int x1, .int t_3, .long y3]) (rest := []) ⟨hx, hb, hml, hown, hts⟩ (m_X8_set_z l g H.size ws r0_1 (x1) (t_3) (y3) RW hG o_r0_1 tq_7) (cwV 3 hts (gd_V kw_1600 kw_1523 kw_1524 kw_782 kw_1522) rfl rfl rfl (by decide +kernel) ⟨Nat.le_of_ble_eq_true rfl, Nat.le_of_ble_eq_true rfl⟩) ⟨gblind, va_recv hK hP (ci := 7) (q0 := k_8) rfl hk_8, fun U hU hW9 => gmk hU hW9 hP hK hD hex hE hS hFc⟩ rfl rfl hl.1 rfl (lv_room (Nat.le_of_ble_eq_true rfl)) dX9_putPush_18 ⟨Nat.le_of_ble_eq_true rfl, Nat.le_of_ble_eq_true rfl⟩) hS (fun q _ h => hFc q h) hFc (fun  ws_9 t9 H1 locs ht9 hvm9 hw9 hB9 hz9 hk9 hS => ?_)
    obtain ⟨E_10, Fr_11, hG, hP1, hD1⟩ := hB9
    have hP : va_P (gD g) cl0 ws_9 H1 := by rw [← ht9]; exact hP1
    have hD : va_D A ws_9 := hD1.weaken (fun _ _ _ h => hFc _ h)
    obtain ⟨hw9, xp_14⟩ := hw9
    clear hP1 hD1 hz9 hk9 hvm9 ht9 hw9
    generalize H1 = H at hP hS ⊢
    have aa_15 := a_r1_1
    have aa_16 := a_r2_1
    have aa_17 := a_r3_1
    have aa_18 := a_r4_1
    have aa_19 := a_r5_1
    have o_h0 := E_10.1 _ _ o_h0
    have tq_20 : KR ws ws_9 r0_1 := KR.tr tq_2 (KR_s Fr_11)
    obtain ⟨fs9, hk_21, hq_21⟩ := ((gF.a (F' := []) Fr_11 (fun _ h => h))) _ _ _ hk_1
    refine opn_X9 hG hk_21 (fun r0_21 r1_21 n1_21 r2_21 n2_21 r3_21 n3_21 r4_21 n4_21 r5_21 n5_21 hf9 o_r0_21 a_r1_21 f2_21 a_r2_21 f4_21 a_r3_21 f6_21 a_r4_21 f8_21 a_r5_21 f10_21 f11_21 => ?_)
    subst hf9
    obtain rfl := fe_r (hq_21 0 (by decide))
    have o_r0_1 := o_r0_21
    obtain rfl := fe_r (hq_21 2 (by decide))
    have hn9 := gI_n hD ((E_10).1 _ _ aa_16) a_r2_21
    subst hn9
    have a_r2_1 := a_r2_21
    obtain rfl := fe_r (hq_21 3 (by decide))
    have hn9 := gI_n hD ((E_10).1 _ _ aa_17) a_r3_21
    subst hn9
    have a_r3_1 := a_r3_21
    obtain rfl := fe_r (hq_21 4 (by decide))
    have hn9 := gI_n hD ((E_10).1 _ _ aa_18) a_r4_21
    subst hn9
    have a_r4_1 := a_r4_21
    obtain rfl := fe_r (hq_21 5 (by decide))
    have hn9 := gI_n hD ((E_10).1 _ _ aa_19) a_r5_21
    subst hn9
    have a_r5_1 := a_r5_21
    have rw_22 : rowC ws_9 r0_1 RW := rowC_im xp_14 (fun _ _ _ _ _ w => sto_rw w (by have q_iv_4 := Hide.out iv_4; have g_t_3 := i_rg t_3; omega))
    have tq_23 : smR ws_9 h0 := ⟨_, r0_1, _, hk_21, rfl, rw_22⟩
    refine W.widen (k := 0) (n := 0) (Nat.le_of_ble_eq_true rfl) (Nat.le_of_ble_eq_true rfl) ?_
    exact W.vret hx hb hr (fun t9 ht9 hW9 => ⟨⟨ws_9, rfl, ⟨trivial, tq_23, KS_of hDH9 hkH9 rfl tq_20⟩, ⟨E_10, (gF.mo (F' := []) (C' := [(7, 0), (7, 1)]) (S' := none) Fr_11 (fun _ h => h) (fun _ h => h) (Or.inl rfl)), hG, by rw [ht9]; exact hP, hD⟩⟩, hS.F ht9⟩) hS.2.2 dX9_putPush_21
  refine lv_icmp_ne (tgt := 15) hx hb dX9_putPush_7 (by decide) (fun c_24 => ?_) (fun c_24 => ?_)
  · refine lv_bipush (v := 17) hx hb dX9_putPush_15 (by decide) ?_
    exact J_17 (17) _ _ ls (by have e2 : (2 : Int32).toInt = 2 := (by decide); have e17 : (17 : Int32).toInt = 17 := (by decide); have q_c_24 := i_ne c_24; have g_x1 := i_rg x1; have g_x2 := i_rg x2; omega) hP hD hS (lv_sub hl [3] rfl)
  · refine lv_bipush (v := 20) hx hb dX9_putPush_10 (by decide) ?_
    refine lv_goto (tgt := 17) hx hb dX9_putPush_12 (by decide) ?_
    exact J_17 (20) _ _ ls (by have e2 : (2 : Int32).toInt = 2 := (by decide); have e20 : (20 : Int32).toInt = 20 := (by decide); have q_c_24 := i_eq c_24; have g_x1 := i_rg x1; have g_x2 := i_rg x2; omega) hP hD hS (lv_sub hl [3] rfl)
set_option maxHeartbeats 4000000 in
set_option maxRecDepth 100000 in
theorem m_X9_isDropped_x (l : Launch) (g : Gm) (sz : Nat) (ws : va_W) (h0 : Nat) (x1 : Int32) (x2 : Int32) (hG : Good g ws) (o_h0 : gC ws h0 8) (tk0 : smR ws h0) (px : x1.toInt ≤ 100000) (pn : x2.toInt ≤ 3) : Met l yX9_isDropped (wt yX9_isDropped cX9_isDropped 3 (some .boolean)) ({ frames := 3, cells := 0, slots := 0, locals := 74 }) (va_Pc [.ref h0, .int x1, .int x2] (st_G g sz ws)) (va_Qi (fun (r : Int32) (u9 : va_W) => (r = 0 ∨ r = 1) ∧ (smR u9 h0) ∧ (KS ws u9 h0)) (gQ1 g [(7, 2), (7, 9)] [(7, 0), (7, 1), (7, 3), (7, 5), (7, 6), (7, 7), (7, 8)] none (va_A ws sz) ws) (va_A ws sz)) (0) (0) (va_A ws sz) := by
  refine Met.ofW (cc := cX9_isDropped) (maxL := 3) (ret := (some .boolean)) (by decide) rfl ?_
  intro p e s m args below meth c s₁ B hml hv
  obtain ⟨rfl, hsz, hP, hK, hD0, hex, hE⟩ := hv
  have hx := B.exec
  have hb := B.bytes
  have hr := B.returns
  have hts0 := atoms_spec (ws := wt yX9_isDropped cX9_isDropped 3 (some .boolean)) B.pre
  have hts : ∀ w ∈ tb, w.before _ s = true := fun w h => hts0 w (List.mem_cons_of_mem _ h)
  have hown : s.vm.findClass RX9 = some m.cls := findClass_of_methodNamed B.named
  subst hsz
  have hD := hD0.self (sz := s.heap.size)
  generalize hAe : va_A ws s.heap.size = A at hD hE ⊢
  have hA : ∀ q : Nat, s.heap.size ≤ q → A q := fun q h => by rw [← hAe]; exact Or.inr h
  have hS : va_S A s.heap s.heap [] := va_S.rf
  have hl := lv_entry ([.ref h0, .int x1, .int x2]) (n := 3) (Nat.le_of_ble_eq_true rfl)
  rw [lg_entry_eq]
  generalize (lg_sl ([.ref h0, .int x1, .int x2]) ++ List.replicate (3 - (lg_sl ([.ref h0, .int x1, .int x2])).length) Slot.unset).toArray = ls at hl ⊢
  replace px := hide px
  replace pn := hide pn
  have hl : lv_has ls 3 [(0, .ref h0), (1, .int x1), (2, .int x2)] := hl
  obtain ⟨k_1, fs9, hk_1⟩ := gC_of o_h0
  refine opn_X9 hG hk_1 (fun r0_1 r1_1 n1_1 r2_1 n2_1 r3_1 n3_1 r4_1 n4_1 r5_1 n5_1 hf9 o_r0_1 a_r1_1 f2_1 a_r2_1 f4_1 a_r3_1 f6_1 a_r4_1 f8_1 a_r5_1 f10_1 f11_1 => ?_)
  subst hf9
  have hkH9 := hk_1
  have hDH9 := hD
  have tq_2 : KR ws ws r0_1 := KR_rf
  refine lv_aload_n hx hb dX9_isDropped_0 rfl (lv_at hl 0 rfl) ?_
  refine va_get (D := gD g) (ci := 8) (v := .ref r0_1) (C := RX9) (T := TX9) (N := 6) hx hb hts inX9 hown hK hP k_1 hk_1 rfl 0 (by decide) (hts _ kw_1552) (fun _ h9 => h9) rfl dX9_isDropped_1 ?_
  refine lv_iload_n hx hb dX9_isDropped_4 rfl (lv_at hl 1 rfl) ?_
  refine lv_iload_n hx hb dX9_isDropped_5 rfl (lv_at hl 2 rfl) ?_
  have tq_3 : rowC ws r0_1 RW := smR_at hD hk_1 rfl tk0
  have hFc := gfree hD hS hA
  obtain ⟨k_4, fs_4, hk_4⟩ := gC_of o_r0_1
  refine va_callv (va_runV (As := [.int x1, .int x2]) (rest := []) ⟨hx, hb, hml, hown, hts⟩ (m_X8_remove_y l g s.heap.size ws r0_1 (x1) (x2) hG o_r0_1 tq_3 (by have q_px := Hide.out px; have g_x1 := i_rg x1; omega) (by have q_pn := Hide.out pn; have g_x2 := i_rg x2; omega)) (cwV 2 hts (gd_V kw_1555 kw_1516 kw_1517 kw_782 kw_1515) rfl rfl rfl (by decide +kernel) ⟨Nat.le_of_ble_eq_true rfl, Nat.le_of_ble_eq_true rfl⟩) ⟨gblind, va_recv hK hP (ci := 7) (q0 := k_4) rfl hk_4, fun U hU hW9 => gmk hU hW9 hP hK hD hex hE hS hFc⟩ rfl rfl hl.1 rfl (lv_room (Nat.le_of_ble_eq_true rfl)) dX9_isDropped_6 ⟨Nat.le_of_ble_eq_true rfl, Nat.le_of_ble_eq_true rfl⟩) hS (fun q _ h => hFc q h) hFc (fun  ws_5 t9 H1 locs ht9 hvm9 hw9 hB9 hz9 hk9 hS => ?_)
  obtain ⟨E_6, Fr_7, hG, hP1, hD1⟩ := hB9
  have hP : va_P (gD g) cl0 ws_5 H1 := by rw [← ht9]; exact hP1
  have hD : va_D A ws_5 := hD1.weaken (fun _ _ _ h => hFc _ h)
  obtain ⟨hw9, xp_10⟩ := hw9
  clear hP1 hD1 hz9 hk9 hvm9 ht9 hw9
  generalize H1 = H at hP hS ⊢
  have aa_11 := a_r1_1
  have aa_12 := a_r2_1
  have aa_13 := a_r3_1
  have aa_14 := a_r4_1
  have aa_15 := a_r5_1
  have o_h0 := E_6.1 _ _ o_h0
  have tq_16 : KR ws ws_5 r0_1 := KR.tr tq_2 (KR_s Fr_7)
  obtain ⟨fs9, hk_17, hq_17⟩ := ((gF.a (F' := [(7, 2), (7, 9)]) Fr_7 (fun _ h => h))) _ _ _ hk_1
  refine opn_X9 hG hk_17 (fun r0_17 r1_17 n1_17 r2_17 n2_17 r3_17 n3_17 r4_17 n4_17 r5_17 n5_17 hf9 o_r0_17 a_r1_17 f2_17 a_r2_17 f4_17 a_r3_17 f6_17 a_r4_17 f8_17 a_r5_17 f10_17 f11_17 => ?_)
  subst hf9
  obtain rfl := fe_r (hq_17 0 (by decide))
  have o_r0_1 := o_r0_17
  obtain rfl := fe_r (hq_17 2 (by decide))
  have hn9 := gI_n hD ((E_6).1 _ _ aa_12) a_r2_17
  subst hn9
  have a_r2_1 := a_r2_17
  obtain rfl := fe_r (hq_17 3 (by decide))
  have hn9 := gI_n hD ((E_6).1 _ _ aa_13) a_r3_17
  subst hn9
  have a_r3_1 := a_r3_17
  obtain rfl := fe_r (hq_17 4 (by decide))
  have hn9 := gI_n hD ((E_6).1 _ _ aa_14) a_r4_17
  subst hn9
  have a_r4_1 := a_r4_17
  obtain rfl := fe_r (hq_17 5 (by decide))
  have hn9 := gI_n hD ((E_6).1 _ _ aa_15) a_r5_17
  subst hn9
  have a_r5_1 := a_r5_17
  have tq_18 : smR ws_5 h0 := ⟨_, r0_1, _, hk_17, rfl, xp_10⟩
  refine lv_iconst (v := 1) hx hb dX9_isDropped_9 (by decide) ?_
  refine W.widen (k := 0) (n := 0) (Nat.le_of_ble_eq_true rfl) (Nat.le_of_ble_eq_true rfl) ?_
  exact W.zret (v := 1) hx hb hr (nz (Or.inr rfl)) (fun t9 ht9 hW9 => ⟨⟨_, ws_5, rfl, ⟨(Or.inr rfl), tq_18, KS_of hDH9 hkH9 rfl tq_16⟩, ⟨E_6, (gF.mo (F' := [(7, 2), (7, 9)]) (C' := [(7, 0), (7, 1), (7, 3), (7, 5), (7, 6), (7, 7), (7, 8)]) (S' := none) Fr_7 (fun _ h => h) (fun _ h => h) (Or.inl rfl)), hG, by rw [ht9]; exact hP, hD⟩⟩, hS.F ht9⟩) hS.2.2 dX9_isDropped_10
set_option maxHeartbeats 4000000 in
set_option maxRecDepth 100000 in
theorem m_X9_isRedirected_x (l : Launch) (g : Gm) (sz : Nat) (ws : va_W) (h0 : Nat) (x1 : Int32) (hG : Good g ws) (o_h0 : gC ws h0 8) (tk0 : smR ws h0) : Met l yX9_isRedirected (wt yX9_isRedirected cX9_isRedirected 6 (some .boolean)) ({ frames := 2, cells := 0, slots := 0, locals := 48 }) (va_Pc [.ref h0, .int x1] (st_G g sz ws)) (va_Qi (fun (r : Int32) (u9 : va_W) => (r = 0 ∨ r = 1) ∧ (smR u9 h0) ∧ (KS ws u9 h0)) (gQ1 g [] [(7, 0), (7, 1), (7, 3)] none (va_A ws sz) ws) (va_A ws sz)) (0) (0) (va_A ws sz) := by
  refine Met.ofW (cc := cX9_isRedirected) (maxL := 6) (ret := (some .boolean)) (by decide) rfl ?_
  intro p e s m args below meth c s₁ B hml hv
  obtain ⟨rfl, hsz, hP, hK, hD0, hex, hE⟩ := hv
  have hx := B.exec
  have hb := B.bytes
  have hr := B.returns
  have hts0 := atoms_spec (ws := wt yX9_isRedirected cX9_isRedirected 6 (some .boolean)) B.pre
  have hts : ∀ w ∈ tb, w.before _ s = true := fun w h => hts0 w (List.mem_cons_of_mem _ h)
  have hown : s.vm.findClass RX9 = some m.cls := findClass_of_methodNamed B.named
  subst hsz
  have hD := hD0.self (sz := s.heap.size)
  generalize hAe : va_A ws s.heap.size = A at hD hE ⊢
  have hA : ∀ q : Nat, s.heap.size ≤ q → A q := fun q h => by rw [← hAe]; exact Or.inr h
  have hS : va_S A s.heap s.heap [] := va_S.rf
  have hl := lv_entry ([.ref h0, .int x1]) (n := 6) (Nat.le_of_ble_eq_true rfl)
  rw [lg_entry_eq]
  generalize (lg_sl ([.ref h0, .int x1]) ++ List.replicate (6 - (lg_sl ([.ref h0, .int x1])).length) Slot.unset).toArray = ls at hl ⊢
  have hl : lv_has ls 6 [(0, .ref h0), (1, .int x1)] := hl
  obtain ⟨k_1, fs9, hk_1⟩ := gC_of o_h0
  refine opn_X9 hG hk_1 (fun r0_1 r1_1 n1_1 r2_1 n2_1 r3_1 n3_1 r4_1 n4_1 r5_1 n5_1 hf9 o_r0_1 a_r1_1 f2_1 a_r2_1 f4_1 a_r3_1 f6_1 a_r4_1 f8_1 a_r5_1 f10_1 f11_1 => ?_)
  subst hf9
  have hkH9 := hk_1
  have hDH9 := hD
  have tq_2 : KR ws ws r0_1 := KR_rf
  refine lv_aload_n hx hb dX9_isRedirected_0 rfl (lv_at hl 0 rfl) ?_
  refine va_get (D := gD g) (ci := 8) (v := .ref r0_1) (C := RX9) (T := TX9) (N := 6) hx hb hts inX9 hown hK hP k_1 hk_1 rfl 0 (by decide) (hts _ kw_1552) (fun _ h9 => h9) rfl dX9_isRedirected_1 ?_
  refine lv_iload_n hx hb dX9_isRedirected_4 rfl (lv_at hl 1 rfl) ?_
  have hFc := gfree hD hS hA
  obtain ⟨k_3, fs_3, hk_3⟩ := gC_of o_r0_1
  refine va_calli (va_runV (As := [.int x1]) (rest := []) ⟨hx, hb, hml, hown, hts⟩ (m_X8_targetCount_z l g s.heap.size ws r0_1 (x1) hG o_r0_1) (cwV 1 hts (gd_V kw_1567 kw_1541 kw_1542 kw_782 kw_1540) rfl rfl rfl (by decide +kernel) ⟨Nat.le_of_ble_eq_true rfl, Nat.le_of_ble_eq_true rfl⟩) ⟨gblind, va_recv hK hP (ci := 7) (q0 := k_3) rfl hk_3, fun U hU hW9 => gmk hU hW9 hP hK hD hex hE hS hFc⟩ rfl rfl hl.1 rfl (lv_room (Nat.le_of_ble_eq_true rfl)) dX9_isRedirected_5 ⟨Nat.le_of_ble_eq_true rfl, Nat.le_of_ble_eq_true rfl⟩) hS (fun q _ h => hFc q h) hFc (fun r_4 u9 t9 H1 locs ht9 hvm9 hw9 hB9 hz9 hk9 hS => ?_)
  have hP : va_P (gD g) cl0 ws H1 := by rw [← ht9]; exact hB9.1
  obtain ⟨hw9, xp_5⟩ := hw9
  clear hB9 hz9 hk9 hvm9 ht9 hw9
  generalize H1 = H at hP hS ⊢
  refine lv_istore_n (lv' := [(2, .int r_4), (0, .ref h0), (1, .int x1)]) hx hb dX9_isRedirected_8 rfl hl (by decide) rfl (fun ls hl => ?_)
  refine lv_iconst (v := 0) hx hb dX9_isRedirected_9 (by decide) ?_
  refine lv_istore_n (lv' := [(3, .int 0), (2, .int r_4), (0, .ref h0), (1, .int x1)]) hx hb dX9_isRedirected_10 rfl hl (by decide) rfl (fun ls hl => ?_)
  have J_11 : ∀ (n9 : Nat) (v3_6 : Int32) (H : Heap) (locs : List Loc) (ls : Array Slot), (2147483647 - v3_6.toInt).toNat = n9 → 0 ≤ v3_6.toInt → va_P (gD g) cl0 ws H → va_D A ws → va_S A s.heap H locs → lv_has ls 6 [(0, .ref h0), (1, .int x1), (2, .int r_4), (3, .int v3_6)] → W p l e (headSpec (wt yX9_isRedirected cX9_isRedirected 6 (some .boolean)) ({ frames := 2, cells := 0, slots := 0, locals := 48 })).room s m ([.ref h0, .int x1] : List Value).toArray below meth c H locs (0) (0) (MQ below (va_Qi (fun (r : Int32) (u9 : va_W) => (r = 0 ∨ r = 1) ∧ (smR u9 h0) ∧ (KS ws u9 h0)) (gQ1 g [] [(7, 0), (7, 1), (7, 3)] none A ws) A) ([.ref h0, .int x1] : List Value).toArray s (0) (0) A) (F0 m 11 ls []) := by
    intro n9
    induction n9 using Nat.strongRecOn with
    | ind n9 ih_11 =>
      intro v3_6 H locs ls hm9 iv_7 hP hD hS hl
      subst hm9
      replace iv_7 := hide iv_7
      refine lv_iload_n hx hb dX9_isRedirected_11 rfl (lv_at hl 3 rfl) ?_
      refine lv_iload_n hx hb dX9_isRedirected_12 rfl (lv_at hl 2 rfl) ?_
      refine lv_icmp_ge (tgt := 123) hx hb dX9_isRedirected_13 (by decide) (fun c_10 => ?_) (fun c_10 => ?_)
      · refine lv_iconst (v := 0) hx hb dX9_isRedirected_123 (by decide) ?_
        refine W.widen (k := 0) (n := 0) (Nat.le_of_ble_eq_true rfl) (Nat.le_of_ble_eq_true rfl) ?_
        exact W.zret (v := 0) hx hb hr (nz (Or.inl rfl)) (fun t9 ht9 hW9 => ⟨⟨_, ws, rfl, ⟨(Or.inl rfl), tk0, KS_of hDH9 hkH9 rfl tq_2⟩, ⟨gE.rf, gF.rf, hG, by rw [ht9]; exact hP, hD⟩⟩, hS.F ht9⟩) hS.2.2 dX9_isRedirected_124
      · refine lv_aload_n hx hb dX9_isRedirected_16 rfl (lv_at hl 0 rfl) ?_
        refine va_get (D := gD g) (ci := 8) (v := .ref r0_1) (C := RX9) (T := TX9) (N := 6) hx hb hts inX9 hown hK hP k_1 hk_1 rfl 0 (by decide) (hts _ kw_1552) (fun _ h9 => h9) rfl dX9_isRedirected_17 ?_
        refine lv_iload_n hx hb dX9_isRedirected_20 rfl (lv_at hl 1 rfl) ?_
        refine lv_iload_n hx hb dX9_isRedirected_21 rfl (lv_at hl 3 rfl) ?_
        have hFc := gfree hD hS hA
        obtain ⟨k_11, fs_11, hk_11⟩ := gC_of o_r0_1
        refine va_calli (va_runV (As := [.int x1, .int v3_6]) (rest := []) ⟨hx, hb, hml, hown, hts⟩ (m_X8_targetAt l g H.size ws r0_1 (x1) (v3_6) hG o_r0_1) (cwV 2 hts (gd_V kw_1568 kw_1537 kw_1538 kw_782 kw_1536) rfl rfl rfl (by decide +kernel) ⟨Nat.le_of_ble_eq_true rfl, Nat.le_of_ble_eq_true rfl⟩) ⟨gblind, va_recv hK hP (ci := 7) (q0 := k_11) rfl hk_11, fun U hU hW9 => gmk hU hW9 hP hK hD hex hE hS hFc⟩ rfl rfl hl.1 rfl (lv_room (Nat.le_of_ble_eq_true rfl)) dX9_isRedirected_22 ⟨Nat.le_of_ble_eq_true rfl, Nat.le_of_ble_eq_true rfl⟩) hS (fun q _ h => hFc q h) hFc (fun r_12 u9 t9 H1 locs ht9 hvm9 hw9 hB9 hz9 hk9 hS => ?_)
        have hP : va_P (gD g) cl0 ws H1 := by rw [← ht9]; exact hB9.1
        clear hB9 hz9 hk9 hvm9 ht9 hw9
        generalize H1 = H at hP hS ⊢
        refine lv_istore (lv' := [(4, .int r_12), (0, .ref h0), (1, .int x1), (2, .int r_4), (3, .int v3_6)]) hx hb dX9_isRedirected_25 hl (by decide) rfl (fun ls hl => ?_)
        refine lv_iconst (v := 0) hx hb dX9_isRedirected_27 (by decide) ?_
        refine lv_istore (lv' := [(5, .int 0), (4, .int r_12), (0, .ref h0), (1, .int x1), (2, .int r_4), (3, .int v3_6)]) hx hb dX9_isRedirected_28 hl (by decide) rfl (fun ls hl => ?_)
        have J_30 : ∀ (n9 : Nat) (v4_13 : Int32) (v5_14 : Int32) (H : Heap) (locs : List Loc) (ls : Array Slot), (2147483647 - v5_14.toInt).toNat = n9 → 0 ≤ v5_14.toInt → va_P (gD g) cl0 ws H → va_D A ws → va_S A s.heap H locs → lv_has ls 6 [(0, .ref h0), (1, .int x1), (2, .int r_4), (3, .int v3_6), (4, .int v4_13), (5, .int v5_14)] → W p l e (headSpec (wt yX9_isRedirected cX9_isRedirected 6 (some .boolean)) ({ frames := 2, cells := 0, slots := 0, locals := 48 })).room s m ([.ref h0, .int x1] : List Value).toArray below meth c H locs (0) (0) (MQ below (va_Qi (fun (r : Int32) (u9 : va_W) => (r = 0 ∨ r = 1) ∧ (smR u9 h0) ∧ (KS ws u9 h0)) (gQ1 g [] [(7, 0), (7, 1), (7, 3)] none A ws) A) ([.ref h0, .int x1] : List Value).toArray s (0) (0) A) (F0 m 30 ls []) := by
          intro n9
          induction n9 using Nat.strongRecOn with
          | ind n9 ih_30 =>
            intro v4_13 v5_14 H locs ls hm9 iv_15 hP hD hS hl
            subst hm9
            replace iv_15 := hide iv_15
            refine lv_aload_n hx hb dX9_isRedirected_30 rfl (lv_at hl 0 rfl) ?_
            refine va_get (D := gD g) (ci := 8) (v := .ref r0_1) (C := RX9) (T := TX9) (N := 6) hx hb hts inX9 hown hK hP k_1 hk_1 rfl 0 (by decide) (hts _ kw_1552) (fun _ h9 => h9) rfl dX9_isRedirected_31 ?_
            refine lv_iload hx hb dX9_isRedirected_34 (lv_at hl 4 rfl) ?_
            have hFc := gfree hD hS hA
            obtain ⟨k_18, fs_18, hk_18⟩ := gC_of o_r0_1
            refine va_calli (va_runV (As := [.int v4_13]) (rest := []) ⟨hx, hb, hml, hown, hts⟩ (m_X8_opAt_x l g H.size ws r0_1 (v4_13) hG o_r0_1) (cwV 1 hts (gd_V kw_1596 kw_1513 kw_1514 kw_782 kw_1512) rfl rfl rfl (by decide +kernel) ⟨Nat.le_of_ble_eq_true rfl, Nat.le_of_ble_eq_true rfl⟩) ⟨gblind, va_recv hK hP (ci := 7) (q0 := k_18) rfl hk_18, fun U hU hW9 => gmk hU hW9 hP hK hD hex hE hS hFc⟩ rfl rfl hl.1 rfl (lv_room (Nat.le_of_ble_eq_true rfl)) dX9_isRedirected_36 ⟨Nat.le_of_ble_eq_true rfl, Nat.le_of_ble_eq_true rfl⟩) hS (fun q _ h => hFc q h) hFc (fun r_19 u9 t9 H1 locs ht9 hvm9 hw9 hB9 hz9 hk9 hS => ?_)
            have hP : va_P (gD g) cl0 ws H1 := by rw [← ht9]; exact hB9.1
            obtain ⟨hw9, xp_20⟩ := hw9
            clear hB9 hz9 hk9 hvm9 ht9 hw9
            generalize H1 = H at hP hS ⊢
            refine lv_sipush (v := 167) hx hb dX9_isRedirected_39 (by decide) ?_
            have J_75 : ∀  (H : Heap) (locs : List Loc) (ls : Array Slot), va_P (gD g) cl0 ws H → va_D A ws → va_S A s.heap H locs → lv_has ls 6 [(0, .ref h0), (1, .int x1), (2, .int r_4), (3, .int v3_6), (4, .int v4_13)] → W p l e (headSpec (wt yX9_isRedirected cX9_isRedirected 6 (some .boolean)) ({ frames := 2, cells := 0, slots := 0, locals := 48 })).room s m ([.ref h0, .int x1] : List Value).toArray below meth c H locs (0) (0) (MQ below (va_Qi (fun (r : Int32) (u9 : va_W) => (r = 0 ∨ r = 1) ∧ (smR u9 h0) ∧ (KS ws u9 h0)) (gQ1 g [] [(7, 0), (7, 1), (7, 3)] none A ws) A) ([.ref h0, .int x1] : List Value).toArray s (0) (0) A) (F0 m 75 ls []) := by
              intro  H locs ls  hP hD hS hl
              refine lv_iload hx hb dX9_isRedirected_75 (lv_at hl 4 rfl) ?_
              refine lv_aload_n hx hb dX9_isRedirected_77 rfl (lv_at hl 0 rfl) ?_
              refine va_get (D := gD g) (ci := 8) (v := .ref r0_1) (C := RX9) (T := TX9) (N := 6) hx hb hts inX9 hown hK hP k_1 hk_1 rfl 0 (by decide) (hts _ kw_1552) (fun _ h9 => h9) rfl dX9_isRedirected_78 ?_
              refine lv_iload_n hx hb dX9_isRedirected_81 rfl (lv_at hl 1 rfl) ?_
              refine lv_iload_n hx hb dX9_isRedirected_82 rfl (lv_at hl 3 rfl) ?_
              have hFc := gfree hD hS hA
              obtain ⟨k_23, fs_23, hk_23⟩ := gC_of o_r0_1
              refine va_calli (va_runV (As := [.int x1, .int v3_6]) (rest := [.int v4_13]) ⟨hx, hb, hml, hown, hts⟩ (m_X8_targetAt l g H.size ws r0_1 (x1) (v3_6) hG o_r0_1) (cwV 2 hts (gd_V kw_1568 kw_1537 kw_1538 kw_782 kw_1536) rfl rfl rfl (by decide +kernel) ⟨Nat.le_of_ble_eq_true rfl, Nat.le_of_ble_eq_true rfl⟩) ⟨gblind, va_recv hK hP (ci := 7) (q0 := k_23) rfl hk_23, fun U hU hW9 => gmk hU hW9 hP hK hD hex hE hS hFc⟩ rfl rfl hl.1 rfl (lv_room (Nat.le_of_ble_eq_true rfl)) dX9_isRedirected_83 ⟨Nat.le_of_ble_eq_true rfl, Nat.le_of_ble_eq_true rfl⟩) hS (fun q _ h => hFc q h) hFc (fun r_24 u9 t9 H1 locs ht9 hvm9 hw9 hB9 hz9 hk9 hS => ?_)
              have hP : va_P (gD g) cl0 ws H1 := by rw [← ht9]; exact hB9.1
              clear hB9 hz9 hk9 hvm9 ht9 hw9
              generalize H1 = H at hP hS ⊢
              have J_117 : ∀  (H : Heap) (locs : List Loc) (ls : Array Slot), va_P (gD g) cl0 ws H → va_D A ws → va_S A s.heap H locs → lv_has ls 6 [(0, .ref h0), (1, .int x1), (2, .int r_4), (3, .int v3_6)] → W p l e (headSpec (wt yX9_isRedirected cX9_isRedirected 6 (some .boolean)) ({ frames := 2, cells := 0, slots := 0, locals := 48 })).room s m ([.ref h0, .int x1] : List Value).toArray below meth c H locs (0) (0) (MQ below (va_Qi (fun (r : Int32) (u9 : va_W) => (r = 0 ∨ r = 1) ∧ (smR u9 h0) ∧ (KS ws u9 h0)) (gQ1 g [] [(7, 0), (7, 1), (7, 3)] none A ws) A) ([.ref h0, .int x1] : List Value).toArray s (0) (0) A) (F0 m 117 ls []) := by
                intro  H locs ls  hP hD hS hl
                obtain ⟨z_27, ez_27⟩ : ∃ z : Int32, v3_6 + Int32.ofInt 1 = z := ⟨_, rfl⟩
                refine lv_iinc (v := z_27) (lv' := [(3, .int z_27), (0, .ref h0), (1, .int x1), (2, .int r_4)]) hx hb dX9_isRedirected_117 hl (k := 3) rfl ez_27 (by decide) rfl (fun ls hl => ?_)
                refine lv_goto (tgt := 11) hx hb dX9_isRedirected_120 (by decide) ?_
                exact ih_11 _ (by first | (obtain ⟨u_z_27, q_z_27⟩ := i_iz ez_27 (by decide) (by decide); have g_v3_6 := i_rg v3_6; have g_z_27 := i_rg z_27; omega) | (obtain ⟨u_z_27, q_z_27⟩ := i_iz ez_27 (by decide) (by decide); have q_iv_7 := Hide.out iv_7; have q_c_10 := i_nle c_10; have g_r_4 := i_rg r_4; have g_v3_6 := i_rg v3_6; have g_z_27 := i_rg z_27; omega)) (z_27) H locs ls rfl (by first | (obtain ⟨u_z_27, q_z_27⟩ := i_iz ez_27 (by decide) (by decide); have g_v3_6 := i_rg v3_6; have g_z_27 := i_rg z_27; omega) | (obtain ⟨u_z_27, q_z_27⟩ := i_iz ez_27 (by decide) (by decide); have q_iv_7 := Hide.out iv_7; have q_c_10 := i_nle c_10; have g_r_4 := i_rg r_4; have g_v3_6 := i_rg v3_6; have g_z_27 := i_rg z_27; omega)) hP hD hS (lv_sub hl [1, 2, 3, 0] rfl)
              refine lv_icmp_eq (tgt := 117) hx hb dX9_isRedirected_86 (by decide) (fun c_28 => ?_) (fun c_28 => ?_)
              · exact J_117  H locs ls  hP hD hS (lv_sub hl [0, 1, 2, 3] rfl)
              · refine lv_aload_n hx hb dX9_isRedirected_89 rfl (lv_at hl 0 rfl) ?_
                refine va_get (D := gD g) (ci := 8) (v := .ref r0_1) (C := RX9) (T := TX9) (N := 6) hx hb hts inX9 hown hK hP k_1 hk_1 rfl 0 (by decide) (hts _ kw_1552) (fun _ h9 => h9) rfl dX9_isRedirected_90 ?_
                refine lv_iload hx hb dX9_isRedirected_93 (lv_at hl 4 rfl) ?_
                have hFc := gfree hD hS hA
                obtain ⟨k_29, fs_29, hk_29⟩ := gC_of o_r0_1
                refine va_calli (va_runV (As := [.int v4_13]) (rest := []) ⟨hx, hb, hml, hown, hts⟩ (m_X8_opAt_x l g H.size ws r0_1 (v4_13) hG o_r0_1) (cwV 1 hts (gd_V kw_1596 kw_1513 kw_1514 kw_782 kw_1512) rfl rfl rfl (by decide +kernel) ⟨Nat.le_of_ble_eq_true rfl, Nat.le_of_ble_eq_true rfl⟩) ⟨gblind, va_recv hK hP (ci := 7) (q0 := k_29) rfl hk_29, fun U hU hW9 => gmk hU hW9 hP hK hD hex hE hS hFc⟩ rfl rfl hl.1 rfl (lv_room (Nat.le_of_ble_eq_true rfl)) dX9_isRedirected_95 ⟨Nat.le_of_ble_eq_true rfl, Nat.le_of_ble_eq_true rfl⟩) hS (fun q _ h => hFc q h) hFc (fun r_30 u9 t9 H1 locs ht9 hvm9 hw9 hB9 hz9 hk9 hS => ?_)
                have hP : va_P (gD g) cl0 ws H1 := by rw [← ht9]; exact hB9.1
                obtain ⟨hw9, xp_31⟩ := hw9
                clear hB9 hz9 hk9 hvm9 ht9 hw9
                generalize H1 = H at hP hS ⊢
                refine lv_sipush (v := 167) hx hb dX9_isRedirected_98 (by decide) ?_
                refine lv_icmp_eq (tgt := 117) hx hb dX9_isRedirected_101 (by decide) (fun c_32 => ?_) (fun c_32 => ?_)
                · exact J_117  H locs ls  hP hD hS (lv_sub hl [0, 1, 2, 3] rfl)
                · refine lv_aload_n hx hb dX9_isRedirected_104 rfl (lv_at hl 0 rfl) ?_
                  refine va_get (D := gD g) (ci := 8) (v := .ref r0_1) (C := RX9) (T := TX9) (N := 6) hx hb hts inX9 hown hK hP k_1 hk_1 rfl 0 (by decide) (hts _ kw_1552) (fun _ h9 => h9) rfl dX9_isRedirected_105 ?_
                  refine lv_iload_n hx hb dX9_isRedirected_108 rfl (lv_at hl 1 rfl) ?_
                  refine lv_iload_n hx hb dX9_isRedirected_109 rfl (lv_at hl 3 rfl) ?_
                  refine lv_iload hx hb dX9_isRedirected_110 (lv_at hl 4 rfl) ?_
                  have tq_33 : rowC ws r0_1 RW := smR_at hD hk_1 rfl tk0
                  have tq_34 : rowC ws r0_1 (JS x1.toInt r_4.toInt) := rowC_im (rowC_and hD tq_33 xp_5) (fun _ _ _ _ _ w => (JT_of w.1 w.2).2.resolve_left (by have q_iv_7 := Hide.out iv_7; have q_c_10 := i_nle c_10; have g_r_4 := i_rg r_4; have g_v3_6 := i_rg v3_6; omega))
                  have hFc := gfree hD hS hA
                  obtain ⟨k_35, fs_35, hk_35⟩ := gC_of o_r0_1
                  refine va_callv (va_runV (As := [.int x1, .int v3_6, .int v4_13]) (rest := []) ⟨hx, hb, hml, hown, hts⟩ (m_X8_setTarget_y l g H.size ws r0_1 (x1) (v3_6) (v4_13) (r_4.toInt) hG o_r0_1 tq_34 (by have q_iv_7 := Hide.out iv_7; have q_c_10 := i_nle c_10; have g_r_4 := i_rg r_4; have g_v3_6 := i_rg v3_6; omega)) (cwV 3 hts (gd_V kw_1651 kw_1526 kw_1527 kw_782 kw_1525) rfl rfl rfl (by decide +kernel) ⟨Nat.le_of_ble_eq_true rfl, Nat.le_of_ble_eq_true rfl⟩) ⟨gblind, va_recv hK hP (ci := 7) (q0 := k_35) rfl hk_35, fun U hU hW9 => gmk hU hW9 hP hK hD hex hE hS hFc⟩ rfl rfl hl.1 rfl (lv_room (Nat.le_of_ble_eq_true rfl)) dX9_isRedirected_112 ⟨Nat.le_of_ble_eq_true rfl, Nat.le_of_ble_eq_true rfl⟩) hS (fun q _ h => hFc q h) hFc (fun  ws_36 t9 H1 locs ht9 hvm9 hw9 hB9 hz9 hk9 hS => ?_)
                  obtain ⟨E_37, Fr_38, hG, hP1, hD1⟩ := hB9
                  have hP : va_P (gD g) cl0 ws_36 H1 := by rw [← ht9]; exact hP1
                  have hD : va_D A ws_36 := hD1.weaken (fun _ _ _ h => hFc _ h)
                  obtain ⟨hw9, xp_41⟩ := hw9
                  clear hP1 hD1 hz9 hk9 hvm9 ht9 hw9
                  generalize H1 = H at hP hS ⊢
                  have aa_42 := a_r1_1
                  have aa_43 := a_r2_1
                  have aa_44 := a_r3_1
                  have aa_45 := a_r4_1
                  have aa_46 := a_r5_1
                  have o_h0 := E_37.1 _ _ o_h0
                  have tq_47 : KR ws ws_36 r0_1 := KR.tr tq_2 (KR_s Fr_38)
                  obtain ⟨fs9, hk_48, hq_48⟩ := ((gF.a (F' := []) Fr_38 (fun _ h => h))) _ _ _ hk_1
                  refine opn_X9 hG hk_48 (fun r0_48 r1_48 n1_48 r2_48 n2_48 r3_48 n3_48 r4_48 n4_48 r5_48 n5_48 hf9 o_r0_48 a_r1_48 f2_48 a_r2_48 f4_48 a_r3_48 f6_48 a_r4_48 f8_48 a_r5_48 f10_48 f11_48 => ?_)
                  subst hf9
                  obtain rfl := fe_r (hq_48 0 (by decide))
                  have o_r0_1 := o_r0_48
                  obtain rfl := fe_r (hq_48 2 (by decide))
                  have hn9 := gI_n hD ((E_37).1 _ _ aa_43) a_r2_48
                  subst hn9
                  have a_r2_1 := a_r2_48
                  obtain rfl := fe_r (hq_48 3 (by decide))
                  have hn9 := gI_n hD ((E_37).1 _ _ aa_44) a_r3_48
                  subst hn9
                  have a_r3_1 := a_r3_48
                  obtain rfl := fe_r (hq_48 4 (by decide))
                  have hn9 := gI_n hD ((E_37).1 _ _ aa_45) a_r4_48
                  subst hn9
                  have a_r4_1 := a_r4_48
                  obtain rfl := fe_r (hq_48 5 (by decide))
                  have hn9 := gI_n hD ((E_37).1 _ _ aa_46) a_r5_48
                  subst hn9
                  have a_r5_1 := a_r5_48
                  have rw_49 : rowC ws_36 r0_1 RW := rowC_im xp_41 (fun _ _ _ _ _ w => w.1)
                  have tq_50 : smR ws_36 h0 := ⟨_, r0_1, _, hk_48, rfl, rw_49⟩
                  refine lv_iconst (v := 1) hx hb dX9_isRedirected_115 (by decide) ?_
                  refine W.widen (k := 0) (n := 0) (Nat.le_of_ble_eq_true rfl) (Nat.le_of_ble_eq_true rfl) ?_
                  exact W.zret (v := 1) hx hb hr (nz (Or.inr rfl)) (fun t9 ht9 hW9 => ⟨⟨_, ws_36, rfl, ⟨(Or.inr rfl), tq_50, KS_of hDH9 hkH9 rfl tq_47⟩, ⟨E_37, (gF.mo (F' := []) (C' := [(7, 0), (7, 1), (7, 3)]) (S' := none) Fr_38 (fun _ h => h) (fun _ h => h) (Or.inl rfl)), hG, by rw [ht9]; exact hP, hD⟩⟩, hS.F ht9⟩) hS.2.2 dX9_isRedirected_116
            refine lv_icmp_ne (tgt := 75) hx hb dX9_isRedirected_42 (by decide) (fun c_51 => ?_) (fun c_51 => ?_)
            · exact J_75  H locs ls  hP hD hS (lv_sub hl [0, 1, 2, 3, 4] rfl)
            · refine lv_iload hx hb dX9_isRedirected_45 (lv_at hl 5 rfl) ?_
              refine lv_aload_n hx hb dX9_isRedirected_47 rfl (lv_at hl 0 rfl) ?_
              refine va_get (D := gD g) (ci := 8) (v := .ref r0_1) (C := RX9) (T := TX9) (N := 6) hx hb hts inX9 hown hK hP k_1 hk_1 rfl 0 (by decide) (hts _ kw_1552) (fun _ h9 => h9) rfl dX9_isRedirected_48 ?_
              obtain ⟨k_52, fs9, hk_52⟩ := gC_of o_r0_1
              refine opn_X8 hG hk_52 (fun r0_52 n0_52 r1_52 n1_52 c2_52 r3_52 n3_52 c4_52 r5_52 n5_52 r6_52 n6_52 r7_52 n7_52 r8_52 n8_52 c9_52 c10_52 c11_52 v12_52 v13_52 v14_52 hf9 a_r0_52 f1_52 a_r1_52 f3_52 a_r3_52 f5_52 a_r5_52 f7_52 a_r6_52 f9_52 a_r7_52 f11_52 a_r8_52 f13_52 o_v12_52 o_v13_52 o_v14_52 f17_52 f18_52 f19_52 f20_52 f21_52 f22_52 f23_52 f24_52 f25_52 f26_52 f27_52 f28_52 f29_52 => ?_)
              subst hf9
              refine va_get (D := gD g) (ci := 7) (v := .int c2_52) (C := RX8) (T := TX8) (N := 15) hx hb hts inX8 hown hK hP k_52 hk_52 rfl 2 (by decide) (hts _ kw_1553) (fun _ h9 => h9) rfl dX9_isRedirected_51 ?_
              refine lv_icmp_gt (tgt := 75) hx hb dX9_isRedirected_54 (by decide) (fun c_53 => ?_) (fun c_53 => ?_)
              · exact J_75  H locs ls  hP hD hS (lv_sub hl [0, 1, 2, 3, 4] rfl)
              · refine lv_aload_n hx hb dX9_isRedirected_57 rfl (lv_at hl 0 rfl) ?_
                refine va_get (D := gD g) (ci := 8) (v := .ref r0_1) (C := RX9) (T := TX9) (N := 6) hx hb hts inX9 hown hK hP k_1 hk_1 rfl 0 (by decide) (hts _ kw_1552) (fun _ h9 => h9) rfl dX9_isRedirected_58 ?_
                refine lv_iload hx hb dX9_isRedirected_61 (lv_at hl 4 rfl) ?_
                refine lv_iconst (v := 0) hx hb dX9_isRedirected_63 (by decide) ?_
                have hFc := gfree hD hS hA
                refine va_calli (va_runV (As := [.int v4_13, .int 0]) (rest := []) ⟨hx, hb, hml, hown, hts⟩ (m_X8_targetAt l g H.size ws r0_1 (v4_13) (0) hG o_r0_1) (cwV 2 hts (gd_V kw_1568 kw_1537 kw_1538 kw_782 kw_1536) rfl rfl rfl (by decide +kernel) ⟨Nat.le_of_ble_eq_true rfl, Nat.le_of_ble_eq_true rfl⟩) ⟨gblind, va_recv hK hP (ci := 7) (q0 := k_52) rfl hk_52, fun U hU hW9 => gmk hU hW9 hP hK hD hex hE hS hFc⟩ rfl rfl hl.1 rfl (lv_room (Nat.le_of_ble_eq_true rfl)) dX9_isRedirected_64 ⟨Nat.le_of_ble_eq_true rfl, Nat.le_of_ble_eq_true rfl⟩) hS (fun q _ h => hFc q h) hFc (fun r_54 u9 t9 H1 locs ht9 hvm9 hw9 hB9 hz9 hk9 hS => ?_)
                have hP : va_P (gD g) cl0 ws H1 := by rw [← ht9]; exact hB9.1
                clear hB9 hz9 hk9 hvm9 ht9 hw9
                generalize H1 = H at hP hS ⊢
                refine lv_istore (lv' := [(4, .int r_54), (0, .ref h0), (1, .int x1), (2, .int r_4), (3, .int v3_6), (5, .int v5_14)]) hx hb dX9_isRedirected_67 hl (by decide) rfl (fun ls hl => ?_)
                obtain ⟨z_55, ez_55⟩ : ∃ z : Int32, v5_14 + Int32.ofInt 1 = z := ⟨_, rfl⟩
                refine lv_iinc (v := z_55) (lv' := [(5, .int z_55), (4, .int r_54), (0, .ref h0), (1, .int x1), (2, .int r_4), (3, .int v3_6)]) hx hb dX9_isRedirected_69 hl (k := 5) rfl ez_55 (by decide) rfl (fun ls hl => ?_)
                refine lv_goto (tgt := 30) hx hb dX9_isRedirected_72 (by decide) ?_
                exact ih_30 _ (by first | (obtain ⟨u_z_55, q_z_55⟩ := i_iz ez_55 (by decide) (by decide); have g_r_54 := i_rg r_54; have g_v5_14 := i_rg v5_14; have g_z_55 := i_rg z_55; omega) | (obtain ⟨u_z_55, q_z_55⟩ := i_iz ez_55 (by decide) (by decide); have q_iv_15 := Hide.out iv_15; have q_c_53 := i_nlt c_53; have g_c2_52 := i_rg c2_52; have g_r_54 := i_rg r_54; have g_v5_14 := i_rg v5_14; have g_z_55 := i_rg z_55; omega) | (obtain ⟨u_z_55, q_z_55⟩ := i_iz ez_55 (by decide) (by decide); have q_iv_15 := Hide.out iv_15; have q_c_53 := i_nlt c_53; have q_f19_52 := Hide.out f19_52; have q_f20_52 := Hide.out f20_52; have g_c2_52 := i_rg c2_52; have g_r_54 := i_rg r_54; have g_v5_14 := i_rg v5_14; have g_z_55 := i_rg z_55; omega) | (obtain ⟨u_z_55, q_z_55⟩ := i_iz ez_55 (by decide) (by decide); have q_iv_15 := Hide.out iv_15; have q_c_53 := i_nlt c_53; have q_f19_52 := Hide.out f19_52; have q_f20_52 := Hide.out f20_52; have q_f1_52 := Hide.out f1_52; have q_f17_52 := Hide.out f17_52; have q_f18_52 := Hide.out f18_52; have g_c2_52 := i_rg c2_52; have g_r_54 := i_rg r_54; have g_v5_14 := i_rg v5_14; have g_z_55 := i_rg z_55; omega) | (obtain ⟨u_z_55, q_z_55⟩ := i_iz ez_55 (by decide) (by decide); have q_iv_15 := Hide.out iv_15; have q_c_53 := i_nlt c_53; have q_f19_52 := Hide.out f19_52; have q_f20_52 := Hide.out f20_52; have q_f1_52 := Hide.out f1_52; have q_f17_52 := Hide.out f17_52; have q_f18_52 := Hide.out f18_52; have q_f3_52 := Hide.out f3_52; have g_c2_52 := i_rg c2_52; have g_r_54 := i_rg r_54; have g_v5_14 := i_rg v5_14; have g_z_55 := i_rg z_55; omega)) (r_54) (z_55) H locs ls rfl (by first | (obtain ⟨u_z_55, q_z_55⟩ := i_iz ez_55 (by decide) (by decide); have g_v5_14 := i_rg v5_14; have g_z_55 := i_rg z_55; omega) | (obtain ⟨u_z_55, q_z_55⟩ := i_iz ez_55 (by decide) (by decide); have q_iv_15 := Hide.out iv_15; have q_c_53 := i_nlt c_53; have g_c2_52 := i_rg c2_52; have g_v5_14 := i_rg v5_14; have g_z_55 := i_rg z_55; omega) | (obtain ⟨u_z_55, q_z_55⟩ := i_iz ez_55 (by decide) (by decide); have q_iv_15 := Hide.out iv_15; have q_c_53 := i_nlt c_53; have q_f19_52 := Hide.out f19_52; have q_f20_52 := Hide.out f20_52; have g_c2_52 := i_rg c2_52; have g_v5_14 := i_rg v5_14; have g_z_55 := i_rg z_55; omega) | (obtain ⟨u_z_55, q_z_55⟩ := i_iz ez_55 (by decide) (by decide); have q_iv_15 := Hide.out iv_15; have q_c_53 := i_nlt c_53; have q_f19_52 := Hide.out f19_52; have q_f20_52 := Hide.out f20_52; have q_f1_52 := Hide.out f1_52; have q_f17_52 := Hide.out f17_52; have q_f18_52 := Hide.out f18_52; have g_c2_52 := i_rg c2_52; have g_v5_14 := i_rg v5_14; have g_z_55 := i_rg z_55; omega) | (obtain ⟨u_z_55, q_z_55⟩ := i_iz ez_55 (by decide) (by decide); have q_iv_15 := Hide.out iv_15; have q_c_53 := i_nlt c_53; have q_f19_52 := Hide.out f19_52; have q_f20_52 := Hide.out f20_52; have q_f1_52 := Hide.out f1_52; have q_f17_52 := Hide.out f17_52; have q_f18_52 := Hide.out f18_52; have q_f3_52 := Hide.out f3_52; have g_c2_52 := i_rg c2_52; have g_v5_14 := i_rg v5_14; have g_z_55 := i_rg z_55; omega)) hP hD hS (lv_sub hl [2, 3, 4, 5, 1, 0] rfl)
        exact J_30 _ (r_12) (0) H locs ls rfl (by have e0 : (0 : Int32).toInt = 0 := (by decide); omega) hP hD hS (lv_sub hl [2, 3, 4, 5, 1, 0] rfl)
  exact J_11 _ (0) H locs ls rfl (by have e0 : (0 : Int32).toInt = 0 := (by decide); omega) hP hD hS (lv_sub hl [2, 3, 1, 0] rfl)
set_option maxHeartbeats 4000000 in
set_option maxRecDepth 100000 in
theorem m_X9_isFolded_x (l : Launch) (g : Gm) (sz : Nat) (ws : va_W) (h0 : Nat) (x1 : Int32) (hG : Good g ws) (o_h0 : gC ws h0 8) (fp_a : gP ws h0 (fun fs => ∀ (rn n : Nat), fs[2]? = some (.ref rn) → gI ws rn g.cZ n → 1297 ≤ n)) (fp_b : gP ws h0 (fun fs => ∀ (rn n : Nat), fs[3]? = some (.ref rn) → gI ws rn g.cZ n → 1297 ≤ n)) (fp_d : gP ws h0 (fun fs => ∀ (rn n : Nat), fs[4]? = some (.ref rn) → gI ws rn g.cI n → 1297 ≤ n)) (fp_f : gP ws h0 (fun fs => ∀ (rn n : Nat), fs[5]? = some (.ref rn) → gI ws rn g.cI n → 1297 ≤ n)) (tk0 : smR ws h0) (p0 : 0 ≤ x1.toInt) (px : x1.toInt ≤ 1300) : Met l yX9_isFolded (wt yX9_isFolded cX9_isFolded 3 (some .boolean)) ({ frames := 3, cells := 0, slots := 0, locals := 74 }) (va_Pc [.ref h0, .int x1] (st_G g sz ws)) (va_Qi (fun (r : Int32) (u9 : va_W) => (r = 0 ∨ r = 1) ∧ (smR u9 h0) ∧ (KS ws u9 h0)) (gQ1 g [(7, 2), (7, 9)] [(7, 0), (7, 1), (7, 3), (7, 5), (7, 6), (7, 7), (7, 8)] none (va_A ws sz) ws) (va_A ws sz)) (0) (0) (va_A ws sz) := by
  refine Met.ofW (cc := cX9_isFolded) (maxL := 3) (ret := (some .boolean)) (by decide) rfl ?_
  intro p e s m args below meth c s₁ B hml hv
  obtain ⟨rfl, hsz, hP, hK, hD0, hex, hE⟩ := hv
  have hx := B.exec
  have hb := B.bytes
  have hr := B.returns
  have hts0 := atoms_spec (ws := wt yX9_isFolded cX9_isFolded 3 (some .boolean)) B.pre
  have hts : ∀ w ∈ tb, w.before _ s = true := fun w h => hts0 w (List.mem_cons_of_mem _ h)
  have hown : s.vm.findClass RX9 = some m.cls := findClass_of_methodNamed B.named
  subst hsz
  have hD := hD0.self (sz := s.heap.size)
  generalize hAe : va_A ws s.heap.size = A at hD hE ⊢
  have hA : ∀ q : Nat, s.heap.size ≤ q → A q := fun q h => by rw [← hAe]; exact Or.inr h
  have hS : va_S A s.heap s.heap [] := va_S.rf
  have hl := lv_entry ([.ref h0, .int x1]) (n := 3) (Nat.le_of_ble_eq_true rfl)
  rw [lg_entry_eq]
  generalize (lg_sl ([.ref h0, .int x1]) ++ List.replicate (3 - (lg_sl ([.ref h0, .int x1])).length) Slot.unset).toArray = ls at hl ⊢
  replace p0 := hide p0
  replace px := hide px
  have hl : lv_has ls 3 [(0, .ref h0), (1, .int x1)] := hl
  obtain ⟨k_1, fs9, hk_1⟩ := gC_of o_h0
  refine opn_X9 hG hk_1 (fun r0_1 r1_1 n1_1 r2_1 n2_1 r3_1 n3_1 r4_1 n4_1 r5_1 n5_1 hf9 o_r0_1 a_r1_1 f2_1 a_r2_1 f4_1 a_r3_1 f6_1 a_r4_1 f8_1 a_r5_1 f10_1 f11_1 => ?_)
  subst hf9
  have fq_a := fp_a _ _ _ hk_1 _ _ rfl a_r2_1
  replace fq_a := hide fq_a
  have fq_b := fp_b _ _ _ hk_1 _ _ rfl a_r3_1
  replace fq_b := hide fq_b
  have fq_d := fp_d _ _ _ hk_1 _ _ rfl a_r4_1
  replace fq_d := hide fq_d
  have fq_f := fp_f _ _ _ hk_1 _ _ rfl a_r5_1
  replace fq_f := hide fq_f
  have hkH9 := hk_1
  have hDH9 := hD
  have tq_2 : KR ws ws r0_1 := KR_rf
  refine lv_aload_n hx hb dX9_isFolded_0 rfl (lv_at hl 0 rfl) ?_
  refine va_get (D := gD g) (ci := 8) (v := .ref r0_1) (C := RX9) (T := TX9) (N := 6) hx hb hts inX9 hown hK hP k_1 hk_1 rfl 0 (by decide) (hts _ kw_1552) (fun _ h9 => h9) rfl dX9_isFolded_1 ?_
  refine lv_iload_n hx hb dX9_isFolded_4 rfl (lv_at hl 1 rfl) ?_
  refine lv_iconst (v := 2) hx hb dX9_isFolded_5 (by decide) ?_
  refine lv_iadd hx hb dX9_isFolded_6 ?_
  refine lv_topi (fun z_3 ez_3 => ?_)
  have hFc := gfree hD hS hA
  obtain ⟨k_4, fs_4, hk_4⟩ := gC_of o_r0_1
  refine va_calli (va_runV (As := [.int z_3]) (rest := []) ⟨hx, hb, hml, hown, hts⟩ (m_X8_opAt_x l g s.heap.size ws r0_1 (z_3) hG o_r0_1) (cwV 1 hts (gd_V kw_1596 kw_1513 kw_1514 kw_782 kw_1512) rfl rfl rfl (by decide +kernel) ⟨Nat.le_of_ble_eq_true rfl, Nat.le_of_ble_eq_true rfl⟩) ⟨gblind, va_recv hK hP (ci := 7) (q0 := k_4) rfl hk_4, fun U hU hW9 => gmk hU hW9 hP hK hD hex hE hS hFc⟩ rfl rfl hl.1 rfl (lv_room (Nat.le_of_ble_eq_true rfl)) dX9_isFolded_7 ⟨Nat.le_of_ble_eq_true rfl, Nat.le_of_ble_eq_true rfl⟩) hS (fun q _ h => hFc q h) hFc (fun r_5 u9 t9 H1 locs ht9 hvm9 hw9 hB9 hz9 hk9 hS => ?_)
  have hP : va_P (gD g) cl0 ws H1 := by rw [← ht9]; exact hB9.1
  obtain ⟨hw9, xp_6⟩ := hw9
  clear hB9 hz9 hk9 hvm9 ht9 hw9
  generalize H1 = H at hP hS ⊢
  refine lv_istore_n (lv' := [(2, .int r_5), (0, .ref h0), (1, .int x1)]) hx hb dX9_isFolded_10 rfl hl (by decide) rfl (fun ls hl => ?_)
  refine lv_iload_n hx hb dX9_isFolded_11 rfl (lv_at hl 0 rfl) ?_
  have hFc := gfree hD hS hA
  refine va_calli (va_runS (As := [.int r_5]) (rest := []) ⟨hx, hb, hml, hown, hts⟩ (m_X6_isBinary l g H.size ws (r_5) hG ) (va_cwS 1 hts (gd_S kw_1621 kw_1221 kw_1207 kw_1220) rfl rfl rfl (by decide +kernel) ⟨Nat.le_of_ble_eq_true rfl, Nat.le_of_ble_eq_true rfl⟩) ⟨gblind, fun U hU hW9 => gmk hU hW9 hP hK hD hex hE hS hFc⟩ rfl rfl hl.1 rfl (lv_room (Nat.le_of_ble_eq_true rfl)) dX9_isFolded_12 ⟨Nat.le_of_ble_eq_true rfl, Nat.le_of_ble_eq_true rfl⟩) hS (fun q _ h => hFc q h) hFc (fun r_7 u9 t9 H1 locs ht9 hvm9 hw9 hB9 hz9 hk9 hS => ?_)
  have hP : va_P (gD g) cl0 ws H1 := by rw [← ht9]; exact hB9.1
  have hz_r_7 : r_7 = 0 ∨ r_7 = 1 := hw9
  clear hB9 hz9 hk9 hvm9 ht9 hw9
  generalize H1 = H at hP hS ⊢
  have J_89 : ∀  (H : Heap) (locs : List Loc) (ls : Array Slot), va_P (gD g) cl0 ws H → va_D A ws → va_S A s.heap H locs → lv_has ls 3 [] → W p l e (headSpec (wt yX9_isFolded cX9_isFolded 3 (some .boolean)) ({ frames := 3, cells := 0, slots := 0, locals := 74 })).room s m ([.ref h0, .int x1] : List Value).toArray below meth c H locs (0) (0) (MQ below (va_Qi (fun (r : Int32) (u9 : va_W) => (r = 0 ∨ r = 1) ∧ (smR u9 h0) ∧ (KS ws u9 h0)) (gQ1 g [(7, 2), (7, 9)] [(7, 0), (7, 1), (7, 3), (7, 5), (7, 6), (7, 7), (7, 8)] none A ws) A) ([.ref h0, .int x1] : List Value).toArray s (0) (0) A) (F0 m 89 ls []) := by
    intro  H locs ls  hP hD hS hl
    refine lv_iconst (v := 0) hx hb dX9_isFolded_89 (by decide) ?_
    refine W.widen (k := 0) (n := 0) (Nat.le_of_ble_eq_true rfl) (Nat.le_of_ble_eq_true rfl) ?_
    exact W.zret (v := 0) hx hb hr (nz (Or.inl rfl)) (fun t9 ht9 hW9 => ⟨⟨_, ws, rfl, ⟨(Or.inl rfl), tk0, KS_of hDH9 hkH9 rfl tq_2⟩, ⟨gE.rf, gF.rf, hG, by rw [ht9]; exact hP, hD⟩⟩, hS.F ht9⟩) hS.2.2 dX9_isFolded_90
  refine lv_if_eq (tgt := 89) hx hb dX9_isFolded_15 (by decide) (fun c_10 => ?_) (fun c_10 => ?_)
  · exact J_89  H locs ls  hP hD hS (lv_sub hl [] rfl)
  · refine lv_aload_n hx hb dX9_isFolded_18 rfl (lv_at hl 1 rfl) ?_
    refine lv_iload_n hx hb dX9_isFolded_19 rfl (lv_at hl 2 rfl) ?_
    have hFc := gfree hD hS hA
    refine va_calli (va_runV (As := [.int x1]) (rest := []) ⟨hx, hb, hml, hown, hts⟩ (m_X9_pushKind l g H.size ws h0 (x1) hG o_h0) (cwV 1 hts (gd_V kw_1622 kw_1696 kw_1697 kw_404 kw_1695) rfl rfl rfl (by decide +kernel) ⟨Nat.le_of_ble_eq_true rfl, Nat.le_of_ble_eq_true rfl⟩) ⟨gblind, va_recv hK hP (ci := 8) (q0 := k_1) rfl hk_1, fun U hU hW9 => gmk hU hW9 hP hK hD hex hE hS hFc⟩ rfl rfl hl.1 rfl (lv_room (Nat.le_of_ble_eq_true rfl)) dX9_isFolded_20 ⟨Nat.le_of_ble_eq_true rfl, Nat.le_of_ble_eq_true rfl⟩) hS (fun q _ h => hFc q h) hFc (fun r_11 u9 t9 H1 locs ht9 hvm9 hw9 hB9 hz9 hk9 hS => ?_)
    have hP : va_P (gD g) cl0 ws H1 := by rw [← ht9]; exact hB9.1
    clear hB9 hz9 hk9 hvm9 ht9 hw9
    generalize H1 = H at hP hS ⊢
    refine lv_if_eq (tgt := 89) hx hb dX9_isFolded_23 (by decide) (fun c_12 => ?_) (fun c_12 => ?_)
    · exact J_89  H locs ls  hP hD hS (lv_sub hl [] rfl)
    · refine lv_aload_n hx hb dX9_isFolded_26 rfl (lv_at hl 1 rfl) ?_
      refine lv_iload_n hx hb dX9_isFolded_27 rfl (lv_at hl 2 rfl) ?_
      refine lv_iconst (v := 1) hx hb dX9_isFolded_28 (by decide) ?_
      refine lv_iadd hx hb dX9_isFolded_29 ?_
      refine lv_topi (fun z_13 ez_13 => ?_)
      have hFc := gfree hD hS hA
      refine va_calli (va_runV (As := [.int z_13]) (rest := []) ⟨hx, hb, hml, hown, hts⟩ (m_X9_pushKind l g H.size ws h0 (z_13) hG o_h0) (cwV 1 hts (gd_V kw_1622 kw_1696 kw_1697 kw_404 kw_1695) rfl rfl rfl (by decide +kernel) ⟨Nat.le_of_ble_eq_true rfl, Nat.le_of_ble_eq_true rfl⟩) ⟨gblind, va_recv hK hP (ci := 8) (q0 := k_1) rfl hk_1, fun U hU hW9 => gmk hU hW9 hP hK hD hex hE hS hFc⟩ rfl rfl hl.1 rfl (lv_room (Nat.le_of_ble_eq_true rfl)) dX9_isFolded_30 ⟨Nat.le_of_ble_eq_true rfl, Nat.le_of_ble_eq_true rfl⟩) hS (fun q _ h => hFc q h) hFc (fun r_14 u9 t9 H1 locs ht9 hvm9 hw9 hB9 hz9 hk9 hS => ?_)
      have hP : va_P (gD g) cl0 ws H1 := by rw [← ht9]; exact hB9.1
      clear hB9 hz9 hk9 hvm9 ht9 hw9
      generalize H1 = H at hP hS ⊢
      refine lv_if_eq (tgt := 89) hx hb dX9_isFolded_33 (by decide) (fun c_15 => ?_) (fun c_15 => ?_)
      · exact J_89  H locs ls  hP hD hS (lv_sub hl [] rfl)
      · refine lv_aload_n hx hb dX9_isFolded_36 rfl (lv_at hl 1 rfl) ?_
        refine lv_iload_n hx hb dX9_isFolded_37 rfl (lv_at hl 2 rfl) ?_
        refine lv_iconst (v := 3) hx hb dX9_isFolded_38 (by decide) ?_
        have hFc := gfree hD hS hA
        refine va_calli (va_runV (As := [.int x1, .int 3]) (rest := []) ⟨hx, hb, hml, hown, hts⟩ (m_X9_isWindow l g H.size ws h0 (x1) (3) hG o_h0 (gP_of hD hk_1 (fun p90 q90 e90 g90 => by cases e90; have z90 := gI_n hD a_r2_1 g90; subst z90; exact (by have q_f4_1 := Hide.out f4_1; have q_fq_a := Hide.out fq_a; omega))) (gP_of hD hk_1 (fun p90 q90 e90 g90 => by cases e90; have z90 := gI_n hD a_r3_1 g90; subst z90; exact (by have q_f6_1 := Hide.out f6_1; have q_fq_b := Hide.out fq_b; omega))) (gP_of hD hk_1 (fun p90 q90 e90 g90 => by cases e90; have z90 := gI_n hD a_r4_1 g90; subst z90; exact (by have q_f8_1 := Hide.out f8_1; have q_fq_d := Hide.out fq_d; omega))) (gP_of hD hk_1 (fun p90 q90 e90 g90 => by cases e90; have z90 := gI_n hD a_r5_1 g90; subst z90; exact (by have q_f10_1 := Hide.out f10_1; have q_fq_f := Hide.out fq_f; omega))) (by have e1 : (1 : Int32).toInt = 1 := (by decide); have e2 : (2 : Int32).toInt = 2 := (by decide); have q_p0 := Hide.out p0; have q_px := Hide.out px; obtain ⟨u_z_3, q_z_3⟩ := i_add ez_3; obtain ⟨u_z_13, q_z_13⟩ := i_add ez_13; have g_x1 := i_rg x1; have g_z_13 := i_rg z_13; have g_z_3 := i_rg z_3; omega) (by have e1 : (1 : Int32).toInt = 1 := (by decide); have e2 : (2 : Int32).toInt = 2 := (by decide); have q_p0 := Hide.out p0; have q_px := Hide.out px; obtain ⟨u_z_3, q_z_3⟩ := i_add ez_3; obtain ⟨u_z_13, q_z_13⟩ := i_add ez_13; have g_x1 := i_rg x1; have g_z_13 := i_rg z_13; have g_z_3 := i_rg z_3; omega) (by have e3 : (3 : Int32).toInt = 3 := (by decide); omega)) (cwV 2 hts (gd_V kw_1610 kw_1658 kw_1659 kw_404 kw_1657) rfl rfl rfl (by decide +kernel) ⟨Nat.le_of_ble_eq_true rfl, Nat.le_of_ble_eq_true rfl⟩) ⟨gblind, va_recv hK hP (ci := 8) (q0 := k_1) rfl hk_1, fun U hU hW9 => gmk hU hW9 hP hK hD hex hE hS hFc⟩ rfl rfl hl.1 rfl (lv_room (Nat.le_of_ble_eq_true rfl)) dX9_isFolded_39 ⟨Nat.le_of_ble_eq_true rfl, Nat.le_of_ble_eq_true rfl⟩) hS (fun q _ h => hFc q h) hFc (fun r_16 u9 t9 H1 locs ht9 hvm9 hw9 hB9 hz9 hk9 hS => ?_)
        have hP : va_P (gD g) cl0 ws H1 := by rw [← ht9]; exact hB9.1
        have hz_r_16 : r_16 = 0 ∨ r_16 = 1 := hw9
        clear hB9 hz9 hk9 hvm9 ht9 hw9
        generalize H1 = H at hP hS ⊢
        refine lv_if_eq (tgt := 89) hx hb dX9_isFolded_42 (by decide) (fun c_17 => ?_) (fun c_17 => ?_)
        · exact J_89  H locs ls  hP hD hS (lv_sub hl [] rfl)
        · refine lv_iload_n hx hb dX9_isFolded_45 rfl (lv_at hl 0 rfl) ?_
          have hFc := gfree hD hS hA
          refine va_calli (va_runS (As := [.int r_5]) (rest := []) ⟨hx, hb, hml, hown, hts⟩ (m_X6_takes l g H.size ws (r_5) hG ) (va_cwS 1 hts (gd_S kw_1623 kw_1255 kw_1207 kw_1254) rfl rfl rfl (by decide +kernel) ⟨Nat.le_of_ble_eq_true rfl, Nat.le_of_ble_eq_true rfl⟩) ⟨gblind, fun U hU hW9 => gmk hU hW9 hP hK hD hex hE hS hFc⟩ rfl rfl hl.1 rfl (lv_room (Nat.le_of_ble_eq_true rfl)) dX9_isFolded_46 ⟨Nat.le_of_ble_eq_true rfl, Nat.le_of_ble_eq_true rfl⟩) hS (fun q _ h => hFc q h) hFc (fun r_18 u9 t9 H1 locs ht9 hvm9 hw9 hB9 hz9 hk9 hS => ?_)
          have hP : va_P (gD g) cl0 ws H1 := by rw [← ht9]; exact hB9.1
          clear hB9 hz9 hk9 hvm9 ht9 hw9
          generalize H1 = H at hP hS ⊢
          refine lv_aload_n hx hb dX9_isFolded_49 rfl (lv_at hl 1 rfl) ?_
          refine lv_iload_n hx hb dX9_isFolded_50 rfl (lv_at hl 2 rfl) ?_
          have hFc := gfree hD hS hA
          refine va_calli (va_runV (As := [.int x1]) (rest := [.int r_18]) ⟨hx, hb, hml, hown, hts⟩ (m_X9_pushKind l g H.size ws h0 (x1) hG o_h0) (cwV 1 hts (gd_V kw_1622 kw_1696 kw_1697 kw_404 kw_1695) rfl rfl rfl (by decide +kernel) ⟨Nat.le_of_ble_eq_true rfl, Nat.le_of_ble_eq_true rfl⟩) ⟨gblind, va_recv hK hP (ci := 8) (q0 := k_1) rfl hk_1, fun U hU hW9 => gmk hU hW9 hP hK hD hex hE hS hFc⟩ rfl rfl hl.1 rfl (lv_room (Nat.le_of_ble_eq_true rfl)) dX9_isFolded_51 ⟨Nat.le_of_ble_eq_true rfl, Nat.le_of_ble_eq_true rfl⟩) hS (fun q _ h => hFc q h) hFc (fun r_19 u9 t9 H1 locs ht9 hvm9 hw9 hB9 hz9 hk9 hS => ?_)
          have hP : va_P (gD g) cl0 ws H1 := by rw [← ht9]; exact hB9.1
          clear hB9 hz9 hk9 hvm9 ht9 hw9
          generalize H1 = H at hP hS ⊢
          refine lv_iconst (v := 4) hx hb dX9_isFolded_54 (by decide) ?_
          refine lv_ishl hx hb dX9_isFolded_55 ?_
          refine lv_topi (fun z_20 ez_20 => ?_)
          refine lv_aload_n hx hb dX9_isFolded_56 rfl (lv_at hl 1 rfl) ?_
          refine lv_iload_n hx hb dX9_isFolded_57 rfl (lv_at hl 2 rfl) ?_
          refine lv_iconst (v := 1) hx hb dX9_isFolded_58 (by decide) ?_
          refine lv_iadd hx hb dX9_isFolded_59 ?_
          refine lv_topi (fun z_21 ez_21 => ?_)
          have hFc := gfree hD hS hA
          refine va_calli (va_runV (As := [.int z_21]) (rest := [.int z_20, .int r_18]) ⟨hx, hb, hml, hown, hts⟩ (m_X9_pushKind l g H.size ws h0 (z_21) hG o_h0) (cwV 1 hts (gd_V kw_1622 kw_1696 kw_1697 kw_404 kw_1695) rfl rfl rfl (by decide +kernel) ⟨Nat.le_of_ble_eq_true rfl, Nat.le_of_ble_eq_true rfl⟩) ⟨gblind, va_recv hK hP (ci := 8) (q0 := k_1) rfl hk_1, fun U hU hW9 => gmk hU hW9 hP hK hD hex hE hS hFc⟩ rfl rfl hl.1 rfl (lv_room (Nat.le_of_ble_eq_true rfl)) dX9_isFolded_60 ⟨Nat.le_of_ble_eq_true rfl, Nat.le_of_ble_eq_true rfl⟩) hS (fun q _ h => hFc q h) hFc (fun r_22 u9 t9 H1 locs ht9 hvm9 hw9 hB9 hz9 hk9 hS => ?_)
          have hP : va_P (gD g) cl0 ws H1 := by rw [← ht9]; exact hB9.1
          clear hB9 hz9 hk9 hvm9 ht9 hw9
          generalize H1 = H at hP hS ⊢
          refine lv_ior hx hb dX9_isFolded_63 ?_
          refine lv_topi (fun z_23 ez_23 => ?_)
          refine lv_icmp_ne (tgt := 89) hx hb dX9_isFolded_64 (by decide) (fun c_24 => ?_) (fun c_24 => ?_)
          · exact J_89  H locs ls  hP hD hS (lv_sub hl [] rfl)
          · refine lv_iload_n hx hb dX9_isFolded_67 rfl (lv_at hl 0 rfl) ?_
            have hFc := gfree hD hS hA
            refine va_calli (va_runS (As := [.int r_5]) (rest := []) ⟨hx, hb, hml, hown, hts⟩ (m_X6_isDivision l g H.size ws (r_5) hG ) (va_cwS 1 hts (gd_S kw_1624 kw_1223 kw_1207 kw_1222) rfl rfl rfl (by decide +kernel) ⟨Nat.le_of_ble_eq_true rfl, Nat.le_of_ble_eq_true rfl⟩) ⟨gblind, fun U hU hW9 => gmk hU hW9 hP hK hD hex hE hS hFc⟩ rfl rfl hl.1 rfl (lv_room (Nat.le_of_ble_eq_true rfl)) dX9_isFolded_68 ⟨Nat.le_of_ble_eq_true rfl, Nat.le_of_ble_eq_true rfl⟩) hS (fun q _ h => hFc q h) hFc (fun r_25 u9 t9 H1 locs ht9 hvm9 hw9 hB9 hz9 hk9 hS => ?_)
            have hP : va_P (gD g) cl0 ws H1 := by rw [← ht9]; exact hB9.1
            have hz_r_25 : r_25 = 0 ∨ r_25 = 1 := hw9
            clear hB9 hz9 hk9 hvm9 ht9 hw9
            generalize H1 = H at hP hS ⊢
            have J_91 : ∀  (H : Heap) (locs : List Loc) (ls : Array Slot), va_P (gD g) cl0 ws H → va_D A ws → va_S A s.heap H locs → lv_has ls 3 [(0, .ref h0), (1, .int x1), (2, .int r_5)] → W p l e (headSpec (wt yX9_isFolded cX9_isFolded 3 (some .boolean)) ({ frames := 3, cells := 0, slots := 0, locals := 74 })).room s m ([.ref h0, .int x1] : List Value).toArray below meth c H locs (0) (0) (MQ below (va_Qi (fun (r : Int32) (u9 : va_W) => (r = 0 ∨ r = 1) ∧ (smR u9 h0) ∧ (KS ws u9 h0)) (gQ1 g [(7, 2), (7, 9)] [(7, 0), (7, 1), (7, 3), (7, 5), (7, 6), (7, 7), (7, 8)] none A ws) A) ([.ref h0, .int x1] : List Value).toArray s (0) (0) A) (F0 m 91 ls []) := by
              intro  H locs ls  hP hD hS hl
              refine lv_aload_n hx hb dX9_isFolded_91 rfl (lv_at hl 0 rfl) ?_
              refine lv_iload_n hx hb dX9_isFolded_92 rfl (lv_at hl 1 rfl) ?_
              refine lv_iload_n hx hb dX9_isFolded_93 rfl (lv_at hl 2 rfl) ?_
              have hFc := gfree hD hS hA
              refine va_calli (va_runS (As := [.int r_5]) (rest := [.int x1, .ref h0]) ⟨hx, hb, hml, hown, hts⟩ (m_X6_gives l g H.size ws (r_5) hG ) (va_cwS 1 hts (gd_S kw_1625 kw_1216 kw_1207 kw_1215) rfl rfl rfl (by decide +kernel) ⟨Nat.le_of_ble_eq_true rfl, Nat.le_of_ble_eq_true rfl⟩) ⟨gblind, fun U hU hW9 => gmk hU hW9 hP hK hD hex hE hS hFc⟩ rfl rfl hl.1 rfl (lv_room (Nat.le_of_ble_eq_true rfl)) dX9_isFolded_94 ⟨Nat.le_of_ble_eq_true rfl, Nat.le_of_ble_eq_true rfl⟩) hS (fun q _ h => hFc q h) hFc (fun r_28 u9 t9 H1 locs ht9 hvm9 hw9 hB9 hz9 hk9 hS => ?_)
              have hP : va_P (gD g) cl0 ws H1 := by rw [← ht9]; exact hB9.1
              clear hB9 hz9 hk9 hvm9 ht9 hw9
              generalize H1 = H at hP hS ⊢
              refine lv_iload_n hx hb dX9_isFolded_97 rfl (lv_at hl 2 rfl) ?_
              refine lv_aload_n hx hb dX9_isFolded_98 rfl (lv_at hl 0 rfl) ?_
              refine va_get (D := gD g) (ci := 8) (v := .ref r0_1) (C := RX9) (T := TX9) (N := 6) hx hb hts inX9 hown hK hP k_1 hk_1 rfl 0 (by decide) (hts _ kw_1552) (fun _ h9 => h9) rfl dX9_isFolded_99 ?_
              refine lv_iload_n hx hb dX9_isFolded_102 rfl (lv_at hl 1 rfl) ?_
              have hFc := gfree hD hS hA
              obtain ⟨k_29, fs_29, hk_29⟩ := gC_of o_r0_1
              refine va_calll (va_runV (As := [.int x1]) (rest := [.int r_5, .int r_28, .int x1, .ref h0]) ⟨hx, hb, hml, hown, hts⟩ (m_X8_argAt_x l g H.size ws r0_1 (x1) hG o_r0_1) (cwV 1 hts (gd_V kw_1605 kw_1476 kw_1477 kw_782 kw_1475) rfl rfl rfl (by decide +kernel) ⟨Nat.le_of_ble_eq_true rfl, Nat.le_of_ble_eq_true rfl⟩) ⟨gblind, va_recv hK hP (ci := 7) (q0 := k_29) rfl hk_29, fun U hU hW9 => gmk hU hW9 hP hK hD hex hE hS hFc⟩ rfl rfl hl.1 rfl (lv_room (Nat.le_of_ble_eq_true rfl)) dX9_isFolded_103 ⟨Nat.le_of_ble_eq_true rfl, Nat.le_of_ble_eq_true rfl⟩) hS (fun q _ h => hFc q h) hFc (fun r_30 u9 t9 H1 locs ht9 hvm9 hw9 hB9 hz9 hk9 hS => ?_)
              have hP : va_P (gD g) cl0 ws H1 := by rw [← ht9]; exact hB9.1
              obtain ⟨hw9, xp_31⟩ := hw9
              clear hB9 hz9 hk9 hvm9 ht9 hw9
              generalize H1 = H at hP hS ⊢
              refine lv_aload_n hx hb dX9_isFolded_106 rfl (lv_at hl 0 rfl) ?_
              refine va_get (D := gD g) (ci := 8) (v := .ref r0_1) (C := RX9) (T := TX9) (N := 6) hx hb hts inX9 hown hK hP k_1 hk_1 rfl 0 (by decide) (hts _ kw_1552) (fun _ h9 => h9) rfl dX9_isFolded_107 ?_
              refine lv_iload_n hx hb dX9_isFolded_110 rfl (lv_at hl 1 rfl) ?_
              refine lv_iconst (v := 1) hx hb dX9_isFolded_111 (by decide) ?_
              refine lv_iadd hx hb dX9_isFolded_112 ?_
              refine lv_topi (fun z_32 ez_32 => ?_)
              have hFc := gfree hD hS hA
              obtain ⟨k_33, fs_33, hk_33⟩ := gC_of o_r0_1
              refine va_calll (va_runV (As := [.int z_32]) (rest := [.long r_30, .int r_5, .int r_28, .int x1, .ref h0]) ⟨hx, hb, hml, hown, hts⟩ (m_X8_argAt_x l g H.size ws r0_1 (z_32) hG o_r0_1) (cwV 1 hts (gd_V kw_1605 kw_1476 kw_1477 kw_782 kw_1475) rfl rfl rfl (by decide +kernel) ⟨Nat.le_of_ble_eq_true rfl, Nat.le_of_ble_eq_true rfl⟩) ⟨gblind, va_recv hK hP (ci := 7) (q0 := k_33) rfl hk_33, fun U hU hW9 => gmk hU hW9 hP hK hD hex hE hS hFc⟩ rfl rfl hl.1 rfl (lv_room (Nat.le_of_ble_eq_true rfl)) dX9_isFolded_113 ⟨Nat.le_of_ble_eq_true rfl, Nat.le_of_ble_eq_true rfl⟩) hS (fun q _ h => hFc q h) hFc (fun r_34 u9 t9 H1 locs ht9 hvm9 hw9 hB9 hz9 hk9 hS => ?_)
              have hP : va_P (gD g) cl0 ws H1 := by rw [← ht9]; exact hB9.1
              obtain ⟨hw9, xp_35⟩ := hw9
              clear hB9 hz9 hk9 hvm9 ht9 hw9
              generalize H1 = H at hP hS ⊢
              have hFc := gfree hD hS hA
              refine va_calll (va_runS (As := [.int r_5, .long r_30, .long r_34]) (rest := [.int r_28, .int x1, .ref h0]) ⟨hx, hb, hml, hown, hts⟩ (m_X6_binary l g H.size ws (r_5) (r_30) (r_34) hG ) (va_cwS 3 hts (gd_S kw_1626 kw_1206 kw_1207 kw_1205) rfl rfl rfl (by decide +kernel) ⟨Nat.le_of_ble_eq_true rfl, Nat.le_of_ble_eq_true rfl⟩) ⟨gblind, fun U hU hW9 => gmk hU hW9 hP hK hD hex hE hS hFc⟩ rfl rfl hl.1 rfl (lv_room (Nat.le_of_ble_eq_true rfl)) dX9_isFolded_116 ⟨Nat.le_of_ble_eq_true rfl, Nat.le_of_ble_eq_true rfl⟩) hS (fun q _ h => hFc q h) hFc (fun r_36 u9 t9 H1 locs ht9 hvm9 hw9 hB9 hz9 hk9 hS => ?_)
              have hP : va_P (gD g) cl0 ws H1 := by rw [← ht9]; exact hB9.1
              clear hB9 hz9 hk9 hvm9 ht9 hw9
              generalize H1 = H at hP hS ⊢
              have hkQ9 := hk_1
              have hFc := gfree hD hS hA
              refine va_callv (va_runV (As := [.int x1, .int r_28, .long r_36]) (rest := []) ⟨hx, hb, hml, hown, hts⟩ (m_X9_putPush_x l g H.size ws h0 (x1) (r_28) (r_36) hG o_h0 tk0) (cwV 3 hts (gd_V kw_1627 kw_1712 kw_1713 kw_404 kw_1711) rfl rfl rfl (by decide +kernel) ⟨Nat.le_of_ble_eq_true rfl, Nat.le_of_ble_eq_true rfl⟩) ⟨gblind, va_recv hK hP (ci := 8) (q0 := k_1) rfl hk_1, fun U hU hW9 => gmk hU hW9 hP hK hD hex hE hS hFc⟩ rfl rfl hl.1 rfl (lv_room (Nat.le_of_ble_eq_true rfl)) dX9_isFolded_119 ⟨Nat.le_of_ble_eq_true rfl, Nat.le_of_ble_eq_true rfl⟩) hS (fun q _ h => hFc q h) hFc (fun  ws_37 t9 H1 locs ht9 hvm9 hw9 hB9 hz9 hk9 hS => ?_)
              obtain ⟨E_38, Fr_39, hG, hP1, hD1⟩ := hB9
              have hP : va_P (gD g) cl0 ws_37 H1 := by rw [← ht9]; exact hP1
              have hD : va_D A ws_37 := hD1.weaken (fun _ _ _ h => hFc _ h)
              obtain ⟨hw9, xp_42, xp_43⟩ := hw9
              clear hP1 hD1 hz9 hk9 hvm9 ht9 hw9
              generalize H1 = H at hP hS ⊢
              have aa_44 := a_r1_1
              have aa_45 := a_r2_1
              have aa_46 := a_r3_1
              have aa_47 := a_r4_1
              have aa_48 := a_r5_1
              have o_h0 := E_38.1 _ _ o_h0
              have tq_49 : KR ws ws_37 r0_1 := KR.tr tq_2 (xp_43 _ _ _ hkQ9 rfl)
              refine lv_aload_n hx hb dX9_isFolded_122 rfl (lv_at hl 0 rfl) ?_
              obtain ⟨fs9, hk_50, hq_50⟩ := ((gF.a (F' := []) Fr_39 (fun _ h => h))) _ _ _ hk_1
              refine opn_X9 hG hk_50 (fun r0_50 r1_50 n1_50 r2_50 n2_50 r3_50 n3_50 r4_50 n4_50 r5_50 n5_50 hf9 o_r0_50 a_r1_50 f2_50 a_r2_50 f4_50 a_r3_50 f6_50 a_r4_50 f8_50 a_r5_50 f10_50 f11_50 => ?_)
              subst hf9
              obtain rfl := fe_r (hq_50 0 (by decide))
              have o_r0_1 := o_r0_50
              obtain rfl := fe_r (hq_50 2 (by decide))
              have hn9 := gI_n hD ((E_38).1 _ _ aa_45) a_r2_50
              subst hn9
              have a_r2_1 := a_r2_50
              obtain rfl := fe_r (hq_50 3 (by decide))
              have hn9 := gI_n hD ((E_38).1 _ _ aa_46) a_r3_50
              subst hn9
              have a_r3_1 := a_r3_50
              obtain rfl := fe_r (hq_50 4 (by decide))
              have hn9 := gI_n hD ((E_38).1 _ _ aa_47) a_r4_50
              subst hn9
              have a_r4_1 := a_r4_50
              obtain rfl := fe_r (hq_50 5 (by decide))
              have hn9 := gI_n hD ((E_38).1 _ _ aa_48) a_r5_50
              subst hn9
              have a_r5_1 := a_r5_50
              refine va_get (D := gD g) (ci := 8) (v := .ref r0_1) (C := RX9) (T := TX9) (N := 6) hx hb hts inX9 hown hK hP k_1 hk_50 rfl 0 (by decide) (hts _ kw_1552) (fun _ h9 => h9) rfl dX9_isFolded_123 ?_
              refine lv_iload_n hx hb dX9_isFolded_126 rfl (lv_at hl 1 rfl) ?_
              refine lv_iconst (v := 1) hx hb dX9_isFolded_127 (by decide) ?_
              refine lv_iadd hx hb dX9_isFolded_128 ?_
              refine lv_topi (fun z_51 ez_51 => ?_)
              refine lv_iconst (v := 2) hx hb dX9_isFolded_129 (by decide) ?_
              have tq_52 : rowC ws_37 r0_1 RW := smR_at hD hk_50 rfl xp_42
              have hFc := gfree hD hS hA
              obtain ⟨k_53, fs_53, hk_53⟩ := gC_of o_r0_1
              refine va_callv (va_runV (As := [.int z_51, .int 2]) (rest := []) ⟨hx, hb, hml, hown, hts⟩ (m_X8_remove_y l g H.size ws_37 r0_1 (z_51) (2) hG o_r0_1 tq_52 (by first | (have e1 : (1 : Int32).toInt = 1 := (by decide); obtain ⟨u_z_51, q_z_51⟩ := i_add ez_51; have g_x1 := i_rg x1; have g_z_51 := i_rg z_51; omega) | (have e1 : (1 : Int32).toInt = 1 := (by decide); have e2 : (2 : Int32).toInt = 2 := (by decide); obtain ⟨u_z_51, q_z_51⟩ := i_add ez_51; have q_p0 := Hide.out p0; have q_px := Hide.out px; obtain ⟨u_z_3, q_z_3⟩ := i_add ez_3; obtain ⟨u_z_13, q_z_13⟩ := i_add ez_13; obtain ⟨u_z_21, q_z_21⟩ := i_add ez_21; obtain ⟨u_z_32, q_z_32⟩ := i_add ez_32; have g_x1 := i_rg x1; have g_z_13 := i_rg z_13; have g_z_21 := i_rg z_21; have g_z_3 := i_rg z_3; have g_z_32 := i_rg z_32; have g_z_51 := i_rg z_51; omega)) (by have e2 : (2 : Int32).toInt = 2 := (by decide); omega)) (cwV 2 hts (gd_V kw_1555 kw_1516 kw_1517 kw_782 kw_1515) rfl rfl rfl (by decide +kernel) ⟨Nat.le_of_ble_eq_true rfl, Nat.le_of_ble_eq_true rfl⟩) ⟨gblind, va_recv hK hP (ci := 7) (q0 := k_53) rfl hk_53, fun U hU hW9 => gmk hU hW9 hP hK hD hex hE hS hFc⟩ rfl rfl hl.1 rfl (lv_room (Nat.le_of_ble_eq_true rfl)) dX9_isFolded_130 ⟨Nat.le_of_ble_eq_true rfl, Nat.le_of_ble_eq_true rfl⟩) hS (fun q _ h => hFc q h) hFc (fun  ws_54 t9 H1 locs ht9 hvm9 hw9 hB9 hz9 hk9 hS => ?_)
              obtain ⟨E_55, Fr_56, hG, hP1, hD1⟩ := hB9
              have hP : va_P (gD g) cl0 ws_54 H1 := by rw [← ht9]; exact hP1
              have hD : va_D A ws_54 := hD1.weaken (fun _ _ _ h => hFc _ h)
              obtain ⟨hw9, xp_59⟩ := hw9
              clear hP1 hD1 hz9 hk9 hvm9 ht9 hw9
              generalize H1 = H at hP hS ⊢
              have aa_60 := a_r1_50
              have aa_61 := a_r2_1
              have aa_62 := a_r3_1
              have aa_63 := a_r4_1
              have aa_64 := a_r5_1
              have o_h0 := E_55.1 _ _ o_h0
              have tq_65 : KR ws ws_54 r0_1 := KR.tr tq_49 (KR_s Fr_56)
              obtain ⟨fs9, hk_66, hq_66⟩ := ((gF.a (F' := [(7, 2), (7, 9)]) Fr_56 (fun _ h => h))) _ _ _ hk_50
              refine opn_X9 hG hk_66 (fun r0_66 r1_66 n1_66 r2_66 n2_66 r3_66 n3_66 r4_66 n4_66 r5_66 n5_66 hf9 o_r0_66 a_r1_66 f2_66 a_r2_66 f4_66 a_r3_66 f6_66 a_r4_66 f8_66 a_r5_66 f10_66 f11_66 => ?_)
              subst hf9
              obtain rfl := fe_r (hq_66 0 (by decide))
              have o_r0_1 := o_r0_66
              obtain rfl := fe_r (hq_66 2 (by decide))
              have hn9 := gI_n hD ((E_55).1 _ _ aa_61) a_r2_66
              subst hn9
              have a_r2_1 := a_r2_66
              obtain rfl := fe_r (hq_66 3 (by decide))
              have hn9 := gI_n hD ((E_55).1 _ _ aa_62) a_r3_66
              subst hn9
              have a_r3_1 := a_r3_66
              obtain rfl := fe_r (hq_66 4 (by decide))
              have hn9 := gI_n hD ((E_55).1 _ _ aa_63) a_r4_66
              subst hn9
              have a_r4_1 := a_r4_66
              obtain rfl := fe_r (hq_66 5 (by decide))
              have hn9 := gI_n hD ((E_55).1 _ _ aa_64) a_r5_66
              subst hn9
              have a_r5_1 := a_r5_66
              have tq_67 : smR ws_54 h0 := ⟨_, r0_1, _, hk_66, rfl, xp_59⟩
              refine lv_iconst (v := 1) hx hb dX9_isFolded_133 (by decide) ?_
              refine W.widen (k := 0) (n := 0) (Nat.le_of_ble_eq_true rfl) (Nat.le_of_ble_eq_true rfl) ?_
              exact W.zret (v := 1) hx hb hr (nz (Or.inr rfl)) (fun t9 ht9 hW9 => ⟨⟨_, ws_54, rfl, ⟨(Or.inr rfl), tq_67, KS_of hDH9 hkH9 rfl tq_65⟩, ⟨(E_38.tr E_55), (gF.tr (gF.mo (F' := [(7, 2), (7, 9)]) (C' := [(7, 0), (7, 1), (7, 3), (7, 5), (7, 6), (7, 7), (7, 8)]) (S' := none) Fr_39 (fun _ h => absurd h List.not_mem_nil) (by decide) (Or.inr rfl)) (gF.mo (F' := [(7, 2), (7, 9)]) (C' := [(7, 0), (7, 1), (7, 3), (7, 5), (7, 6), (7, 7), (7, 8)]) (S' := none) Fr_56 (fun _ h => h) (fun _ h => h) (Or.inl rfl))), hG, by rw [ht9]; exact hP, hD⟩⟩, hS.F ht9⟩) hS.2.2 dX9_isFolded_134
            refine lv_if_eq (tgt := 91) hx hb dX9_isFolded_71 (by decide) (fun c_68 => ?_) (fun c_68 => ?_)
            · exact J_91  H locs ls  hP hD hS (lv_sub hl [1, 2, 0] rfl)
            · refine lv_aload_n hx hb dX9_isFolded_74 rfl (lv_at hl 1 rfl) ?_
              refine va_get (D := gD g) (ci := 8) (v := .ref r0_1) (C := RX9) (T := TX9) (N := 6) hx hb hts inX9 hown hK hP k_1 hk_1 rfl 0 (by decide) (hts _ kw_1552) (fun _ h9 => h9) rfl dX9_isFolded_75 ?_
              refine lv_iload_n hx hb dX9_isFolded_78 rfl (lv_at hl 2 rfl) ?_
              refine lv_iconst (v := 1) hx hb dX9_isFolded_79 (by decide) ?_
              refine lv_iadd hx hb dX9_isFolded_80 ?_
              refine lv_topi (fun z_69 ez_69 => ?_)
              have hFc := gfree hD hS hA
              obtain ⟨k_70, fs_70, hk_70⟩ := gC_of o_r0_1
              refine va_calll (va_runV (As := [.int z_69]) (rest := []) ⟨hx, hb, hml, hown, hts⟩ (m_X8_argAt_x l g H.size ws r0_1 (z_69) hG o_r0_1) (cwV 1 hts (gd_V kw_1605 kw_1476 kw_1477 kw_782 kw_1475) rfl rfl rfl (by decide +kernel) ⟨Nat.le_of_ble_eq_true rfl, Nat.le_of_ble_eq_true rfl⟩) ⟨gblind, va_recv hK hP (ci := 7) (q0 := k_70) rfl hk_70, fun U hU hW9 => gmk hU hW9 hP hK hD hex hE hS hFc⟩ rfl rfl hl.1 rfl (lv_room (Nat.le_of_ble_eq_true rfl)) dX9_isFolded_81 ⟨Nat.le_of_ble_eq_true rfl, Nat.le_of_ble_eq_true rfl⟩) hS (fun q _ h => hFc q h) hFc (fun r_71 u9 t9 H1 locs ht9 hvm9 hw9 hB9 hz9 hk9 hS => ?_)
              have hP : va_P (gD g) cl0 ws H1 := by rw [← ht9]; exact hB9.1
              obtain ⟨hw9, xp_72⟩ := hw9
              clear hB9 hz9 hk9 hvm9 ht9 hw9
              generalize H1 = H at hP hS ⊢
              refine lv_lconst (v := 0) hx hb dX9_isFolded_84 (by decide) ?_
              refine W.lcmp hx hb dX9_isFolded_85 ?_
              refine lv_topi (fun z_73 ez_73 => ?_)
              refine lv_if_ne (tgt := 91) hx hb dX9_isFolded_86 (by decide) (fun c_74 => ?_) (fun c_74 => ?_)
              · exact J_91  H locs ls  hP hD hS (lv_sub hl [1, 2, 0] rfl)
              · exact J_89  H locs ls  hP hD hS (lv_sub hl [] rfl)
set_option maxHeartbeats 4000000 in
set_option maxRecDepth 100000 in
theorem m_X9_isUnaryFolded_x (l : Launch) (g : Gm) (sz : Nat) (ws : va_W) (h0 : Nat) (x1 : Int32) (hG : Good g ws) (o_h0 : gC ws h0 8) (fp_a : gP ws h0 (fun fs => ∀ (rn n : Nat), fs[2]? = some (.ref rn) → gI ws rn g.cZ n → 1297 ≤ n)) (fp_b : gP ws h0 (fun fs => ∀ (rn n : Nat), fs[3]? = some (.ref rn) → gI ws rn g.cZ n → 1297 ≤ n)) (fp_d : gP ws h0 (fun fs => ∀ (rn n : Nat), fs[4]? = some (.ref rn) → gI ws rn g.cI n → 1297 ≤ n)) (fp_f : gP ws h0 (fun fs => ∀ (rn n : Nat), fs[5]? = some (.ref rn) → gI ws rn g.cI n → 1297 ≤ n)) (tk0 : smR ws h0) (p0 : 0 ≤ x1.toInt) (px : x1.toInt ≤ 1300) : Met l yX9_isUnaryFolded (wt yX9_isUnaryFolded cX9_isUnaryFolded 3 (some .boolean)) ({ frames := 3, cells := 0, slots := 0, locals := 74 }) (va_Pc [.ref h0, .int x1] (st_G g sz ws)) (va_Qi (fun (r : Int32) (u9 : va_W) => (r = 0 ∨ r = 1) ∧ (smR u9 h0) ∧ (KS ws u9 h0)) (gQ1 g [(7, 2), (7, 9)] [(7, 0), (7, 1), (7, 3), (7, 5), (7, 6), (7, 7), (7, 8)] none (va_A ws sz) ws) (va_A ws sz)) (0) (0) (va_A ws sz) := by
  refine Met.ofW (cc := cX9_isUnaryFolded) (maxL := 3) (ret := (some .boolean)) (by decide) rfl ?_
  intro p e s m args below meth c s₁ B hml hv
  obtain ⟨rfl, hsz, hP, hK, hD0, hex, hE⟩ := hv
  have hx := B.exec
  have hb := B.bytes
  have hr := B.returns
  have hts0 := atoms_spec (ws := wt yX9_isUnaryFolded cX9_isUnaryFolded 3 (some .boolean)) B.pre
  have hts : ∀ w ∈ tb, w.before _ s = true := fun w h => hts0 w (List.mem_cons_of_mem _ h)
  have hown : s.vm.findClass RX9 = some m.cls := findClass_of_methodNamed B.named
  subst hsz
  have hD := hD0.self (sz := s.heap.size)
  generalize hAe : va_A ws s.heap.size = A at hD hE ⊢
  have hA : ∀ q : Nat, s.heap.size ≤ q → A q := fun q h => by rw [← hAe]; exact Or.inr h
  have hS : va_S A s.heap s.heap [] := va_S.rf
  have hl := lv_entry ([.ref h0, .int x1]) (n := 3) (Nat.le_of_ble_eq_true rfl)
  rw [lg_entry_eq]
  generalize (lg_sl ([.ref h0, .int x1]) ++ List.replicate (3 - (lg_sl ([.ref h0, .int x1])).length) Slot.unset).toArray = ls at hl ⊢
  replace p0 := hide p0
  replace px := hide px
  have hl : lv_has ls 3 [(0, .ref h0), (1, .int x1)] := hl
  obtain ⟨k_1, fs9, hk_1⟩ := gC_of o_h0
  refine opn_X9 hG hk_1 (fun r0_1 r1_1 n1_1 r2_1 n2_1 r3_1 n3_1 r4_1 n4_1 r5_1 n5_1 hf9 o_r0_1 a_r1_1 f2_1 a_r2_1 f4_1 a_r3_1 f6_1 a_r4_1 f8_1 a_r5_1 f10_1 f11_1 => ?_)
  subst hf9
  have fq_a := fp_a _ _ _ hk_1 _ _ rfl a_r2_1
  replace fq_a := hide fq_a
  have fq_b := fp_b _ _ _ hk_1 _ _ rfl a_r3_1
  replace fq_b := hide fq_b
  have fq_d := fp_d _ _ _ hk_1 _ _ rfl a_r4_1
  replace fq_d := hide fq_d
  have fq_f := fp_f _ _ _ hk_1 _ _ rfl a_r5_1
  replace fq_f := hide fq_f
  have hkH9 := hk_1
  have hDH9 := hD
  have tq_2 : KR ws ws r0_1 := KR_rf
  refine lv_aload_n hx hb dX9_isUnaryFolded_0 rfl (lv_at hl 0 rfl) ?_
  refine va_get (D := gD g) (ci := 8) (v := .ref r0_1) (C := RX9) (T := TX9) (N := 6) hx hb hts inX9 hown hK hP k_1 hk_1 rfl 0 (by decide) (hts _ kw_1552) (fun _ h9 => h9) rfl dX9_isUnaryFolded_1 ?_
  refine lv_iload_n hx hb dX9_isUnaryFolded_4 rfl (lv_at hl 1 rfl) ?_
  refine lv_iconst (v := 1) hx hb dX9_isUnaryFolded_5 (by decide) ?_
  refine lv_iadd hx hb dX9_isUnaryFolded_6 ?_
  refine lv_topi (fun z_3 ez_3 => ?_)
  have hFc := gfree hD hS hA
  obtain ⟨k_4, fs_4, hk_4⟩ := gC_of o_r0_1
  refine va_calli (va_runV (As := [.int z_3]) (rest := []) ⟨hx, hb, hml, hown, hts⟩ (m_X8_opAt_x l g s.heap.size ws r0_1 (z_3) hG o_r0_1) (cwV 1 hts (gd_V kw_1596 kw_1513 kw_1514 kw_782 kw_1512) rfl rfl rfl (by decide +kernel) ⟨Nat.le_of_ble_eq_true rfl, Nat.le_of_ble_eq_true rfl⟩) ⟨gblind, va_recv hK hP (ci := 7) (q0 := k_4) rfl hk_4, fun U hU hW9 => gmk hU hW9 hP hK hD hex hE hS hFc⟩ rfl rfl hl.1 rfl (lv_room (Nat.le_of_ble_eq_true rfl)) dX9_isUnaryFolded_7 ⟨Nat.le_of_ble_eq_true rfl, Nat.le_of_ble_eq_true rfl⟩) hS (fun q _ h => hFc q h) hFc (fun r_5 u9 t9 H1 locs ht9 hvm9 hw9 hB9 hz9 hk9 hS => ?_)
  have hP : va_P (gD g) cl0 ws H1 := by rw [← ht9]; exact hB9.1
  obtain ⟨hw9, xp_6⟩ := hw9
  clear hB9 hz9 hk9 hvm9 ht9 hw9
  generalize H1 = H at hP hS ⊢
  refine lv_istore_n (lv' := [(2, .int r_5), (0, .ref h0), (1, .int x1)]) hx hb dX9_isUnaryFolded_10 rfl hl (by decide) rfl (fun ls hl => ?_)
  refine lv_iload_n hx hb dX9_isUnaryFolded_11 rfl (lv_at hl 0 rfl) ?_
  have hFc := gfree hD hS hA
  refine va_calli (va_runS (As := [.int r_5]) (rest := []) ⟨hx, hb, hml, hown, hts⟩ (m_X6_isUnary l g H.size ws (r_5) hG ) (va_cwS 1 hts (gd_S kw_1655 kw_1237 kw_1207 kw_1236) rfl rfl rfl (by decide +kernel) ⟨Nat.le_of_ble_eq_true rfl, Nat.le_of_ble_eq_true rfl⟩) ⟨gblind, fun U hU hW9 => gmk hU hW9 hP hK hD hex hE hS hFc⟩ rfl rfl hl.1 rfl (lv_room (Nat.le_of_ble_eq_true rfl)) dX9_isUnaryFolded_12 ⟨Nat.le_of_ble_eq_true rfl, Nat.le_of_ble_eq_true rfl⟩) hS (fun q _ h => hFc q h) hFc (fun r_7 u9 t9 H1 locs ht9 hvm9 hw9 hB9 hz9 hk9 hS => ?_)
  have hP : va_P (gD g) cl0 ws H1 := by rw [← ht9]; exact hB9.1
  have hz_r_7 : r_7 = 0 ∨ r_7 = 1 := hw9
  clear hB9 hz9 hk9 hvm9 ht9 hw9
  generalize H1 = H at hP hS ⊢
  have J_39 : ∀  (H : Heap) (locs : List Loc) (ls : Array Slot), va_P (gD g) cl0 ws H → va_D A ws → va_S A s.heap H locs → lv_has ls 3 [] → W p l e (headSpec (wt yX9_isUnaryFolded cX9_isUnaryFolded 3 (some .boolean)) ({ frames := 3, cells := 0, slots := 0, locals := 74 })).room s m ([.ref h0, .int x1] : List Value).toArray below meth c H locs (0) (0) (MQ below (va_Qi (fun (r : Int32) (u9 : va_W) => (r = 0 ∨ r = 1) ∧ (smR u9 h0) ∧ (KS ws u9 h0)) (gQ1 g [(7, 2), (7, 9)] [(7, 0), (7, 1), (7, 3), (7, 5), (7, 6), (7, 7), (7, 8)] none A ws) A) ([.ref h0, .int x1] : List Value).toArray s (0) (0) A) (F0 m 39 ls []) := by
    intro  H locs ls  hP hD hS hl
    refine lv_iconst (v := 0) hx hb dX9_isUnaryFolded_39 (by decide) ?_
    refine W.widen (k := 0) (n := 0) (Nat.le_of_ble_eq_true rfl) (Nat.le_of_ble_eq_true rfl) ?_
    exact W.zret (v := 0) hx hb hr (nz (Or.inl rfl)) (fun t9 ht9 hW9 => ⟨⟨_, ws, rfl, ⟨(Or.inl rfl), tk0, KS_of hDH9 hkH9 rfl tq_2⟩, ⟨gE.rf, gF.rf, hG, by rw [ht9]; exact hP, hD⟩⟩, hS.F ht9⟩) hS.2.2 dX9_isUnaryFolded_40
  refine lv_if_eq (tgt := 39) hx hb dX9_isUnaryFolded_15 (by decide) (fun c_10 => ?_) (fun c_10 => ?_)
  · exact J_39  H locs ls  hP hD hS (lv_sub hl [] rfl)
  · refine lv_aload_n hx hb dX9_isUnaryFolded_18 rfl (lv_at hl 1 rfl) ?_
    refine lv_iload_n hx hb dX9_isUnaryFolded_19 rfl (lv_at hl 2 rfl) ?_
    have hFc := gfree hD hS hA
    refine va_calli (va_runV (As := [.int x1]) (rest := []) ⟨hx, hb, hml, hown, hts⟩ (m_X9_pushKind l g H.size ws h0 (x1) hG o_h0) (cwV 1 hts (gd_V kw_1622 kw_1696 kw_1697 kw_404 kw_1695) rfl rfl rfl (by decide +kernel) ⟨Nat.le_of_ble_eq_true rfl, Nat.le_of_ble_eq_true rfl⟩) ⟨gblind, va_recv hK hP (ci := 8) (q0 := k_1) rfl hk_1, fun U hU hW9 => gmk hU hW9 hP hK hD hex hE hS hFc⟩ rfl rfl hl.1 rfl (lv_room (Nat.le_of_ble_eq_true rfl)) dX9_isUnaryFolded_20 ⟨Nat.le_of_ble_eq_true rfl, Nat.le_of_ble_eq_true rfl⟩) hS (fun q _ h => hFc q h) hFc (fun r_11 u9 t9 H1 locs ht9 hvm9 hw9 hB9 hz9 hk9 hS => ?_)
    have hP : va_P (gD g) cl0 ws H1 := by rw [← ht9]; exact hB9.1
    clear hB9 hz9 hk9 hvm9 ht9 hw9
    generalize H1 = H at hP hS ⊢
    refine lv_iload_n hx hb dX9_isUnaryFolded_23 rfl (lv_at hl 0 rfl) ?_
    have hFc := gfree hD hS hA
    refine va_calli (va_runS (As := [.int r_5]) (rest := [.int r_11]) ⟨hx, hb, hml, hown, hts⟩ (m_X6_takes l g H.size ws (r_5) hG ) (va_cwS 1 hts (gd_S kw_1623 kw_1255 kw_1207 kw_1254) rfl rfl rfl (by decide +kernel) ⟨Nat.le_of_ble_eq_true rfl, Nat.le_of_ble_eq_true rfl⟩) ⟨gblind, fun U hU hW9 => gmk hU hW9 hP hK hD hex hE hS hFc⟩ rfl rfl hl.1 rfl (lv_room (Nat.le_of_ble_eq_true rfl)) dX9_isUnaryFolded_24 ⟨Nat.le_of_ble_eq_true rfl, Nat.le_of_ble_eq_true rfl⟩) hS (fun q _ h => hFc q h) hFc (fun r_12 u9 t9 H1 locs ht9 hvm9 hw9 hB9 hz9 hk9 hS => ?_)
    have hP : va_P (gD g) cl0 ws H1 := by rw [← ht9]; exact hB9.1
    clear hB9 hz9 hk9 hvm9 ht9 hw9
    generalize H1 = H at hP hS ⊢
    refine lv_icmp_ne (tgt := 39) hx hb dX9_isUnaryFolded_27 (by decide) (fun c_13 => ?_) (fun c_13 => ?_)
    · exact J_39  H locs ls  hP hD hS (lv_sub hl [] rfl)
    · refine lv_aload_n hx hb dX9_isUnaryFolded_30 rfl (lv_at hl 1 rfl) ?_
      refine lv_iload_n hx hb dX9_isUnaryFolded_31 rfl (lv_at hl 2 rfl) ?_
      refine lv_iconst (v := 2) hx hb dX9_isUnaryFolded_32 (by decide) ?_
      have hFc := gfree hD hS hA
      refine va_calli (va_runV (As := [.int x1, .int 2]) (rest := []) ⟨hx, hb, hml, hown, hts⟩ (m_X9_isWindow l g H.size ws h0 (x1) (2) hG o_h0 (gP_of hD hk_1 (fun p90 q90 e90 g90 => by cases e90; have z90 := gI_n hD a_r2_1 g90; subst z90; exact (by have q_f4_1 := Hide.out f4_1; have q_fq_a := Hide.out fq_a; omega))) (gP_of hD hk_1 (fun p90 q90 e90 g90 => by cases e90; have z90 := gI_n hD a_r3_1 g90; subst z90; exact (by have q_f6_1 := Hide.out f6_1; have q_fq_b := Hide.out fq_b; omega))) (gP_of hD hk_1 (fun p90 q90 e90 g90 => by cases e90; have z90 := gI_n hD a_r4_1 g90; subst z90; exact (by have q_f8_1 := Hide.out f8_1; have q_fq_d := Hide.out fq_d; omega))) (gP_of hD hk_1 (fun p90 q90 e90 g90 => by cases e90; have z90 := gI_n hD a_r5_1 g90; subst z90; exact (by have q_f10_1 := Hide.out f10_1; have q_fq_f := Hide.out fq_f; omega))) (by have e1 : (1 : Int32).toInt = 1 := (by decide); have q_p0 := Hide.out p0; have q_px := Hide.out px; obtain ⟨u_z_3, q_z_3⟩ := i_add ez_3; have g_x1 := i_rg x1; have g_z_3 := i_rg z_3; omega) (by have e1 : (1 : Int32).toInt = 1 := (by decide); have q_p0 := Hide.out p0; have q_px := Hide.out px; obtain ⟨u_z_3, q_z_3⟩ := i_add ez_3; have g_x1 := i_rg x1; have g_z_3 := i_rg z_3; omega) (by have e2 : (2 : Int32).toInt = 2 := (by decide); omega)) (cwV 2 hts (gd_V kw_1610 kw_1658 kw_1659 kw_404 kw_1657) rfl rfl rfl (by decide +kernel) ⟨Nat.le_of_ble_eq_true rfl, Nat.le_of_ble_eq_true rfl⟩) ⟨gblind, va_recv hK hP (ci := 8) (q0 := k_1) rfl hk_1, fun U hU hW9 => gmk hU hW9 hP hK hD hex hE hS hFc⟩ rfl rfl hl.1 rfl (lv_room (Nat.le_of_ble_eq_true rfl)) dX9_isUnaryFolded_33 ⟨Nat.le_of_ble_eq_true rfl, Nat.le_of_ble_eq_true rfl⟩) hS (fun q _ h => hFc q h) hFc (fun r_14 u9 t9 H1 locs ht9 hvm9 hw9 hB9 hz9 hk9 hS => ?_)
      have hP : va_P (gD g) cl0 ws H1 := by rw [← ht9]; exact hB9.1
      have hz_r_14 : r_14 = 0 ∨ r_14 = 1 := hw9
      clear hB9 hz9 hk9 hvm9 ht9 hw9
      generalize H1 = H at hP hS ⊢
      refine lv_if_ne (tgt := 41) hx hb dX9_isUnaryFolded_36 (by decide) (fun c_15 => ?_) (fun c_15 => ?_)
      · refine lv_aload_n hx hb dX9_isUnaryFolded_41 rfl (lv_at hl 1 rfl) ?_
        refine lv_iload_n hx hb dX9_isUnaryFolded_42 rfl (lv_at hl 2 rfl) ?_
        refine lv_iload_n hx hb dX9_isUnaryFolded_43 rfl (lv_at hl 0 rfl) ?_
        have hFc := gfree hD hS hA
        refine va_calli (va_runS (As := [.int r_5]) (rest := [.int x1, .ref h0]) ⟨hx, hb, hml, hown, hts⟩ (m_X6_gives l g H.size ws (r_5) hG ) (va_cwS 1 hts (gd_S kw_1625 kw_1216 kw_1207 kw_1215) rfl rfl rfl (by decide +kernel) ⟨Nat.le_of_ble_eq_true rfl, Nat.le_of_ble_eq_true rfl⟩) ⟨gblind, fun U hU hW9 => gmk hU hW9 hP hK hD hex hE hS hFc⟩ rfl rfl hl.1 rfl (lv_room (Nat.le_of_ble_eq_true rfl)) dX9_isUnaryFolded_44 ⟨Nat.le_of_ble_eq_true rfl, Nat.le_of_ble_eq_true rfl⟩) hS (fun q _ h => hFc q h) hFc (fun r_16 u9 t9 H1 locs ht9 hvm9 hw9 hB9 hz9 hk9 hS => ?_)
        have hP : va_P (gD g) cl0 ws H1 := by rw [← ht9]; exact hB9.1
        clear hB9 hz9 hk9 hvm9 ht9 hw9
        generalize H1 = H at hP hS ⊢
        refine lv_iload_n hx hb dX9_isUnaryFolded_47 rfl (lv_at hl 0 rfl) ?_
        refine lv_aload_n hx hb dX9_isUnaryFolded_48 rfl (lv_at hl 1 rfl) ?_
        refine va_get (D := gD g) (ci := 8) (v := .ref r0_1) (C := RX9) (T := TX9) (N := 6) hx hb hts inX9 hown hK hP k_1 hk_1 rfl 0 (by decide) (hts _ kw_1552) (fun _ h9 => h9) rfl dX9_isUnaryFolded_49 ?_
        refine lv_iload_n hx hb dX9_isUnaryFolded_52 rfl (lv_at hl 2 rfl) ?_
        have hFc := gfree hD hS hA
        obtain ⟨k_17, fs_17, hk_17⟩ := gC_of o_r0_1
        refine va_calll (va_runV (As := [.int x1]) (rest := [.int r_5, .int r_16, .int x1, .ref h0]) ⟨hx, hb, hml, hown, hts⟩ (m_X8_argAt_x l g H.size ws r0_1 (x1) hG o_r0_1) (cwV 1 hts (gd_V kw_1605 kw_1476 kw_1477 kw_782 kw_1475) rfl rfl rfl (by decide +kernel) ⟨Nat.le_of_ble_eq_true rfl, Nat.le_of_ble_eq_true rfl⟩) ⟨gblind, va_recv hK hP (ci := 7) (q0 := k_17) rfl hk_17, fun U hU hW9 => gmk hU hW9 hP hK hD hex hE hS hFc⟩ rfl rfl hl.1 rfl (lv_room (Nat.le_of_ble_eq_true rfl)) dX9_isUnaryFolded_53 ⟨Nat.le_of_ble_eq_true rfl, Nat.le_of_ble_eq_true rfl⟩) hS (fun q _ h => hFc q h) hFc (fun r_18 u9 t9 H1 locs ht9 hvm9 hw9 hB9 hz9 hk9 hS => ?_)
        have hP : va_P (gD g) cl0 ws H1 := by rw [← ht9]; exact hB9.1
        obtain ⟨hw9, xp_19⟩ := hw9
        clear hB9 hz9 hk9 hvm9 ht9 hw9
        generalize H1 = H at hP hS ⊢
        have hFc := gfree hD hS hA
        refine va_calll (va_runS (As := [.int r_5, .long r_18]) (rest := [.int r_16, .int x1, .ref h0]) ⟨hx, hb, hml, hown, hts⟩ (m_X6_unary l g H.size ws (r_5) (r_18) hG ) (va_cwS 2 hts (gd_S kw_1656 kw_1258 kw_1207 kw_1257) rfl rfl rfl (by decide +kernel) ⟨Nat.le_of_ble_eq_true rfl, Nat.le_of_ble_eq_true rfl⟩) ⟨gblind, fun U hU hW9 => gmk hU hW9 hP hK hD hex hE hS hFc⟩ rfl rfl hl.1 rfl (lv_room (Nat.le_of_ble_eq_true rfl)) dX9_isUnaryFolded_56 ⟨Nat.le_of_ble_eq_true rfl, Nat.le_of_ble_eq_true rfl⟩) hS (fun q _ h => hFc q h) hFc (fun r_20 u9 t9 H1 locs ht9 hvm9 hw9 hB9 hz9 hk9 hS => ?_)
        have hP : va_P (gD g) cl0 ws H1 := by rw [← ht9]; exact hB9.1
        clear hB9 hz9 hk9 hvm9 ht9 hw9
        generalize H1 = H at hP hS ⊢
        have hkQ9 := hk_1
        have hFc := gfree hD hS hA
        refine va_callv (va_runV (As := [.int x1, .int r_16, .long r_20]) (rest := []) ⟨hx, hb, hml, hown, hts⟩ (m_X9_putPush_x l g H.size ws h0 (x1) (r_16) (r_20) hG o_h0 tk0) (cwV 3 hts (gd_V kw_1627 kw_1712 kw_1713 kw_404 kw_1711) rfl rfl rfl (by decide +kernel) ⟨Nat.le_of_ble_eq_true rfl, Nat.le_of_ble_eq_true rfl⟩) ⟨gblind, va_recv hK hP (ci := 8) (q0 := k_1) rfl hk_1, fun U hU hW9 => gmk hU hW9 hP hK hD hex hE hS hFc⟩ rfl rfl hl.1 rfl (lv_room (Nat.le_of_ble_eq_true rfl)) dX9_isUnaryFolded_59 ⟨Nat.le_of_ble_eq_true rfl, Nat.le_of_ble_eq_true rfl⟩) hS (fun q _ h => hFc q h) hFc (fun  ws_21 t9 H1 locs ht9 hvm9 hw9 hB9 hz9 hk9 hS => ?_)
        obtain ⟨E_22, Fr_23, hG, hP1, hD1⟩ := hB9
        have hP : va_P (gD g) cl0 ws_21 H1 := by rw [← ht9]; exact hP1
        have hD : va_D A ws_21 := hD1.weaken (fun _ _ _ h => hFc _ h)
        obtain ⟨hw9, xp_26, xp_27⟩ := hw9
        clear hP1 hD1 hz9 hk9 hvm9 ht9 hw9
        generalize H1 = H at hP hS ⊢
        have aa_28 := a_r1_1
        have aa_29 := a_r2_1
        have aa_30 := a_r3_1
        have aa_31 := a_r4_1
        have aa_32 := a_r5_1
        have o_h0 := E_22.1 _ _ o_h0
        have tq_33 : KR ws ws_21 r0_1 := KR.tr tq_2 (xp_27 _ _ _ hkQ9 rfl)
        refine lv_aload_n hx hb dX9_isUnaryFolded_62 rfl (lv_at hl 1 rfl) ?_
        obtain ⟨fs9, hk_34, hq_34⟩ := ((gF.a (F' := []) Fr_23 (fun _ h => h))) _ _ _ hk_1
        refine opn_X9 hG hk_34 (fun r0_34 r1_34 n1_34 r2_34 n2_34 r3_34 n3_34 r4_34 n4_34 r5_34 n5_34 hf9 o_r0_34 a_r1_34 f2_34 a_r2_34 f4_34 a_r3_34 f6_34 a_r4_34 f8_34 a_r5_34 f10_34 f11_34 => ?_)
        subst hf9
        obtain rfl := fe_r (hq_34 0 (by decide))
        have o_r0_1 := o_r0_34
        obtain rfl := fe_r (hq_34 2 (by decide))
        have hn9 := gI_n hD ((E_22).1 _ _ aa_29) a_r2_34
        subst hn9
        have a_r2_1 := a_r2_34
        obtain rfl := fe_r (hq_34 3 (by decide))
        have hn9 := gI_n hD ((E_22).1 _ _ aa_30) a_r3_34
        subst hn9
        have a_r3_1 := a_r3_34
        obtain rfl := fe_r (hq_34 4 (by decide))
        have hn9 := gI_n hD ((E_22).1 _ _ aa_31) a_r4_34
        subst hn9
        have a_r4_1 := a_r4_34
        obtain rfl := fe_r (hq_34 5 (by decide))
        have hn9 := gI_n hD ((E_22).1 _ _ aa_32) a_r5_34
        subst hn9
        have a_r5_1 := a_r5_34
        refine va_get (D := gD g) (ci := 8) (v := .ref r0_1) (C := RX9) (T := TX9) (N := 6) hx hb hts inX9 hown hK hP k_1 hk_34 rfl 0 (by decide) (hts _ kw_1552) (fun _ h9 => h9) rfl dX9_isUnaryFolded_63 ?_
        refine lv_iload_n hx hb dX9_isUnaryFolded_66 rfl (lv_at hl 2 rfl) ?_
        refine lv_iconst (v := 1) hx hb dX9_isUnaryFolded_67 (by decide) ?_
        refine lv_iadd hx hb dX9_isUnaryFolded_68 ?_
        refine lv_topi (fun z_35 ez_35 => ?_)
        refine lv_iconst (v := 1) hx hb dX9_isUnaryFolded_69 (by decide) ?_
        have tq_36 : rowC ws_21 r0_1 RW := smR_at hD hk_34 rfl xp_26
        have hFc := gfree hD hS hA
        obtain ⟨k_37, fs_37, hk_37⟩ := gC_of o_r0_1
        refine va_callv (va_runV (As := [.int z_35, .int 1]) (rest := []) ⟨hx, hb, hml, hown, hts⟩ (m_X8_remove_y l g H.size ws_21 r0_1 (z_35) (1) hG o_r0_1 tq_36 (by first | (have e1 : (1 : Int32).toInt = 1 := (by decide); obtain ⟨u_z_35, q_z_35⟩ := i_add ez_35; have g_x1 := i_rg x1; have g_z_35 := i_rg z_35; omega) | (have e1 : (1 : Int32).toInt = 1 := (by decide); obtain ⟨u_z_35, q_z_35⟩ := i_add ez_35; have q_p0 := Hide.out p0; have q_px := Hide.out px; obtain ⟨u_z_3, q_z_3⟩ := i_add ez_3; have g_x1 := i_rg x1; have g_z_3 := i_rg z_3; have g_z_35 := i_rg z_35; omega)) (by have e1 : (1 : Int32).toInt = 1 := (by decide); omega)) (cwV 2 hts (gd_V kw_1555 kw_1516 kw_1517 kw_782 kw_1515) rfl rfl rfl (by decide +kernel) ⟨Nat.le_of_ble_eq_true rfl, Nat.le_of_ble_eq_true rfl⟩) ⟨gblind, va_recv hK hP (ci := 7) (q0 := k_37) rfl hk_37, fun U hU hW9 => gmk hU hW9 hP hK hD hex hE hS hFc⟩ rfl rfl hl.1 rfl (lv_room (Nat.le_of_ble_eq_true rfl)) dX9_isUnaryFolded_70 ⟨Nat.le_of_ble_eq_true rfl, Nat.le_of_ble_eq_true rfl⟩) hS (fun q _ h => hFc q h) hFc (fun  ws_38 t9 H1 locs ht9 hvm9 hw9 hB9 hz9 hk9 hS => ?_)
        obtain ⟨E_39, Fr_40, hG, hP1, hD1⟩ := hB9
        have hP : va_P (gD g) cl0 ws_38 H1 := by rw [← ht9]; exact hP1
        have hD : va_D A ws_38 := hD1.weaken (fun _ _ _ h => hFc _ h)
        obtain ⟨hw9, xp_43⟩ := hw9
        clear hP1 hD1 hz9 hk9 hvm9 ht9 hw9
        generalize H1 = H at hP hS ⊢
        have aa_44 := a_r1_34
        have aa_45 := a_r2_1
        have aa_46 := a_r3_1
        have aa_47 := a_r4_1
        have aa_48 := a_r5_1
        have o_h0 := E_39.1 _ _ o_h0
        have tq_49 : KR ws ws_38 r0_1 := KR.tr tq_33 (KR_s Fr_40)
        obtain ⟨fs9, hk_50, hq_50⟩ := ((gF.a (F' := [(7, 2), (7, 9)]) Fr_40 (fun _ h => h))) _ _ _ hk_34
        refine opn_X9 hG hk_50 (fun r0_50 r1_50 n1_50 r2_50 n2_50 r3_50 n3_50 r4_50 n4_50 r5_50 n5_50 hf9 o_r0_50 a_r1_50 f2_50 a_r2_50 f4_50 a_r3_50 f6_50 a_r4_50 f8_50 a_r5_50 f10_50 f11_50 => ?_)
        subst hf9
        obtain rfl := fe_r (hq_50 0 (by decide))
        have o_r0_1 := o_r0_50
        obtain rfl := fe_r (hq_50 2 (by decide))
        have hn9 := gI_n hD ((E_39).1 _ _ aa_45) a_r2_50
        subst hn9
        have a_r2_1 := a_r2_50
        obtain rfl := fe_r (hq_50 3 (by decide))
        have hn9 := gI_n hD ((E_39).1 _ _ aa_46) a_r3_50
        subst hn9
        have a_r3_1 := a_r3_50
        obtain rfl := fe_r (hq_50 4 (by decide))
        have hn9 := gI_n hD ((E_39).1 _ _ aa_47) a_r4_50
        subst hn9
        have a_r4_1 := a_r4_50
        obtain rfl := fe_r (hq_50 5 (by decide))
        have hn9 := gI_n hD ((E_39).1 _ _ aa_48) a_r5_50
        subst hn9
        have a_r5_1 := a_r5_50
        have tq_51 : smR ws_38 h0 := ⟨_, r0_1, _, hk_50, rfl, xp_43⟩
        refine lv_iconst (v := 1) hx hb dX9_isUnaryFolded_73 (by decide) ?_
        refine W.widen (k := 0) (n := 0) (Nat.le_of_ble_eq_true rfl) (Nat.le_of_ble_eq_true rfl) ?_
        exact W.zret (v := 1) hx hb hr (nz (Or.inr rfl)) (fun t9 ht9 hW9 => ⟨⟨_, ws_38, rfl, ⟨(Or.inr rfl), tq_51, KS_of hDH9 hkH9 rfl tq_49⟩, ⟨(E_22.tr E_39), (gF.tr (gF.mo (F' := [(7, 2), (7, 9)]) (C' := [(7, 0), (7, 1), (7, 3), (7, 5), (7, 6), (7, 7), (7, 8)]) (S' := none) Fr_23 (fun _ h => absurd h List.not_mem_nil) (by decide) (Or.inr rfl)) (gF.mo (F' := [(7, 2), (7, 9)]) (C' := [(7, 0), (7, 1), (7, 3), (7, 5), (7, 6), (7, 7), (7, 8)]) (S' := none) Fr_40 (fun _ h => h) (fun _ h => h) (Or.inl rfl))), hG, by rw [ht9]; exact hP, hD⟩⟩, hS.F ht9⟩) hS.2.2 dX9_isUnaryFolded_74
      · exact J_39  H locs ls  hP hD hS (lv_sub hl [] rfl)
set_option maxHeartbeats 4000000 in
set_option maxRecDepth 100000 in
theorem m_X9_isJumpDecided_x (l : Launch) (g : Gm) (sz : Nat) (ws : va_W) (h0 : Nat) (x1 : Int32) (hG : Good g ws) (o_h0 : gC ws h0 8) (fp_a : gP ws h0 (fun fs => ∀ (rn n : Nat), fs[2]? = some (.ref rn) → gI ws rn g.cZ n → 1297 ≤ n)) (fp_b : gP ws h0 (fun fs => ∀ (rn n : Nat), fs[3]? = some (.ref rn) → gI ws rn g.cZ n → 1297 ≤ n)) (fp_d : gP ws h0 (fun fs => ∀ (rn n : Nat), fs[4]? = some (.ref rn) → gI ws rn g.cI n → 1297 ≤ n)) (fp_f : gP ws h0 (fun fs => ∀ (rn n : Nat), fs[5]? = some (.ref rn) → gI ws rn g.cI n → 1297 ≤ n)) (tk0 : smR ws h0) (p0 : 0 ≤ x1.toInt) (px : x1.toInt ≤ 1300) : Met l yX9_isJumpDecided (wt yX9_isJumpDecided cX9_isJumpDecided 5 (some .boolean)) ({ frames := 3, cells := 0, slots := 0, locals := 74 }) (va_Pc [.ref h0, .int x1] (st_G g sz ws)) (va_Qi (fun (r : Int32) (u9 : va_W) => (r = 0 ∨ r = 1) ∧ (smR u9 h0) ∧ (KS ws u9 h0)) (gQ1 g [(7, 2), (7, 9)] [(7, 0), (7, 1), (7, 3), (7, 5), (7, 6), (7, 7), (7, 8)] none (va_A ws sz) ws) (va_A ws sz)) (0) (0) (va_A ws sz) := by
  refine Met.ofW (cc := cX9_isJumpDecided) (maxL := 5) (ret := (some .boolean)) (by decide) rfl ?_
  intro p e s m args below meth c s₁ B hml hv
  obtain ⟨rfl, hsz, hP, hK, hD0, hex, hE⟩ := hv
  have hx := B.exec
  have hb := B.bytes
  have hr := B.returns
  have hts0 := atoms_spec (ws := wt yX9_isJumpDecided cX9_isJumpDecided 5 (some .boolean)) B.pre
  have hts : ∀ w ∈ tb, w.before _ s = true := fun w h => hts0 w (List.mem_cons_of_mem _ h)
  have hown : s.vm.findClass RX9 = some m.cls := findClass_of_methodNamed B.named
  subst hsz
  have hD := hD0.self (sz := s.heap.size)
  generalize hAe : va_A ws s.heap.size = A at hD hE ⊢
  have hA : ∀ q : Nat, s.heap.size ≤ q → A q := fun q h => by rw [← hAe]; exact Or.inr h
  have hS : va_S A s.heap s.heap [] := va_S.rf
  have hl := lv_entry ([.ref h0, .int x1]) (n := 5) (Nat.le_of_ble_eq_true rfl)
  rw [lg_entry_eq]
  generalize (lg_sl ([.ref h0, .int x1]) ++ List.replicate (5 - (lg_sl ([.ref h0, .int x1])).length) Slot.unset).toArray = ls at hl ⊢
  replace p0 := hide p0
  replace px := hide px
  have hl : lv_has ls 5 [(0, .ref h0), (1, .int x1)] := hl
  obtain ⟨k_1, fs9, hk_1⟩ := gC_of o_h0
  refine opn_X9 hG hk_1 (fun r0_1 r1_1 n1_1 r2_1 n2_1 r3_1 n3_1 r4_1 n4_1 r5_1 n5_1 hf9 o_r0_1 a_r1_1 f2_1 a_r2_1 f4_1 a_r3_1 f6_1 a_r4_1 f8_1 a_r5_1 f10_1 f11_1 => ?_)
  subst hf9
  have fq_a := fp_a _ _ _ hk_1 _ _ rfl a_r2_1
  replace fq_a := hide fq_a
  have fq_b := fp_b _ _ _ hk_1 _ _ rfl a_r3_1
  replace fq_b := hide fq_b
  have fq_d := fp_d _ _ _ hk_1 _ _ rfl a_r4_1
  replace fq_d := hide fq_d
  have fq_f := fp_f _ _ _ hk_1 _ _ rfl a_r5_1
  replace fq_f := hide fq_f
  have hkH9 := hk_1
  have hDH9 := hD
  have tq_2 : KR ws ws r0_1 := KR_rf
  refine lv_aload_n hx hb dX9_isJumpDecided_0 rfl (lv_at hl 0 rfl) ?_
  refine lv_iload_n hx hb dX9_isJumpDecided_1 rfl (lv_at hl 1 rfl) ?_
  have hFc := gfree hD hS hA
  refine va_calli (va_runV (As := [.int x1]) (rest := []) ⟨hx, hb, hml, hown, hts⟩ (m_X9_pushKind l g s.heap.size ws h0 (x1) hG o_h0) (cwV 1 hts (gd_V kw_1622 kw_1696 kw_1697 kw_404 kw_1695) rfl rfl rfl (by decide +kernel) ⟨Nat.le_of_ble_eq_true rfl, Nat.le_of_ble_eq_true rfl⟩) ⟨gblind, va_recv hK hP (ci := 8) (q0 := k_1) rfl hk_1, fun U hU hW9 => gmk hU hW9 hP hK hD hex hE hS hFc⟩ rfl rfl hl.1 rfl (lv_room (Nat.le_of_ble_eq_true rfl)) dX9_isJumpDecided_2 ⟨Nat.le_of_ble_eq_true rfl, Nat.le_of_ble_eq_true rfl⟩) hS (fun q _ h => hFc q h) hFc (fun r_3 u9 t9 H1 locs ht9 hvm9 hw9 hB9 hz9 hk9 hS => ?_)
  have hP : va_P (gD g) cl0 ws H1 := by rw [← ht9]; exact hB9.1
  clear hB9 hz9 hk9 hvm9 ht9 hw9
  generalize H1 = H at hP hS ⊢
  refine lv_iconst (v := 1) hx hb dX9_isJumpDecided_5 (by decide) ?_
  refine lv_icmp_eq (tgt := 11) hx hb dX9_isJumpDecided_6 (by decide) (fun c_4 => ?_) (fun c_4 => ?_)
  · refine lv_aload_n hx hb dX9_isJumpDecided_11 rfl (lv_at hl 0 rfl) ?_
    refine lv_iload_n hx hb dX9_isJumpDecided_12 rfl (lv_at hl 1 rfl) ?_
    refine lv_iconst (v := 1) hx hb dX9_isJumpDecided_13 (by decide) ?_
    refine lv_iadd hx hb dX9_isJumpDecided_14 ?_
    refine lv_topi (fun z_5 ez_5 => ?_)
    have hFc := gfree hD hS hA
    refine va_calli (va_runV (As := [.int z_5]) (rest := []) ⟨hx, hb, hml, hown, hts⟩ (m_X9_pushKind l g H.size ws h0 (z_5) hG o_h0) (cwV 1 hts (gd_V kw_1622 kw_1696 kw_1697 kw_404 kw_1695) rfl rfl rfl (by decide +kernel) ⟨Nat.le_of_ble_eq_true rfl, Nat.le_of_ble_eq_true rfl⟩) ⟨gblind, va_recv hK hP (ci := 8) (q0 := k_1) rfl hk_1, fun U hU hW9 => gmk hU hW9 hP hK hD hex hE hS hFc⟩ rfl rfl hl.1 rfl (lv_room (Nat.le_of_ble_eq_true rfl)) dX9_isJumpDecided_15 ⟨Nat.le_of_ble_eq_true rfl, Nat.le_of_ble_eq_true rfl⟩) hS (fun q _ h => hFc q h) hFc (fun r_6 u9 t9 H1 locs ht9 hvm9 hw9 hB9 hz9 hk9 hS => ?_)
    have hP : va_P (gD g) cl0 ws H1 := by rw [← ht9]; exact hB9.1
    clear hB9 hz9 hk9 hvm9 ht9 hw9
    generalize H1 = H at hP hS ⊢
    refine lv_iconst (v := 1) hx hb dX9_isJumpDecided_18 (by decide) ?_
    have J_27 : ∀ (t_7 : Int32) (H : Heap) (locs : List Loc) (ls : Array Slot), 2 ≤ t_7.toInt ∧ t_7.toInt ≤ 3 → va_P (gD g) cl0 ws H → va_D A ws → va_S A s.heap H locs → lv_has ls 5 [(0, .ref h0), (1, .int x1)] → W p l e (headSpec (wt yX9_isJumpDecided cX9_isJumpDecided 5 (some .boolean)) ({ frames := 3, cells := 0, slots := 0, locals := 74 })).room s m ([.ref h0, .int x1] : List Value).toArray below meth c H locs (0) (0) (MQ below (va_Qi (fun (r : Int32) (u9 : va_W) => (r = 0 ∨ r = 1) ∧ (smR u9 h0) ∧ (KS ws u9 h0)) (gQ1 g [(7, 2), (7, 9)] [(7, 0), (7, 1), (7, 3), (7, 5), (7, 6), (7, 7), (7, 8)] none A ws) A) ([.ref h0, .int x1] : List Value).toArray s (0) (0) A) (F0 m 27 ls [.int t_7]) := by
      intro t_7 H locs ls iv_8 hP hD hS hl
      replace iv_8 := hide iv_8
      refine lv_istore_n (lv' := [(2, .int t_7), (0, .ref h0), (1, .int x1)]) hx hb dX9_isJumpDecided_27 rfl hl (by decide) rfl (fun ls hl => ?_)
      refine lv_aload_n hx hb dX9_isJumpDecided_28 rfl (lv_at hl 1 rfl) ?_
      refine va_get (D := gD g) (ci := 8) (v := .ref r0_1) (C := RX9) (T := TX9) (N := 6) hx hb hts inX9 hown hK hP k_1 hk_1 rfl 0 (by decide) (hts _ kw_1552) (fun _ h9 => h9) rfl dX9_isJumpDecided_29 ?_
      refine lv_iload_n hx hb dX9_isJumpDecided_32 rfl (lv_at hl 2 rfl) ?_
      refine lv_iload_n hx hb dX9_isJumpDecided_33 rfl (lv_at hl 0 rfl) ?_
      refine lv_iadd hx hb dX9_isJumpDecided_34 ?_
      refine lv_topi (fun z_11 ez_11 => ?_)
      refine lv_iconst (v := 1) hx hb dX9_isJumpDecided_35 (by decide) ?_
      refine lv_isub hx hb dX9_isJumpDecided_36 ?_
      refine lv_topi (fun z_12 ez_12 => ?_)
      have hFc := gfree hD hS hA
      obtain ⟨k_13, fs_13, hk_13⟩ := gC_of o_r0_1
      refine va_calli (va_runV (As := [.int z_12]) (rest := []) ⟨hx, hb, hml, hown, hts⟩ (m_X8_opAt_x l g H.size ws r0_1 (z_12) hG o_r0_1) (cwV 1 hts (gd_V kw_1596 kw_1513 kw_1514 kw_782 kw_1512) rfl rfl rfl (by decide +kernel) ⟨Nat.le_of_ble_eq_true rfl, Nat.le_of_ble_eq_true rfl⟩) ⟨gblind, va_recv hK hP (ci := 7) (q0 := k_13) rfl hk_13, fun U hU hW9 => gmk hU hW9 hP hK hD hex hE hS hFc⟩ rfl rfl hl.1 rfl (lv_room (Nat.le_of_ble_eq_true rfl)) dX9_isJumpDecided_37 ⟨Nat.le_of_ble_eq_true rfl, Nat.le_of_ble_eq_true rfl⟩) hS (fun q _ h => hFc q h) hFc (fun r_14 u9 t9 H1 locs ht9 hvm9 hw9 hB9 hz9 hk9 hS => ?_)
      have hP : va_P (gD g) cl0 ws H1 := by rw [← ht9]; exact hB9.1
      obtain ⟨hw9, xp_15⟩ := hw9
      clear hB9 hz9 hk9 hvm9 ht9 hw9
      generalize H1 = H at hP hS ⊢
      refine lv_istore_n (lv' := [(3, .int r_14), (2, .int t_7), (0, .ref h0), (1, .int x1)]) hx hb dX9_isJumpDecided_40 rfl hl (by decide) rfl (fun ls hl => ?_)
      refine lv_iload_n hx hb dX9_isJumpDecided_41 rfl (lv_at hl 1 rfl) ?_
      refine lv_iconst (v := 3) hx hb dX9_isJumpDecided_42 (by decide) ?_
      have J_55 : ∀ (t_16 : Int32) (H : Heap) (locs : List Loc) (ls : Array Slot), 153 ≤ t_16.toInt ∧ t_16.toInt ≤ 159 → va_P (gD g) cl0 ws H → va_D A ws → va_S A s.heap H locs → lv_has ls 5 [(0, .ref h0), (1, .int x1), (2, .int t_7), (3, .int r_14)] → W p l e (headSpec (wt yX9_isJumpDecided cX9_isJumpDecided 5 (some .boolean)) ({ frames := 3, cells := 0, slots := 0, locals := 74 })).room s m ([.ref h0, .int x1] : List Value).toArray below meth c H locs (0) (0) (MQ below (va_Qi (fun (r : Int32) (u9 : va_W) => (r = 0 ∨ r = 1) ∧ (smR u9 h0) ∧ (KS ws u9 h0)) (gQ1 g [(7, 2), (7, 9)] [(7, 0), (7, 1), (7, 3), (7, 5), (7, 6), (7, 7), (7, 8)] none A ws) A) ([.ref h0, .int x1] : List Value).toArray s (0) (0) A) (F0 m 55 ls [.int t_16]) := by
        intro t_16 H locs ls iv_17 hP hD hS hl
        replace iv_17 := hide iv_17
        refine lv_istore (lv' := [(4, .int t_16), (0, .ref h0), (1, .int x1), (2, .int t_7), (3, .int r_14)]) hx hb dX9_isJumpDecided_55 hl (by decide) rfl (fun ls hl => ?_)
        refine lv_iload_n hx hb dX9_isJumpDecided_57 rfl (lv_at hl 4 rfl) ?_
        refine lv_iload hx hb dX9_isJumpDecided_58 (lv_at hl 0 rfl) ?_
        have J_81 : ∀  (H : Heap) (locs : List Loc) (ls : Array Slot), va_P (gD g) cl0 ws H → va_D A ws → va_S A s.heap H locs → lv_has ls 5 [] → W p l e (headSpec (wt yX9_isJumpDecided cX9_isJumpDecided 5 (some .boolean)) ({ frames := 3, cells := 0, slots := 0, locals := 74 })).room s m ([.ref h0, .int x1] : List Value).toArray below meth c H locs (0) (0) (MQ below (va_Qi (fun (r : Int32) (u9 : va_W) => (r = 0 ∨ r = 1) ∧ (smR u9 h0) ∧ (KS ws u9 h0)) (gQ1 g [(7, 2), (7, 9)] [(7, 0), (7, 1), (7, 3), (7, 5), (7, 6), (7, 7), (7, 8)] none A ws) A) ([.ref h0, .int x1] : List Value).toArray s (0) (0) A) (F0 m 81 ls []) := by
          intro  H locs ls  hP hD hS hl
          refine lv_iconst (v := 0) hx hb dX9_isJumpDecided_81 (by decide) ?_
          refine W.widen (k := 0) (n := 0) (Nat.le_of_ble_eq_true rfl) (Nat.le_of_ble_eq_true rfl) ?_
          exact W.zret (v := 0) hx hb hr (nz (Or.inl rfl)) (fun t9 ht9 hW9 => ⟨⟨_, ws, rfl, ⟨(Or.inl rfl), tk0, KS_of hDH9 hkH9 rfl tq_2⟩, ⟨gE.rf, gF.rf, hG, by rw [ht9]; exact hP, hD⟩⟩, hS.F ht9⟩) hS.2.2 dX9_isJumpDecided_82
        refine lv_icmp_lt (tgt := 81) hx hb dX9_isJumpDecided_60 (by decide) (fun c_22 => ?_) (fun c_22 => ?_)
        · exact J_81  H locs ls  hP hD hS (lv_sub hl [] rfl)
        · refine lv_iload_n hx hb dX9_isJumpDecided_63 rfl (lv_at hl 4 rfl) ?_
          refine lv_iload hx hb dX9_isJumpDecided_64 (lv_at hl 0 rfl) ?_
          refine lv_bipush (v := 6) hx hb dX9_isJumpDecided_66 (by decide) ?_
          refine lv_iadd hx hb dX9_isJumpDecided_68 ?_
          refine lv_topi (fun z_23 ez_23 => ?_)
          refine lv_icmp_ge (tgt := 81) hx hb dX9_isJumpDecided_69 (by decide) (fun c_24 => ?_) (fun c_24 => ?_)
          · exact J_81  H locs ls  hP hD hS (lv_sub hl [] rfl)
          · refine lv_aload_n hx hb dX9_isJumpDecided_72 rfl (lv_at hl 1 rfl) ?_
            refine lv_iload_n hx hb dX9_isJumpDecided_73 rfl (lv_at hl 2 rfl) ?_
            refine lv_iload_n hx hb dX9_isJumpDecided_74 rfl (lv_at hl 3 rfl) ?_
            have hFc := gfree hD hS hA
            refine va_calli (va_runV (As := [.int x1, .int t_7]) (rest := []) ⟨hx, hb, hml, hown, hts⟩ (m_X9_isWindow l g H.size ws h0 (x1) (t_7) hG o_h0 (gP_of hD hk_1 (fun p90 q90 e90 g90 => by cases e90; have z90 := gI_n hD a_r2_1 g90; subst z90; exact (by have q_f4_1 := Hide.out f4_1; have q_fq_a := Hide.out fq_a; omega))) (gP_of hD hk_1 (fun p90 q90 e90 g90 => by cases e90; have z90 := gI_n hD a_r3_1 g90; subst z90; exact (by have q_f6_1 := Hide.out f6_1; have q_fq_b := Hide.out fq_b; omega))) (gP_of hD hk_1 (fun p90 q90 e90 g90 => by cases e90; have z90 := gI_n hD a_r4_1 g90; subst z90; exact (by have q_f8_1 := Hide.out f8_1; have q_fq_d := Hide.out fq_d; omega))) (gP_of hD hk_1 (fun p90 q90 e90 g90 => by cases e90; have z90 := gI_n hD a_r5_1 g90; subst z90; exact (by have q_f10_1 := Hide.out f10_1; have q_fq_f := Hide.out fq_f; omega))) (by first | (have e1 : (1 : Int32).toInt = 1 := (by decide); have q_p0 := Hide.out p0; have q_px := Hide.out px; obtain ⟨u_z_5, q_z_5⟩ := i_add ez_5; obtain ⟨u_z_11, q_z_11⟩ := i_add ez_11; have g_t_7 := i_rg t_7; have g_x1 := i_rg x1; have g_z_11 := i_rg z_11; have g_z_5 := i_rg z_5; omega) | (have e1 : (1 : Int32).toInt = 1 := (by decide); have q_p0 := Hide.out p0; have q_px := Hide.out px; obtain ⟨u_z_5, q_z_5⟩ := i_add ez_5; obtain ⟨u_z_11, q_z_11⟩ := i_add ez_11; have q_iv_8 := Hide.out iv_8; obtain ⟨u_z_12, q_z_12⟩ := i_sub ez_12; have g_t_7 := i_rg t_7; have g_x1 := i_rg x1; have g_z_11 := i_rg z_11; have g_z_12 := i_rg z_12; have g_z_5 := i_rg z_5; omega)) (by first | (have e1 : (1 : Int32).toInt = 1 := (by decide); have q_p0 := Hide.out p0; have q_px := Hide.out px; obtain ⟨u_z_5, q_z_5⟩ := i_add ez_5; obtain ⟨u_z_11, q_z_11⟩ := i_add ez_11; have g_t_7 := i_rg t_7; have g_x1 := i_rg x1; have g_z_11 := i_rg z_11; have g_z_5 := i_rg z_5; omega) | (have e1 : (1 : Int32).toInt = 1 := (by decide); have q_p0 := Hide.out p0; have q_px := Hide.out px; obtain ⟨u_z_5, q_z_5⟩ := i_add ez_5; obtain ⟨u_z_11, q_z_11⟩ := i_add ez_11; have q_iv_8 := Hide.out iv_8; obtain ⟨u_z_12, q_z_12⟩ := i_sub ez_12; have g_t_7 := i_rg t_7; have g_x1 := i_rg x1; have g_z_11 := i_rg z_11; have g_z_12 := i_rg z_12; have g_z_5 := i_rg z_5; omega)) (by first | (have q_iv_8 := Hide.out iv_8; obtain ⟨u_z_11, q_z_11⟩ := i_add ez_11; have g_t_7 := i_rg t_7; have g_x1 := i_rg x1; have g_z_11 := i_rg z_11; omega) | (have e1 : (1 : Int32).toInt = 1 := (by decide); have q_iv_8 := Hide.out iv_8; obtain ⟨u_z_11, q_z_11⟩ := i_add ez_11; have q_p0 := Hide.out p0; have q_px := Hide.out px; obtain ⟨u_z_5, q_z_5⟩ := i_add ez_5; obtain ⟨u_z_12, q_z_12⟩ := i_sub ez_12; have g_t_7 := i_rg t_7; have g_x1 := i_rg x1; have g_z_11 := i_rg z_11; have g_z_12 := i_rg z_12; have g_z_5 := i_rg z_5; omega))) (cwV 2 hts (gd_V kw_1610 kw_1658 kw_1659 kw_404 kw_1657) rfl rfl rfl (by decide +kernel) ⟨Nat.le_of_ble_eq_true rfl, Nat.le_of_ble_eq_true rfl⟩) ⟨gblind, va_recv hK hP (ci := 8) (q0 := k_1) rfl hk_1, fun U hU hW9 => gmk hU hW9 hP hK hD hex hE hS hFc⟩ rfl rfl hl.1 rfl (lv_room (Nat.le_of_ble_eq_true rfl)) dX9_isJumpDecided_75 ⟨Nat.le_of_ble_eq_true rfl, Nat.le_of_ble_eq_true rfl⟩) hS (fun q _ h => hFc q h) hFc (fun r_25 u9 t9 H1 locs ht9 hvm9 hw9 hB9 hz9 hk9 hS => ?_)
            have hP : va_P (gD g) cl0 ws H1 := by rw [← ht9]; exact hB9.1
            have hz_r_25 : r_25 = 0 ∨ r_25 = 1 := hw9
            clear hB9 hz9 hk9 hvm9 ht9 hw9
            generalize H1 = H at hP hS ⊢
            refine lv_if_ne (tgt := 83) hx hb dX9_isJumpDecided_78 (by decide) (fun c_26 => ?_) (fun c_26 => ?_)
            · refine lv_iload_n hx hb dX9_isJumpDecided_83 rfl (lv_at hl 4 rfl) ?_
              refine lv_aload_n hx hb dX9_isJumpDecided_84 rfl (lv_at hl 1 rfl) ?_
              refine va_get (D := gD g) (ci := 8) (v := .ref r0_1) (C := RX9) (T := TX9) (N := 6) hx hb hts inX9 hown hK hP k_1 hk_1 rfl 0 (by decide) (hts _ kw_1552) (fun _ h9 => h9) rfl dX9_isJumpDecided_85 ?_
              refine lv_iload_n hx hb dX9_isJumpDecided_88 rfl (lv_at hl 2 rfl) ?_
              have hFc := gfree hD hS hA
              obtain ⟨k_27, fs_27, hk_27⟩ := gC_of o_r0_1
              refine va_calll (va_runV (As := [.int x1]) (rest := [.int r_14]) ⟨hx, hb, hml, hown, hts⟩ (m_X8_argAt_x l g H.size ws r0_1 (x1) hG o_r0_1) (cwV 1 hts (gd_V kw_1605 kw_1476 kw_1477 kw_782 kw_1475) rfl rfl rfl (by decide +kernel) ⟨Nat.le_of_ble_eq_true rfl, Nat.le_of_ble_eq_true rfl⟩) ⟨gblind, va_recv hK hP (ci := 7) (q0 := k_27) rfl hk_27, fun U hU hW9 => gmk hU hW9 hP hK hD hex hE hS hFc⟩ rfl rfl hl.1 rfl (lv_room (Nat.le_of_ble_eq_true rfl)) dX9_isJumpDecided_89 ⟨Nat.le_of_ble_eq_true rfl, Nat.le_of_ble_eq_true rfl⟩) hS (fun q _ h => hFc q h) hFc (fun r_28 u9 t9 H1 locs ht9 hvm9 hw9 hB9 hz9 hk9 hS => ?_)
              have hP : va_P (gD g) cl0 ws H1 := by rw [← ht9]; exact hB9.1
              obtain ⟨hw9, xp_29⟩ := hw9
              clear hB9 hz9 hk9 hvm9 ht9 hw9
              generalize H1 = H at hP hS ⊢
              obtain ⟨z_30, ez_30⟩ : ∃ y : Int32, (r_28 : Int64).toInt32 = y := ⟨_, rfl⟩
              refine lv_l2i (v := z_30) hx hb dX9_isJumpDecided_92 ez_30 ?_
              refine lv_iload_n hx hb dX9_isJumpDecided_93 rfl (lv_at hl 3 rfl) ?_
              refine lv_iconst (v := 3) hx hb dX9_isJumpDecided_94 (by decide) ?_
              have J_113 : ∀ (t_31 : Int32) (H : Heap) (locs : List Loc) (ls : Array Slot), va_P (gD g) cl0 ws H → va_D A ws → va_S A s.heap H locs → lv_has ls 5 [(0, .ref h0), (1, .int x1), (2, .int t_7)] → W p l e (headSpec (wt yX9_isJumpDecided cX9_isJumpDecided 5 (some .boolean)) ({ frames := 3, cells := 0, slots := 0, locals := 74 })).room s m ([.ref h0, .int x1] : List Value).toArray below meth c H locs (0) (0) (MQ below (va_Qi (fun (r : Int32) (u9 : va_W) => (r = 0 ∨ r = 1) ∧ (smR u9 h0) ∧ (KS ws u9 h0)) (gQ1 g [(7, 2), (7, 9)] [(7, 0), (7, 1), (7, 3), (7, 5), (7, 6), (7, 7), (7, 8)] none A ws) A) ([.ref h0, .int x1] : List Value).toArray s (0) (0) A) (F0 m 113 ls [.int t_31, .int z_30, .int r_14]) := by
                intro t_31 H locs ls  hP hD hS hl
                have hFc := gfree hD hS hA
                refine va_calli (va_runS (As := [.int r_14, .int z_30, .int t_31]) (rest := []) ⟨hx, hb, hml, hown, hts⟩ (m_X6_isTaken l g H.size ws (r_14) (z_30) (t_31) hG ) (va_cwS 3 hts (gd_S kw_1631 kw_1235 kw_1207 kw_1234) rfl rfl rfl (by decide +kernel) ⟨Nat.le_of_ble_eq_true rfl, Nat.le_of_ble_eq_true rfl⟩) ⟨gblind, fun U hU hW9 => gmk hU hW9 hP hK hD hex hE hS hFc⟩ rfl rfl hl.1 rfl (lv_room (Nat.le_of_ble_eq_true rfl)) dX9_isJumpDecided_113 ⟨Nat.le_of_ble_eq_true rfl, Nat.le_of_ble_eq_true rfl⟩) hS (fun q _ h => hFc q h) hFc (fun r_34 u9 t9 H1 locs ht9 hvm9 hw9 hB9 hz9 hk9 hS => ?_)
                have hP : va_P (gD g) cl0 ws H1 := by rw [← ht9]; exact hB9.1
                have hz_r_34 : r_34 = 0 ∨ r_34 = 1 := hw9
                clear hB9 hz9 hk9 hvm9 ht9 hw9
                generalize H1 = H at hP hS ⊢
                refine lv_if_eq (tgt := 158) hx hb dX9_isJumpDecided_116 (by decide) (fun c_35 => ?_) (fun c_35 => ?_)
                · refine lv_aload_n hx hb dX9_isJumpDecided_158 rfl (lv_at hl 0 rfl) ?_
                  refine va_get (D := gD g) (ci := 8) (v := .ref r0_1) (C := RX9) (T := TX9) (N := 6) hx hb hts inX9 hown hK hP k_1 hk_1 rfl 0 (by decide) (hts _ kw_1552) (fun _ h9 => h9) rfl dX9_isJumpDecided_159 ?_
                  refine lv_iload_n hx hb dX9_isJumpDecided_162 rfl (lv_at hl 1 rfl) ?_
                  refine lv_iload_n hx hb dX9_isJumpDecided_163 rfl (lv_at hl 2 rfl) ?_
                  have tq_36 : rowC ws r0_1 RW := smR_at hD hk_1 rfl tk0
                  have hFc := gfree hD hS hA
                  obtain ⟨k_37, fs_37, hk_37⟩ := gC_of o_r0_1
                  refine va_callv (va_runV (As := [.int x1, .int t_7]) (rest := []) ⟨hx, hb, hml, hown, hts⟩ (m_X8_remove_y l g H.size ws r0_1 (x1) (t_7) hG o_r0_1 tq_36 (by first | (have e1 : (1 : Int32).toInt = 1 := (by decide); have q_p0 := Hide.out p0; have q_px := Hide.out px; obtain ⟨u_z_5, q_z_5⟩ := i_add ez_5; obtain ⟨u_z_11, q_z_11⟩ := i_add ez_11; have g_t_7 := i_rg t_7; have g_x1 := i_rg x1; have g_z_11 := i_rg z_11; have g_z_5 := i_rg z_5; omega) | (have e1 : (1 : Int32).toInt = 1 := (by decide); have q_p0 := Hide.out p0; have q_px := Hide.out px; obtain ⟨u_z_5, q_z_5⟩ := i_add ez_5; obtain ⟨u_z_11, q_z_11⟩ := i_add ez_11; have q_iv_8 := Hide.out iv_8; obtain ⟨u_z_12, q_z_12⟩ := i_sub ez_12; have g_t_7 := i_rg t_7; have g_x1 := i_rg x1; have g_z_11 := i_rg z_11; have g_z_12 := i_rg z_12; have g_z_5 := i_rg z_5; omega)) (by first | (have q_iv_8 := Hide.out iv_8; obtain ⟨u_z_11, q_z_11⟩ := i_add ez_11; have g_t_7 := i_rg t_7; have g_x1 := i_rg x1; have g_z_11 := i_rg z_11; omega) | (have e1 : (1 : Int32).toInt = 1 := (by decide); have q_iv_8 := Hide.out iv_8; obtain ⟨u_z_11, q_z_11⟩ := i_add ez_11; have q_p0 := Hide.out p0; have q_px := Hide.out px; obtain ⟨u_z_5, q_z_5⟩ := i_add ez_5; obtain ⟨u_z_12, q_z_12⟩ := i_sub ez_12; have g_t_7 := i_rg t_7; have g_x1 := i_rg x1; have g_z_11 := i_rg z_11; have g_z_12 := i_rg z_12; have g_z_5 := i_rg z_5; omega))) (cwV 2 hts (gd_V kw_1555 kw_1516 kw_1517 kw_782 kw_1515) rfl rfl rfl (by decide +kernel) ⟨Nat.le_of_ble_eq_true rfl, Nat.le_of_ble_eq_true rfl⟩) ⟨gblind, va_recv hK hP (ci := 7) (q0 := k_37) rfl hk_37, fun U hU hW9 => gmk hU hW9 hP hK hD hex hE hS hFc⟩ rfl rfl hl.1 rfl (lv_room (Nat.le_of_ble_eq_true rfl)) dX9_isJumpDecided_164 ⟨Nat.le_of_ble_eq_true rfl, Nat.le_of_ble_eq_true rfl⟩) hS (fun q _ h => hFc q h) hFc (fun  ws_38 t9 H1 locs ht9 hvm9 hw9 hB9 hz9 hk9 hS => ?_)
                  obtain ⟨E_39, Fr_40, hG, hP1, hD1⟩ := hB9
                  have hP : va_P (gD g) cl0 ws_38 H1 := by rw [← ht9]; exact hP1
                  have hD : va_D A ws_38 := hD1.weaken (fun _ _ _ h => hFc _ h)
                  obtain ⟨hw9, xp_43⟩ := hw9
                  clear hP1 hD1 hz9 hk9 hvm9 ht9 hw9
                  generalize H1 = H at hP hS ⊢
                  have aa_44 := a_r1_1
                  have aa_45 := a_r2_1
                  have aa_46 := a_r3_1
                  have aa_47 := a_r4_1
                  have aa_48 := a_r5_1
                  have o_h0 := E_39.1 _ _ o_h0
                  have tq_49 : KR ws ws_38 r0_1 := KR.tr tq_2 (KR_s Fr_40)
                  obtain ⟨fs9, hk_50, hq_50⟩ := ((gF.a (F' := [(7, 2), (7, 9)]) Fr_40 (fun _ h => h))) _ _ _ hk_1
                  refine opn_X9 hG hk_50 (fun r0_50 r1_50 n1_50 r2_50 n2_50 r3_50 n3_50 r4_50 n4_50 r5_50 n5_50 hf9 o_r0_50 a_r1_50 f2_50 a_r2_50 f4_50 a_r3_50 f6_50 a_r4_50 f8_50 a_r5_50 f10_50 f11_50 => ?_)
                  subst hf9
                  obtain rfl := fe_r (hq_50 0 (by decide))
                  have o_r0_1 := o_r0_50
                  obtain rfl := fe_r (hq_50 2 (by decide))
                  have hn9 := gI_n hD ((E_39).1 _ _ aa_45) a_r2_50
                  subst hn9
                  have a_r2_1 := a_r2_50
                  obtain rfl := fe_r (hq_50 3 (by decide))
                  have hn9 := gI_n hD ((E_39).1 _ _ aa_46) a_r3_50
                  subst hn9
                  have a_r3_1 := a_r3_50
                  obtain rfl := fe_r (hq_50 4 (by decide))
                  have hn9 := gI_n hD ((E_39).1 _ _ aa_47) a_r4_50
                  subst hn9
                  have a_r4_1 := a_r4_50
                  obtain rfl := fe_r (hq_50 5 (by decide))
                  have hn9 := gI_n hD ((E_39).1 _ _ aa_48) a_r5_50
                  subst hn9
                  have a_r5_1 := a_r5_50
                  have tq_51 : smR ws_38 h0 := ⟨_, r0_1, _, hk_50, rfl, xp_43⟩
                  refine lv_iconst (v := 1) hx hb dX9_isJumpDecided_167 (by decide) ?_
                  refine W.widen (k := 0) (n := 0) (Nat.le_of_ble_eq_true rfl) (Nat.le_of_ble_eq_true rfl) ?_
                  exact W.zret (v := 1) hx hb hr (nz (Or.inr rfl)) (fun t9 ht9 hW9 => ⟨⟨_, ws_38, rfl, ⟨(Or.inr rfl), tq_51, KS_of hDH9 hkH9 rfl tq_49⟩, ⟨E_39, (gF.mo (F' := [(7, 2), (7, 9)]) (C' := [(7, 0), (7, 1), (7, 3), (7, 5), (7, 6), (7, 7), (7, 8)]) (S' := none) Fr_40 (fun _ h => h) (fun _ h => h) (Or.inl rfl)), hG, by rw [ht9]; exact hP, hD⟩⟩, hS.F ht9⟩) hS.2.2 dX9_isJumpDecided_168
                · refine lv_aload_n hx hb dX9_isJumpDecided_119 rfl (lv_at hl 0 rfl) ?_
                  refine va_get (D := gD g) (ci := 8) (v := .ref r0_1) (C := RX9) (T := TX9) (N := 6) hx hb hts inX9 hown hK hP k_1 hk_1 rfl 0 (by decide) (hts _ kw_1552) (fun _ h9 => h9) rfl dX9_isJumpDecided_120 ?_
                  refine lv_iload_n hx hb dX9_isJumpDecided_123 rfl (lv_at hl 1 rfl) ?_
                  refine lv_sipush (v := 167) hx hb dX9_isJumpDecided_124 (by decide) ?_
                  refine lv_aload_n hx hb dX9_isJumpDecided_127 rfl (lv_at hl 0 rfl) ?_
                  refine va_get (D := gD g) (ci := 8) (v := .ref r0_1) (C := RX9) (T := TX9) (N := 6) hx hb hts inX9 hown hK hP k_1 hk_1 rfl 0 (by decide) (hts _ kw_1552) (fun _ h9 => h9) rfl dX9_isJumpDecided_128 ?_
                  refine lv_iload_n hx hb dX9_isJumpDecided_131 rfl (lv_at hl 1 rfl) ?_
                  refine lv_iload_n hx hb dX9_isJumpDecided_132 rfl (lv_at hl 2 rfl) ?_
                  refine lv_iadd hx hb dX9_isJumpDecided_133 ?_
                  refine lv_topi (fun z_52 ez_52 => ?_)
                  refine lv_iconst (v := 1) hx hb dX9_isJumpDecided_134 (by decide) ?_
                  refine lv_isub hx hb dX9_isJumpDecided_135 ?_
                  refine lv_topi (fun z_53 ez_53 => ?_)
                  have hFc := gfree hD hS hA
                  obtain ⟨k_54, fs_54, hk_54⟩ := gC_of o_r0_1
                  refine va_calll (va_runV (As := [.int z_53]) (rest := [.int 167, .int x1, .ref r0_1]) ⟨hx, hb, hml, hown, hts⟩ (m_X8_argAt_x l g H.size ws r0_1 (z_53) hG o_r0_1) (cwV 1 hts (gd_V kw_1605 kw_1476 kw_1477 kw_782 kw_1475) rfl rfl rfl (by decide +kernel) ⟨Nat.le_of_ble_eq_true rfl, Nat.le_of_ble_eq_true rfl⟩) ⟨gblind, va_recv hK hP (ci := 7) (q0 := k_54) rfl hk_54, fun U hU hW9 => gmk hU hW9 hP hK hD hex hE hS hFc⟩ rfl rfl hl.1 rfl (lv_room (Nat.le_of_ble_eq_true rfl)) dX9_isJumpDecided_136 ⟨Nat.le_of_ble_eq_true rfl, Nat.le_of_ble_eq_true rfl⟩) hS (fun q _ h => hFc q h) hFc (fun r_55 u9 t9 H1 locs ht9 hvm9 hw9 hB9 hz9 hk9 hS => ?_)
                  have hP : va_P (gD g) cl0 ws H1 := by rw [← ht9]; exact hB9.1
                  obtain ⟨hw9, xp_56⟩ := hw9
                  clear hB9 hz9 hk9 hvm9 ht9 hw9
                  generalize H1 = H at hP hS ⊢
                  have tq_57 : rowC ws r0_1 RW := smR_at hD hk_1 rfl tk0
                  have hFc := gfree hD hS hA
                  obtain ⟨k_58, fs_58, hk_58⟩ := gC_of o_r0_1
                  refine va_callv (va_runV (As := [.int x1, .int 167, .long r_55]) (rest := []) ⟨hx, hb, hml, hown, hts⟩ (m_X8_set_z l g H.size ws r0_1 (x1) (167) (r_55) RW hG o_r0_1 tq_57) (cwV 3 hts (gd_V kw_1600 kw_1523 kw_1524 kw_782 kw_1522) rfl rfl rfl (by decide +kernel) ⟨Nat.le_of_ble_eq_true rfl, Nat.le_of_ble_eq_true rfl⟩) ⟨gblind, va_recv hK hP (ci := 7) (q0 := k_58) rfl hk_58, fun U hU hW9 => gmk hU hW9 hP hK hD hex hE hS hFc⟩ rfl rfl hl.1 rfl (lv_room (Nat.le_of_ble_eq_true rfl)) dX9_isJumpDecided_139 ⟨Nat.le_of_ble_eq_true rfl, Nat.le_of_ble_eq_true rfl⟩) hS (fun q _ h => hFc q h) hFc (fun  ws_59 t9 H1 locs ht9 hvm9 hw9 hB9 hz9 hk9 hS => ?_)
                  obtain ⟨E_60, Fr_61, hG, hP1, hD1⟩ := hB9
                  have hP : va_P (gD g) cl0 ws_59 H1 := by rw [← ht9]; exact hP1
                  have hD : va_D A ws_59 := hD1.weaken (fun _ _ _ h => hFc _ h)
                  obtain ⟨hw9, xp_64⟩ := hw9
                  clear hP1 hD1 hz9 hk9 hvm9 ht9 hw9
                  generalize H1 = H at hP hS ⊢
                  have aa_65 := a_r1_1
                  have aa_66 := a_r2_1
                  have aa_67 := a_r3_1
                  have aa_68 := a_r4_1
                  have aa_69 := a_r5_1
                  have o_h0 := E_60.1 _ _ o_h0
                  have tq_70 : KR ws ws_59 r0_1 := KR.tr tq_2 (KR_s Fr_61)
                  obtain ⟨fs9, hk_71, hq_71⟩ := ((gF.a (F' := []) Fr_61 (fun _ h => h))) _ _ _ hk_1
                  refine opn_X9 hG hk_71 (fun r0_71 r1_71 n1_71 r2_71 n2_71 r3_71 n3_71 r4_71 n4_71 r5_71 n5_71 hf9 o_r0_71 a_r1_71 f2_71 a_r2_71 f4_71 a_r3_71 f6_71 a_r4_71 f8_71 a_r5_71 f10_71 f11_71 => ?_)
                  subst hf9
                  obtain rfl := fe_r (hq_71 0 (by decide))
                  have o_r0_1 := o_r0_71
                  obtain rfl := fe_r (hq_71 2 (by decide))
                  have hn9 := gI_n hD ((E_60).1 _ _ aa_66) a_r2_71
                  subst hn9
                  have a_r2_1 := a_r2_71
                  obtain rfl := fe_r (hq_71 3 (by decide))
                  have hn9 := gI_n hD ((E_60).1 _ _ aa_67) a_r3_71
                  subst hn9
                  have a_r3_1 := a_r3_71
                  obtain rfl := fe_r (hq_71 4 (by decide))
                  have hn9 := gI_n hD ((E_60).1 _ _ aa_68) a_r4_71
                  subst hn9
                  have a_r4_1 := a_r4_71
                  obtain rfl := fe_r (hq_71 5 (by decide))
                  have hn9 := gI_n hD ((E_60).1 _ _ aa_69) a_r5_71
                  subst hn9
                  have a_r5_1 := a_r5_71
                  have rw_72 : rowC ws_59 r0_1 RW := rowC_im xp_64 (fun _ _ _ _ _ w => sto_rw w (by decide))
                  have tq_73 : smR ws_59 h0 := ⟨_, r0_1, _, hk_71, rfl, rw_72⟩
                  refine lv_aload_n hx hb dX9_isJumpDecided_142 rfl (lv_at hl 0 rfl) ?_
                  refine va_get (D := gD g) (ci := 8) (v := .ref r0_1) (C := RX9) (T := TX9) (N := 6) hx hb hts inX9 hown hK hP k_1 hk_71 rfl 0 (by decide) (hts _ kw_1552) (fun _ h9 => h9) rfl dX9_isJumpDecided_143 ?_
                  refine lv_iload_n hx hb dX9_isJumpDecided_146 rfl (lv_at hl 1 rfl) ?_
                  refine lv_iconst (v := 1) hx hb dX9_isJumpDecided_147 (by decide) ?_
                  refine lv_iadd hx hb dX9_isJumpDecided_148 ?_
                  refine lv_topi (fun z_74 ez_74 => ?_)
                  refine lv_iload_n hx hb dX9_isJumpDecided_149 rfl (lv_at hl 2 rfl) ?_
                  refine lv_iconst (v := 1) hx hb dX9_isJumpDecided_150 (by decide) ?_
                  refine lv_isub hx hb dX9_isJumpDecided_151 ?_
                  refine lv_topi (fun z_75 ez_75 => ?_)
                  have tq_76 : rowC ws_59 r0_1 RW := smR_at hD hk_71 rfl tq_73
                  have hFc := gfree hD hS hA
                  obtain ⟨k_77, fs_77, hk_77⟩ := gC_of o_r0_1
                  refine va_callv (va_runV (As := [.int z_74, .int z_75]) (rest := []) ⟨hx, hb, hml, hown, hts⟩ (m_X8_remove_y l g H.size ws_59 r0_1 (z_74) (z_75) hG o_r0_1 tq_76 (by first | (have e1 : (1 : Int32).toInt = 1 := (by decide); obtain ⟨u_z_74, q_z_74⟩ := i_add ez_74; have g_x1 := i_rg x1; have g_z_74 := i_rg z_74; omega) | (have e1 : (1 : Int32).toInt = 1 := (by decide); obtain ⟨u_z_74, q_z_74⟩ := i_add ez_74; have q_p0 := Hide.out p0; have q_px := Hide.out px; obtain ⟨u_z_5, q_z_5⟩ := i_add ez_5; obtain ⟨u_z_11, q_z_11⟩ := i_add ez_11; obtain ⟨u_z_52, q_z_52⟩ := i_add ez_52; have g_t_7 := i_rg t_7; have g_x1 := i_rg x1; have g_z_11 := i_rg z_11; have g_z_5 := i_rg z_5; have g_z_52 := i_rg z_52; have g_z_74 := i_rg z_74; omega) | (have e1 : (1 : Int32).toInt = 1 := (by decide); obtain ⟨u_z_74, q_z_74⟩ := i_add ez_74; have q_p0 := Hide.out p0; have q_px := Hide.out px; obtain ⟨u_z_5, q_z_5⟩ := i_add ez_5; obtain ⟨u_z_11, q_z_11⟩ := i_add ez_11; obtain ⟨u_z_52, q_z_52⟩ := i_add ez_52; have q_iv_8 := Hide.out iv_8; obtain ⟨u_z_12, q_z_12⟩ := i_sub ez_12; obtain ⟨u_z_53, q_z_53⟩ := i_sub ez_53; obtain ⟨u_z_75, q_z_75⟩ := i_sub ez_75; have g_t_7 := i_rg t_7; have g_x1 := i_rg x1; have g_z_11 := i_rg z_11; have g_z_12 := i_rg z_12; have g_z_5 := i_rg z_5; have g_z_52 := i_rg z_52; have g_z_53 := i_rg z_53; have g_z_74 := i_rg z_74; have g_z_75 := i_rg z_75; omega)) (by first | (have e1 : (1 : Int32).toInt = 1 := (by decide); obtain ⟨u_z_75, q_z_75⟩ := i_sub ez_75; have g_t_7 := i_rg t_7; have g_z_75 := i_rg z_75; omega) | (have e1 : (1 : Int32).toInt = 1 := (by decide); obtain ⟨u_z_75, q_z_75⟩ := i_sub ez_75; have q_iv_8 := Hide.out iv_8; obtain ⟨u_z_11, q_z_11⟩ := i_add ez_11; obtain ⟨u_z_52, q_z_52⟩ := i_add ez_52; have g_t_7 := i_rg t_7; have g_x1 := i_rg x1; have g_z_11 := i_rg z_11; have g_z_52 := i_rg z_52; have g_z_75 := i_rg z_75; omega) | (have e1 : (1 : Int32).toInt = 1 := (by decide); obtain ⟨u_z_75, q_z_75⟩ := i_sub ez_75; have q_iv_8 := Hide.out iv_8; obtain ⟨u_z_11, q_z_11⟩ := i_add ez_11; obtain ⟨u_z_52, q_z_52⟩ := i_add ez_52; have q_p0 := Hide.out p0; have q_px := Hide.out px; obtain ⟨u_z_5, q_z_5⟩ := i_add ez_5; obtain ⟨u_z_12, q_z_12⟩ := i_sub ez_12; obtain ⟨u_z_53, q_z_53⟩ := i_sub ez_53; obtain ⟨u_z_74, q_z_74⟩ := i_add ez_74; have g_t_7 := i_rg t_7; have g_x1 := i_rg x1; have g_z_11 := i_rg z_11; have g_z_12 := i_rg z_12; have g_z_5 := i_rg z_5; have g_z_52 := i_rg z_52; have g_z_53 := i_rg z_53; have g_z_74 := i_rg z_74; have g_z_75 := i_rg z_75; omega))) (cwV 2 hts (gd_V kw_1555 kw_1516 kw_1517 kw_782 kw_1515) rfl rfl rfl (by decide +kernel) ⟨Nat.le_of_ble_eq_true rfl, Nat.le_of_ble_eq_true rfl⟩) ⟨gblind, va_recv hK hP (ci := 7) (q0 := k_77) rfl hk_77, fun U hU hW9 => gmk hU hW9 hP hK hD hex hE hS hFc⟩ rfl rfl hl.1 rfl (lv_room (Nat.le_of_ble_eq_true rfl)) dX9_isJumpDecided_152 ⟨Nat.le_of_ble_eq_true rfl, Nat.le_of_ble_eq_true rfl⟩) hS (fun q _ h => hFc q h) hFc (fun  ws_78 t9 H1 locs ht9 hvm9 hw9 hB9 hz9 hk9 hS => ?_)
                  obtain ⟨E_79, Fr_80, hG, hP1, hD1⟩ := hB9
                  have hP : va_P (gD g) cl0 ws_78 H1 := by rw [← ht9]; exact hP1
                  have hD : va_D A ws_78 := hD1.weaken (fun _ _ _ h => hFc _ h)
                  obtain ⟨hw9, xp_83⟩ := hw9
                  clear hP1 hD1 hz9 hk9 hvm9 ht9 hw9
                  generalize H1 = H at hP hS ⊢
                  have aa_84 := a_r1_71
                  have aa_85 := a_r2_1
                  have aa_86 := a_r3_1
                  have aa_87 := a_r4_1
                  have aa_88 := a_r5_1
                  have o_h0 := E_79.1 _ _ o_h0
                  have tq_89 : KR ws ws_78 r0_1 := KR.tr tq_70 (KR_s Fr_80)
                  obtain ⟨fs9, hk_90, hq_90⟩ := ((gF.a (F' := [(7, 2), (7, 9)]) Fr_80 (fun _ h => h))) _ _ _ hk_71
                  refine opn_X9 hG hk_90 (fun r0_90 r1_90 n1_90 r2_90 n2_90 r3_90 n3_90 r4_90 n4_90 r5_90 n5_90 hf9 o_r0_90 a_r1_90 f2_90 a_r2_90 f4_90 a_r3_90 f6_90 a_r4_90 f8_90 a_r5_90 f10_90 f11_90 => ?_)
                  subst hf9
                  obtain rfl := fe_r (hq_90 0 (by decide))
                  have o_r0_1 := o_r0_90
                  obtain rfl := fe_r (hq_90 2 (by decide))
                  have hn9 := gI_n hD ((E_79).1 _ _ aa_85) a_r2_90
                  subst hn9
                  have a_r2_1 := a_r2_90
                  obtain rfl := fe_r (hq_90 3 (by decide))
                  have hn9 := gI_n hD ((E_79).1 _ _ aa_86) a_r3_90
                  subst hn9
                  have a_r3_1 := a_r3_90
                  obtain rfl := fe_r (hq_90 4 (by decide))
                  have hn9 := gI_n hD ((E_79).1 _ _ aa_87) a_r4_90
                  subst hn9
                  have a_r4_1 := a_r4_90
                  obtain rfl := fe_r (hq_90 5 (by decide))
                  have hn9 := gI_n hD ((E_79).1 _ _ aa_88) a_r5_90
                  subst hn9
                  have a_r5_1 := a_r5_90
                  have tq_91 : smR ws_78 h0 := ⟨_, r0_1, _, hk_90, rfl, xp_83⟩
                  refine lv_goto (tgt := 167) hx hb dX9_isJumpDecided_155 (by decide) ?_
                  refine lv_iconst (v := 1) hx hb dX9_isJumpDecided_167 (by decide) ?_
                  refine W.widen (k := 0) (n := 0) (Nat.le_of_ble_eq_true rfl) (Nat.le_of_ble_eq_true rfl) ?_
                  exact W.zret (v := 1) hx hb hr (nz (Or.inr rfl)) (fun t9 ht9 hW9 => ⟨⟨_, ws_78, rfl, ⟨(Or.inr rfl), tq_91, KS_of hDH9 hkH9 rfl tq_89⟩, ⟨(E_60.tr E_79), (gF.tr (gF.mo (F' := [(7, 2), (7, 9)]) (C' := [(7, 0), (7, 1), (7, 3), (7, 5), (7, 6), (7, 7), (7, 8)]) (S' := none) Fr_61 (fun _ h => absurd h List.not_mem_nil) (by decide) (Or.inl rfl)) (gF.mo (F' := [(7, 2), (7, 9)]) (C' := [(7, 0), (7, 1), (7, 3), (7, 5), (7, 6), (7, 7), (7, 8)]) (S' := none) Fr_80 (fun _ h => h) (fun _ h => h) (Or.inl rfl))), hG, by rw [ht9]; exact hP, hD⟩⟩, hS.F ht9⟩) hS.2.2 dX9_isJumpDecided_168
              refine lv_icmp_ne (tgt := 112) hx hb dX9_isJumpDecided_95 (by decide) (fun c_92 => ?_) (fun c_92 => ?_)
              · refine lv_iconst (v := 0) hx hb dX9_isJumpDecided_112 (by decide) ?_
                exact J_113 (0) H locs ls  hP hD hS (lv_sub hl [1, 2, 3] rfl)
              · refine lv_aload_n hx hb dX9_isJumpDecided_98 rfl (lv_at hl 1 rfl) ?_
                refine va_get (D := gD g) (ci := 8) (v := .ref r0_1) (C := RX9) (T := TX9) (N := 6) hx hb hts inX9 hown hK hP k_1 hk_1 rfl 0 (by decide) (hts _ kw_1552) (fun _ h9 => h9) rfl dX9_isJumpDecided_99 ?_
                refine lv_iload_n hx hb dX9_isJumpDecided_102 rfl (lv_at hl 2 rfl) ?_
                refine lv_iconst (v := 1) hx hb dX9_isJumpDecided_103 (by decide) ?_
                refine lv_iadd hx hb dX9_isJumpDecided_104 ?_
                refine lv_topi (fun z_93 ez_93 => ?_)
                have hFc := gfree hD hS hA
                obtain ⟨k_94, fs_94, hk_94⟩ := gC_of o_r0_1
                refine va_calll (va_runV (As := [.int z_93]) (rest := [.int z_30, .int r_14]) ⟨hx, hb, hml, hown, hts⟩ (m_X8_argAt_x l g H.size ws r0_1 (z_93) hG o_r0_1) (cwV 1 hts (gd_V kw_1605 kw_1476 kw_1477 kw_782 kw_1475) rfl rfl rfl (by decide +kernel) ⟨Nat.le_of_ble_eq_true rfl, Nat.le_of_ble_eq_true rfl⟩) ⟨gblind, va_recv hK hP (ci := 7) (q0 := k_94) rfl hk_94, fun U hU hW9 => gmk hU hW9 hP hK hD hex hE hS hFc⟩ rfl rfl hl.1 rfl (lv_room (Nat.le_of_ble_eq_true rfl)) dX9_isJumpDecided_105 ⟨Nat.le_of_ble_eq_true rfl, Nat.le_of_ble_eq_true rfl⟩) hS (fun q _ h => hFc q h) hFc (fun r_95 u9 t9 H1 locs ht9 hvm9 hw9 hB9 hz9 hk9 hS => ?_)
                have hP : va_P (gD g) cl0 ws H1 := by rw [← ht9]; exact hB9.1
                obtain ⟨hw9, xp_96⟩ := hw9
                clear hB9 hz9 hk9 hvm9 ht9 hw9
                generalize H1 = H at hP hS ⊢
                obtain ⟨z_97, ez_97⟩ : ∃ y : Int32, (r_95 : Int64).toInt32 = y := ⟨_, rfl⟩
                refine lv_l2i (v := z_97) hx hb dX9_isJumpDecided_108 ez_97 ?_
                refine lv_goto (tgt := 113) hx hb dX9_isJumpDecided_109 (by decide) ?_
                exact J_113 (z_97) H locs ls  hP hD hS (lv_sub hl [1, 2, 3] rfl)
            · exact J_81  H locs ls  hP hD hS (lv_sub hl [] rfl)
      refine lv_icmp_ne (tgt := 52) hx hb dX9_isJumpDecided_43 (by decide) (fun c_98 => ?_) (fun c_98 => ?_)
      · refine lv_sipush (v := 153) hx hb dX9_isJumpDecided_52 (by decide) ?_
        exact J_55 (153) H locs ls (by first | (have e1 : (1 : Int32).toInt = 1 := (by decide); have e153 : (153 : Int32).toInt = 153 := (by decide); have q_p0 := Hide.out p0; have q_px := Hide.out px; obtain ⟨u_z_5, q_z_5⟩ := i_add ez_5; obtain ⟨u_z_11, q_z_11⟩ := i_add ez_11; have g_t_7 := i_rg t_7; have g_x1 := i_rg x1; have g_z_11 := i_rg z_11; have g_z_5 := i_rg z_5; omega) | (have e1 : (1 : Int32).toInt = 1 := (by decide); have e3 : (3 : Int32).toInt = 3 := (by decide); have e153 : (153 : Int32).toInt = 153 := (by decide); have q_p0 := Hide.out p0; have q_px := Hide.out px; obtain ⟨u_z_5, q_z_5⟩ := i_add ez_5; obtain ⟨u_z_11, q_z_11⟩ := i_add ez_11; have q_iv_8 := Hide.out iv_8; obtain ⟨u_z_12, q_z_12⟩ := i_sub ez_12; have q_c_98 := i_ne c_98; have g_t_7 := i_rg t_7; have g_x1 := i_rg x1; have g_z_11 := i_rg z_11; have g_z_12 := i_rg z_12; have g_z_5 := i_rg z_5; omega)) hP hD hS (lv_sub hl [2, 3, 1, 0] rfl)
      · refine lv_sipush (v := 159) hx hb dX9_isJumpDecided_46 (by decide) ?_
        refine lv_goto (tgt := 55) hx hb dX9_isJumpDecided_49 (by decide) ?_
        exact J_55 (159) H locs ls (by first | (have e1 : (1 : Int32).toInt = 1 := (by decide); have e159 : (159 : Int32).toInt = 159 := (by decide); have q_p0 := Hide.out p0; have q_px := Hide.out px; obtain ⟨u_z_5, q_z_5⟩ := i_add ez_5; obtain ⟨u_z_11, q_z_11⟩ := i_add ez_11; have g_t_7 := i_rg t_7; have g_x1 := i_rg x1; have g_z_11 := i_rg z_11; have g_z_5 := i_rg z_5; omega) | (have e1 : (1 : Int32).toInt = 1 := (by decide); have e3 : (3 : Int32).toInt = 3 := (by decide); have e159 : (159 : Int32).toInt = 159 := (by decide); have q_p0 := Hide.out p0; have q_px := Hide.out px; obtain ⟨u_z_5, q_z_5⟩ := i_add ez_5; obtain ⟨u_z_11, q_z_11⟩ := i_add ez_11; have q_iv_8 := Hide.out iv_8; obtain ⟨u_z_12, q_z_12⟩ := i_sub ez_12; have q_c_98 := i_eq c_98; have g_t_7 := i_rg t_7; have g_x1 := i_rg x1; have g_z_11 := i_rg z_11; have g_z_12 := i_rg z_12; have g_z_5 := i_rg z_5; omega)) hP hD hS (lv_sub hl [2, 3, 1, 0] rfl)
    refine lv_icmp_ne (tgt := 26) hx hb dX9_isJumpDecided_19 (by decide) (fun c_99 => ?_) (fun c_99 => ?_)
    · refine lv_iconst (v := 2) hx hb dX9_isJumpDecided_26 (by decide) ?_
      exact J_27 (2) H locs ls (by have e1 : (1 : Int32).toInt = 1 := (by decide); have e2 : (2 : Int32).toInt = 2 := (by decide); have q_p0 := Hide.out p0; have q_px := Hide.out px; obtain ⟨u_z_5, q_z_5⟩ := i_add ez_5; have g_x1 := i_rg x1; have g_z_5 := i_rg z_5; omega) hP hD hS (lv_sub hl [0, 1] rfl)
    · refine lv_iconst (v := 3) hx hb dX9_isJumpDecided_22 (by decide) ?_
      refine lv_goto (tgt := 27) hx hb dX9_isJumpDecided_23 (by decide) ?_
      exact J_27 (3) H locs ls (by have e1 : (1 : Int32).toInt = 1 := (by decide); have e3 : (3 : Int32).toInt = 3 := (by decide); have q_p0 := Hide.out p0; have q_px := Hide.out px; obtain ⟨u_z_5, q_z_5⟩ := i_add ez_5; have g_x1 := i_rg x1; have g_z_5 := i_rg z_5; omega) hP hD hS (lv_sub hl [0, 1] rfl)
  · refine lv_iconst (v := 0) hx hb dX9_isJumpDecided_9 (by decide) ?_
    refine W.widen (k := 0) (n := 0) (Nat.le_of_ble_eq_true rfl) (Nat.le_of_ble_eq_true rfl) ?_
    exact W.zret (v := 0) hx hb hr (nz (Or.inl rfl)) (fun t9 ht9 hW9 => ⟨⟨_, ws, rfl, ⟨(Or.inl rfl), tk0, KS_of hDH9 hkH9 rfl tq_2⟩, ⟨gE.rf, gF.rf, hG, by rw [ht9]; exact hP, hD⟩⟩, hS.F ht9⟩) hS.2.2 dX9_isJumpDecided_10
set_option maxHeartbeats 4000000 in
set_option maxRecDepth 100000 in
theorem m_X9_isDeadStoreDone_x (l : Launch) (g : Gm) (sz : Nat) (ws : va_W) (h0 : Nat) (x1 : Int32) (hG : Good g ws) (o_h0 : gC ws h0 8) (fp_a : gP ws h0 (fun fs => ∀ (rn n : Nat), fs[2]? = some (.ref rn) → gI ws rn g.cZ n → 1297 ≤ n)) (fp_b : gP ws h0 (fun fs => ∀ (rn n : Nat), fs[3]? = some (.ref rn) → gI ws rn g.cZ n → 1297 ≤ n)) (fp_d : gP ws h0 (fun fs => ∀ (rn n : Nat), fs[4]? = some (.ref rn) → gI ws rn g.cI n → 1297 ≤ n)) (fp_f : gP ws h0 (fun fs => ∀ (rn n : Nat), fs[5]? = some (.ref rn) → gI ws rn g.cI n → 1297 ≤ n)) (tk0 : smR ws h0) (p0 : 0 ≤ x1.toInt) (px : x1.toInt ≤ 1300) : Met l yX9_isDeadStoreDone (wt yX9_isDeadStoreDone cX9_isDeadStoreDone 3 (some .boolean)) ({ frames := 3, cells := 0, slots := 0, locals := 74 }) (va_Pc [.ref h0, .int x1] (st_G g sz ws)) (va_Qi (fun (r : Int32) (u9 : va_W) => (r = 0 ∨ r = 1) ∧ (smR u9 h0) ∧ (KS ws u9 h0)) (gQ1 g [(7, 2), (7, 9)] [(7, 0), (7, 1), (7, 3), (7, 5), (7, 6), (7, 7), (7, 8)] none (va_A ws sz) ws) (va_A ws sz)) (0) (0) (va_A ws sz) := by
  refine Met.ofW (cc := cX9_isDeadStoreDone) (maxL := 3) (ret := (some .boolean)) (by decide) rfl ?_
  intro p e s m args below meth c s₁ B hml hv
  obtain ⟨rfl, hsz, hP, hK, hD0, hex, hE⟩ := hv
  have hx := B.exec
  have hb := B.bytes
  have hr := B.returns
  have hts0 := atoms_spec (ws := wt yX9_isDeadStoreDone cX9_isDeadStoreDone 3 (some .boolean)) B.pre
  have hts : ∀ w ∈ tb, w.before _ s = true := fun w h => hts0 w (List.mem_cons_of_mem _ h)
  have hown : s.vm.findClass RX9 = some m.cls := findClass_of_methodNamed B.named
  subst hsz
  have hD := hD0.self (sz := s.heap.size)
  generalize hAe : va_A ws s.heap.size = A at hD hE ⊢
  have hA : ∀ q : Nat, s.heap.size ≤ q → A q := fun q h => by rw [← hAe]; exact Or.inr h
  have hS : va_S A s.heap s.heap [] := va_S.rf
  have hl := lv_entry ([.ref h0, .int x1]) (n := 3) (Nat.le_of_ble_eq_true rfl)
  rw [lg_entry_eq]
  generalize (lg_sl ([.ref h0, .int x1]) ++ List.replicate (3 - (lg_sl ([.ref h0, .int x1])).length) Slot.unset).toArray = ls at hl ⊢
  replace p0 := hide p0
  replace px := hide px
  have hl : lv_has ls 3 [(0, .ref h0), (1, .int x1)] := hl
  obtain ⟨k_1, fs9, hk_1⟩ := gC_of o_h0
  refine opn_X9 hG hk_1 (fun r0_1 r1_1 n1_1 r2_1 n2_1 r3_1 n3_1 r4_1 n4_1 r5_1 n5_1 hf9 o_r0_1 a_r1_1 f2_1 a_r2_1 f4_1 a_r3_1 f6_1 a_r4_1 f8_1 a_r5_1 f10_1 f11_1 => ?_)
  subst hf9
  have fq_a := fp_a _ _ _ hk_1 _ _ rfl a_r2_1
  replace fq_a := hide fq_a
  have fq_b := fp_b _ _ _ hk_1 _ _ rfl a_r3_1
  replace fq_b := hide fq_b
  have fq_d := fp_d _ _ _ hk_1 _ _ rfl a_r4_1
  replace fq_d := hide fq_d
  have fq_f := fp_f _ _ _ hk_1 _ _ rfl a_r5_1
  replace fq_f := hide fq_f
  have hkH9 := hk_1
  have hDH9 := hD
  have tq_2 : KR ws ws r0_1 := KR_rf
  refine lv_aload_n hx hb dX9_isDeadStoreDone_0 rfl (lv_at hl 0 rfl) ?_
  refine va_get (D := gD g) (ci := 8) (v := .ref r0_1) (C := RX9) (T := TX9) (N := 6) hx hb hts inX9 hown hK hP k_1 hk_1 rfl 0 (by decide) (hts _ kw_1552) (fun _ h9 => h9) rfl dX9_isDeadStoreDone_1 ?_
  refine lv_iload_n hx hb dX9_isDeadStoreDone_4 rfl (lv_at hl 1 rfl) ?_
  have hFc := gfree hD hS hA
  obtain ⟨k_3, fs_3, hk_3⟩ := gC_of o_r0_1
  refine va_calli (va_runV (As := [.int x1]) (rest := []) ⟨hx, hb, hml, hown, hts⟩ (m_X8_opAt_x l g s.heap.size ws r0_1 (x1) hG o_r0_1) (cwV 1 hts (gd_V kw_1596 kw_1513 kw_1514 kw_782 kw_1512) rfl rfl rfl (by decide +kernel) ⟨Nat.le_of_ble_eq_true rfl, Nat.le_of_ble_eq_true rfl⟩) ⟨gblind, va_recv hK hP (ci := 7) (q0 := k_3) rfl hk_3, fun U hU hW9 => gmk hU hW9 hP hK hD hex hE hS hFc⟩ rfl rfl hl.1 rfl (lv_room (Nat.le_of_ble_eq_true rfl)) dX9_isDeadStoreDone_5 ⟨Nat.le_of_ble_eq_true rfl, Nat.le_of_ble_eq_true rfl⟩) hS (fun q _ h => hFc q h) hFc (fun r_4 u9 t9 H1 locs ht9 hvm9 hw9 hB9 hz9 hk9 hS => ?_)
  have hP : va_P (gD g) cl0 ws H1 := by rw [← ht9]; exact hB9.1
  obtain ⟨hw9, xp_5⟩ := hw9
  clear hB9 hz9 hk9 hvm9 ht9 hw9
  generalize H1 = H at hP hS ⊢
  refine lv_istore_n (lv' := [(2, .int r_4), (0, .ref h0), (1, .int x1)]) hx hb dX9_isDeadStoreDone_8 rfl hl (by decide) rfl (fun ls hl => ?_)
  refine lv_iload_n hx hb dX9_isDeadStoreDone_9 rfl (lv_at hl 0 rfl) ?_
  refine lv_sipush (v := 132) hx hb dX9_isDeadStoreDone_10 (by decide) ?_
  have J_37 : ∀  (H : Heap) (locs : List Loc) (ls : Array Slot), va_P (gD g) cl0 ws H → va_D A ws → va_S A s.heap H locs → lv_has ls 3 [] → W p l e (headSpec (wt yX9_isDeadStoreDone cX9_isDeadStoreDone 3 (some .boolean)) ({ frames := 3, cells := 0, slots := 0, locals := 74 })).room s m ([.ref h0, .int x1] : List Value).toArray below meth c H locs (0) (0) (MQ below (va_Qi (fun (r : Int32) (u9 : va_W) => (r = 0 ∨ r = 1) ∧ (smR u9 h0) ∧ (KS ws u9 h0)) (gQ1 g [(7, 2), (7, 9)] [(7, 0), (7, 1), (7, 3), (7, 5), (7, 6), (7, 7), (7, 8)] none A ws) A) ([.ref h0, .int x1] : List Value).toArray s (0) (0) A) (F0 m 37 ls []) := by
    intro  H locs ls  hP hD hS hl
    refine lv_iconst (v := 0) hx hb dX9_isDeadStoreDone_37 (by decide) ?_
    refine W.widen (k := 0) (n := 0) (Nat.le_of_ble_eq_true rfl) (Nat.le_of_ble_eq_true rfl) ?_
    exact W.zret (v := 0) hx hb hr (nz (Or.inl rfl)) (fun t9 ht9 hW9 => ⟨⟨_, ws, rfl, ⟨(Or.inl rfl), tk0, KS_of hDH9 hkH9 rfl tq_2⟩, ⟨gE.rf, gF.rf, hG, by rw [ht9]; exact hP, hD⟩⟩, hS.F ht9⟩) hS.2.2 dX9_isDeadStoreDone_38
  have J_23 : ∀  (H : Heap) (locs : List Loc) (ls : Array Slot), va_P (gD g) cl0 ws H → va_D A ws → va_S A s.heap H locs → lv_has ls 3 [(0, .ref h0), (1, .int x1), (2, .int r_4)] → W p l e (headSpec (wt yX9_isDeadStoreDone cX9_isDeadStoreDone 3 (some .boolean)) ({ frames := 3, cells := 0, slots := 0, locals := 74 })).room s m ([.ref h0, .int x1] : List Value).toArray below meth c H locs (0) (0) (MQ below (va_Qi (fun (r : Int32) (u9 : va_W) => (r = 0 ∨ r = 1) ∧ (smR u9 h0) ∧ (KS ws u9 h0)) (gQ1 g [(7, 2), (7, 9)] [(7, 0), (7, 1), (7, 3), (7, 5), (7, 6), (7, 7), (7, 8)] none A ws) A) ([.ref h0, .int x1] : List Value).toArray s (0) (0) A) (F0 m 23 ls []) := by
    intro  H locs ls  hP hD hS hl
    refine lv_aload_n hx hb dX9_isDeadStoreDone_23 rfl (lv_at hl 0 rfl) ?_
    refine lv_iload_n hx hb dX9_isDeadStoreDone_24 rfl (lv_at hl 1 rfl) ?_
    have hFc := gfree hD hS hA
    refine va_calli (va_runV (As := [.int x1]) (rest := []) ⟨hx, hb, hml, hown, hts⟩ (m_X9_liveBehind l g H.size ws h0 (x1) hG o_h0 (gP_of hD hk_1 (fun p90 q90 e90 g90 => by cases e90; have z90 := gI_n hD a_r2_1 g90; subst z90; exact (by have q_f4_1 := Hide.out f4_1; have q_fq_a := Hide.out fq_a; omega))) (gP_of hD hk_1 (fun p90 q90 e90 g90 => by cases e90; have z90 := gI_n hD a_r3_1 g90; subst z90; exact (by have q_f6_1 := Hide.out f6_1; have q_fq_b := Hide.out fq_b; omega))) (gP_of hD hk_1 (fun p90 q90 e90 g90 => by cases e90; have z90 := gI_n hD a_r4_1 g90; subst z90; exact (by have q_f8_1 := Hide.out f8_1; have q_fq_d := Hide.out fq_d; omega))) (gP_of hD hk_1 (fun p90 q90 e90 g90 => by cases e90; have z90 := gI_n hD a_r5_1 g90; subst z90; exact (by have q_f10_1 := Hide.out f10_1; have q_fq_f := Hide.out fq_f; omega)))) (cwV 1 hts (gd_V kw_1598 kw_1670 kw_1671 kw_404 kw_1669) rfl rfl rfl (by decide +kernel) ⟨Nat.le_of_ble_eq_true rfl, Nat.le_of_ble_eq_true rfl⟩) ⟨gblind, va_recv hK hP (ci := 8) (q0 := k_1) rfl hk_1, fun U hU hW9 => gmk hU hW9 hP hK hD hex hE hS hFc⟩ rfl rfl hl.1 rfl (lv_room (Nat.le_of_ble_eq_true rfl)) dX9_isDeadStoreDone_25 ⟨Nat.le_of_ble_eq_true rfl, Nat.le_of_ble_eq_true rfl⟩) hS (fun q _ h => hFc q h) hFc (fun r_10 u9 t9 H1 locs ht9 hvm9 hw9 hB9 hz9 hk9 hS => ?_)
    have hP : va_P (gD g) cl0 ws H1 := by rw [← ht9]; exact hB9.1
    clear hB9 hz9 hk9 hvm9 ht9 hw9
    generalize H1 = H at hP hS ⊢
    refine lv_aload_n hx hb dX9_isDeadStoreDone_28 rfl (lv_at hl 0 rfl) ?_
    refine lv_iload_n hx hb dX9_isDeadStoreDone_29 rfl (lv_at hl 1 rfl) ?_
    have hFc := gfree hD hS hA
    refine va_calli (va_runV (As := [.int x1]) (rest := [.int r_10]) ⟨hx, hb, hml, hown, hts⟩ (m_X9_localBits l g H.size ws h0 (x1) hG o_h0) (cwV 1 hts (gd_V kw_1599 kw_1674 kw_1675 kw_404 kw_1673) rfl rfl rfl (by decide +kernel) ⟨Nat.le_of_ble_eq_true rfl, Nat.le_of_ble_eq_true rfl⟩) ⟨gblind, va_recv hK hP (ci := 8) (q0 := k_1) rfl hk_1, fun U hU hW9 => gmk hU hW9 hP hK hD hex hE hS hFc⟩ rfl rfl hl.1 rfl (lv_room (Nat.le_of_ble_eq_true rfl)) dX9_isDeadStoreDone_30 ⟨Nat.le_of_ble_eq_true rfl, Nat.le_of_ble_eq_true rfl⟩) hS (fun q _ h => hFc q h) hFc (fun r_11 u9 t9 H1 locs ht9 hvm9 hw9 hB9 hz9 hk9 hS => ?_)
    have hP : va_P (gD g) cl0 ws H1 := by rw [← ht9]; exact hB9.1
    clear hB9 hz9 hk9 hvm9 ht9 hw9
    generalize H1 = H at hP hS ⊢
    refine lv_iand hx hb dX9_isDeadStoreDone_33 ?_
    refine lv_topi (fun z_12 ez_12 => ?_)
    refine lv_if_eq (tgt := 39) hx hb dX9_isDeadStoreDone_34 (by decide) (fun c_13 => ?_) (fun c_13 => ?_)
    · refine lv_iload_n hx hb dX9_isDeadStoreDone_39 rfl (lv_at hl 2 rfl) ?_
      refine lv_sipush (v := 132) hx hb dX9_isDeadStoreDone_40 (by decide) ?_
      refine lv_icmp_ne (tgt := 58) hx hb dX9_isDeadStoreDone_43 (by decide) (fun c_14 => ?_) (fun c_14 => ?_)
      · refine lv_aload_n hx hb dX9_isDeadStoreDone_58 rfl (lv_at hl 0 rfl) ?_
        refine va_get (D := gD g) (ci := 8) (v := .ref r0_1) (C := RX9) (T := TX9) (N := 6) hx hb hts inX9 hown hK hP k_1 hk_1 rfl 0 (by decide) (hts _ kw_1552) (fun _ h9 => h9) rfl dX9_isDeadStoreDone_59 ?_
        refine lv_iload_n hx hb dX9_isDeadStoreDone_62 rfl (lv_at hl 1 rfl) ?_
        refine lv_iload_n hx hb dX9_isDeadStoreDone_63 rfl (lv_at hl 2 rfl) ?_
        refine lv_bipush (v := 55) hx hb dX9_isDeadStoreDone_64 (by decide) ?_
        have J_76 : ∀ (t_15 : Int32) (H : Heap) (locs : List Loc) (ls : Array Slot), 87 ≤ t_15.toInt ∧ t_15.toInt ≤ 88 → va_P (gD g) cl0 ws H → va_D A ws → va_S A s.heap H locs → lv_has ls 3 [] → W p l e (headSpec (wt yX9_isDeadStoreDone cX9_isDeadStoreDone 3 (some .boolean)) ({ frames := 3, cells := 0, slots := 0, locals := 74 })).room s m ([.ref h0, .int x1] : List Value).toArray below meth c H locs (0) (0) (MQ below (va_Qi (fun (r : Int32) (u9 : va_W) => (r = 0 ∨ r = 1) ∧ (smR u9 h0) ∧ (KS ws u9 h0)) (gQ1 g [(7, 2), (7, 9)] [(7, 0), (7, 1), (7, 3), (7, 5), (7, 6), (7, 7), (7, 8)] none A ws) A) ([.ref h0, .int x1] : List Value).toArray s (0) (0) A) (F0 m 76 ls [.int t_15, .int x1, .ref r0_1]) := by
          intro t_15 H locs ls iv_16 hP hD hS hl
          replace iv_16 := hide iv_16
          refine lv_lconst (v := 0) hx hb dX9_isDeadStoreDone_76 (by decide) ?_
          have tq_19 : rowC ws r0_1 RW := smR_at hD hk_1 rfl tk0
          have hFc := gfree hD hS hA
          obtain ⟨k_20, fs_20, hk_20⟩ := gC_of o_r0_1
          refine va_callv (va_runV (As := [.int x1, .int t_15, .long 0]) (rest := []) ⟨hx, hb, hml, hown, hts⟩ (m_X8_set_z l g H.size ws r0_1 (x1) (t_15) (0) RW hG o_r0_1 tq_19) (cwV 3 hts (gd_V kw_1600 kw_1523 kw_1524 kw_782 kw_1522) rfl rfl rfl (by decide +kernel) ⟨Nat.le_of_ble_eq_true rfl, Nat.le_of_ble_eq_true rfl⟩) ⟨gblind, va_recv hK hP (ci := 7) (q0 := k_20) rfl hk_20, fun U hU hW9 => gmk hU hW9 hP hK hD hex hE hS hFc⟩ rfl rfl hl.1 rfl (lv_room (Nat.le_of_ble_eq_true rfl)) dX9_isDeadStoreDone_77 ⟨Nat.le_of_ble_eq_true rfl, Nat.le_of_ble_eq_true rfl⟩) hS (fun q _ h => hFc q h) hFc (fun  ws_21 t9 H1 locs ht9 hvm9 hw9 hB9 hz9 hk9 hS => ?_)
          obtain ⟨E_22, Fr_23, hG, hP1, hD1⟩ := hB9
          have hP : va_P (gD g) cl0 ws_21 H1 := by rw [← ht9]; exact hP1
          have hD : va_D A ws_21 := hD1.weaken (fun _ _ _ h => hFc _ h)
          obtain ⟨hw9, xp_26⟩ := hw9
          clear hP1 hD1 hz9 hk9 hvm9 ht9 hw9
          generalize H1 = H at hP hS ⊢
          have aa_27 := a_r1_1
          have aa_28 := a_r2_1
          have aa_29 := a_r3_1
          have aa_30 := a_r4_1
          have aa_31 := a_r5_1
          have o_h0 := E_22.1 _ _ o_h0
          have tq_32 : KR ws ws_21 r0_1 := KR.tr tq_2 (KR_s Fr_23)
          obtain ⟨fs9, hk_33, hq_33⟩ := ((gF.a (F' := []) Fr_23 (fun _ h => h))) _ _ _ hk_1
          refine opn_X9 hG hk_33 (fun r0_33 r1_33 n1_33 r2_33 n2_33 r3_33 n3_33 r4_33 n4_33 r5_33 n5_33 hf9 o_r0_33 a_r1_33 f2_33 a_r2_33 f4_33 a_r3_33 f6_33 a_r4_33 f8_33 a_r5_33 f10_33 f11_33 => ?_)
          subst hf9
          obtain rfl := fe_r (hq_33 0 (by decide))
          have o_r0_1 := o_r0_33
          obtain rfl := fe_r (hq_33 2 (by decide))
          have hn9 := gI_n hD ((E_22).1 _ _ aa_28) a_r2_33
          subst hn9
          have a_r2_1 := a_r2_33
          obtain rfl := fe_r (hq_33 3 (by decide))
          have hn9 := gI_n hD ((E_22).1 _ _ aa_29) a_r3_33
          subst hn9
          have a_r3_1 := a_r3_33
          obtain rfl := fe_r (hq_33 4 (by decide))
          have hn9 := gI_n hD ((E_22).1 _ _ aa_30) a_r4_33
          subst hn9
          have a_r4_1 := a_r4_33
          obtain rfl := fe_r (hq_33 5 (by decide))
          have hn9 := gI_n hD ((E_22).1 _ _ aa_31) a_r5_33
          subst hn9
          have a_r5_1 := a_r5_33
          have rw_34 : rowC ws_21 r0_1 RW := rowC_im xp_26 (fun _ _ _ _ _ w => sto_rw w (by have q_iv_16 := Hide.out iv_16; have g_t_15 := i_rg t_15; omega))
          have tq_35 : smR ws_21 h0 := ⟨_, r0_1, _, hk_33, rfl, rw_34⟩
          refine lv_iconst (v := 1) hx hb dX9_isDeadStoreDone_80 (by decide) ?_
          refine W.widen (k := 0) (n := 0) (Nat.le_of_ble_eq_true rfl) (Nat.le_of_ble_eq_true rfl) ?_
          exact W.zret (v := 1) hx hb hr (nz (Or.inr rfl)) (fun t9 ht9 hW9 => ⟨⟨_, ws_21, rfl, ⟨(Or.inr rfl), tq_35, KS_of hDH9 hkH9 rfl tq_32⟩, ⟨E_22, (gF.mo (F' := [(7, 2), (7, 9)]) (C' := [(7, 0), (7, 1), (7, 3), (7, 5), (7, 6), (7, 7), (7, 8)]) (S' := none) Fr_23 (fun _ h => absurd h List.not_mem_nil) (by decide) (Or.inl rfl)), hG, by rw [ht9]; exact hP, hD⟩⟩, hS.F ht9⟩) hS.2.2 dX9_isDeadStoreDone_81
        refine lv_icmp_ne (tgt := 74) hx hb dX9_isDeadStoreDone_66 (by decide) (fun c_36 => ?_) (fun c_36 => ?_)
        · refine lv_bipush (v := 87) hx hb dX9_isDeadStoreDone_74 (by decide) ?_
          exact J_76 (87) H locs ls (by have e87 : (87 : Int32).toInt = 87 := (by decide); have q_p0 := Hide.out p0; have q_px := Hide.out px; have g_x1 := i_rg x1; omega) hP hD hS (lv_sub hl [] rfl)
        · refine lv_bipush (v := 88) hx hb dX9_isDeadStoreDone_69 (by decide) ?_
          refine lv_goto (tgt := 76) hx hb dX9_isDeadStoreDone_71 (by decide) ?_
          exact J_76 (88) H locs ls (by have e88 : (88 : Int32).toInt = 88 := (by decide); have q_p0 := Hide.out p0; have q_px := Hide.out px; have g_x1 := i_rg x1; omega) hP hD hS (lv_sub hl [] rfl)
      · refine lv_aload_n hx hb dX9_isDeadStoreDone_46 rfl (lv_at hl 0 rfl) ?_
        refine va_get (D := gD g) (ci := 8) (v := .ref r0_1) (C := RX9) (T := TX9) (N := 6) hx hb hts inX9 hown hK hP k_1 hk_1 rfl 0 (by decide) (hts _ kw_1552) (fun _ h9 => h9) rfl dX9_isDeadStoreDone_47 ?_
        refine lv_iload_n hx hb dX9_isDeadStoreDone_50 rfl (lv_at hl 1 rfl) ?_
        refine lv_iconst (v := 1) hx hb dX9_isDeadStoreDone_51 (by decide) ?_
        have tq_37 : rowC ws r0_1 RW := smR_at hD hk_1 rfl tk0
        have hFc := gfree hD hS hA
        obtain ⟨k_38, fs_38, hk_38⟩ := gC_of o_r0_1
        refine va_callv (va_runV (As := [.int x1, .int 1]) (rest := []) ⟨hx, hb, hml, hown, hts⟩ (m_X8_remove_y l g H.size ws r0_1 (x1) (1) hG o_r0_1 tq_37 (by have q_p0 := Hide.out p0; have q_px := Hide.out px; have g_x1 := i_rg x1; omega) (by have e1 : (1 : Int32).toInt = 1 := (by decide); omega)) (cwV 2 hts (gd_V kw_1555 kw_1516 kw_1517 kw_782 kw_1515) rfl rfl rfl (by decide +kernel) ⟨Nat.le_of_ble_eq_true rfl, Nat.le_of_ble_eq_true rfl⟩) ⟨gblind, va_recv hK hP (ci := 7) (q0 := k_38) rfl hk_38, fun U hU hW9 => gmk hU hW9 hP hK hD hex hE hS hFc⟩ rfl rfl hl.1 rfl (lv_room (Nat.le_of_ble_eq_true rfl)) dX9_isDeadStoreDone_52 ⟨Nat.le_of_ble_eq_true rfl, Nat.le_of_ble_eq_true rfl⟩) hS (fun q _ h => hFc q h) hFc (fun  ws_39 t9 H1 locs ht9 hvm9 hw9 hB9 hz9 hk9 hS => ?_)
        obtain ⟨E_40, Fr_41, hG, hP1, hD1⟩ := hB9
        have hP : va_P (gD g) cl0 ws_39 H1 := by rw [← ht9]; exact hP1
        have hD : va_D A ws_39 := hD1.weaken (fun _ _ _ h => hFc _ h)
        obtain ⟨hw9, xp_44⟩ := hw9
        clear hP1 hD1 hz9 hk9 hvm9 ht9 hw9
        generalize H1 = H at hP hS ⊢
        have aa_45 := a_r1_1
        have aa_46 := a_r2_1
        have aa_47 := a_r3_1
        have aa_48 := a_r4_1
        have aa_49 := a_r5_1
        have o_h0 := E_40.1 _ _ o_h0
        have tq_50 : KR ws ws_39 r0_1 := KR.tr tq_2 (KR_s Fr_41)
        obtain ⟨fs9, hk_51, hq_51⟩ := ((gF.a (F' := [(7, 2), (7, 9)]) Fr_41 (fun _ h => h))) _ _ _ hk_1
        refine opn_X9 hG hk_51 (fun r0_51 r1_51 n1_51 r2_51 n2_51 r3_51 n3_51 r4_51 n4_51 r5_51 n5_51 hf9 o_r0_51 a_r1_51 f2_51 a_r2_51 f4_51 a_r3_51 f6_51 a_r4_51 f8_51 a_r5_51 f10_51 f11_51 => ?_)
        subst hf9
        obtain rfl := fe_r (hq_51 0 (by decide))
        have o_r0_1 := o_r0_51
        obtain rfl := fe_r (hq_51 2 (by decide))
        have hn9 := gI_n hD ((E_40).1 _ _ aa_46) a_r2_51
        subst hn9
        have a_r2_1 := a_r2_51
        obtain rfl := fe_r (hq_51 3 (by decide))
        have hn9 := gI_n hD ((E_40).1 _ _ aa_47) a_r3_51
        subst hn9
        have a_r3_1 := a_r3_51
        obtain rfl := fe_r (hq_51 4 (by decide))
        have hn9 := gI_n hD ((E_40).1 _ _ aa_48) a_r4_51
        subst hn9
        have a_r4_1 := a_r4_51
        obtain rfl := fe_r (hq_51 5 (by decide))
        have hn9 := gI_n hD ((E_40).1 _ _ aa_49) a_r5_51
        subst hn9
        have a_r5_1 := a_r5_51
        have tq_52 : smR ws_39 h0 := ⟨_, r0_1, _, hk_51, rfl, xp_44⟩
        refine lv_goto (tgt := 80) hx hb dX9_isDeadStoreDone_55 (by decide) ?_
        refine lv_iconst (v := 1) hx hb dX9_isDeadStoreDone_80 (by decide) ?_
        refine W.widen (k := 0) (n := 0) (Nat.le_of_ble_eq_true rfl) (Nat.le_of_ble_eq_true rfl) ?_
        exact W.zret (v := 1) hx hb hr (nz (Or.inr rfl)) (fun t9 ht9 hW9 => ⟨⟨_, ws_39, rfl, ⟨(Or.inr rfl), tq_52, KS_of hDH9 hkH9 rfl tq_50⟩, ⟨E_40, (gF.mo (F' := [(7, 2), (7, 9)]) (C' := [(7, 0), (7, 1), (7, 3), (7, 5), (7, 6), (7, 7), (7, 8)]) (S' := none) Fr_41 (fun _ h => h) (fun _ h => h) (Or.inl rfl)), hG, by rw [ht9]; exact hP, hD⟩⟩, hS.F ht9⟩) hS.2.2 dX9_isDeadStoreDone_81
    · exact J_37  H locs ls  hP hD hS (lv_sub hl [] rfl)
  refine lv_icmp_eq (tgt := 23) hx hb dX9_isDeadStoreDone_13 (by decide) (fun c_53 => ?_) (fun c_53 => ?_)
  · exact J_23  H locs ls  hP hD hS (lv_sub hl [1, 2, 0] rfl)
  · refine lv_iload_n hx hb dX9_isDeadStoreDone_16 rfl (lv_at hl 0 rfl) ?_
    have hFc := gfree hD hS hA
    refine va_calli (va_runS (As := [.int r_4]) (rest := []) ⟨hx, hb, hml, hown, hts⟩ (m_X6_isStore_x l g H.size ws (r_4) hG ) (va_cwS 1 hts (gd_S kw_1597 kw_1231 kw_1207 kw_1230) rfl rfl rfl (by decide +kernel) ⟨Nat.le_of_ble_eq_true rfl, Nat.le_of_ble_eq_true rfl⟩) ⟨gblind, fun U hU hW9 => gmk hU hW9 hP hK hD hex hE hS hFc⟩ rfl rfl hl.1 rfl (lv_room (Nat.le_of_ble_eq_true rfl)) dX9_isDeadStoreDone_17 ⟨Nat.le_of_ble_eq_true rfl, Nat.le_of_ble_eq_true rfl⟩) hS (fun q _ h => hFc q h) hFc (fun r_54 u9 t9 H1 locs ht9 hvm9 hw9 hB9 hz9 hk9 hS => ?_)
    have hP : va_P (gD g) cl0 ws H1 := by rw [← ht9]; exact hB9.1
    obtain ⟨hw9, xp_55⟩ := hw9
    have hz_r_54 : r_54 = 0 ∨ r_54 = 1 := hw9
    clear hB9 hz9 hk9 hvm9 ht9 hw9
    generalize H1 = H at hP hS ⊢
    refine lv_if_eq (tgt := 37) hx hb dX9_isDeadStoreDone_20 (by decide) (fun c_56 => ?_) (fun c_56 => ?_)
    · exact J_37  H locs ls  hP hD hS (lv_sub hl [] rfl)
    · exact J_23  H locs ls  hP hD hS (lv_sub hl [1, 2, 0] rfl)
set_option maxHeartbeats 4000000 in
set_option maxRecDepth 100000 in
theorem m_X9_isDone_x (l : Launch) (g : Gm) (sz : Nat) (ws : va_W) (h0 : Nat) (x1 : Int32) (x2 : Int32) (hG : Good g ws) (o_h0 : gC ws h0 8) (fp_a : gP ws h0 (fun fs => ∀ (rn n : Nat), fs[2]? = some (.ref rn) → gI ws rn g.cZ n → 1297 ≤ n)) (fp_b : gP ws h0 (fun fs => ∀ (rn n : Nat), fs[3]? = some (.ref rn) → gI ws rn g.cZ n → 1297 ≤ n)) (fp_d : gP ws h0 (fun fs => ∀ (rn n : Nat), fs[4]? = some (.ref rn) → gI ws rn g.cI n → 1297 ≤ n)) (fp_f : gP ws h0 (fun fs => ∀ (rn n : Nat), fs[5]? = some (.ref rn) → gI ws rn g.cI n → 1297 ≤ n)) (tk0 : smR ws h0) (p0 : 0 ≤ x2.toInt) (px : x2.toInt ≤ 1300) : Met l yX9_isDone (wt yX9_isDone cX9_isDone 3 (some .boolean)) ({ frames := 4, cells := 0, slots := 0, locals := 98 }) (va_Pc [.ref h0, .int x1, .int x2] (st_G g sz ws)) (va_Qi (fun (r : Int32) (u9 : va_W) => (r = 0 ∨ r = 1) ∧ (smR u9 h0) ∧ (KS ws u9 h0)) (gQ1 g [(7, 2), (7, 9)] [(7, 0), (7, 1), (7, 3), (7, 5), (7, 6), (7, 7), (7, 8)] none (va_A ws sz) ws) (va_A ws sz)) (0) (0) (va_A ws sz) := by
  refine Met.ofW (cc := cX9_isDone) (maxL := 3) (ret := (some .boolean)) (by decide) rfl ?_
  intro p e s m args below meth c s₁ B hml hv
  obtain ⟨rfl, hsz, hP, hK, hD0, hex, hE⟩ := hv
  have hx := B.exec
  have hb := B.bytes
  have hr := B.returns
  have hts0 := atoms_spec (ws := wt yX9_isDone cX9_isDone 3 (some .boolean)) B.pre
  have hts : ∀ w ∈ tb, w.before _ s = true := fun w h => hts0 w (List.mem_cons_of_mem _ h)
  have hown : s.vm.findClass RX9 = some m.cls := findClass_of_methodNamed B.named
  subst hsz
  have hD := hD0.self (sz := s.heap.size)
  generalize hAe : va_A ws s.heap.size = A at hD hE ⊢
  have hA : ∀ q : Nat, s.heap.size ≤ q → A q := fun q h => by rw [← hAe]; exact Or.inr h
  have hS : va_S A s.heap s.heap [] := va_S.rf
  have hl := lv_entry ([.ref h0, .int x1, .int x2]) (n := 3) (Nat.le_of_ble_eq_true rfl)
  rw [lg_entry_eq]
  generalize (lg_sl ([.ref h0, .int x1, .int x2]) ++ List.replicate (3 - (lg_sl ([.ref h0, .int x1, .int x2])).length) Slot.unset).toArray = ls at hl ⊢
  replace p0 := hide p0
  replace px := hide px
  have hl : lv_has ls 3 [(0, .ref h0), (1, .int x1), (2, .int x2)] := hl
  obtain ⟨k_1, fs9, hk_1⟩ := gC_of o_h0
  refine opn_X9 hG hk_1 (fun r0_1 r1_1 n1_1 r2_1 n2_1 r3_1 n3_1 r4_1 n4_1 r5_1 n5_1 hf9 o_r0_1 a_r1_1 f2_1 a_r2_1 f4_1 a_r3_1 f6_1 a_r4_1 f8_1 a_r5_1 f10_1 f11_1 => ?_)
  subst hf9
  have fq_a := fp_a _ _ _ hk_1 _ _ rfl a_r2_1
  replace fq_a := hide fq_a
  have fq_b := fp_b _ _ _ hk_1 _ _ rfl a_r3_1
  replace fq_b := hide fq_b
  have fq_d := fp_d _ _ _ hk_1 _ _ rfl a_r4_1
  replace fq_d := hide fq_d
  have fq_f := fp_f _ _ _ hk_1 _ _ rfl a_r5_1
  replace fq_f := hide fq_f
  have hkH9 := hk_1
  have hDH9 := hD
  have tq_2 : KR ws ws r0_1 := KR_rf
  refine lv_iload_n hx hb dX9_isDone_0 rfl (lv_at hl 1 rfl) ?_
  refine lv_iconst (v := 2) hx hb dX9_isDone_1 (by decide) ?_
  refine lv_icmp_ne (tgt := 11) hx hb dX9_isDone_2 (by decide) (fun c_3 => ?_) (fun c_3 => ?_)
  · refine lv_iload_n hx hb dX9_isDone_11 rfl (lv_at hl 2 rfl) ?_
    refine lv_aload_n hx hb dX9_isDone_12 rfl (lv_at hl 0 rfl) ?_
    refine va_get (D := gD g) (ci := 8) (v := .ref r0_1) (C := RX9) (T := TX9) (N := 6) hx hb hts inX9 hown hK hP k_1 hk_1 rfl 0 (by decide) (hts _ kw_1552) (fun _ h9 => h9) rfl dX9_isDone_13 ?_
    obtain ⟨k_4, fs9, hk_4⟩ := gC_of o_r0_1
    refine opn_X8 hG hk_4 (fun r0_4 n0_4 r1_4 n1_4 c2_4 r3_4 n3_4 c4_4 r5_4 n5_4 r6_4 n6_4 r7_4 n7_4 r8_4 n8_4 c9_4 c10_4 c11_4 v12_4 v13_4 v14_4 hf9 a_r0_4 f1_4 a_r1_4 f3_4 a_r3_4 f5_4 a_r5_4 f7_4 a_r6_4 f9_4 a_r7_4 f11_4 a_r8_4 f13_4 o_v12_4 o_v13_4 o_v14_4 f17_4 f18_4 f19_4 f20_4 f21_4 f22_4 f23_4 f24_4 f25_4 f26_4 f27_4 f28_4 f29_4 => ?_)
    subst hf9
    refine va_get (D := gD g) (ci := 7) (v := .int c2_4) (C := RX8) (T := TX8) (N := 15) hx hb hts inX8 hown hK hP k_4 hk_4 rfl 2 (by decide) (hts _ kw_1553) (fun _ h9 => h9) rfl dX9_isDone_16 ?_
    refine lv_iconst (v := 1) hx hb dX9_isDone_19 (by decide) ?_
    refine lv_isub hx hb dX9_isDone_20 ?_
    refine lv_topi (fun z_5 ez_5 => ?_)
    refine lv_icmp_lt (tgt := 26) hx hb dX9_isDone_21 (by decide) (fun c_6 => ?_) (fun c_6 => ?_)
    · refine lv_iload_n hx hb dX9_isDone_26 rfl (lv_at hl 1 rfl) ?_
      have K_27_257 : W p l e (headSpec (wt yX9_isDone cX9_isDone 3 (some .boolean)) ({ frames := 4, cells := 0, slots := 0, locals := 98 })).room s m ([.ref h0, .int x1, .int x2] : List Value).toArray below meth c s.heap [] (0) (0) (MQ below (va_Qi (fun (r : Int32) (u9 : va_W) => (r = 0 ∨ r = 1) ∧ (smR u9 h0) ∧ (KS ws u9 h0)) (gQ1 g [(7, 2), (7, 9)] [(7, 0), (7, 1), (7, 3), (7, 5), (7, 6), (7, 7), (7, 8)] none A ws) A) ([.ref h0, .int x1, .int x2] : List Value).toArray s (0) (0) A) (F0 m 257 ls []) := by
        refine lv_aload_n hx hb dX9_isDone_257 rfl (lv_at hl 0 rfl) ?_
        refine lv_iload_n hx hb dX9_isDone_258 rfl (lv_at hl 2 rfl) ?_
        have hkQ9 := hk_1
        have hFc := gfree hD hS hA
        refine va_calli (va_runV (As := [.int x2]) (rest := []) ⟨hx, hb, hml, hown, hts⟩ (m_X9_isDeadStoreDone_x l g s.heap.size ws h0 (x2) hG o_h0 (gP_of hD hk_1 (fun p90 q90 e90 g90 => by cases e90; have z90 := gI_n hD a_r2_1 g90; subst z90; exact (by have q_f4_1 := Hide.out f4_1; have q_fq_a := Hide.out fq_a; omega))) (gP_of hD hk_1 (fun p90 q90 e90 g90 => by cases e90; have z90 := gI_n hD a_r3_1 g90; subst z90; exact (by have q_f6_1 := Hide.out f6_1; have q_fq_b := Hide.out fq_b; omega))) (gP_of hD hk_1 (fun p90 q90 e90 g90 => by cases e90; have z90 := gI_n hD a_r4_1 g90; subst z90; exact (by have q_f8_1 := Hide.out f8_1; have q_fq_d := Hide.out fq_d; omega))) (gP_of hD hk_1 (fun p90 q90 e90 g90 => by cases e90; have z90 := gI_n hD a_r5_1 g90; subst z90; exact (by have q_f10_1 := Hide.out f10_1; have q_fq_f := Hide.out fq_f; omega))) tk0 (by first | (have q_p0 := Hide.out p0; have q_px := Hide.out px; have q_c_6 := i_lt c_6; have g_x2 := i_rg x2; have g_z_5 := i_rg z_5; omega) | (have e1 : (1 : Int32).toInt = 1 := (by decide); have q_p0 := Hide.out p0; have q_px := Hide.out px; have q_c_6 := i_lt c_6; obtain ⟨u_z_5, q_z_5⟩ := i_sub ez_5; have g_c2_4 := i_rg c2_4; have g_x2 := i_rg x2; have g_z_5 := i_rg z_5; omega) | (have e1 : (1 : Int32).toInt = 1 := (by decide); have q_p0 := Hide.out p0; have q_px := Hide.out px; have q_c_6 := i_lt c_6; obtain ⟨u_z_5, q_z_5⟩ := i_sub ez_5; have q_f19_4 := Hide.out f19_4; have q_f20_4 := Hide.out f20_4; have g_c2_4 := i_rg c2_4; have g_x2 := i_rg x2; have g_z_5 := i_rg z_5; omega) | (have e1 : (1 : Int32).toInt = 1 := (by decide); have q_p0 := Hide.out p0; have q_px := Hide.out px; have q_c_6 := i_lt c_6; obtain ⟨u_z_5, q_z_5⟩ := i_sub ez_5; have q_f19_4 := Hide.out f19_4; have q_f20_4 := Hide.out f20_4; have q_f1_4 := Hide.out f1_4; have q_f17_4 := Hide.out f17_4; have q_f18_4 := Hide.out f18_4; have g_c2_4 := i_rg c2_4; have g_x2 := i_rg x2; have g_z_5 := i_rg z_5; omega) | (have e1 : (1 : Int32).toInt = 1 := (by decide); have q_p0 := Hide.out p0; have q_px := Hide.out px; have q_c_6 := i_lt c_6; obtain ⟨u_z_5, q_z_5⟩ := i_sub ez_5; have q_f19_4 := Hide.out f19_4; have q_f20_4 := Hide.out f20_4; have q_f1_4 := Hide.out f1_4; have q_f17_4 := Hide.out f17_4; have q_f18_4 := Hide.out f18_4; have q_f3_4 := Hide.out f3_4; have g_c2_4 := i_rg c2_4; have g_x2 := i_rg x2; have g_z_5 := i_rg z_5; omega)) (by first | (have q_p0 := Hide.out p0; have q_px := Hide.out px; have q_c_6 := i_lt c_6; have g_x2 := i_rg x2; have g_z_5 := i_rg z_5; omega) | (have e1 : (1 : Int32).toInt = 1 := (by decide); have q_p0 := Hide.out p0; have q_px := Hide.out px; have q_c_6 := i_lt c_6; obtain ⟨u_z_5, q_z_5⟩ := i_sub ez_5; have g_c2_4 := i_rg c2_4; have g_x2 := i_rg x2; have g_z_5 := i_rg z_5; omega) | (have e1 : (1 : Int32).toInt = 1 := (by decide); have q_p0 := Hide.out p0; have q_px := Hide.out px; have q_c_6 := i_lt c_6; obtain ⟨u_z_5, q_z_5⟩ := i_sub ez_5; have q_f19_4 := Hide.out f19_4; have q_f20_4 := Hide.out f20_4; have g_c2_4 := i_rg c2_4; have g_x2 := i_rg x2; have g_z_5 := i_rg z_5; omega) | (have e1 : (1 : Int32).toInt = 1 := (by decide); have q_p0 := Hide.out p0; have q_px := Hide.out px; have q_c_6 := i_lt c_6; obtain ⟨u_z_5, q_z_5⟩ := i_sub ez_5; have q_f19_4 := Hide.out f19_4; have q_f20_4 := Hide.out f20_4; have q_f1_4 := Hide.out f1_4; have q_f17_4 := Hide.out f17_4; have q_f18_4 := Hide.out f18_4; have g_c2_4 := i_rg c2_4; have g_x2 := i_rg x2; have g_z_5 := i_rg z_5; omega) | (have e1 : (1 : Int32).toInt = 1 := (by decide); have q_p0 := Hide.out p0; have q_px := Hide.out px; have q_c_6 := i_lt c_6; obtain ⟨u_z_5, q_z_5⟩ := i_sub ez_5; have q_f19_4 := Hide.out f19_4; have q_f20_4 := Hide.out f20_4; have q_f1_4 := Hide.out f1_4; have q_f17_4 := Hide.out f17_4; have q_f18_4 := Hide.out f18_4; have q_f3_4 := Hide.out f3_4; have g_c2_4 := i_rg c2_4; have g_x2 := i_rg x2; have g_z_5 := i_rg z_5; omega))) (cwV 1 hts (gd_V kw_1614 kw_1594 kw_1595 kw_404 kw_1593) rfl rfl rfl (by decide +kernel) ⟨Nat.le_of_ble_eq_true rfl, Nat.le_of_ble_eq_true rfl⟩) ⟨gblind, va_recv hK hP (ci := 8) (q0 := k_1) rfl hk_1, fun U hU hW9 => gmk hU hW9 hP hK hD hex hE hS hFc⟩ rfl rfl hl.1 rfl (lv_room (Nat.le_of_ble_eq_true rfl)) dX9_isDone_259 ⟨Nat.le_of_ble_eq_true rfl, Nat.le_of_ble_eq_true rfl⟩) hS (fun q _ h => hFc q h) hFc (fun r_7 ws_8 t9 H1 locs ht9 hvm9 hw9 hB9 hz9 hk9 hS => ?_)
        obtain ⟨E_9, Fr_10, hG, hP1, hD1⟩ := hB9
        have hP : va_P (gD g) cl0 ws_8 H1 := by rw [← ht9]; exact hP1
        have hD : va_D A ws_8 := hD1.weaken (fun _ _ _ h => hFc _ h)
        obtain ⟨hw9, xp_13, xp_14⟩ := hw9
        have hz_r_7 : r_7 = 0 ∨ r_7 = 1 := hw9
        clear hP1 hD1 hz9 hk9 hvm9 ht9 hw9
        generalize H1 = H at hP hS ⊢
        have aa_15 := a_r1_1
        have aa_16 := a_r2_1
        have aa_17 := a_r3_1
        have aa_18 := a_r4_1
        have aa_19 := a_r5_1
        have aa_20 := a_r0_4
        have aa_21 := a_r1_4
        have aa_22 := a_r3_4
        have aa_23 := a_r5_4
        have aa_24 := a_r6_4
        have aa_25 := a_r7_4
        have aa_26 := a_r8_4
        have o_h0 := E_9.1 _ _ o_h0
        have tq_27 : KR ws ws_8 r0_1 := KR.tr tq_2 (xp_14 _ _ _ hkQ9 rfl)
        refine W.widen (k := 0) (n := 0) (Nat.le_of_ble_eq_true rfl) (Nat.le_of_ble_eq_true rfl) ?_
        exact W.zret (v := r_7) hx hb hr (nz hz_r_7) (fun t9 ht9 hW9 => ⟨⟨_, ws_8, rfl, ⟨hz_r_7, xp_13, KS_of hDH9 hkH9 rfl tq_27⟩, ⟨E_9, Fr_10, hG, by rw [ht9]; exact hP, hD⟩⟩, hS.F ht9⟩) hS.2.2 dX9_isDone_262
      have K_27_72 : W p l e (headSpec (wt yX9_isDone cX9_isDone 3 (some .boolean)) ({ frames := 4, cells := 0, slots := 0, locals := 98 })).room s m ([.ref h0, .int x1, .int x2] : List Value).toArray below meth c s.heap [] (0) (0) (MQ below (va_Qi (fun (r : Int32) (u9 : va_W) => (r = 0 ∨ r = 1) ∧ (smR u9 h0) ∧ (KS ws u9 h0)) (gQ1 g [(7, 2), (7, 9)] [(7, 0), (7, 1), (7, 3), (7, 5), (7, 6), (7, 7), (7, 8)] none A ws) A) ([.ref h0, .int x1, .int x2] : List Value).toArray s (0) (0) A) (F0 m 72 ls []) := by
        refine lv_aload_n hx hb dX9_isDone_72 rfl (lv_at hl 0 rfl) ?_
        refine va_get (D := gD g) (ci := 8) (v := .ref r0_1) (C := RX9) (T := TX9) (N := 6) hx hb hts inX9 hown hK hP k_1 hk_1 rfl 0 (by decide) (hts _ kw_1552) (fun _ h9 => h9) rfl dX9_isDone_73 ?_
        refine lv_iload_n hx hb dX9_isDone_76 rfl (lv_at hl 2 rfl) ?_
        have hFc := gfree hD hS hA
        refine va_calli (va_runV (As := [.int x2]) (rest := []) ⟨hx, hb, hml, hown, hts⟩ (m_X8_opAt_x l g s.heap.size ws r0_1 (x2) hG o_r0_1) (cwV 1 hts (gd_V kw_1596 kw_1513 kw_1514 kw_782 kw_1512) rfl rfl rfl (by decide +kernel) ⟨Nat.le_of_ble_eq_true rfl, Nat.le_of_ble_eq_true rfl⟩) ⟨gblind, va_recv hK hP (ci := 7) (q0 := k_4) rfl hk_4, fun U hU hW9 => gmk hU hW9 hP hK hD hex hE hS hFc⟩ rfl rfl hl.1 rfl (lv_room (Nat.le_of_ble_eq_true rfl)) dX9_isDone_77 ⟨Nat.le_of_ble_eq_true rfl, Nat.le_of_ble_eq_true rfl⟩) hS (fun q _ h => hFc q h) hFc (fun r_28 u9 t9 H1 locs ht9 hvm9 hw9 hB9 hz9 hk9 hS => ?_)
        have hP : va_P (gD g) cl0 ws H1 := by rw [← ht9]; exact hB9.1
        obtain ⟨hw9, xp_29⟩ := hw9
        clear hB9 hz9 hk9 hvm9 ht9 hw9
        generalize H1 = H at hP hS ⊢
        refine lv_sipush (v := 167) hx hb dX9_isDone_80 (by decide) ?_
        have J_116 : ∀ (t_30 : Int32) (ws_32 : va_W) (H : Heap) (locs : List Loc) (ls : Array Slot), t_30 = 0 ∨ t_30 = 1 → gE ws ws_32 → gF [(7, 2), (7, 9)] [(7, 0), (7, 1), (7, 3), (7, 5), (7, 6), (7, 7), (7, 8)] none ws ws_32 → Good g ws_32 → smR ws_32 h0 → KR ws ws_32 r0_1 → va_P (gD g) cl0 ws_32 H → va_D A ws_32 → va_S A s.heap H locs → lv_has ls 3 [] → W p l e (headSpec (wt yX9_isDone cX9_isDone 3 (some .boolean)) ({ frames := 4, cells := 0, slots := 0, locals := 98 })).room s m ([.ref h0, .int x1, .int x2] : List Value).toArray below meth c H locs (0) (0) (MQ below (va_Qi (fun (r : Int32) (u9 : va_W) => (r = 0 ∨ r = 1) ∧ (smR u9 h0) ∧ (KS ws u9 h0)) (gQ1 g [(7, 2), (7, 9)] [(7, 0), (7, 1), (7, 3), (7, 5), (7, 6), (7, 7), (7, 8)] none A ws) A) ([.ref h0, .int x1, .int x2] : List Value).toArray s (0) (0) A) (F0 m 116 ls [.int t_30]) := by
          intro t_30 ws_32 H locs ls iv_31 E_33 Fr_34 hG jx_116_0 jx_116_1 hP hD hS hl
          have hz_t_30 := iv_31
          have aa_35 := a_r1_1
          have aa_36 := a_r2_1
          have aa_37 := a_r3_1
          have aa_38 := a_r4_1
          have aa_39 := a_r5_1
          have aa_40 := a_r0_4
          have aa_41 := a_r1_4
          have aa_42 := a_r3_4
          have aa_43 := a_r5_4
          have aa_44 := a_r6_4
          have aa_45 := a_r7_4
          have aa_46 := a_r8_4
          have o_h0 := E_33.1 _ _ o_h0
          refine W.widen (k := 0) (n := 0) (Nat.le_of_ble_eq_true rfl) (Nat.le_of_ble_eq_true rfl) ?_
          exact W.zret (v := t_30) hx hb hr (nz hz_t_30) (fun t9 ht9 hW9 => ⟨⟨_, ws_32, rfl, ⟨hz_t_30, jx_116_0, KS_of hDH9 hkH9 rfl jx_116_1⟩, ⟨E_33, Fr_34, hG, by rw [ht9]; exact hP, hD⟩⟩, hS.F ht9⟩) hS.2.2 dX9_isDone_116
        have J_115 : ∀ (ws_47 : va_W) (H : Heap) (locs : List Loc) (ls : Array Slot), gE ws ws_47 → gF [(7, 2), (7, 9)] [(7, 0), (7, 1), (7, 3), (7, 5), (7, 6), (7, 7), (7, 8)] none ws ws_47 → Good g ws_47 → smR ws_47 h0 → KR ws ws_47 r0_1 → va_P (gD g) cl0 ws_47 H → va_D A ws_47 → va_S A s.heap H locs → lv_has ls 3 [] → W p l e (headSpec (wt yX9_isDone cX9_isDone 3 (some .boolean)) ({ frames := 4, cells := 0, slots := 0, locals := 98 })).room s m ([.ref h0, .int x1, .int x2] : List Value).toArray below meth c H locs (0) (0) (MQ below (va_Qi (fun (r : Int32) (u9 : va_W) => (r = 0 ∨ r = 1) ∧ (smR u9 h0) ∧ (KS ws u9 h0)) (gQ1 g [(7, 2), (7, 9)] [(7, 0), (7, 1), (7, 3), (7, 5), (7, 6), (7, 7), (7, 8)] none A ws) A) ([.ref h0, .int x1, .int x2] : List Value).toArray s (0) (0) A) (F0 m 115 ls []) := by
          intro ws_47 H locs ls  E_48 Fr_49 hG jx_115_0 jx_115_1 hP hD hS hl
          have aa_50 := a_r1_1
          have aa_51 := a_r2_1
          have aa_52 := a_r3_1
          have aa_53 := a_r4_1
          have aa_54 := a_r5_1
          have aa_55 := a_r0_4
          have aa_56 := a_r1_4
          have aa_57 := a_r3_4
          have aa_58 := a_r5_4
          have aa_59 := a_r6_4
          have aa_60 := a_r7_4
          have aa_61 := a_r8_4
          have o_h0 := E_48.1 _ _ o_h0
          refine lv_iconst (v := 0) hx hb dX9_isDone_115 (by decide) ?_
          exact J_116 (0) ws_47 H locs ls (Or.inl rfl) (E_48) (Fr_49) hG jx_115_0 jx_115_1 hP hD hS (lv_sub hl [] rfl)
        refine lv_icmp_ne (tgt := 115) hx hb dX9_isDone_83 (by decide) (fun c_62 => ?_) (fun c_62 => ?_)
        · exact J_115 ws H locs ls (gE.rf) (gF.rf) hG tk0 tq_2 hP hD hS (lv_sub hl [] rfl)
        · refine lv_aload_n hx hb dX9_isDone_86 rfl (lv_at hl 0 rfl) ?_
          refine va_get (D := gD g) (ci := 8) (v := .ref r0_1) (C := RX9) (T := TX9) (N := 6) hx hb hts inX9 hown hK hP k_1 hk_1 rfl 0 (by decide) (hts _ kw_1552) (fun _ h9 => h9) rfl dX9_isDone_87 ?_
          refine lv_iload_n hx hb dX9_isDone_90 rfl (lv_at hl 2 rfl) ?_
          have hFc := gfree hD hS hA
          refine va_calll (va_runV (As := [.int x2]) (rest := []) ⟨hx, hb, hml, hown, hts⟩ (m_X8_argAt_x l g H.size ws r0_1 (x2) hG o_r0_1) (cwV 1 hts (gd_V kw_1605 kw_1476 kw_1477 kw_782 kw_1475) rfl rfl rfl (by decide +kernel) ⟨Nat.le_of_ble_eq_true rfl, Nat.le_of_ble_eq_true rfl⟩) ⟨gblind, va_recv hK hP (ci := 7) (q0 := k_4) rfl hk_4, fun U hU hW9 => gmk hU hW9 hP hK hD hex hE hS hFc⟩ rfl rfl hl.1 rfl (lv_room (Nat.le_of_ble_eq_true rfl)) dX9_isDone_91 ⟨Nat.le_of_ble_eq_true rfl, Nat.le_of_ble_eq_true rfl⟩) hS (fun q _ h => hFc q h) hFc (fun r_63 u9 t9 H1 locs ht9 hvm9 hw9 hB9 hz9 hk9 hS => ?_)
          have hP : va_P (gD g) cl0 ws H1 := by rw [← ht9]; exact hB9.1
          obtain ⟨hw9, xp_64⟩ := hw9
          clear hB9 hz9 hk9 hvm9 ht9 hw9
          generalize H1 = H at hP hS ⊢
          refine lv_iload_n hx hb dX9_isDone_94 rfl (lv_at hl 2 rfl) ?_
          refine lv_iconst (v := 1) hx hb dX9_isDone_95 (by decide) ?_
          refine lv_iadd hx hb dX9_isDone_96 ?_
          refine lv_topi (fun z_65 ez_65 => ?_)
          obtain ⟨z_66, ez_66⟩ : ∃ y : Int64, (z_65 : Int32).toInt64 = y := ⟨_, rfl⟩
          refine lv_i2l (v := z_66) hx hb dX9_isDone_97 ez_66 ?_
          refine W.lcmp hx hb dX9_isDone_98 ?_
          refine lv_topi (fun z_67 ez_67 => ?_)
          refine lv_if_ne (tgt := 115) hx hb dX9_isDone_99 (by decide) (fun c_68 => ?_) (fun c_68 => ?_)
          · exact J_115 ws H locs ls (gE.rf) (gF.rf) hG tk0 tq_2 hP hD hS (lv_sub hl [] rfl)
          · refine lv_aload_n hx hb dX9_isDone_102 rfl (lv_at hl 0 rfl) ?_
            refine lv_iload_n hx hb dX9_isDone_103 rfl (lv_at hl 2 rfl) ?_
            refine lv_iconst (v := 1) hx hb dX9_isDone_104 (by decide) ?_
            have hkQ9 := hk_1
            have hFc := gfree hD hS hA
            refine va_calli (va_runV (As := [.int x2, .int 1]) (rest := []) ⟨hx, hb, hml, hown, hts⟩ (m_X9_isDropped_x l g H.size ws h0 (x2) (1) hG o_h0 tk0 (by first | (have e1 : (1 : Int32).toInt = 1 := (by decide); have q_p0 := Hide.out p0; have q_px := Hide.out px; have q_c_6 := i_lt c_6; obtain ⟨u_z_65, q_z_65⟩ := i_add ez_65; have g_x2 := i_rg x2; have g_z_5 := i_rg z_5; have g_z_65 := i_rg z_65; omega) | (have e1 : (1 : Int32).toInt = 1 := (by decide); have q_p0 := Hide.out p0; have q_px := Hide.out px; have q_c_6 := i_lt c_6; obtain ⟨u_z_65, q_z_65⟩ := i_add ez_65; obtain ⟨u_z_5, q_z_5⟩ := i_sub ez_5; have q_z_66 := l_of ez_66; have g_c2_4 := i_rg c2_4; have g_x2 := i_rg x2; have g_z_5 := i_rg z_5; have g_z_65 := i_rg z_65; omega) | (have e1 : (1 : Int32).toInt = 1 := (by decide); have q_p0 := Hide.out p0; have q_px := Hide.out px; have q_c_6 := i_lt c_6; obtain ⟨u_z_65, q_z_65⟩ := i_add ez_65; obtain ⟨u_z_5, q_z_5⟩ := i_sub ez_5; have q_z_66 := l_of ez_66; have q_f19_4 := Hide.out f19_4; have q_f20_4 := Hide.out f20_4; have q_z_67 := l_cmp ez_67; have g_c2_4 := i_rg c2_4; have g_x2 := i_rg x2; have g_z_5 := i_rg z_5; have g_z_65 := i_rg z_65; have g_z_67 := i_rg z_67; omega) | (have e0 : (0 : Int32).toInt = 0 := (by decide); have e1 : (1 : Int32).toInt = 1 := (by decide); have q_p0 := Hide.out p0; have q_px := Hide.out px; have q_c_6 := i_lt c_6; obtain ⟨u_z_65, q_z_65⟩ := i_add ez_65; obtain ⟨u_z_5, q_z_5⟩ := i_sub ez_5; have q_z_66 := l_of ez_66; have q_f19_4 := Hide.out f19_4; have q_f20_4 := Hide.out f20_4; have q_z_67 := l_cmp ez_67; have q_f1_4 := Hide.out f1_4; have q_f17_4 := Hide.out f17_4; have q_f18_4 := Hide.out f18_4; have q_c_68 := i_eq c_68; have g_c2_4 := i_rg c2_4; have g_x2 := i_rg x2; have g_z_5 := i_rg z_5; have g_z_65 := i_rg z_65; have g_z_67 := i_rg z_67; omega) | (have e0 : (0 : Int32).toInt = 0 := (by decide); have e1 : (1 : Int32).toInt = 1 := (by decide); have q_p0 := Hide.out p0; have q_px := Hide.out px; have q_c_6 := i_lt c_6; obtain ⟨u_z_65, q_z_65⟩ := i_add ez_65; obtain ⟨u_z_5, q_z_5⟩ := i_sub ez_5; have q_z_66 := l_of ez_66; have q_f19_4 := Hide.out f19_4; have q_f20_4 := Hide.out f20_4; have q_z_67 := l_cmp ez_67; have q_f1_4 := Hide.out f1_4; have q_f17_4 := Hide.out f17_4; have q_f18_4 := Hide.out f18_4; have q_c_68 := i_eq c_68; have q_f3_4 := Hide.out f3_4; have g_c2_4 := i_rg c2_4; have g_x2 := i_rg x2; have g_z_5 := i_rg z_5; have g_z_65 := i_rg z_65; have g_z_67 := i_rg z_67; omega)) (by have e1 : (1 : Int32).toInt = 1 := (by decide); omega)) (cwV 2 hts (gd_V kw_1606 kw_1616 kw_1617 kw_404 kw_1615) rfl rfl rfl (by decide +kernel) ⟨Nat.le_of_ble_eq_true rfl, Nat.le_of_ble_eq_true rfl⟩) ⟨gblind, va_recv hK hP (ci := 8) (q0 := k_1) rfl hk_1, fun U hU hW9 => gmk hU hW9 hP hK hD hex hE hS hFc⟩ rfl rfl hl.1 rfl (lv_room (Nat.le_of_ble_eq_true rfl)) dX9_isDone_105 ⟨Nat.le_of_ble_eq_true rfl, Nat.le_of_ble_eq_true rfl⟩) hS (fun q _ h => hFc q h) hFc (fun r_69 ws_70 t9 H1 locs ht9 hvm9 hw9 hB9 hz9 hk9 hS => ?_)
            obtain ⟨E_71, Fr_72, hG, hP1, hD1⟩ := hB9
            have hP : va_P (gD g) cl0 ws_70 H1 := by rw [← ht9]; exact hP1
            have hD : va_D A ws_70 := hD1.weaken (fun _ _ _ h => hFc _ h)
            obtain ⟨hw9, xp_75, xp_76⟩ := hw9
            have hz_r_69 : r_69 = 0 ∨ r_69 = 1 := hw9
            clear hP1 hD1 hz9 hk9 hvm9 ht9 hw9
            generalize H1 = H at hP hS ⊢
            have aa_77 := a_r1_1
            have aa_78 := a_r2_1
            have aa_79 := a_r3_1
            have aa_80 := a_r4_1
            have aa_81 := a_r5_1
            have aa_82 := a_r0_4
            have aa_83 := a_r1_4
            have aa_84 := a_r3_4
            have aa_85 := a_r5_4
            have aa_86 := a_r6_4
            have aa_87 := a_r7_4
            have aa_88 := a_r8_4
            have o_h0 := E_71.1 _ _ o_h0
            have tq_89 : KR ws ws_70 r0_1 := KR.tr tq_2 (xp_76 _ _ _ hkQ9 rfl)
            refine lv_if_eq (tgt := 115) hx hb dX9_isDone_108 (by decide) (fun c_90 => ?_) (fun c_90 => ?_)
            · exact J_115 ws_70 H locs ls (E_71) (Fr_72) hG xp_75 tq_89 hP hD hS (lv_sub hl [] rfl)
            · refine lv_iconst (v := 1) hx hb dX9_isDone_111 (by decide) ?_
              refine lv_goto (tgt := 116) hx hb dX9_isDone_112 (by decide) ?_
              exact J_116 (1) ws_70 H locs ls (Or.inr rfl) (E_71) (Fr_72) hG xp_75 tq_89 hP hD hS (lv_sub hl [] rfl)
      have K_27_117 : W p l e (headSpec (wt yX9_isDone cX9_isDone 3 (some .boolean)) ({ frames := 4, cells := 0, slots := 0, locals := 98 })).room s m ([.ref h0, .int x1, .int x2] : List Value).toArray below meth c s.heap [] (0) (0) (MQ below (va_Qi (fun (r : Int32) (u9 : va_W) => (r = 0 ∨ r = 1) ∧ (smR u9 h0) ∧ (KS ws u9 h0)) (gQ1 g [(7, 2), (7, 9)] [(7, 0), (7, 1), (7, 3), (7, 5), (7, 6), (7, 7), (7, 8)] none A ws) A) ([.ref h0, .int x1, .int x2] : List Value).toArray s (0) (0) A) (F0 m 117 ls []) := by
        refine lv_aload_n hx hb dX9_isDone_117 rfl (lv_at hl 0 rfl) ?_
        refine va_get (D := gD g) (ci := 8) (v := .ref r0_1) (C := RX9) (T := TX9) (N := 6) hx hb hts inX9 hown hK hP k_1 hk_1 rfl 0 (by decide) (hts _ kw_1552) (fun _ h9 => h9) rfl dX9_isDone_118 ?_
        refine lv_iload_n hx hb dX9_isDone_121 rfl (lv_at hl 2 rfl) ?_
        have hFc := gfree hD hS hA
        refine va_calli (va_runV (As := [.int x2]) (rest := []) ⟨hx, hb, hml, hown, hts⟩ (m_X8_opAt_x l g s.heap.size ws r0_1 (x2) hG o_r0_1) (cwV 1 hts (gd_V kw_1596 kw_1513 kw_1514 kw_782 kw_1512) rfl rfl rfl (by decide +kernel) ⟨Nat.le_of_ble_eq_true rfl, Nat.le_of_ble_eq_true rfl⟩) ⟨gblind, va_recv hK hP (ci := 7) (q0 := k_4) rfl hk_4, fun U hU hW9 => gmk hU hW9 hP hK hD hex hE hS hFc⟩ rfl rfl hl.1 rfl (lv_room (Nat.le_of_ble_eq_true rfl)) dX9_isDone_122 ⟨Nat.le_of_ble_eq_true rfl, Nat.le_of_ble_eq_true rfl⟩) hS (fun q _ h => hFc q h) hFc (fun r_91 u9 t9 H1 locs ht9 hvm9 hw9 hB9 hz9 hk9 hS => ?_)
        have hP : va_P (gD g) cl0 ws H1 := by rw [← ht9]; exact hB9.1
        obtain ⟨hw9, xp_92⟩ := hw9
        clear hB9 hz9 hk9 hvm9 ht9 hw9
        generalize H1 = H at hP hS ⊢
        have J_142 : ∀ (t_93 : Int32) (ws_95 : va_W) (H : Heap) (locs : List Loc) (ls : Array Slot), t_93 = 0 ∨ t_93 = 1 → gE ws ws_95 → gF [(7, 2), (7, 9)] [(7, 0), (7, 1), (7, 3), (7, 5), (7, 6), (7, 7), (7, 8)] none ws ws_95 → Good g ws_95 → smR ws_95 h0 → KR ws ws_95 r0_1 → va_P (gD g) cl0 ws_95 H → va_D A ws_95 → va_S A s.heap H locs → lv_has ls 3 [] → W p l e (headSpec (wt yX9_isDone cX9_isDone 3 (some .boolean)) ({ frames := 4, cells := 0, slots := 0, locals := 98 })).room s m ([.ref h0, .int x1, .int x2] : List Value).toArray below meth c H locs (0) (0) (MQ below (va_Qi (fun (r : Int32) (u9 : va_W) => (r = 0 ∨ r = 1) ∧ (smR u9 h0) ∧ (KS ws u9 h0)) (gQ1 g [(7, 2), (7, 9)] [(7, 0), (7, 1), (7, 3), (7, 5), (7, 6), (7, 7), (7, 8)] none A ws) A) ([.ref h0, .int x1, .int x2] : List Value).toArray s (0) (0) A) (F0 m 142 ls [.int t_93]) := by
          intro t_93 ws_95 H locs ls iv_94 E_96 Fr_97 hG jx_142_0 jx_142_1 hP hD hS hl
          have hz_t_93 := iv_94
          have aa_98 := a_r1_1
          have aa_99 := a_r2_1
          have aa_100 := a_r3_1
          have aa_101 := a_r4_1
          have aa_102 := a_r5_1
          have aa_103 := a_r0_4
          have aa_104 := a_r1_4
          have aa_105 := a_r3_4
          have aa_106 := a_r5_4
          have aa_107 := a_r6_4
          have aa_108 := a_r7_4
          have aa_109 := a_r8_4
          have o_h0 := E_96.1 _ _ o_h0
          refine W.widen (k := 0) (n := 0) (Nat.le_of_ble_eq_true rfl) (Nat.le_of_ble_eq_true rfl) ?_
          exact W.zret (v := t_93) hx hb hr (nz hz_t_93) (fun t9 ht9 hW9 => ⟨⟨_, ws_95, rfl, ⟨hz_t_93, jx_142_0, KS_of hDH9 hkH9 rfl jx_142_1⟩, ⟨E_96, Fr_97, hG, by rw [ht9]; exact hP, hD⟩⟩, hS.F ht9⟩) hS.2.2 dX9_isDone_142
        have J_141 : ∀ (ws_110 : va_W) (H : Heap) (locs : List Loc) (ls : Array Slot), gE ws ws_110 → gF [(7, 2), (7, 9)] [(7, 0), (7, 1), (7, 3), (7, 5), (7, 6), (7, 7), (7, 8)] none ws ws_110 → Good g ws_110 → smR ws_110 h0 → KR ws ws_110 r0_1 → va_P (gD g) cl0 ws_110 H → va_D A ws_110 → va_S A s.heap H locs → lv_has ls 3 [] → W p l e (headSpec (wt yX9_isDone cX9_isDone 3 (some .boolean)) ({ frames := 4, cells := 0, slots := 0, locals := 98 })).room s m ([.ref h0, .int x1, .int x2] : List Value).toArray below meth c H locs (0) (0) (MQ below (va_Qi (fun (r : Int32) (u9 : va_W) => (r = 0 ∨ r = 1) ∧ (smR u9 h0) ∧ (KS ws u9 h0)) (gQ1 g [(7, 2), (7, 9)] [(7, 0), (7, 1), (7, 3), (7, 5), (7, 6), (7, 7), (7, 8)] none A ws) A) ([.ref h0, .int x1, .int x2] : List Value).toArray s (0) (0) A) (F0 m 141 ls []) := by
          intro ws_110 H locs ls  E_111 Fr_112 hG jx_141_0 jx_141_1 hP hD hS hl
          have aa_113 := a_r1_1
          have aa_114 := a_r2_1
          have aa_115 := a_r3_1
          have aa_116 := a_r4_1
          have aa_117 := a_r5_1
          have aa_118 := a_r0_4
          have aa_119 := a_r1_4
          have aa_120 := a_r3_4
          have aa_121 := a_r5_4
          have aa_122 := a_r6_4
          have aa_123 := a_r7_4
          have aa_124 := a_r8_4
          have o_h0 := E_111.1 _ _ o_h0
          refine lv_iconst (v := 0) hx hb dX9_isDone_141 (by decide) ?_
          exact J_142 (0) ws_110 H locs ls (Or.inl rfl) (E_111) (Fr_112) hG jx_141_0 jx_141_1 hP hD hS (lv_sub hl [] rfl)
        refine lv_if_ne (tgt := 141) hx hb dX9_isDone_125 (by decide) (fun c_125 => ?_) (fun c_125 => ?_)
        · exact J_141 ws H locs ls (gE.rf) (gF.rf) hG tk0 tq_2 hP hD hS (lv_sub hl [] rfl)
        · refine lv_aload_n hx hb dX9_isDone_128 rfl (lv_at hl 0 rfl) ?_
          refine lv_iload_n hx hb dX9_isDone_129 rfl (lv_at hl 2 rfl) ?_
          refine lv_iconst (v := 1) hx hb dX9_isDone_130 (by decide) ?_
          have hkQ9 := hk_1
          have hFc := gfree hD hS hA
          refine va_calli (va_runV (As := [.int x2, .int 1]) (rest := []) ⟨hx, hb, hml, hown, hts⟩ (m_X9_isDropped_x l g H.size ws h0 (x2) (1) hG o_h0 tk0 (by first | (have q_p0 := Hide.out p0; have q_px := Hide.out px; have q_c_6 := i_lt c_6; have g_x2 := i_rg x2; have g_z_5 := i_rg z_5; omega) | (have e1 : (1 : Int32).toInt = 1 := (by decide); have q_p0 := Hide.out p0; have q_px := Hide.out px; have q_c_6 := i_lt c_6; obtain ⟨u_z_5, q_z_5⟩ := i_sub ez_5; have g_c2_4 := i_rg c2_4; have g_x2 := i_rg x2; have g_z_5 := i_rg z_5; omega) | (have e1 : (1 : Int32).toInt = 1 := (by decide); have q_p0 := Hide.out p0; have q_px := Hide.out px; have q_c_6 := i_lt c_6; obtain ⟨u_z_5, q_z_5⟩ := i_sub ez_5; have q_f19_4 := Hide.out f19_4; have q_f20_4 := Hide.out f20_4; have g_c2_4 := i_rg c2_4; have g_x2 := i_rg x2; have g_z_5 := i_rg z_5; omega) | (have e1 : (1 : Int32).toInt = 1 := (by decide); have q_p0 := Hide.out p0; have q_px := Hide.out px; have q_c_6 := i_lt c_6; obtain ⟨u_z_5, q_z_5⟩ := i_sub ez_5; have q_f19_4 := Hide.out f19_4; have q_f20_4 := Hide.out f20_4; have q_f1_4 := Hide.out f1_4; have q_f17_4 := Hide.out f17_4; have q_f18_4 := Hide.out f18_4; have g_c2_4 := i_rg c2_4; have g_x2 := i_rg x2; have g_z_5 := i_rg z_5; omega) | (have e1 : (1 : Int32).toInt = 1 := (by decide); have q_p0 := Hide.out p0; have q_px := Hide.out px; have q_c_6 := i_lt c_6; obtain ⟨u_z_5, q_z_5⟩ := i_sub ez_5; have q_f19_4 := Hide.out f19_4; have q_f20_4 := Hide.out f20_4; have q_f1_4 := Hide.out f1_4; have q_f17_4 := Hide.out f17_4; have q_f18_4 := Hide.out f18_4; have q_f3_4 := Hide.out f3_4; have g_c2_4 := i_rg c2_4; have g_x2 := i_rg x2; have g_z_5 := i_rg z_5; omega)) (by have e1 : (1 : Int32).toInt = 1 := (by decide); omega)) (cwV 2 hts (gd_V kw_1606 kw_1616 kw_1617 kw_404 kw_1615) rfl rfl rfl (by decide +kernel) ⟨Nat.le_of_ble_eq_true rfl, Nat.le_of_ble_eq_true rfl⟩) ⟨gblind, va_recv hK hP (ci := 8) (q0 := k_1) rfl hk_1, fun U hU hW9 => gmk hU hW9 hP hK hD hex hE hS hFc⟩ rfl rfl hl.1 rfl (lv_room (Nat.le_of_ble_eq_true rfl)) dX9_isDone_131 ⟨Nat.le_of_ble_eq_true rfl, Nat.le_of_ble_eq_true rfl⟩) hS (fun q _ h => hFc q h) hFc (fun r_126 ws_127 t9 H1 locs ht9 hvm9 hw9 hB9 hz9 hk9 hS => ?_)
          obtain ⟨E_128, Fr_129, hG, hP1, hD1⟩ := hB9
          have hP : va_P (gD g) cl0 ws_127 H1 := by rw [← ht9]; exact hP1
          have hD : va_D A ws_127 := hD1.weaken (fun _ _ _ h => hFc _ h)
          obtain ⟨hw9, xp_132, xp_133⟩ := hw9
          have hz_r_126 : r_126 = 0 ∨ r_126 = 1 := hw9
          clear hP1 hD1 hz9 hk9 hvm9 ht9 hw9
          generalize H1 = H at hP hS ⊢
          have aa_134 := a_r1_1
          have aa_135 := a_r2_1
          have aa_136 := a_r3_1
          have aa_137 := a_r4_1
          have aa_138 := a_r5_1
          have aa_139 := a_r0_4
          have aa_140 := a_r1_4
          have aa_141 := a_r3_4
          have aa_142 := a_r5_4
          have aa_143 := a_r6_4
          have aa_144 := a_r7_4
          have aa_145 := a_r8_4
          have o_h0 := E_128.1 _ _ o_h0
          have tq_146 : KR ws ws_127 r0_1 := KR.tr tq_2 (xp_133 _ _ _ hkQ9 rfl)
          refine lv_if_eq (tgt := 141) hx hb dX9_isDone_134 (by decide) (fun c_147 => ?_) (fun c_147 => ?_)
          · exact J_141 ws_127 H locs ls (E_128) (Fr_129) hG xp_132 tq_146 hP hD hS (lv_sub hl [] rfl)
          · refine lv_iconst (v := 1) hx hb dX9_isDone_137 (by decide) ?_
            refine lv_goto (tgt := 142) hx hb dX9_isDone_138 (by decide) ?_
            exact J_142 (1) ws_127 H locs ls (Or.inr rfl) (E_128) (Fr_129) hG xp_132 tq_146 hP hD hS (lv_sub hl [] rfl)
      have K_27_143 : W p l e (headSpec (wt yX9_isDone cX9_isDone 3 (some .boolean)) ({ frames := 4, cells := 0, slots := 0, locals := 98 })).room s m ([.ref h0, .int x1, .int x2] : List Value).toArray below meth c s.heap [] (0) (0) (MQ below (va_Qi (fun (r : Int32) (u9 : va_W) => (r = 0 ∨ r = 1) ∧ (smR u9 h0) ∧ (KS ws u9 h0)) (gQ1 g [(7, 2), (7, 9)] [(7, 0), (7, 1), (7, 3), (7, 5), (7, 6), (7, 7), (7, 8)] none A ws) A) ([.ref h0, .int x1, .int x2] : List Value).toArray s (0) (0) A) (F0 m 143 ls []) := by
        refine lv_aload_n hx hb dX9_isDone_143 rfl (lv_at hl 0 rfl) ?_
        refine lv_iload_n hx hb dX9_isDone_144 rfl (lv_at hl 2 rfl) ?_
        have hkQ9 := hk_1
        have hFc := gfree hD hS hA
        refine va_calli (va_runV (As := [.int x2]) (rest := []) ⟨hx, hb, hml, hown, hts⟩ (m_X9_isFolded_x l g s.heap.size ws h0 (x2) hG o_h0 (gP_of hD hk_1 (fun p90 q90 e90 g90 => by cases e90; have z90 := gI_n hD a_r2_1 g90; subst z90; exact (by have q_f4_1 := Hide.out f4_1; have q_fq_a := Hide.out fq_a; omega))) (gP_of hD hk_1 (fun p90 q90 e90 g90 => by cases e90; have z90 := gI_n hD a_r3_1 g90; subst z90; exact (by have q_f6_1 := Hide.out f6_1; have q_fq_b := Hide.out fq_b; omega))) (gP_of hD hk_1 (fun p90 q90 e90 g90 => by cases e90; have z90 := gI_n hD a_r4_1 g90; subst z90; exact (by have q_f8_1 := Hide.out f8_1; have q_fq_d := Hide.out fq_d; omega))) (gP_of hD hk_1 (fun p90 q90 e90 g90 => by cases e90; have z90 := gI_n hD a_r5_1 g90; subst z90; exact (by have q_f10_1 := Hide.out f10_1; have q_fq_f := Hide.out fq_f; omega))) tk0 (by first | (have q_p0 := Hide.out p0; have q_px := Hide.out px; have q_c_6 := i_lt c_6; have g_x2 := i_rg x2; have g_z_5 := i_rg z_5; omega) | (have e1 : (1 : Int32).toInt = 1 := (by decide); have q_p0 := Hide.out p0; have q_px := Hide.out px; have q_c_6 := i_lt c_6; obtain ⟨u_z_5, q_z_5⟩ := i_sub ez_5; have g_c2_4 := i_rg c2_4; have g_x2 := i_rg x2; have g_z_5 := i_rg z_5; omega) | (have e1 : (1 : Int32).toInt = 1 := (by decide); have q_p0 := Hide.out p0; have q_px := Hide.out px; have q_c_6 := i_lt c_6; obtain ⟨u_z_5, q_z_5⟩ := i_sub ez_5; have q_f19_4 := Hide.out f19_4; have q_f20_4 := Hide.out f20_4; have g_c2_4 := i_rg c2_4; have g_x2 := i_rg x2; have g_z_5 := i_rg z_5; omega) | (have e1 : (1 : Int32).toInt = 1 := (by decide); have q_p0 := Hide.out p0; have q_px := Hide.out px; have q_c_6 := i_lt c_6; obtain ⟨u_z_5, q_z_5⟩ := i_sub ez_5; have q_f19_4 := Hide.out f19_4; have q_f20_4 := Hide.out f20_4; have q_f1_4 := Hide.out f1_4; have q_f17_4 := Hide.out f17_4; have q_f18_4 := Hide.out f18_4; have g_c2_4 := i_rg c2_4; have g_x2 := i_rg x2; have g_z_5 := i_rg z_5; omega) | (have e1 : (1 : Int32).toInt = 1 := (by decide); have q_p0 := Hide.out p0; have q_px := Hide.out px; have q_c_6 := i_lt c_6; obtain ⟨u_z_5, q_z_5⟩ := i_sub ez_5; have q_f19_4 := Hide.out f19_4; have q_f20_4 := Hide.out f20_4; have q_f1_4 := Hide.out f1_4; have q_f17_4 := Hide.out f17_4; have q_f18_4 := Hide.out f18_4; have q_f3_4 := Hide.out f3_4; have g_c2_4 := i_rg c2_4; have g_x2 := i_rg x2; have g_z_5 := i_rg z_5; omega)) (by first | (have q_p0 := Hide.out p0; have q_px := Hide.out px; have q_c_6 := i_lt c_6; have g_x2 := i_rg x2; have g_z_5 := i_rg z_5; omega) | (have e1 : (1 : Int32).toInt = 1 := (by decide); have q_p0 := Hide.out p0; have q_px := Hide.out px; have q_c_6 := i_lt c_6; obtain ⟨u_z_5, q_z_5⟩ := i_sub ez_5; have g_c2_4 := i_rg c2_4; have g_x2 := i_rg x2; have g_z_5 := i_rg z_5; omega) | (have e1 : (1 : Int32).toInt = 1 := (by decide); have q_p0 := Hide.out p0; have q_px := Hide.out px; have q_c_6 := i_lt c_6; obtain ⟨u_z_5, q_z_5⟩ := i_sub ez_5; have q_f19_4 := Hide.out f19_4; have q_f20_4 := Hide.out f20_4; have g_c2_4 := i_rg c2_4; have g_x2 := i_rg x2; have g_z_5 := i_rg z_5; omega) | (have e1 : (1 : Int32).toInt = 1 := (by decide); have q_p0 := Hide.out p0; have q_px := Hide.out px; have q_c_6 := i_lt c_6; obtain ⟨u_z_5, q_z_5⟩ := i_sub ez_5; have q_f19_4 := Hide.out f19_4; have q_f20_4 := Hide.out f20_4; have q_f1_4 := Hide.out f1_4; have q_f17_4 := Hide.out f17_4; have q_f18_4 := Hide.out f18_4; have g_c2_4 := i_rg c2_4; have g_x2 := i_rg x2; have g_z_5 := i_rg z_5; omega) | (have e1 : (1 : Int32).toInt = 1 := (by decide); have q_p0 := Hide.out p0; have q_px := Hide.out px; have q_c_6 := i_lt c_6; obtain ⟨u_z_5, q_z_5⟩ := i_sub ez_5; have q_f19_4 := Hide.out f19_4; have q_f20_4 := Hide.out f20_4; have q_f1_4 := Hide.out f1_4; have q_f17_4 := Hide.out f17_4; have q_f18_4 := Hide.out f18_4; have q_f3_4 := Hide.out f3_4; have g_c2_4 := i_rg c2_4; have g_x2 := i_rg x2; have g_z_5 := i_rg z_5; omega))) (cwV 1 hts (gd_V kw_1607 kw_1619 kw_1620 kw_404 kw_1618) rfl rfl rfl (by decide +kernel) ⟨Nat.le_of_ble_eq_true rfl, Nat.le_of_ble_eq_true rfl⟩) ⟨gblind, va_recv hK hP (ci := 8) (q0 := k_1) rfl hk_1, fun U hU hW9 => gmk hU hW9 hP hK hD hex hE hS hFc⟩ rfl rfl hl.1 rfl (lv_room (Nat.le_of_ble_eq_true rfl)) dX9_isDone_145 ⟨Nat.le_of_ble_eq_true rfl, Nat.le_of_ble_eq_true rfl⟩) hS (fun q _ h => hFc q h) hFc (fun r_148 ws_149 t9 H1 locs ht9 hvm9 hw9 hB9 hz9 hk9 hS => ?_)
        obtain ⟨E_150, Fr_151, hG, hP1, hD1⟩ := hB9
        have hP : va_P (gD g) cl0 ws_149 H1 := by rw [← ht9]; exact hP1
        have hD : va_D A ws_149 := hD1.weaken (fun _ _ _ h => hFc _ h)
        obtain ⟨hw9, xp_154, xp_155⟩ := hw9
        have hz_r_148 : r_148 = 0 ∨ r_148 = 1 := hw9
        clear hP1 hD1 hz9 hk9 hvm9 ht9 hw9
        generalize H1 = H at hP hS ⊢
        have aa_156 := a_r1_1
        have aa_157 := a_r2_1
        have aa_158 := a_r3_1
        have aa_159 := a_r4_1
        have aa_160 := a_r5_1
        have aa_161 := a_r0_4
        have aa_162 := a_r1_4
        have aa_163 := a_r3_4
        have aa_164 := a_r5_4
        have aa_165 := a_r6_4
        have aa_166 := a_r7_4
        have aa_167 := a_r8_4
        have o_h0 := E_150.1 _ _ o_h0
        have tq_168 : KR ws ws_149 r0_1 := KR.tr tq_2 (xp_155 _ _ _ hkQ9 rfl)
        refine W.widen (k := 0) (n := 0) (Nat.le_of_ble_eq_true rfl) (Nat.le_of_ble_eq_true rfl) ?_
        exact W.zret (v := r_148) hx hb hr (nz hz_r_148) (fun t9 ht9 hW9 => ⟨⟨_, ws_149, rfl, ⟨hz_r_148, xp_154, KS_of hDH9 hkH9 rfl tq_168⟩, ⟨E_150, Fr_151, hG, by rw [ht9]; exact hP, hD⟩⟩, hS.F ht9⟩) hS.2.2 dX9_isDone_148
      have K_27_149 : W p l e (headSpec (wt yX9_isDone cX9_isDone 3 (some .boolean)) ({ frames := 4, cells := 0, slots := 0, locals := 98 })).room s m ([.ref h0, .int x1, .int x2] : List Value).toArray below meth c s.heap [] (0) (0) (MQ below (va_Qi (fun (r : Int32) (u9 : va_W) => (r = 0 ∨ r = 1) ∧ (smR u9 h0) ∧ (KS ws u9 h0)) (gQ1 g [(7, 2), (7, 9)] [(7, 0), (7, 1), (7, 3), (7, 5), (7, 6), (7, 7), (7, 8)] none A ws) A) ([.ref h0, .int x1, .int x2] : List Value).toArray s (0) (0) A) (F0 m 149 ls []) := by
        refine lv_aload_n hx hb dX9_isDone_149 rfl (lv_at hl 0 rfl) ?_
        refine lv_iload_n hx hb dX9_isDone_150 rfl (lv_at hl 2 rfl) ?_
        have hkQ9 := hk_1
        have hFc := gfree hD hS hA
        refine va_calli (va_runV (As := [.int x2]) (rest := []) ⟨hx, hb, hml, hown, hts⟩ (m_X9_isUnaryFolded_x l g s.heap.size ws h0 (x2) hG o_h0 (gP_of hD hk_1 (fun p90 q90 e90 g90 => by cases e90; have z90 := gI_n hD a_r2_1 g90; subst z90; exact (by have q_f4_1 := Hide.out f4_1; have q_fq_a := Hide.out fq_a; omega))) (gP_of hD hk_1 (fun p90 q90 e90 g90 => by cases e90; have z90 := gI_n hD a_r3_1 g90; subst z90; exact (by have q_f6_1 := Hide.out f6_1; have q_fq_b := Hide.out fq_b; omega))) (gP_of hD hk_1 (fun p90 q90 e90 g90 => by cases e90; have z90 := gI_n hD a_r4_1 g90; subst z90; exact (by have q_f8_1 := Hide.out f8_1; have q_fq_d := Hide.out fq_d; omega))) (gP_of hD hk_1 (fun p90 q90 e90 g90 => by cases e90; have z90 := gI_n hD a_r5_1 g90; subst z90; exact (by have q_f10_1 := Hide.out f10_1; have q_fq_f := Hide.out fq_f; omega))) tk0 (by first | (have q_p0 := Hide.out p0; have q_px := Hide.out px; have q_c_6 := i_lt c_6; have g_x2 := i_rg x2; have g_z_5 := i_rg z_5; omega) | (have e1 : (1 : Int32).toInt = 1 := (by decide); have q_p0 := Hide.out p0; have q_px := Hide.out px; have q_c_6 := i_lt c_6; obtain ⟨u_z_5, q_z_5⟩ := i_sub ez_5; have g_c2_4 := i_rg c2_4; have g_x2 := i_rg x2; have g_z_5 := i_rg z_5; omega) | (have e1 : (1 : Int32).toInt = 1 := (by decide); have q_p0 := Hide.out p0; have q_px := Hide.out px; have q_c_6 := i_lt c_6; obtain ⟨u_z_5, q_z_5⟩ := i_sub ez_5; have q_f19_4 := Hide.out f19_4; have q_f20_4 := Hide.out f20_4; have g_c2_4 := i_rg c2_4; have g_x2 := i_rg x2; have g_z_5 := i_rg z_5; omega) | (have e1 : (1 : Int32).toInt = 1 := (by decide); have q_p0 := Hide.out p0; have q_px := Hide.out px; have q_c_6 := i_lt c_6; obtain ⟨u_z_5, q_z_5⟩ := i_sub ez_5; have q_f19_4 := Hide.out f19_4; have q_f20_4 := Hide.out f20_4; have q_f1_4 := Hide.out f1_4; have q_f17_4 := Hide.out f17_4; have q_f18_4 := Hide.out f18_4; have g_c2_4 := i_rg c2_4; have g_x2 := i_rg x2; have g_z_5 := i_rg z_5; omega) | (have e1 : (1 : Int32).toInt = 1 := (by decide); have q_p0 := Hide.out p0; have q_px := Hide.out px; have q_c_6 := i_lt c_6; obtain ⟨u_z_5, q_z_5⟩ := i_sub ez_5; have q_f19_4 := Hide.out f19_4; have q_f20_4 := Hide.out f20_4; have q_f1_4 := Hide.out f1_4; have q_f17_4 := Hide.out f17_4; have q_f18_4 := Hide.out f18_4; have q_f3_4 := Hide.out f3_4; have g_c2_4 := i_rg c2_4; have g_x2 := i_rg x2; have g_z_5 := i_rg z_5; omega)) (by first | (have q_p0 := Hide.out p0; have q_px := Hide.out px; have q_c_6 := i_lt c_6; have g_x2 := i_rg x2; have g_z_5 := i_rg z_5; omega) | (have e1 : (1 : Int32).toInt = 1 := (by decide); have q_p0 := Hide.out p0; have q_px := Hide.out px; have q_c_6 := i_lt c_6; obtain ⟨u_z_5, q_z_5⟩ := i_sub ez_5; have g_c2_4 := i_rg c2_4; have g_x2 := i_rg x2; have g_z_5 := i_rg z_5; omega) | (have e1 : (1 : Int32).toInt = 1 := (by decide); have q_p0 := Hide.out p0; have q_px := Hide.out px; have q_c_6 := i_lt c_6; obtain ⟨u_z_5, q_z_5⟩ := i_sub ez_5; have q_f19_4 := Hide.out f19_4; have q_f20_4 := Hide.out f20_4; have g_c2_4 := i_rg c2_4; have g_x2 := i_rg x2; have g_z_5 := i_rg z_5; omega) | (have e1 : (1 : Int32).toInt = 1 := (by decide); have q_p0 := Hide.out p0; have q_px := Hide.out px; have q_c_6 := i_lt c_6; obtain ⟨u_z_5, q_z_5⟩ := i_sub ez_5; have q_f19_4 := Hide.out f19_4; have q_f20_4 := Hide.out f20_4; have q_f1_4 := Hide.out f1_4; have q_f17_4 := Hide.out f17_4; have q_f18_4 := Hide.out f18_4; have g_c2_4 := i_rg c2_4; have g_x2 := i_rg x2; have g_z_5 := i_rg z_5; omega) | (have e1 : (1 : Int32).toInt = 1 := (by decide); have q_p0 := Hide.out p0; have q_px := Hide.out px; have q_c_6 := i_lt c_6; obtain ⟨u_z_5, q_z_5⟩ := i_sub ez_5; have q_f19_4 := Hide.out f19_4; have q_f20_4 := Hide.out f20_4; have q_f1_4 := Hide.out f1_4; have q_f17_4 := Hide.out f17_4; have q_f18_4 := Hide.out f18_4; have q_f3_4 := Hide.out f3_4; have g_c2_4 := i_rg c2_4; have g_x2 := i_rg x2; have g_z_5 := i_rg z_5; omega))) (cwV 1 hts (gd_V kw_1608 kw_1653 kw_1654 kw_404 kw_1652) rfl rfl rfl (by decide +kernel) ⟨Nat.le_of_ble_eq_true rfl, Nat.le_of_ble_eq_true rfl⟩) ⟨gblind, va_recv hK hP (ci := 8) (q0 := k_1) rfl hk_1, fun U hU hW9 => gmk hU hW9 hP hK hD hex hE hS hFc⟩ rfl rfl hl.1 rfl (lv_room (Nat.le_of_ble_eq_true rfl)) dX9_isDone_151 ⟨Nat.le_of_ble_eq_true rfl, Nat.le_of_ble_eq_true rfl⟩) hS (fun q _ h => hFc q h) hFc (fun r_169 ws_170 t9 H1 locs ht9 hvm9 hw9 hB9 hz9 hk9 hS => ?_)
        obtain ⟨E_171, Fr_172, hG, hP1, hD1⟩ := hB9
        have hP : va_P (gD g) cl0 ws_170 H1 := by rw [← ht9]; exact hP1
        have hD : va_D A ws_170 := hD1.weaken (fun _ _ _ h => hFc _ h)
        obtain ⟨hw9, xp_175, xp_176⟩ := hw9
        have hz_r_169 : r_169 = 0 ∨ r_169 = 1 := hw9
        clear hP1 hD1 hz9 hk9 hvm9 ht9 hw9
        generalize H1 = H at hP hS ⊢
        have aa_177 := a_r1_1
        have aa_178 := a_r2_1
        have aa_179 := a_r3_1
        have aa_180 := a_r4_1
        have aa_181 := a_r5_1
        have aa_182 := a_r0_4
        have aa_183 := a_r1_4
        have aa_184 := a_r3_4
        have aa_185 := a_r5_4
        have aa_186 := a_r6_4
        have aa_187 := a_r7_4
        have aa_188 := a_r8_4
        have o_h0 := E_171.1 _ _ o_h0
        have tq_189 : KR ws ws_170 r0_1 := KR.tr tq_2 (xp_176 _ _ _ hkQ9 rfl)
        refine W.widen (k := 0) (n := 0) (Nat.le_of_ble_eq_true rfl) (Nat.le_of_ble_eq_true rfl) ?_
        exact W.zret (v := r_169) hx hb hr (nz hz_r_169) (fun t9 ht9 hW9 => ⟨⟨_, ws_170, rfl, ⟨hz_r_169, xp_175, KS_of hDH9 hkH9 rfl tq_189⟩, ⟨E_171, Fr_172, hG, by rw [ht9]; exact hP, hD⟩⟩, hS.F ht9⟩) hS.2.2 dX9_isDone_154
      have K_27_155 : W p l e (headSpec (wt yX9_isDone cX9_isDone 3 (some .boolean)) ({ frames := 4, cells := 0, slots := 0, locals := 98 })).room s m ([.ref h0, .int x1, .int x2] : List Value).toArray below meth c s.heap [] (0) (0) (MQ below (va_Qi (fun (r : Int32) (u9 : va_W) => (r = 0 ∨ r = 1) ∧ (smR u9 h0) ∧ (KS ws u9 h0)) (gQ1 g [(7, 2), (7, 9)] [(7, 0), (7, 1), (7, 3), (7, 5), (7, 6), (7, 7), (7, 8)] none A ws) A) ([.ref h0, .int x1, .int x2] : List Value).toArray s (0) (0) A) (F0 m 155 ls []) := by
        refine lv_aload_n hx hb dX9_isDone_155 rfl (lv_at hl 0 rfl) ?_
        refine lv_iload_n hx hb dX9_isDone_156 rfl (lv_at hl 2 rfl) ?_
        have hkQ9 := hk_1
        have hFc := gfree hD hS hA
        refine va_calli (va_runV (As := [.int x2]) (rest := []) ⟨hx, hb, hml, hown, hts⟩ (m_X9_isJumpDecided_x l g s.heap.size ws h0 (x2) hG o_h0 (gP_of hD hk_1 (fun p90 q90 e90 g90 => by cases e90; have z90 := gI_n hD a_r2_1 g90; subst z90; exact (by have q_f4_1 := Hide.out f4_1; have q_fq_a := Hide.out fq_a; omega))) (gP_of hD hk_1 (fun p90 q90 e90 g90 => by cases e90; have z90 := gI_n hD a_r3_1 g90; subst z90; exact (by have q_f6_1 := Hide.out f6_1; have q_fq_b := Hide.out fq_b; omega))) (gP_of hD hk_1 (fun p90 q90 e90 g90 => by cases e90; have z90 := gI_n hD a_r4_1 g90; subst z90; exact (by have q_f8_1 := Hide.out f8_1; have q_fq_d := Hide.out fq_d; omega))) (gP_of hD hk_1 (fun p90 q90 e90 g90 => by cases e90; have z90 := gI_n hD a_r5_1 g90; subst z90; exact (by have q_f10_1 := Hide.out f10_1; have q_fq_f := Hide.out fq_f; omega))) tk0 (by first | (have q_p0 := Hide.out p0; have q_px := Hide.out px; have q_c_6 := i_lt c_6; have g_x2 := i_rg x2; have g_z_5 := i_rg z_5; omega) | (have e1 : (1 : Int32).toInt = 1 := (by decide); have q_p0 := Hide.out p0; have q_px := Hide.out px; have q_c_6 := i_lt c_6; obtain ⟨u_z_5, q_z_5⟩ := i_sub ez_5; have g_c2_4 := i_rg c2_4; have g_x2 := i_rg x2; have g_z_5 := i_rg z_5; omega) | (have e1 : (1 : Int32).toInt = 1 := (by decide); have q_p0 := Hide.out p0; have q_px := Hide.out px; have q_c_6 := i_lt c_6; obtain ⟨u_z_5, q_z_5⟩ := i_sub ez_5; have q_f19_4 := Hide.out f19_4; have q_f20_4 := Hide.out f20_4; have g_c2_4 := i_rg c2_4; have g_x2 := i_rg x2; have g_z_5 := i_rg z_5; omega) | (have e1 : (1 : Int32).toInt = 1 := (by decide); have q_p0 := Hide.out p0; have q_px := Hide.out px; have q_c_6 := i_lt c_6; obtain ⟨u_z_5, q_z_5⟩ := i_sub ez_5; have q_f19_4 := Hide.out f19_4; have q_f20_4 := Hide.out f20_4; have q_f1_4 := Hide.out f1_4; have q_f17_4 := Hide.out f17_4; have q_f18_4 := Hide.out f18_4; have g_c2_4 := i_rg c2_4; have g_x2 := i_rg x2; have g_z_5 := i_rg z_5; omega) | (have e1 : (1 : Int32).toInt = 1 := (by decide); have q_p0 := Hide.out p0; have q_px := Hide.out px; have q_c_6 := i_lt c_6; obtain ⟨u_z_5, q_z_5⟩ := i_sub ez_5; have q_f19_4 := Hide.out f19_4; have q_f20_4 := Hide.out f20_4; have q_f1_4 := Hide.out f1_4; have q_f17_4 := Hide.out f17_4; have q_f18_4 := Hide.out f18_4; have q_f3_4 := Hide.out f3_4; have g_c2_4 := i_rg c2_4; have g_x2 := i_rg x2; have g_z_5 := i_rg z_5; omega)) (by first | (have q_p0 := Hide.out p0; have q_px := Hide.out px; have q_c_6 := i_lt c_6; have g_x2 := i_rg x2; have g_z_5 := i_rg z_5; omega) | (have e1 : (1 : Int32).toInt = 1 := (by decide); have q_p0 := Hide.out p0; have q_px := Hide.out px; have q_c_6 := i_lt c_6; obtain ⟨u_z_5, q_z_5⟩ := i_sub ez_5; have g_c2_4 := i_rg c2_4; have g_x2 := i_rg x2; have g_z_5 := i_rg z_5; omega) | (have e1 : (1 : Int32).toInt = 1 := (by decide); have q_p0 := Hide.out p0; have q_px := Hide.out px; have q_c_6 := i_lt c_6; obtain ⟨u_z_5, q_z_5⟩ := i_sub ez_5; have q_f19_4 := Hide.out f19_4; have q_f20_4 := Hide.out f20_4; have g_c2_4 := i_rg c2_4; have g_x2 := i_rg x2; have g_z_5 := i_rg z_5; omega) | (have e1 : (1 : Int32).toInt = 1 := (by decide); have q_p0 := Hide.out p0; have q_px := Hide.out px; have q_c_6 := i_lt c_6; obtain ⟨u_z_5, q_z_5⟩ := i_sub ez_5; have q_f19_4 := Hide.out f19_4; have q_f20_4 := Hide.out f20_4; have q_f1_4 := Hide.out f1_4; have q_f17_4 := Hide.out f17_4; have q_f18_4 := Hide.out f18_4; have g_c2_4 := i_rg c2_4; have g_x2 := i_rg x2; have g_z_5 := i_rg z_5; omega) | (have e1 : (1 : Int32).toInt = 1 := (by decide); have q_p0 := Hide.out p0; have q_px := Hide.out px; have q_c_6 := i_lt c_6; obtain ⟨u_z_5, q_z_5⟩ := i_sub ez_5; have q_f19_4 := Hide.out f19_4; have q_f20_4 := Hide.out f20_4; have q_f1_4 := Hide.out f1_4; have q_f17_4 := Hide.out f17_4; have q_f18_4 := Hide.out f18_4; have q_f3_4 := Hide.out f3_4; have g_c2_4 := i_rg c2_4; have g_x2 := i_rg x2; have g_z_5 := i_rg z_5; omega))) (cwV 1 hts (gd_V kw_1609 kw_1629 kw_1630 kw_404 kw_1628) rfl rfl rfl (by decide +kernel) ⟨Nat.le_of_ble_eq_true rfl, Nat.le_of_ble_eq_true rfl⟩) ⟨gblind, va_recv hK hP (ci := 8) (q0 := k_1) rfl hk_1, fun U hU hW9 => gmk hU hW9 hP hK hD hex hE hS hFc⟩ rfl rfl hl.1 rfl (lv_room (Nat.le_of_ble_eq_true rfl)) dX9_isDone_157 ⟨Nat.le_of_ble_eq_true rfl, Nat.le_of_ble_eq_true rfl⟩) hS (fun q _ h => hFc q h) hFc (fun r_190 ws_191 t9 H1 locs ht9 hvm9 hw9 hB9 hz9 hk9 hS => ?_)
        obtain ⟨E_192, Fr_193, hG, hP1, hD1⟩ := hB9
        have hP : va_P (gD g) cl0 ws_191 H1 := by rw [← ht9]; exact hP1
        have hD : va_D A ws_191 := hD1.weaken (fun _ _ _ h => hFc _ h)
        obtain ⟨hw9, xp_196, xp_197⟩ := hw9
        have hz_r_190 : r_190 = 0 ∨ r_190 = 1 := hw9
        clear hP1 hD1 hz9 hk9 hvm9 ht9 hw9
        generalize H1 = H at hP hS ⊢
        have aa_198 := a_r1_1
        have aa_199 := a_r2_1
        have aa_200 := a_r3_1
        have aa_201 := a_r4_1
        have aa_202 := a_r5_1
        have aa_203 := a_r0_4
        have aa_204 := a_r1_4
        have aa_205 := a_r3_4
        have aa_206 := a_r5_4
        have aa_207 := a_r6_4
        have aa_208 := a_r7_4
        have aa_209 := a_r8_4
        have o_h0 := E_192.1 _ _ o_h0
        have tq_210 : KR ws ws_191 r0_1 := KR.tr tq_2 (xp_197 _ _ _ hkQ9 rfl)
        refine W.widen (k := 0) (n := 0) (Nat.le_of_ble_eq_true rfl) (Nat.le_of_ble_eq_true rfl) ?_
        exact W.zret (v := r_190) hx hb hr (nz hz_r_190) (fun t9 ht9 hW9 => ⟨⟨_, ws_191, rfl, ⟨hz_r_190, xp_196, KS_of hDH9 hkH9 rfl tq_210⟩, ⟨E_192, Fr_193, hG, by rw [ht9]; exact hP, hD⟩⟩, hS.F ht9⟩) hS.2.2 dX9_isDone_160
      have K_27_161 : W p l e (headSpec (wt yX9_isDone cX9_isDone 3 (some .boolean)) ({ frames := 4, cells := 0, slots := 0, locals := 98 })).room s m ([.ref h0, .int x1, .int x2] : List Value).toArray below meth c s.heap [] (0) (0) (MQ below (va_Qi (fun (r : Int32) (u9 : va_W) => (r = 0 ∨ r = 1) ∧ (smR u9 h0) ∧ (KS ws u9 h0)) (gQ1 g [(7, 2), (7, 9)] [(7, 0), (7, 1), (7, 3), (7, 5), (7, 6), (7, 7), (7, 8)] none A ws) A) ([.ref h0, .int x1, .int x2] : List Value).toArray s (0) (0) A) (F0 m 161 ls []) := by
        refine lv_aload_n hx hb dX9_isDone_161 rfl (lv_at hl 0 rfl) ?_
        refine lv_iload_n hx hb dX9_isDone_162 rfl (lv_at hl 2 rfl) ?_
        refine lv_iconst (v := 2) hx hb dX9_isDone_163 (by decide) ?_
        have hFc := gfree hD hS hA
        refine va_calli (va_runV (As := [.int x2, .int 2]) (rest := []) ⟨hx, hb, hml, hown, hts⟩ (m_X9_isWindow l g s.heap.size ws h0 (x2) (2) hG o_h0 (gP_of hD hk_1 (fun p90 q90 e90 g90 => by cases e90; have z90 := gI_n hD a_r2_1 g90; subst z90; exact (by have q_f4_1 := Hide.out f4_1; have q_fq_a := Hide.out fq_a; omega))) (gP_of hD hk_1 (fun p90 q90 e90 g90 => by cases e90; have z90 := gI_n hD a_r3_1 g90; subst z90; exact (by have q_f6_1 := Hide.out f6_1; have q_fq_b := Hide.out fq_b; omega))) (gP_of hD hk_1 (fun p90 q90 e90 g90 => by cases e90; have z90 := gI_n hD a_r4_1 g90; subst z90; exact (by have q_f8_1 := Hide.out f8_1; have q_fq_d := Hide.out fq_d; omega))) (gP_of hD hk_1 (fun p90 q90 e90 g90 => by cases e90; have z90 := gI_n hD a_r5_1 g90; subst z90; exact (by have q_f10_1 := Hide.out f10_1; have q_fq_f := Hide.out fq_f; omega))) (by first | (have q_p0 := Hide.out p0; have q_px := Hide.out px; have q_c_6 := i_lt c_6; have g_x2 := i_rg x2; have g_z_5 := i_rg z_5; omega) | (have e1 : (1 : Int32).toInt = 1 := (by decide); have q_p0 := Hide.out p0; have q_px := Hide.out px; have q_c_6 := i_lt c_6; obtain ⟨u_z_5, q_z_5⟩ := i_sub ez_5; have g_c2_4 := i_rg c2_4; have g_x2 := i_rg x2; have g_z_5 := i_rg z_5; omega) | (have e1 : (1 : Int32).toInt = 1 := (by decide); have q_p0 := Hide.out p0; have q_px := Hide.out px; have q_c_6 := i_lt c_6; obtain ⟨u_z_5, q_z_5⟩ := i_sub ez_5; have q_f19_4 := Hide.out f19_4; have q_f20_4 := Hide.out f20_4; have g_c2_4 := i_rg c2_4; have g_x2 := i_rg x2; have g_z_5 := i_rg z_5; omega) | (have e1 : (1 : Int32).toInt = 1 := (by decide); have q_p0 := Hide.out p0; have q_px := Hide.out px; have q_c_6 := i_lt c_6; obtain ⟨u_z_5, q_z_5⟩ := i_sub ez_5; have q_f19_4 := Hide.out f19_4; have q_f20_4 := Hide.out f20_4; have q_f1_4 := Hide.out f1_4; have q_f17_4 := Hide.out f17_4; have q_f18_4 := Hide.out f18_4; have g_c2_4 := i_rg c2_4; have g_x2 := i_rg x2; have g_z_5 := i_rg z_5; omega) | (have e1 : (1 : Int32).toInt = 1 := (by decide); have q_p0 := Hide.out p0; have q_px := Hide.out px; have q_c_6 := i_lt c_6; obtain ⟨u_z_5, q_z_5⟩ := i_sub ez_5; have q_f19_4 := Hide.out f19_4; have q_f20_4 := Hide.out f20_4; have q_f1_4 := Hide.out f1_4; have q_f17_4 := Hide.out f17_4; have q_f18_4 := Hide.out f18_4; have q_f3_4 := Hide.out f3_4; have g_c2_4 := i_rg c2_4; have g_x2 := i_rg x2; have g_z_5 := i_rg z_5; omega)) (by first | (have q_p0 := Hide.out p0; have q_px := Hide.out px; have q_c_6 := i_lt c_6; have g_x2 := i_rg x2; have g_z_5 := i_rg z_5; omega) | (have e1 : (1 : Int32).toInt = 1 := (by decide); have q_p0 := Hide.out p0; have q_px := Hide.out px; have q_c_6 := i_lt c_6; obtain ⟨u_z_5, q_z_5⟩ := i_sub ez_5; have g_c2_4 := i_rg c2_4; have g_x2 := i_rg x2; have g_z_5 := i_rg z_5; omega) | (have e1 : (1 : Int32).toInt = 1 := (by decide); have q_p0 := Hide.out p0; have q_px := Hide.out px; have q_c_6 := i_lt c_6; obtain ⟨u_z_5, q_z_5⟩ := i_sub ez_5; have q_f19_4 := Hide.out f19_4; have q_f20_4 := Hide.out f20_4; have g_c2_4 := i_rg c2_4; have g_x2 := i_rg x2; have g_z_5 := i_rg z_5; omega) | (have e1 : (1 : Int32).toInt = 1 := (by decide); have q_p0 := Hide.out p0; have q_px := Hide.out px; have q_c_6 := i_lt c_6; obtain ⟨u_z_5, q_z_5⟩ := i_sub ez_5; have q_f19_4 := Hide.out f19_4; have q_f20_4 := Hide.out f20_4; have q_f1_4 := Hide.out f1_4; have q_f17_4 := Hide.out f17_4; have q_f18_4 := Hide.out f18_4; have g_c2_4 := i_rg c2_4; have g_x2 := i_rg x2; have g_z_5 := i_rg z_5; omega) | (have e1 : (1 : Int32).toInt = 1 := (by decide); have q_p0 := Hide.out p0; have q_px := Hide.out px; have q_c_6 := i_lt c_6; obtain ⟨u_z_5, q_z_5⟩ := i_sub ez_5; have q_f19_4 := Hide.out f19_4; have q_f20_4 := Hide.out f20_4; have q_f1_4 := Hide.out f1_4; have q_f17_4 := Hide.out f17_4; have q_f18_4 := Hide.out f18_4; have q_f3_4 := Hide.out f3_4; have g_c2_4 := i_rg c2_4; have g_x2 := i_rg x2; have g_z_5 := i_rg z_5; omega)) (by have e2 : (2 : Int32).toInt = 2 := (by decide); omega)) (cwV 2 hts (gd_V kw_1610 kw_1658 kw_1659 kw_404 kw_1657) rfl rfl rfl (by decide +kernel) ⟨Nat.le_of_ble_eq_true rfl, Nat.le_of_ble_eq_true rfl⟩) ⟨gblind, va_recv hK hP (ci := 8) (q0 := k_1) rfl hk_1, fun U hU hW9 => gmk hU hW9 hP hK hD hex hE hS hFc⟩ rfl rfl hl.1 rfl (lv_room (Nat.le_of_ble_eq_true rfl)) dX9_isDone_164 ⟨Nat.le_of_ble_eq_true rfl, Nat.le_of_ble_eq_true rfl⟩) hS (fun q _ h => hFc q h) hFc (fun r_211 u9 t9 H1 locs ht9 hvm9 hw9 hB9 hz9 hk9 hS => ?_)
        have hP : va_P (gD g) cl0 ws H1 := by rw [← ht9]; exact hB9.1
        have hz_r_211 : r_211 = 0 ∨ r_211 = 1 := hw9
        clear hB9 hz9 hk9 hvm9 ht9 hw9
        generalize H1 = H at hP hS ⊢
        have J_192 : ∀ (t_212 : Int32) (ws_214 : va_W) (H : Heap) (locs : List Loc) (ls : Array Slot), t_212 = 0 ∨ t_212 = 1 → gE ws ws_214 → gF [(7, 2), (7, 9)] [(7, 0), (7, 1), (7, 3), (7, 5), (7, 6), (7, 7), (7, 8)] none ws ws_214 → Good g ws_214 → smR ws_214 h0 → KR ws ws_214 r0_1 → va_P (gD g) cl0 ws_214 H → va_D A ws_214 → va_S A s.heap H locs → lv_has ls 3 [] → W p l e (headSpec (wt yX9_isDone cX9_isDone 3 (some .boolean)) ({ frames := 4, cells := 0, slots := 0, locals := 98 })).room s m ([.ref h0, .int x1, .int x2] : List Value).toArray below meth c H locs (0) (0) (MQ below (va_Qi (fun (r : Int32) (u9 : va_W) => (r = 0 ∨ r = 1) ∧ (smR u9 h0) ∧ (KS ws u9 h0)) (gQ1 g [(7, 2), (7, 9)] [(7, 0), (7, 1), (7, 3), (7, 5), (7, 6), (7, 7), (7, 8)] none A ws) A) ([.ref h0, .int x1, .int x2] : List Value).toArray s (0) (0) A) (F0 m 192 ls [.int t_212]) := by
          intro t_212 ws_214 H locs ls iv_213 E_215 Fr_216 hG jx_192_0 jx_192_1 hP hD hS hl
          have hz_t_212 := iv_213
          have aa_217 := a_r1_1
          have aa_218 := a_r2_1
          have aa_219 := a_r3_1
          have aa_220 := a_r4_1
          have aa_221 := a_r5_1
          have aa_222 := a_r0_4
          have aa_223 := a_r1_4
          have aa_224 := a_r3_4
          have aa_225 := a_r5_4
          have aa_226 := a_r6_4
          have aa_227 := a_r7_4
          have aa_228 := a_r8_4
          have o_h0 := E_215.1 _ _ o_h0
          refine W.widen (k := 0) (n := 0) (Nat.le_of_ble_eq_true rfl) (Nat.le_of_ble_eq_true rfl) ?_
          exact W.zret (v := t_212) hx hb hr (nz hz_t_212) (fun t9 ht9 hW9 => ⟨⟨_, ws_214, rfl, ⟨hz_t_212, jx_192_0, KS_of hDH9 hkH9 rfl jx_192_1⟩, ⟨E_215, Fr_216, hG, by rw [ht9]; exact hP, hD⟩⟩, hS.F ht9⟩) hS.2.2 dX9_isDone_192
        have J_191 : ∀ (ws_229 : va_W) (H : Heap) (locs : List Loc) (ls : Array Slot), gE ws ws_229 → gF [(7, 2), (7, 9)] [(7, 0), (7, 1), (7, 3), (7, 5), (7, 6), (7, 7), (7, 8)] none ws ws_229 → Good g ws_229 → smR ws_229 h0 → KR ws ws_229 r0_1 → va_P (gD g) cl0 ws_229 H → va_D A ws_229 → va_S A s.heap H locs → lv_has ls 3 [] → W p l e (headSpec (wt yX9_isDone cX9_isDone 3 (some .boolean)) ({ frames := 4, cells := 0, slots := 0, locals := 98 })).room s m ([.ref h0, .int x1, .int x2] : List Value).toArray below meth c H locs (0) (0) (MQ below (va_Qi (fun (r : Int32) (u9 : va_W) => (r = 0 ∨ r = 1) ∧ (smR u9 h0) ∧ (KS ws u9 h0)) (gQ1 g [(7, 2), (7, 9)] [(7, 0), (7, 1), (7, 3), (7, 5), (7, 6), (7, 7), (7, 8)] none A ws) A) ([.ref h0, .int x1, .int x2] : List Value).toArray s (0) (0) A) (F0 m 191 ls []) := by
          intro ws_229 H locs ls  E_230 Fr_231 hG jx_191_0 jx_191_1 hP hD hS hl
          have aa_232 := a_r1_1
          have aa_233 := a_r2_1
          have aa_234 := a_r3_1
          have aa_235 := a_r4_1
          have aa_236 := a_r5_1
          have aa_237 := a_r0_4
          have aa_238 := a_r1_4
          have aa_239 := a_r3_4
          have aa_240 := a_r5_4
          have aa_241 := a_r6_4
          have aa_242 := a_r7_4
          have aa_243 := a_r8_4
          have o_h0 := E_230.1 _ _ o_h0
          refine lv_iconst (v := 0) hx hb dX9_isDone_191 (by decide) ?_
          exact J_192 (0) ws_229 H locs ls (Or.inl rfl) (E_230) (Fr_231) hG jx_191_0 jx_191_1 hP hD hS (lv_sub hl [] rfl)
        refine lv_if_eq (tgt := 191) hx hb dX9_isDone_167 (by decide) (fun c_244 => ?_) (fun c_244 => ?_)
        · exact J_191 ws H locs ls (gE.rf) (gF.rf) hG tk0 tq_2 hP hD hS (lv_sub hl [] rfl)
        · refine lv_aload_n hx hb dX9_isDone_170 rfl (lv_at hl 0 rfl) ?_
          refine lv_iload_n hx hb dX9_isDone_171 rfl (lv_at hl 2 rfl) ?_
          have hFc := gfree hD hS hA
          refine va_calli (va_runV (As := [.int x2]) (rest := []) ⟨hx, hb, hml, hown, hts⟩ (m_X9_isNeutral l g H.size ws h0 (x2) hG o_h0) (cwV 1 hts (gd_V kw_1611 kw_1633 kw_1634 kw_404 kw_1632) rfl rfl rfl (by decide +kernel) ⟨Nat.le_of_ble_eq_true rfl, Nat.le_of_ble_eq_true rfl⟩) ⟨gblind, va_recv hK hP (ci := 8) (q0 := k_1) rfl hk_1, fun U hU hW9 => gmk hU hW9 hP hK hD hex hE hS hFc⟩ rfl rfl hl.1 rfl (lv_room (Nat.le_of_ble_eq_true rfl)) dX9_isDone_172 ⟨Nat.le_of_ble_eq_true rfl, Nat.le_of_ble_eq_true rfl⟩) hS (fun q _ h => hFc q h) hFc (fun r_245 u9 t9 H1 locs ht9 hvm9 hw9 hB9 hz9 hk9 hS => ?_)
          have hP : va_P (gD g) cl0 ws H1 := by rw [← ht9]; exact hB9.1
          have hz_r_245 : r_245 = 0 ∨ r_245 = 1 := hw9
          clear hB9 hz9 hk9 hvm9 ht9 hw9
          generalize H1 = H at hP hS ⊢
          refine lv_if_eq (tgt := 191) hx hb dX9_isDone_175 (by decide) (fun c_246 => ?_) (fun c_246 => ?_)
          · exact J_191 ws H locs ls (gE.rf) (gF.rf) hG tk0 tq_2 hP hD hS (lv_sub hl [] rfl)
          · refine lv_aload_n hx hb dX9_isDone_178 rfl (lv_at hl 0 rfl) ?_
            refine lv_iload_n hx hb dX9_isDone_179 rfl (lv_at hl 2 rfl) ?_
            refine lv_iconst (v := 2) hx hb dX9_isDone_180 (by decide) ?_
            have hkQ9 := hk_1
            have hFc := gfree hD hS hA
            refine va_calli (va_runV (As := [.int x2, .int 2]) (rest := []) ⟨hx, hb, hml, hown, hts⟩ (m_X9_isDropped_x l g H.size ws h0 (x2) (2) hG o_h0 tk0 (by first | (have q_p0 := Hide.out p0; have q_px := Hide.out px; have q_c_6 := i_lt c_6; have g_x2 := i_rg x2; have g_z_5 := i_rg z_5; omega) | (have e1 : (1 : Int32).toInt = 1 := (by decide); have q_p0 := Hide.out p0; have q_px := Hide.out px; have q_c_6 := i_lt c_6; obtain ⟨u_z_5, q_z_5⟩ := i_sub ez_5; have g_c2_4 := i_rg c2_4; have g_x2 := i_rg x2; have g_z_5 := i_rg z_5; omega) | (have e1 : (1 : Int32).toInt = 1 := (by decide); have q_p0 := Hide.out p0; have q_px := Hide.out px; have q_c_6 := i_lt c_6; obtain ⟨u_z_5, q_z_5⟩ := i_sub ez_5; have q_f19_4 := Hide.out f19_4; have q_f20_4 := Hide.out f20_4; have g_c2_4 := i_rg c2_4; have g_x2 := i_rg x2; have g_z_5 := i_rg z_5; omega) | (have e1 : (1 : Int32).toInt = 1 := (by decide); have q_p0 := Hide.out p0; have q_px := Hide.out px; have q_c_6 := i_lt c_6; obtain ⟨u_z_5, q_z_5⟩ := i_sub ez_5; have q_f19_4 := Hide.out f19_4; have q_f20_4 := Hide.out f20_4; have q_f1_4 := Hide.out f1_4; have q_f17_4 := Hide.out f17_4; have q_f18_4 := Hide.out f18_4; have g_c2_4 := i_rg c2_4; have g_x2 := i_rg x2; have g_z_5 := i_rg z_5; omega) | (have e1 : (1 : Int32).toInt = 1 := (by decide); have q_p0 := Hide.out p0; have q_px := Hide.out px; have q_c_6 := i_lt c_6; obtain ⟨u_z_5, q_z_5⟩ := i_sub ez_5; have q_f19_4 := Hide.out f19_4; have q_f20_4 := Hide.out f20_4; have q_f1_4 := Hide.out f1_4; have q_f17_4 := Hide.out f17_4; have q_f18_4 := Hide.out f18_4; have q_f3_4 := Hide.out f3_4; have g_c2_4 := i_rg c2_4; have g_x2 := i_rg x2; have g_z_5 := i_rg z_5; omega)) (by have e2 : (2 : Int32).toInt = 2 := (by decide); omega)) (cwV 2 hts (gd_V kw_1606 kw_1616 kw_1617 kw_404 kw_1615) rfl rfl rfl (by decide +kernel) ⟨Nat.le_of_ble_eq_true rfl, Nat.le_of_ble_eq_true rfl⟩) ⟨gblind, va_recv hK hP (ci := 8) (q0 := k_1) rfl hk_1, fun U hU hW9 => gmk hU hW9 hP hK hD hex hE hS hFc⟩ rfl rfl hl.1 rfl (lv_room (Nat.le_of_ble_eq_true rfl)) dX9_isDone_181 ⟨Nat.le_of_ble_eq_true rfl, Nat.le_of_ble_eq_true rfl⟩) hS (fun q _ h => hFc q h) hFc (fun r_247 ws_248 t9 H1 locs ht9 hvm9 hw9 hB9 hz9 hk9 hS => ?_)
            obtain ⟨E_249, Fr_250, hG, hP1, hD1⟩ := hB9
            have hP : va_P (gD g) cl0 ws_248 H1 := by rw [← ht9]; exact hP1
            have hD : va_D A ws_248 := hD1.weaken (fun _ _ _ h => hFc _ h)
            obtain ⟨hw9, xp_253, xp_254⟩ := hw9
            have hz_r_247 : r_247 = 0 ∨ r_247 = 1 := hw9
            clear hP1 hD1 hz9 hk9 hvm9 ht9 hw9
            generalize H1 = H at hP hS ⊢
            have aa_255 := a_r1_1
            have aa_256 := a_r2_1
            have aa_257 := a_r3_1
            have aa_258 := a_r4_1
            have aa_259 := a_r5_1
            have aa_260 := a_r0_4
            have aa_261 := a_r1_4
            have aa_262 := a_r3_4
            have aa_263 := a_r5_4
            have aa_264 := a_r6_4
            have aa_265 := a_r7_4
            have aa_266 := a_r8_4
            have o_h0 := E_249.1 _ _ o_h0
            have tq_267 : KR ws ws_248 r0_1 := KR.tr tq_2 (xp_254 _ _ _ hkQ9 rfl)
            refine lv_if_eq (tgt := 191) hx hb dX9_isDone_184 (by decide) (fun c_268 => ?_) (fun c_268 => ?_)
            · exact J_191 ws_248 H locs ls (E_249) (Fr_250) hG xp_253 tq_267 hP hD hS (lv_sub hl [] rfl)
            · refine lv_iconst (v := 1) hx hb dX9_isDone_187 (by decide) ?_
              refine lv_goto (tgt := 192) hx hb dX9_isDone_188 (by decide) ?_
              exact J_192 (1) ws_248 H locs ls (Or.inr rfl) (E_249) (Fr_250) hG xp_253 tq_267 hP hD hS (lv_sub hl [] rfl)
      have K_27_193 : W p l e (headSpec (wt yX9_isDone cX9_isDone 3 (some .boolean)) ({ frames := 4, cells := 0, slots := 0, locals := 98 })).room s m ([.ref h0, .int x1, .int x2] : List Value).toArray below meth c s.heap [] (0) (0) (MQ below (va_Qi (fun (r : Int32) (u9 : va_W) => (r = 0 ∨ r = 1) ∧ (smR u9 h0) ∧ (KS ws u9 h0)) (gQ1 g [(7, 2), (7, 9)] [(7, 0), (7, 1), (7, 3), (7, 5), (7, 6), (7, 7), (7, 8)] none A ws) A) ([.ref h0, .int x1, .int x2] : List Value).toArray s (0) (0) A) (F0 m 193 ls []) := by
        refine lv_aload_n hx hb dX9_isDone_193 rfl (lv_at hl 0 rfl) ?_
        refine lv_iload_n hx hb dX9_isDone_194 rfl (lv_at hl 2 rfl) ?_
        refine lv_iconst (v := 2) hx hb dX9_isDone_195 (by decide) ?_
        have hFc := gfree hD hS hA
        refine va_calli (va_runV (As := [.int x2, .int 2]) (rest := []) ⟨hx, hb, hml, hown, hts⟩ (m_X9_isWindow l g s.heap.size ws h0 (x2) (2) hG o_h0 (gP_of hD hk_1 (fun p90 q90 e90 g90 => by cases e90; have z90 := gI_n hD a_r2_1 g90; subst z90; exact (by have q_f4_1 := Hide.out f4_1; have q_fq_a := Hide.out fq_a; omega))) (gP_of hD hk_1 (fun p90 q90 e90 g90 => by cases e90; have z90 := gI_n hD a_r3_1 g90; subst z90; exact (by have q_f6_1 := Hide.out f6_1; have q_fq_b := Hide.out fq_b; omega))) (gP_of hD hk_1 (fun p90 q90 e90 g90 => by cases e90; have z90 := gI_n hD a_r4_1 g90; subst z90; exact (by have q_f8_1 := Hide.out f8_1; have q_fq_d := Hide.out fq_d; omega))) (gP_of hD hk_1 (fun p90 q90 e90 g90 => by cases e90; have z90 := gI_n hD a_r5_1 g90; subst z90; exact (by have q_f10_1 := Hide.out f10_1; have q_fq_f := Hide.out fq_f; omega))) (by first | (have q_p0 := Hide.out p0; have q_px := Hide.out px; have q_c_6 := i_lt c_6; have g_x2 := i_rg x2; have g_z_5 := i_rg z_5; omega) | (have e1 : (1 : Int32).toInt = 1 := (by decide); have q_p0 := Hide.out p0; have q_px := Hide.out px; have q_c_6 := i_lt c_6; obtain ⟨u_z_5, q_z_5⟩ := i_sub ez_5; have g_c2_4 := i_rg c2_4; have g_x2 := i_rg x2; have g_z_5 := i_rg z_5; omega) | (have e1 : (1 : Int32).toInt = 1 := (by decide); have q_p0 := Hide.out p0; have q_px := Hide.out px; have q_c_6 := i_lt c_6; obtain ⟨u_z_5, q_z_5⟩ := i_sub ez_5; have q_f19_4 := Hide.out f19_4; have q_f20_4 := Hide.out f20_4; have g_c2_4 := i_rg c2_4; have g_x2 := i_rg x2; have g_z_5 := i_rg z_5; omega) | (have e1 : (1 : Int32).toInt = 1 := (by decide); have q_p0 := Hide.out p0; have q_px := Hide.out px; have q_c_6 := i_lt c_6; obtain ⟨u_z_5, q_z_5⟩ := i_sub ez_5; have q_f19_4 := Hide.out f19_4; have q_f20_4 := Hide.out f20_4; have q_f1_4 := Hide.out f1_4; have q_f17_4 := Hide.out f17_4; have q_f18_4 := Hide.out f18_4; have g_c2_4 := i_rg c2_4; have g_x2 := i_rg x2; have g_z_5 := i_rg z_5; omega) | (have e1 : (1 : Int32).toInt = 1 := (by decide); have q_p0 := Hide.out p0; have q_px := Hide.out px; have q_c_6 := i_lt c_6; obtain ⟨u_z_5, q_z_5⟩ := i_sub ez_5; have q_f19_4 := Hide.out f19_4; have q_f20_4 := Hide.out f20_4; have q_f1_4 := Hide.out f1_4; have q_f17_4 := Hide.out f17_4; have q_f18_4 := Hide.out f18_4; have q_f3_4 := Hide.out f3_4; have g_c2_4 := i_rg c2_4; have g_x2 := i_rg x2; have g_z_5 := i_rg z_5; omega)) (by first | (have q_p0 := Hide.out p0; have q_px := Hide.out px; have q_c_6 := i_lt c_6; have g_x2 := i_rg x2; have g_z_5 := i_rg z_5; omega) | (have e1 : (1 : Int32).toInt = 1 := (by decide); have q_p0 := Hide.out p0; have q_px := Hide.out px; have q_c_6 := i_lt c_6; obtain ⟨u_z_5, q_z_5⟩ := i_sub ez_5; have g_c2_4 := i_rg c2_4; have g_x2 := i_rg x2; have g_z_5 := i_rg z_5; omega) | (have e1 : (1 : Int32).toInt = 1 := (by decide); have q_p0 := Hide.out p0; have q_px := Hide.out px; have q_c_6 := i_lt c_6; obtain ⟨u_z_5, q_z_5⟩ := i_sub ez_5; have q_f19_4 := Hide.out f19_4; have q_f20_4 := Hide.out f20_4; have g_c2_4 := i_rg c2_4; have g_x2 := i_rg x2; have g_z_5 := i_rg z_5; omega) | (have e1 : (1 : Int32).toInt = 1 := (by decide); have q_p0 := Hide.out p0; have q_px := Hide.out px; have q_c_6 := i_lt c_6; obtain ⟨u_z_5, q_z_5⟩ := i_sub ez_5; have q_f19_4 := Hide.out f19_4; have q_f20_4 := Hide.out f20_4; have q_f1_4 := Hide.out f1_4; have q_f17_4 := Hide.out f17_4; have q_f18_4 := Hide.out f18_4; have g_c2_4 := i_rg c2_4; have g_x2 := i_rg x2; have g_z_5 := i_rg z_5; omega) | (have e1 : (1 : Int32).toInt = 1 := (by decide); have q_p0 := Hide.out p0; have q_px := Hide.out px; have q_c_6 := i_lt c_6; obtain ⟨u_z_5, q_z_5⟩ := i_sub ez_5; have q_f19_4 := Hide.out f19_4; have q_f20_4 := Hide.out f20_4; have q_f1_4 := Hide.out f1_4; have q_f17_4 := Hide.out f17_4; have q_f18_4 := Hide.out f18_4; have q_f3_4 := Hide.out f3_4; have g_c2_4 := i_rg c2_4; have g_x2 := i_rg x2; have g_z_5 := i_rg z_5; omega)) (by have e2 : (2 : Int32).toInt = 2 := (by decide); omega)) (cwV 2 hts (gd_V kw_1610 kw_1658 kw_1659 kw_404 kw_1657) rfl rfl rfl (by decide +kernel) ⟨Nat.le_of_ble_eq_true rfl, Nat.le_of_ble_eq_true rfl⟩) ⟨gblind, va_recv hK hP (ci := 8) (q0 := k_1) rfl hk_1, fun U hU hW9 => gmk hU hW9 hP hK hD hex hE hS hFc⟩ rfl rfl hl.1 rfl (lv_room (Nat.le_of_ble_eq_true rfl)) dX9_isDone_196 ⟨Nat.le_of_ble_eq_true rfl, Nat.le_of_ble_eq_true rfl⟩) hS (fun q _ h => hFc q h) hFc (fun r_269 u9 t9 H1 locs ht9 hvm9 hw9 hB9 hz9 hk9 hS => ?_)
        have hP : va_P (gD g) cl0 ws H1 := by rw [← ht9]; exact hB9.1
        have hz_r_269 : r_269 = 0 ∨ r_269 = 1 := hw9
        clear hB9 hz9 hk9 hvm9 ht9 hw9
        generalize H1 = H at hP hS ⊢
        have J_224 : ∀ (t_270 : Int32) (ws_272 : va_W) (H : Heap) (locs : List Loc) (ls : Array Slot), t_270 = 0 ∨ t_270 = 1 → gE ws ws_272 → gF [(7, 2), (7, 9)] [(7, 0), (7, 1), (7, 3), (7, 5), (7, 6), (7, 7), (7, 8)] none ws ws_272 → Good g ws_272 → smR ws_272 h0 → KR ws ws_272 r0_1 → va_P (gD g) cl0 ws_272 H → va_D A ws_272 → va_S A s.heap H locs → lv_has ls 3 [] → W p l e (headSpec (wt yX9_isDone cX9_isDone 3 (some .boolean)) ({ frames := 4, cells := 0, slots := 0, locals := 98 })).room s m ([.ref h0, .int x1, .int x2] : List Value).toArray below meth c H locs (0) (0) (MQ below (va_Qi (fun (r : Int32) (u9 : va_W) => (r = 0 ∨ r = 1) ∧ (smR u9 h0) ∧ (KS ws u9 h0)) (gQ1 g [(7, 2), (7, 9)] [(7, 0), (7, 1), (7, 3), (7, 5), (7, 6), (7, 7), (7, 8)] none A ws) A) ([.ref h0, .int x1, .int x2] : List Value).toArray s (0) (0) A) (F0 m 224 ls [.int t_270]) := by
          intro t_270 ws_272 H locs ls iv_271 E_273 Fr_274 hG jx_224_0 jx_224_1 hP hD hS hl
          have hz_t_270 := iv_271
          have aa_275 := a_r1_1
          have aa_276 := a_r2_1
          have aa_277 := a_r3_1
          have aa_278 := a_r4_1
          have aa_279 := a_r5_1
          have aa_280 := a_r0_4
          have aa_281 := a_r1_4
          have aa_282 := a_r3_4
          have aa_283 := a_r5_4
          have aa_284 := a_r6_4
          have aa_285 := a_r7_4
          have aa_286 := a_r8_4
          have o_h0 := E_273.1 _ _ o_h0
          refine W.widen (k := 0) (n := 0) (Nat.le_of_ble_eq_true rfl) (Nat.le_of_ble_eq_true rfl) ?_
          exact W.zret (v := t_270) hx hb hr (nz hz_t_270) (fun t9 ht9 hW9 => ⟨⟨_, ws_272, rfl, ⟨hz_t_270, jx_224_0, KS_of hDH9 hkH9 rfl jx_224_1⟩, ⟨E_273, Fr_274, hG, by rw [ht9]; exact hP, hD⟩⟩, hS.F ht9⟩) hS.2.2 dX9_isDone_224
        have J_223 : ∀ (ws_287 : va_W) (H : Heap) (locs : List Loc) (ls : Array Slot), gE ws ws_287 → gF [(7, 2), (7, 9)] [(7, 0), (7, 1), (7, 3), (7, 5), (7, 6), (7, 7), (7, 8)] none ws ws_287 → Good g ws_287 → smR ws_287 h0 → KR ws ws_287 r0_1 → va_P (gD g) cl0 ws_287 H → va_D A ws_287 → va_S A s.heap H locs → lv_has ls 3 [] → W p l e (headSpec (wt yX9_isDone cX9_isDone 3 (some .boolean)) ({ frames := 4, cells := 0, slots := 0, locals := 98 })).room s m ([.ref h0, .int x1, .int x2] : List Value).toArray below meth c H locs (0) (0) (MQ below (va_Qi (fun (r : Int32) (u9 : va_W) => (r = 0 ∨ r = 1) ∧ (smR u9 h0) ∧ (KS ws u9 h0)) (gQ1 g [(7, 2), (7, 9)] [(7, 0), (7, 1), (7, 3), (7, 5), (7, 6), (7, 7), (7, 8)] none A ws) A) ([.ref h0, .int x1, .int x2] : List Value).toArray s (0) (0) A) (F0 m 223 ls []) := by
          intro ws_287 H locs ls  E_288 Fr_289 hG jx_223_0 jx_223_1 hP hD hS hl
          have aa_290 := a_r1_1
          have aa_291 := a_r2_1
          have aa_292 := a_r3_1
          have aa_293 := a_r4_1
          have aa_294 := a_r5_1
          have aa_295 := a_r0_4
          have aa_296 := a_r1_4
          have aa_297 := a_r3_4
          have aa_298 := a_r5_4
          have aa_299 := a_r6_4
          have aa_300 := a_r7_4
          have aa_301 := a_r8_4
          have o_h0 := E_288.1 _ _ o_h0
          refine lv_iconst (v := 0) hx hb dX9_isDone_223 (by decide) ?_
          exact J_224 (0) ws_287 H locs ls (Or.inl rfl) (E_288) (Fr_289) hG jx_223_0 jx_223_1 hP hD hS (lv_sub hl [] rfl)
        refine lv_if_eq (tgt := 223) hx hb dX9_isDone_199 (by decide) (fun c_302 => ?_) (fun c_302 => ?_)
        · exact J_223 ws H locs ls (gE.rf) (gF.rf) hG tk0 tq_2 hP hD hS (lv_sub hl [] rfl)
        · refine lv_aload_n hx hb dX9_isDone_202 rfl (lv_at hl 0 rfl) ?_
          refine lv_iload_n hx hb dX9_isDone_203 rfl (lv_at hl 2 rfl) ?_
          have hFc := gfree hD hS hA
          refine va_calli (va_runV (As := [.int x2]) (rest := []) ⟨hx, hb, hml, hown, hts⟩ (m_X9_isPopped l g H.size ws h0 (x2) hG o_h0) (cwV 1 hts (gd_V kw_1612 kw_1645 kw_1646 kw_404 kw_1644) rfl rfl rfl (by decide +kernel) ⟨Nat.le_of_ble_eq_true rfl, Nat.le_of_ble_eq_true rfl⟩) ⟨gblind, va_recv hK hP (ci := 8) (q0 := k_1) rfl hk_1, fun U hU hW9 => gmk hU hW9 hP hK hD hex hE hS hFc⟩ rfl rfl hl.1 rfl (lv_room (Nat.le_of_ble_eq_true rfl)) dX9_isDone_204 ⟨Nat.le_of_ble_eq_true rfl, Nat.le_of_ble_eq_true rfl⟩) hS (fun q _ h => hFc q h) hFc (fun r_303 u9 t9 H1 locs ht9 hvm9 hw9 hB9 hz9 hk9 hS => ?_)
          have hP : va_P (gD g) cl0 ws H1 := by rw [← ht9]; exact hB9.1
          have hz_r_303 : r_303 = 0 ∨ r_303 = 1 := hw9
          clear hB9 hz9 hk9 hvm9 ht9 hw9
          generalize H1 = H at hP hS ⊢
          refine lv_if_eq (tgt := 223) hx hb dX9_isDone_207 (by decide) (fun c_304 => ?_) (fun c_304 => ?_)
          · exact J_223 ws H locs ls (gE.rf) (gF.rf) hG tk0 tq_2 hP hD hS (lv_sub hl [] rfl)
          · refine lv_aload_n hx hb dX9_isDone_210 rfl (lv_at hl 0 rfl) ?_
            refine lv_iload_n hx hb dX9_isDone_211 rfl (lv_at hl 2 rfl) ?_
            refine lv_iconst (v := 2) hx hb dX9_isDone_212 (by decide) ?_
            have hkQ9 := hk_1
            have hFc := gfree hD hS hA
            refine va_calli (va_runV (As := [.int x2, .int 2]) (rest := []) ⟨hx, hb, hml, hown, hts⟩ (m_X9_isDropped_x l g H.size ws h0 (x2) (2) hG o_h0 tk0 (by first | (have q_p0 := Hide.out p0; have q_px := Hide.out px; have q_c_6 := i_lt c_6; have g_x2 := i_rg x2; have g_z_5 := i_rg z_5; omega) | (have e1 : (1 : Int32).toInt = 1 := (by decide); have q_p0 := Hide.out p0; have q_px := Hide.out px; have q_c_6 := i_lt c_6; obtain ⟨u_z_5, q_z_5⟩ := i_sub ez_5; have g_c2_4 := i_rg c2_4; have g_x2 := i_rg x2; have g_z_5 := i_rg z_5; omega) | (have e1 : (1 : Int32).toInt = 1 := (by decide); have q_p0 := Hide.out p0; have q_px := Hide.out px; have q_c_6 := i_lt c_6; obtain ⟨u_z_5, q_z_5⟩ := i_sub ez_5; have q_f19_4 := Hide.out f19_4; have q_f20_4 := Hide.out f20_4; have g_c2_4 := i_rg c2_4; have g_x2 := i_rg x2; have g_z_5 := i_rg z_5; omega) | (have e1 : (1 : Int32).toInt = 1 := (by decide); have q_p0 := Hide.out p0; have q_px := Hide.out px; have q_c_6 := i_lt c_6; obtain ⟨u_z_5, q_z_5⟩ := i_sub ez_5; have q_f19_4 := Hide.out f19_4; have q_f20_4 := Hide.out f20_4; have q_f1_4 := Hide.out f1_4; have q_f17_4 := Hide.out f17_4; have q_f18_4 := Hide.out f18_4; have g_c2_4 := i_rg c2_4; have g_x2 := i_rg x2; have g_z_5 := i_rg z_5; omega) | (have e1 : (1 : Int32).toInt = 1 := (by decide); have q_p0 := Hide.out p0; have q_px := Hide.out px; have q_c_6 := i_lt c_6; obtain ⟨u_z_5, q_z_5⟩ := i_sub ez_5; have q_f19_4 := Hide.out f19_4; have q_f20_4 := Hide.out f20_4; have q_f1_4 := Hide.out f1_4; have q_f17_4 := Hide.out f17_4; have q_f18_4 := Hide.out f18_4; have q_f3_4 := Hide.out f3_4; have g_c2_4 := i_rg c2_4; have g_x2 := i_rg x2; have g_z_5 := i_rg z_5; omega)) (by have e2 : (2 : Int32).toInt = 2 := (by decide); omega)) (cwV 2 hts (gd_V kw_1606 kw_1616 kw_1617 kw_404 kw_1615) rfl rfl rfl (by decide +kernel) ⟨Nat.le_of_ble_eq_true rfl, Nat.le_of_ble_eq_true rfl⟩) ⟨gblind, va_recv hK hP (ci := 8) (q0 := k_1) rfl hk_1, fun U hU hW9 => gmk hU hW9 hP hK hD hex hE hS hFc⟩ rfl rfl hl.1 rfl (lv_room (Nat.le_of_ble_eq_true rfl)) dX9_isDone_213 ⟨Nat.le_of_ble_eq_true rfl, Nat.le_of_ble_eq_true rfl⟩) hS (fun q _ h => hFc q h) hFc (fun r_305 ws_306 t9 H1 locs ht9 hvm9 hw9 hB9 hz9 hk9 hS => ?_)
            obtain ⟨E_307, Fr_308, hG, hP1, hD1⟩ := hB9
            have hP : va_P (gD g) cl0 ws_306 H1 := by rw [← ht9]; exact hP1
            have hD : va_D A ws_306 := hD1.weaken (fun _ _ _ h => hFc _ h)
            obtain ⟨hw9, xp_311, xp_312⟩ := hw9
            have hz_r_305 : r_305 = 0 ∨ r_305 = 1 := hw9
            clear hP1 hD1 hz9 hk9 hvm9 ht9 hw9
            generalize H1 = H at hP hS ⊢
            have aa_313 := a_r1_1
            have aa_314 := a_r2_1
            have aa_315 := a_r3_1
            have aa_316 := a_r4_1
            have aa_317 := a_r5_1
            have aa_318 := a_r0_4
            have aa_319 := a_r1_4
            have aa_320 := a_r3_4
            have aa_321 := a_r5_4
            have aa_322 := a_r6_4
            have aa_323 := a_r7_4
            have aa_324 := a_r8_4
            have o_h0 := E_307.1 _ _ o_h0
            have tq_325 : KR ws ws_306 r0_1 := KR.tr tq_2 (xp_312 _ _ _ hkQ9 rfl)
            refine lv_if_eq (tgt := 223) hx hb dX9_isDone_216 (by decide) (fun c_326 => ?_) (fun c_326 => ?_)
            · exact J_223 ws_306 H locs ls (E_307) (Fr_308) hG xp_311 tq_325 hP hD hS (lv_sub hl [] rfl)
            · refine lv_iconst (v := 1) hx hb dX9_isDone_219 (by decide) ?_
              refine lv_goto (tgt := 224) hx hb dX9_isDone_220 (by decide) ?_
              exact J_224 (1) ws_306 H locs ls (Or.inr rfl) (E_307) (Fr_308) hG xp_311 tq_325 hP hD hS (lv_sub hl [] rfl)
      have K_27_225 : W p l e (headSpec (wt yX9_isDone cX9_isDone 3 (some .boolean)) ({ frames := 4, cells := 0, slots := 0, locals := 98 })).room s m ([.ref h0, .int x1, .int x2] : List Value).toArray below meth c s.heap [] (0) (0) (MQ below (va_Qi (fun (r : Int32) (u9 : va_W) => (r = 0 ∨ r = 1) ∧ (smR u9 h0) ∧ (KS ws u9 h0)) (gQ1 g [(7, 2), (7, 9)] [(7, 0), (7, 1), (7, 3), (7, 5), (7, 6), (7, 7), (7, 8)] none A ws) A) ([.ref h0, .int x1, .int x2] : List Value).toArray s (0) (0) A) (F0 m 225 ls []) := by
        refine lv_aload_n hx hb dX9_isDone_225 rfl (lv_at hl 0 rfl) ?_
        refine lv_iload_n hx hb dX9_isDone_226 rfl (lv_at hl 2 rfl) ?_
        refine lv_iconst (v := 2) hx hb dX9_isDone_227 (by decide) ?_
        have hFc := gfree hD hS hA
        refine va_calli (va_runV (As := [.int x2, .int 2]) (rest := []) ⟨hx, hb, hml, hown, hts⟩ (m_X9_isWindow l g s.heap.size ws h0 (x2) (2) hG o_h0 (gP_of hD hk_1 (fun p90 q90 e90 g90 => by cases e90; have z90 := gI_n hD a_r2_1 g90; subst z90; exact (by have q_f4_1 := Hide.out f4_1; have q_fq_a := Hide.out fq_a; omega))) (gP_of hD hk_1 (fun p90 q90 e90 g90 => by cases e90; have z90 := gI_n hD a_r3_1 g90; subst z90; exact (by have q_f6_1 := Hide.out f6_1; have q_fq_b := Hide.out fq_b; omega))) (gP_of hD hk_1 (fun p90 q90 e90 g90 => by cases e90; have z90 := gI_n hD a_r4_1 g90; subst z90; exact (by have q_f8_1 := Hide.out f8_1; have q_fq_d := Hide.out fq_d; omega))) (gP_of hD hk_1 (fun p90 q90 e90 g90 => by cases e90; have z90 := gI_n hD a_r5_1 g90; subst z90; exact (by have q_f10_1 := Hide.out f10_1; have q_fq_f := Hide.out fq_f; omega))) (by first | (have q_p0 := Hide.out p0; have q_px := Hide.out px; have q_c_6 := i_lt c_6; have g_x2 := i_rg x2; have g_z_5 := i_rg z_5; omega) | (have e1 : (1 : Int32).toInt = 1 := (by decide); have q_p0 := Hide.out p0; have q_px := Hide.out px; have q_c_6 := i_lt c_6; obtain ⟨u_z_5, q_z_5⟩ := i_sub ez_5; have g_c2_4 := i_rg c2_4; have g_x2 := i_rg x2; have g_z_5 := i_rg z_5; omega) | (have e1 : (1 : Int32).toInt = 1 := (by decide); have q_p0 := Hide.out p0; have q_px := Hide.out px; have q_c_6 := i_lt c_6; obtain ⟨u_z_5, q_z_5⟩ := i_sub ez_5; have q_f19_4 := Hide.out f19_4; have q_f20_4 := Hide.out f20_4; have g_c2_4 := i_rg c2_4; have g_x2 := i_rg x2; have g_z_5 := i_rg z_5; omega) | (have e1 : (1 : Int32).toInt = 1 := (by decide); have q_p0 := Hide.out p0; have q_px := Hide.out px; have q_c_6 := i_lt c_6; obtain ⟨u_z_5, q_z_5⟩ := i_sub ez_5; have q_f19_4 := Hide.out f19_4; have q_f20_4 := Hide.out f20_4; have q_f1_4 := Hide.out f1_4; have q_f17_4 := Hide.out f17_4; have q_f18_4 := Hide.out f18_4; have g_c2_4 := i_rg c2_4; have g_x2 := i_rg x2; have g_z_5 := i_rg z_5; omega) | (have e1 : (1 : Int32).toInt = 1 := (by decide); have q_p0 := Hide.out p0; have q_px := Hide.out px; have q_c_6 := i_lt c_6; obtain ⟨u_z_5, q_z_5⟩ := i_sub ez_5; have q_f19_4 := Hide.out f19_4; have q_f20_4 := Hide.out f20_4; have q_f1_4 := Hide.out f1_4; have q_f17_4 := Hide.out f17_4; have q_f18_4 := Hide.out f18_4; have q_f3_4 := Hide.out f3_4; have g_c2_4 := i_rg c2_4; have g_x2 := i_rg x2; have g_z_5 := i_rg z_5; omega)) (by first | (have q_p0 := Hide.out p0; have q_px := Hide.out px; have q_c_6 := i_lt c_6; have g_x2 := i_rg x2; have g_z_5 := i_rg z_5; omega) | (have e1 : (1 : Int32).toInt = 1 := (by decide); have q_p0 := Hide.out p0; have q_px := Hide.out px; have q_c_6 := i_lt c_6; obtain ⟨u_z_5, q_z_5⟩ := i_sub ez_5; have g_c2_4 := i_rg c2_4; have g_x2 := i_rg x2; have g_z_5 := i_rg z_5; omega) | (have e1 : (1 : Int32).toInt = 1 := (by decide); have q_p0 := Hide.out p0; have q_px := Hide.out px; have q_c_6 := i_lt c_6; obtain ⟨u_z_5, q_z_5⟩ := i_sub ez_5; have q_f19_4 := Hide.out f19_4; have q_f20_4 := Hide.out f20_4; have g_c2_4 := i_rg c2_4; have g_x2 := i_rg x2; have g_z_5 := i_rg z_5; omega) | (have e1 : (1 : Int32).toInt = 1 := (by decide); have q_p0 := Hide.out p0; have q_px := Hide.out px; have q_c_6 := i_lt c_6; obtain ⟨u_z_5, q_z_5⟩ := i_sub ez_5; have q_f19_4 := Hide.out f19_4; have q_f20_4 := Hide.out f20_4; have q_f1_4 := Hide.out f1_4; have q_f17_4 := Hide.out f17_4; have q_f18_4 := Hide.out f18_4; have g_c2_4 := i_rg c2_4; have g_x2 := i_rg x2; have g_z_5 := i_rg z_5; omega) | (have e1 : (1 : Int32).toInt = 1 := (by decide); have q_p0 := Hide.out p0; have q_px := Hide.out px; have q_c_6 := i_lt c_6; obtain ⟨u_z_5, q_z_5⟩ := i_sub ez_5; have q_f19_4 := Hide.out f19_4; have q_f20_4 := Hide.out f20_4; have q_f1_4 := Hide.out f1_4; have q_f17_4 := Hide.out f17_4; have q_f18_4 := Hide.out f18_4; have q_f3_4 := Hide.out f3_4; have g_c2_4 := i_rg c2_4; have g_x2 := i_rg x2; have g_z_5 := i_rg z_5; omega)) (by have e2 : (2 : Int32).toInt = 2 := (by decide); omega)) (cwV 2 hts (gd_V kw_1610 kw_1658 kw_1659 kw_404 kw_1657) rfl rfl rfl (by decide +kernel) ⟨Nat.le_of_ble_eq_true rfl, Nat.le_of_ble_eq_true rfl⟩) ⟨gblind, va_recv hK hP (ci := 8) (q0 := k_1) rfl hk_1, fun U hU hW9 => gmk hU hW9 hP hK hD hex hE hS hFc⟩ rfl rfl hl.1 rfl (lv_room (Nat.le_of_ble_eq_true rfl)) dX9_isDone_228 ⟨Nat.le_of_ble_eq_true rfl, Nat.le_of_ble_eq_true rfl⟩) hS (fun q _ h => hFc q h) hFc (fun r_327 u9 t9 H1 locs ht9 hvm9 hw9 hB9 hz9 hk9 hS => ?_)
        have hP : va_P (gD g) cl0 ws H1 := by rw [← ht9]; exact hB9.1
        have hz_r_327 : r_327 = 0 ∨ r_327 = 1 := hw9
        clear hB9 hz9 hk9 hvm9 ht9 hw9
        generalize H1 = H at hP hS ⊢
        have J_256 : ∀ (t_328 : Int32) (ws_330 : va_W) (H : Heap) (locs : List Loc) (ls : Array Slot), t_328 = 0 ∨ t_328 = 1 → gE ws ws_330 → gF [(7, 2), (7, 9)] [(7, 0), (7, 1), (7, 3), (7, 5), (7, 6), (7, 7), (7, 8)] none ws ws_330 → Good g ws_330 → smR ws_330 h0 → KR ws ws_330 r0_1 → va_P (gD g) cl0 ws_330 H → va_D A ws_330 → va_S A s.heap H locs → lv_has ls 3 [] → W p l e (headSpec (wt yX9_isDone cX9_isDone 3 (some .boolean)) ({ frames := 4, cells := 0, slots := 0, locals := 98 })).room s m ([.ref h0, .int x1, .int x2] : List Value).toArray below meth c H locs (0) (0) (MQ below (va_Qi (fun (r : Int32) (u9 : va_W) => (r = 0 ∨ r = 1) ∧ (smR u9 h0) ∧ (KS ws u9 h0)) (gQ1 g [(7, 2), (7, 9)] [(7, 0), (7, 1), (7, 3), (7, 5), (7, 6), (7, 7), (7, 8)] none A ws) A) ([.ref h0, .int x1, .int x2] : List Value).toArray s (0) (0) A) (F0 m 256 ls [.int t_328]) := by
          intro t_328 ws_330 H locs ls iv_329 E_331 Fr_332 hG jx_256_0 jx_256_1 hP hD hS hl
          have hz_t_328 := iv_329
          have aa_333 := a_r1_1
          have aa_334 := a_r2_1
          have aa_335 := a_r3_1
          have aa_336 := a_r4_1
          have aa_337 := a_r5_1
          have aa_338 := a_r0_4
          have aa_339 := a_r1_4
          have aa_340 := a_r3_4
          have aa_341 := a_r5_4
          have aa_342 := a_r6_4
          have aa_343 := a_r7_4
          have aa_344 := a_r8_4
          have o_h0 := E_331.1 _ _ o_h0
          refine W.widen (k := 0) (n := 0) (Nat.le_of_ble_eq_true rfl) (Nat.le_of_ble_eq_true rfl) ?_
          exact W.zret (v := t_328) hx hb hr (nz hz_t_328) (fun t9 ht9 hW9 => ⟨⟨_, ws_330, rfl, ⟨hz_t_328, jx_256_0, KS_of hDH9 hkH9 rfl jx_256_1⟩, ⟨E_331, Fr_332, hG, by rw [ht9]; exact hP, hD⟩⟩, hS.F ht9⟩) hS.2.2 dX9_isDone_256
        have J_255 : ∀ (ws_345 : va_W) (H : Heap) (locs : List Loc) (ls : Array Slot), gE ws ws_345 → gF [(7, 2), (7, 9)] [(7, 0), (7, 1), (7, 3), (7, 5), (7, 6), (7, 7), (7, 8)] none ws ws_345 → Good g ws_345 → smR ws_345 h0 → KR ws ws_345 r0_1 → va_P (gD g) cl0 ws_345 H → va_D A ws_345 → va_S A s.heap H locs → lv_has ls 3 [] → W p l e (headSpec (wt yX9_isDone cX9_isDone 3 (some .boolean)) ({ frames := 4, cells := 0, slots := 0, locals := 98 })).room s m ([.ref h0, .int x1, .int x2] : List Value).toArray below meth c H locs (0) (0) (MQ below (va_Qi (fun (r : Int32) (u9 : va_W) => (r = 0 ∨ r = 1) ∧ (smR u9 h0) ∧ (KS ws u9 h0)) (gQ1 g [(7, 2), (7, 9)] [(7, 0), (7, 1), (7, 3), (7, 5), (7, 6), (7, 7), (7, 8)] none A ws) A) ([.ref h0, .int x1, .int x2] : List Value).toArray s (0) (0) A) (F0 m 255 ls []) := by
          intro ws_345 H locs ls  E_346 Fr_347 hG jx_255_0 jx_255_1 hP hD hS hl
          have aa_348 := a_r1_1
          have aa_349 := a_r2_1
          have aa_350 := a_r3_1
          have aa_351 := a_r4_1
          have aa_352 := a_r5_1
          have aa_353 := a_r0_4
          have aa_354 := a_r1_4
          have aa_355 := a_r3_4
          have aa_356 := a_r5_4
          have aa_357 := a_r6_4
          have aa_358 := a_r7_4
          have aa_359 := a_r8_4
          have o_h0 := E_346.1 _ _ o_h0
          refine lv_iconst (v := 0) hx hb dX9_isDone_255 (by decide) ?_
          exact J_256 (0) ws_345 H locs ls (Or.inl rfl) (E_346) (Fr_347) hG jx_255_0 jx_255_1 hP hD hS (lv_sub hl [] rfl)
        refine lv_if_eq (tgt := 255) hx hb dX9_isDone_231 (by decide) (fun c_360 => ?_) (fun c_360 => ?_)
        · exact J_255 ws H locs ls (gE.rf) (gF.rf) hG tk0 tq_2 hP hD hS (lv_sub hl [] rfl)
        · refine lv_aload_n hx hb dX9_isDone_234 rfl (lv_at hl 0 rfl) ?_
          refine lv_iload_n hx hb dX9_isDone_235 rfl (lv_at hl 2 rfl) ?_
          have hFc := gfree hD hS hA
          refine va_calli (va_runV (As := [.int x2]) (rest := []) ⟨hx, hb, hml, hown, hts⟩ (m_X9_isPassedOn l g H.size ws h0 (x2) hG o_h0 (gP_of hD hk_1 (fun p90 q90 e90 g90 => by cases e90; have z90 := gI_n hD a_r2_1 g90; subst z90; exact (by have q_f4_1 := Hide.out f4_1; have q_fq_a := Hide.out fq_a; omega))) (gP_of hD hk_1 (fun p90 q90 e90 g90 => by cases e90; have z90 := gI_n hD a_r3_1 g90; subst z90; exact (by have q_f6_1 := Hide.out f6_1; have q_fq_b := Hide.out fq_b; omega))) (gP_of hD hk_1 (fun p90 q90 e90 g90 => by cases e90; have z90 := gI_n hD a_r4_1 g90; subst z90; exact (by have q_f8_1 := Hide.out f8_1; have q_fq_d := Hide.out fq_d; omega))) (gP_of hD hk_1 (fun p90 q90 e90 g90 => by cases e90; have z90 := gI_n hD a_r5_1 g90; subst z90; exact (by have q_f10_1 := Hide.out f10_1; have q_fq_f := Hide.out fq_f; omega)))) (cwV 1 hts (gd_V kw_1613 kw_1641 kw_1642 kw_404 kw_1640) rfl rfl rfl (by decide +kernel) ⟨Nat.le_of_ble_eq_true rfl, Nat.le_of_ble_eq_true rfl⟩) ⟨gblind, va_recv hK hP (ci := 8) (q0 := k_1) rfl hk_1, fun U hU hW9 => gmk hU hW9 hP hK hD hex hE hS hFc⟩ rfl rfl hl.1 rfl (lv_room (Nat.le_of_ble_eq_true rfl)) dX9_isDone_236 ⟨Nat.le_of_ble_eq_true rfl, Nat.le_of_ble_eq_true rfl⟩) hS (fun q _ h => hFc q h) hFc (fun r_361 u9 t9 H1 locs ht9 hvm9 hw9 hB9 hz9 hk9 hS => ?_)
          have hP : va_P (gD g) cl0 ws H1 := by rw [← ht9]; exact hB9.1
          have hz_r_361 : r_361 = 0 ∨ r_361 = 1 := hw9
          clear hB9 hz9 hk9 hvm9 ht9 hw9
          generalize H1 = H at hP hS ⊢
          refine lv_if_eq (tgt := 255) hx hb dX9_isDone_239 (by decide) (fun c_362 => ?_) (fun c_362 => ?_)
          · exact J_255 ws H locs ls (gE.rf) (gF.rf) hG tk0 tq_2 hP hD hS (lv_sub hl [] rfl)
          · refine lv_aload_n hx hb dX9_isDone_242 rfl (lv_at hl 0 rfl) ?_
            refine lv_iload_n hx hb dX9_isDone_243 rfl (lv_at hl 2 rfl) ?_
            refine lv_iconst (v := 2) hx hb dX9_isDone_244 (by decide) ?_
            have hkQ9 := hk_1
            have hFc := gfree hD hS hA
            refine va_calli (va_runV (As := [.int x2, .int 2]) (rest := []) ⟨hx, hb, hml, hown, hts⟩ (m_X9_isDropped_x l g H.size ws h0 (x2) (2) hG o_h0 tk0 (by first | (have q_p0 := Hide.out p0; have q_px := Hide.out px; have q_c_6 := i_lt c_6; have g_x2 := i_rg x2; have g_z_5 := i_rg z_5; omega) | (have e1 : (1 : Int32).toInt = 1 := (by decide); have q_p0 := Hide.out p0; have q_px := Hide.out px; have q_c_6 := i_lt c_6; obtain ⟨u_z_5, q_z_5⟩ := i_sub ez_5; have g_c2_4 := i_rg c2_4; have g_x2 := i_rg x2; have g_z_5 := i_rg z_5; omega) | (have e1 : (1 : Int32).toInt = 1 := (by decide); have q_p0 := Hide.out p0; have q_px := Hide.out px; have q_c_6 := i_lt c_6; obtain ⟨u_z_5, q_z_5⟩ := i_sub ez_5; have q_f19_4 := Hide.out f19_4; have q_f20_4 := Hide.out f20_4; have g_c2_4 := i_rg c2_4; have g_x2 := i_rg x2; have g_z_5 := i_rg z_5; omega) | (have e1 : (1 : Int32).toInt = 1 := (by decide); have q_p0 := Hide.out p0; have q_px := Hide.out px; have q_c_6 := i_lt c_6; obtain ⟨u_z_5, q_z_5⟩ := i_sub ez_5; have q_f19_4 := Hide.out f19_4; have q_f20_4 := Hide.out f20_4; have q_f1_4 := Hide.out f1_4; have q_f17_4 := Hide.out f17_4; have q_f18_4 := Hide.out f18_4; have g_c2_4 := i_rg c2_4; have g_x2 := i_rg x2; have g_z_5 := i_rg z_5; omega) | (have e1 : (1 : Int32).toInt = 1 := (by decide); have q_p0 := Hide.out p0; have q_px := Hide.out px; have q_c_6 := i_lt c_6; obtain ⟨u_z_5, q_z_5⟩ := i_sub ez_5; have q_f19_4 := Hide.out f19_4; have q_f20_4 := Hide.out f20_4; have q_f1_4 := Hide.out f1_4; have q_f17_4 := Hide.out f17_4; have q_f18_4 := Hide.out f18_4; have q_f3_4 := Hide.out f3_4; have g_c2_4 := i_rg c2_4; have g_x2 := i_rg x2; have g_z_5 := i_rg z_5; omega)) (by have e2 : (2 : Int32).toInt = 2 := (by decide); omega)) (cwV 2 hts (gd_V kw_1606 kw_1616 kw_1617 kw_404 kw_1615) rfl rfl rfl (by decide +kernel) ⟨Nat.le_of_ble_eq_true rfl, Nat.le_of_ble_eq_true rfl⟩) ⟨gblind, va_recv hK hP (ci := 8) (q0 := k_1) rfl hk_1, fun U hU hW9 => gmk hU hW9 hP hK hD hex hE hS hFc⟩ rfl rfl hl.1 rfl (lv_room (Nat.le_of_ble_eq_true rfl)) dX9_isDone_245 ⟨Nat.le_of_ble_eq_true rfl, Nat.le_of_ble_eq_true rfl⟩) hS (fun q _ h => hFc q h) hFc (fun r_363 ws_364 t9 H1 locs ht9 hvm9 hw9 hB9 hz9 hk9 hS => ?_)
            obtain ⟨E_365, Fr_366, hG, hP1, hD1⟩ := hB9
            have hP : va_P (gD g) cl0 ws_364 H1 := by rw [← ht9]; exact hP1
            have hD : va_D A ws_364 := hD1.weaken (fun _ _ _ h => hFc _ h)
            obtain ⟨hw9, xp_369, xp_370⟩ := hw9
            have hz_r_363 : r_363 = 0 ∨ r_363 = 1 := hw9
            clear hP1 hD1 hz9 hk9 hvm9 ht9 hw9
            generalize H1 = H at hP hS ⊢
            have aa_371 := a_r1_1
            have aa_372 := a_r2_1
            have aa_373 := a_r3_1
            have aa_374 := a_r4_1
            have aa_375 := a_r5_1
            have aa_376 := a_r0_4
            have aa_377 := a_r1_4
            have aa_378 := a_r3_4
            have aa_379 := a_r5_4
            have aa_380 := a_r6_4
            have aa_381 := a_r7_4
            have aa_382 := a_r8_4
            have o_h0 := E_365.1 _ _ o_h0
            have tq_383 : KR ws ws_364 r0_1 := KR.tr tq_2 (xp_370 _ _ _ hkQ9 rfl)
            refine lv_if_eq (tgt := 255) hx hb dX9_isDone_248 (by decide) (fun c_384 => ?_) (fun c_384 => ?_)
            · exact J_255 ws_364 H locs ls (E_365) (Fr_366) hG xp_369 tq_383 hP hD hS (lv_sub hl [] rfl)
            · refine lv_iconst (v := 1) hx hb dX9_isDone_251 (by decide) ?_
              refine lv_goto (tgt := 256) hx hb dX9_isDone_252 (by decide) ?_
              exact J_256 (1) ws_364 H locs ls (Or.inr rfl) (E_365) (Fr_366) hG xp_369 tq_383 hP hD hS (lv_sub hl [] rfl)
      rcases Classical.em ((x1 : Int32).toInt < 3 ∨ 10 < (x1 : Int32).toInt) with c9 | c9
      · exact lv_tableOut (tgt := 257) hx hb dX9_isDone_27 c9 (by decide) K_27_257
      · rcases (show (x1 : Int32).toInt = 3 ∨ (x1 : Int32).toInt = 4 ∨ (x1 : Int32).toInt = 5 ∨ (x1 : Int32).toInt = 6 ∨ (x1 : Int32).toInt = 7 ∨ (x1 : Int32).toInt = 8 ∨ (x1 : Int32).toInt = 9 ∨ (x1 : Int32).toInt = 10 by omega) with c9 | c9 | c9 | c9 | c9 | c9 | c9 | c9
        · exact lv_tableIn (off := 45) (tgt := 72) hx hb dX9_isDone_27 (by rw [c9]; decide) (by rw [c9]; decide) (by rw [c9]; rfl) (by decide) K_27_72
        · exact lv_tableIn (off := 90) (tgt := 117) hx hb dX9_isDone_27 (by rw [c9]; decide) (by rw [c9]; decide) (by rw [c9]; rfl) (by decide) K_27_117
        · exact lv_tableIn (off := 116) (tgt := 143) hx hb dX9_isDone_27 (by rw [c9]; decide) (by rw [c9]; decide) (by rw [c9]; rfl) (by decide) K_27_143
        · exact lv_tableIn (off := 122) (tgt := 149) hx hb dX9_isDone_27 (by rw [c9]; decide) (by rw [c9]; decide) (by rw [c9]; rfl) (by decide) K_27_149
        · exact lv_tableIn (off := 128) (tgt := 155) hx hb dX9_isDone_27 (by rw [c9]; decide) (by rw [c9]; decide) (by rw [c9]; rfl) (by decide) K_27_155
        · exact lv_tableIn (off := 134) (tgt := 161) hx hb dX9_isDone_27 (by rw [c9]; decide) (by rw [c9]; decide) (by rw [c9]; rfl) (by decide) K_27_161
        · exact lv_tableIn (off := 166) (tgt := 193) hx hb dX9_isDone_27 (by rw [c9]; decide) (by rw [c9]; decide) (by rw [c9]; rfl) (by decide) K_27_193
        · exact lv_tableIn (off := 198) (tgt := 225) hx hb dX9_isDone_27 (by rw [c9]; decide) (by rw [c9]; decide) (by rw [c9]; rfl) (by decide) K_27_225
    · refine lv_iconst (v := 0) hx hb dX9_isDone_24 (by decide) ?_
      refine W.widen (k := 0) (n := 0) (Nat.le_of_ble_eq_true rfl) (Nat.le_of_ble_eq_true rfl) ?_
      exact W.zret (v := 0) hx hb hr (nz (Or.inl rfl)) (fun t9 ht9 hW9 => ⟨⟨_, ws, rfl, ⟨(Or.inl rfl), tk0, KS_of hDH9 hkH9 rfl tq_2⟩, ⟨gE.rf, gF.rf, hG, by rw [ht9]; exact hP, hD⟩⟩, hS.F ht9⟩) hS.2.2 dX9_isDone_25
  · refine lv_aload_n hx hb dX9_isDone_5 rfl (lv_at hl 0 rfl) ?_
    refine lv_iload_n hx hb dX9_isDone_6 rfl (lv_at hl 2 rfl) ?_
    have hkQ9 := hk_1
    have hFc := gfree hD hS hA
    refine va_calli (va_runV (As := [.int x2]) (rest := []) ⟨hx, hb, hml, hown, hts⟩ (m_X9_isRedirected_x l g s.heap.size ws h0 (x2) hG o_h0 tk0) (cwV 1 hts (gd_V kw_1604 kw_1649 kw_1650 kw_404 kw_1648) rfl rfl rfl (by decide +kernel) ⟨Nat.le_of_ble_eq_true rfl, Nat.le_of_ble_eq_true rfl⟩) ⟨gblind, va_recv hK hP (ci := 8) (q0 := k_1) rfl hk_1, fun U hU hW9 => gmk hU hW9 hP hK hD hex hE hS hFc⟩ rfl rfl hl.1 rfl (lv_room (Nat.le_of_ble_eq_true rfl)) dX9_isDone_7 ⟨Nat.le_of_ble_eq_true rfl, Nat.le_of_ble_eq_true rfl⟩) hS (fun q _ h => hFc q h) hFc (fun r_385 ws_386 t9 H1 locs ht9 hvm9 hw9 hB9 hz9 hk9 hS => ?_)
    obtain ⟨E_387, Fr_388, hG, hP1, hD1⟩ := hB9
    have hP : va_P (gD g) cl0 ws_386 H1 := by rw [← ht9]; exact hP1
    have hD : va_D A ws_386 := hD1.weaken (fun _ _ _ h => hFc _ h)
    obtain ⟨hw9, xp_391, xp_392⟩ := hw9
    have hz_r_385 : r_385 = 0 ∨ r_385 = 1 := hw9
    clear hP1 hD1 hz9 hk9 hvm9 ht9 hw9
    generalize H1 = H at hP hS ⊢
    have aa_393 := a_r1_1
    have aa_394 := a_r2_1
    have aa_395 := a_r3_1
    have aa_396 := a_r4_1
    have aa_397 := a_r5_1
    have o_h0 := E_387.1 _ _ o_h0
    have tq_398 : KR ws ws_386 r0_1 := KR.tr tq_2 (xp_392 _ _ _ hkQ9 rfl)
    refine W.widen (k := 0) (n := 0) (Nat.le_of_ble_eq_true rfl) (Nat.le_of_ble_eq_true rfl) ?_
    exact W.zret (v := r_385) hx hb hr (nz hz_r_385) (fun t9 ht9 hW9 => ⟨⟨_, ws_386, rfl, ⟨hz_r_385, xp_391, KS_of hDH9 hkH9 rfl tq_398⟩, ⟨E_387, (gF.mo (F' := [(7, 2), (7, 9)]) (C' := [(7, 0), (7, 1), (7, 3), (7, 5), (7, 6), (7, 7), (7, 8)]) (S' := none) Fr_388 (fun _ h => absurd h List.not_mem_nil) (by decide) (Or.inr rfl)), hG, by rw [ht9]; exact hP, hD⟩⟩, hS.F ht9⟩) hS.2.2 dX9_isDone_10
set_option maxHeartbeats 4000000 in
set_option maxRecDepth 100000 in
theorem m_X9_dropUnreached_x (l : Launch) (g : Gm) (sz : Nat) (ws : va_W) (h0 : Nat) (hG : Good g ws) (o_h0 : gC ws h0 8) (fp_a : gP ws h0 (fun fs => ∀ (rn n : Nat), fs[2]? = some (.ref rn) → gI ws rn g.cZ n → 1297 ≤ n)) (fp_b : gP ws h0 (fun fs => ∀ (rn n : Nat), fs[3]? = some (.ref rn) → gI ws rn g.cZ n → 1297 ≤ n)) (fp_d : gP ws h0 (fun fs => ∀ (rn n : Nat), fs[4]? = some (.ref rn) → gI ws rn g.cI n → 1297 ≤ n)) (fp_f : gP ws h0 (fun fs => ∀ (rn n : Nat), fs[5]? = some (.ref rn) → gI ws rn g.cI n → 1297 ≤ n)) (tk0 : smR ws h0) : Met l yX9_dropUnreached (wt yX9_dropUnreached cX9_dropUnreached 5 (some .boolean)) ({ frames := 4, cells := 0, slots := 0, locals := 90 }) (va_Pc [.ref h0] (st_G g sz ws)) (va_Qi (fun (r : Int32) (u9 : va_W) => (r = 0 ∨ r = 1) ∧ (smR u9 h0) ∧ (KS ws u9 h0)) (gQ1 g [(7, 2), (7, 9)] [(7, 0), (7, 1), (7, 3), (7, 5), (7, 6), (7, 7), (7, 8), (8, 1), (8, 3)] none (va_A ws sz) ws) (va_A ws sz)) (0) (0) (va_A ws sz) := by
  refine Met.ofW (cc := cX9_dropUnreached) (maxL := 5) (ret := (some .boolean)) (by decide) rfl ?_
  intro p e s m args below meth c s₁ B hml hv
  obtain ⟨rfl, hsz, hP, hK, hD0, hex, hE⟩ := hv
  have hx := B.exec
  have hb := B.bytes
  have hr := B.returns
  have hts0 := atoms_spec (ws := wt yX9_dropUnreached cX9_dropUnreached 5 (some .boolean)) B.pre
  have hts : ∀ w ∈ tb, w.before _ s = true := fun w h => hts0 w (List.mem_cons_of_mem _ h)
  have hown : s.vm.findClass RX9 = some m.cls := findClass_of_methodNamed B.named
  subst hsz
  have hD := hD0.self (sz := s.heap.size)
  generalize hAe : va_A ws s.heap.size = A at hD hE ⊢
  have hA : ∀ q : Nat, s.heap.size ≤ q → A q := fun q h => by rw [← hAe]; exact Or.inr h
  have hS : va_S A s.heap s.heap [] := va_S.rf
  have hl := lv_entry ([.ref h0]) (n := 5) (Nat.le_of_ble_eq_true rfl)
  rw [lg_entry_eq]
  generalize (lg_sl ([.ref h0]) ++ List.replicate (5 - (lg_sl ([.ref h0])).length) Slot.unset).toArray = ls at hl ⊢
  have hl : lv_has ls 5 [(0, .ref h0)] := hl
  obtain ⟨k_1, fs9, hk_1⟩ := gC_of o_h0
  refine opn_X9 hG hk_1 (fun r0_1 r1_1 n1_1 r2_1 n2_1 r3_1 n3_1 r4_1 n4_1 r5_1 n5_1 hf9 o_r0_1 a_r1_1 f2_1 a_r2_1 f4_1 a_r3_1 f6_1 a_r4_1 f8_1 a_r5_1 f10_1 f11_1 => ?_)
  subst hf9
  have fq_a := fp_a _ _ _ hk_1 _ _ rfl a_r2_1
  replace fq_a := hide fq_a
  have fq_b := fp_b _ _ _ hk_1 _ _ rfl a_r3_1
  replace fq_b := hide fq_b
  have fq_d := fp_d _ _ _ hk_1 _ _ rfl a_r4_1
  replace fq_d := hide fq_d
  have fq_f := fp_f _ _ _ hk_1 _ _ rfl a_r5_1
  replace fq_f := hide fq_f
  have hkH9 := hk_1
  have hDH9 := hD
  have tq_2 : KR ws ws r0_1 := KR_rf
  refine lv_aload_n hx hb dX9_dropUnreached_0 rfl (lv_at hl 0 rfl) ?_
  have hFc := gfree hD hS hA
  refine va_callv (va_runV (As := []) (rest := []) ⟨hx, hb, hml, hown, hts⟩ (m_X9_findReached l g s.heap.size ws h0 hG o_h0 (gP_of hD hk_1 (fun p90 q90 e90 g90 => by cases e90; have z90 := gI_n hD a_r2_1 g90; subst z90; exact (by have q_f4_1 := Hide.out f4_1; have q_fq_a := Hide.out fq_a; omega))) (gP_of hD hk_1 (fun p90 q90 e90 g90 => by cases e90; have z90 := gI_n hD a_r3_1 g90; subst z90; exact (by have q_f6_1 := Hide.out f6_1; have q_fq_b := Hide.out fq_b; omega))) (gP_of hD hk_1 (fun p90 q90 e90 g90 => by cases e90; have z90 := gI_n hD a_r4_1 g90; subst z90; exact (by have q_f8_1 := Hide.out f8_1; have q_fq_d := Hide.out fq_d; omega))) (gP_of hD hk_1 (fun p90 q90 e90 g90 => by cases e90; have z90 := gI_n hD a_r5_1 g90; subst z90; exact (by have q_f10_1 := Hide.out f10_1; have q_fq_f := Hide.out fq_f; omega)))) (cwV 0 hts (gd_V kw_1551 kw_1575 kw_1576 kw_404 kw_1574) rfl rfl rfl (by decide +kernel) ⟨Nat.le_of_ble_eq_true rfl, Nat.le_of_ble_eq_true rfl⟩) ⟨gblind, va_recv hK hP (ci := 8) (q0 := k_1) rfl hk_1, fun U hU hW9 => gmk hU hW9 hP hK hD hex hE hS hFc⟩ rfl rfl hl.1 rfl (lv_room (Nat.le_of_ble_eq_true rfl)) dX9_dropUnreached_1 ⟨Nat.le_of_ble_eq_true rfl, Nat.le_of_ble_eq_true rfl⟩) hS (fun q _ h => hFc q h) hFc (fun  ws_3 t9 H1 locs ht9 hvm9 hw9 hB9 hz9 hk9 hS => ?_)
  obtain ⟨E_4, Fr_5, hG, hP1, hD1⟩ := hB9
  have hP : va_P (gD g) cl0 ws_3 H1 := by rw [← ht9]; exact hP1
  have hD : va_D A ws_3 := hD1.weaken (fun _ _ _ h => hFc _ h)
  clear hP1 hD1 hz9 hk9 hvm9 ht9 hw9
  generalize H1 = H at hP hS ⊢
  have aa_8 := a_r1_1
  have aa_9 := a_r2_1
  have aa_10 := a_r3_1
  have aa_11 := a_r4_1
  have aa_12 := a_r5_1
  have o_h0 := E_4.1 _ _ o_h0
  refine lv_iconst (v := 0) hx hb dX9_dropUnreached_4 (by decide) ?_
  refine lv_istore_n (lv' := [(1, .int 0), (0, .ref h0)]) hx hb dX9_dropUnreached_5 rfl hl (by decide) rfl (fun ls hl => ?_)
  refine lv_iconst (v := 0) hx hb dX9_dropUnreached_6 (by decide) ?_
  refine lv_istore_n (lv' := [(2, .int 0), (1, .int 0), (0, .ref h0)]) hx hb dX9_dropUnreached_7 rfl hl (by decide) rfl (fun ls hl => ?_)
  refine lv_aload_n hx hb dX9_dropUnreached_8 rfl (lv_at hl 2 rfl) ?_
  obtain ⟨fs9, hk_13, hq_13⟩ := ((gF.a (F' := []) Fr_5 (fun _ h => h))) _ _ _ hk_1
  refine opn_X9 hG hk_13 (fun r0_13 r1_13 n1_13 r2_13 n2_13 r3_13 n3_13 r4_13 n4_13 r5_13 n5_13 hf9 o_r0_13 a_r1_13 f2_13 a_r2_13 f4_13 a_r3_13 f6_13 a_r4_13 f8_13 a_r5_13 f10_13 f11_13 => ?_)
  subst hf9
  obtain rfl := fe_r (hq_13 0 (by decide))
  have o_r0_1 := o_r0_13
  obtain rfl := fe_r (hq_13 1 (by decide))
  have hn9 := gI_n hD ((E_4).1 _ _ aa_8) a_r1_13
  subst hn9
  have a_r1_1 := a_r1_13
  obtain rfl := fe_r (hq_13 2 (by decide))
  have hn9 := gI_n hD ((E_4).1 _ _ aa_9) a_r2_13
  subst hn9
  have a_r2_1 := a_r2_13
  obtain rfl := fe_r (hq_13 3 (by decide))
  have hn9 := gI_n hD ((E_4).1 _ _ aa_10) a_r3_13
  subst hn9
  have a_r3_1 := a_r3_13
  obtain rfl := fe_r (hq_13 4 (by decide))
  have hn9 := gI_n hD ((E_4).1 _ _ aa_11) a_r4_13
  subst hn9
  have a_r4_1 := a_r4_13
  obtain rfl := fe_r (hq_13 5 (by decide))
  have hn9 := gI_n hD ((E_4).1 _ _ aa_12) a_r5_13
  subst hn9
  have a_r5_1 := a_r5_13
  refine va_get (D := gD g) (ci := 8) (v := .ref r0_1) (C := RX9) (T := TX9) (N := 6) hx hb hts inX9 hown hK hP k_1 hk_13 rfl 0 (by decide) (hts _ kw_1552) (fun _ h9 => h9) rfl dX9_dropUnreached_9 ?_
  obtain ⟨k_14, fs9, hk_14⟩ := gC_of o_r0_1
  refine opn_X8 hG hk_14 (fun r0_14 n0_14 r1_14 n1_14 c2_14 r3_14 n3_14 c4_14 r5_14 n5_14 r6_14 n6_14 r7_14 n7_14 r8_14 n8_14 c9_14 c10_14 c11_14 v12_14 v13_14 v14_14 hf9 a_r0_14 f1_14 a_r1_14 f3_14 a_r3_14 f5_14 a_r5_14 f7_14 a_r6_14 f9_14 a_r7_14 f11_14 a_r8_14 f13_14 o_v12_14 o_v13_14 o_v14_14 f17_14 f18_14 f19_14 f20_14 f21_14 f22_14 f23_14 f24_14 f25_14 f26_14 f27_14 f28_14 f29_14 => ?_)
  subst hf9
  refine va_get (D := gD g) (ci := 7) (v := .int c2_14) (C := RX8) (T := TX8) (N := 15) hx hb hts inX8 hown hK hP k_14 hk_14 rfl 2 (by decide) (hts _ kw_1553) (fun _ h9 => h9) rfl dX9_dropUnreached_12 ?_
  refine lv_istore_n (lv' := [(3, .int c2_14), (2, .int 0), (1, .int 0), (0, .ref h0)]) hx hb dX9_dropUnreached_15 rfl hl (by decide) rfl (fun ls hl => ?_)
  refine lv_iconst (v := 0) hx hb dX9_dropUnreached_16 (by decide) ?_
  refine lv_istore (lv' := [(4, .int 0), (3, .int c2_14), (2, .int 0), (1, .int 0), (0, .ref h0)]) hx hb dX9_dropUnreached_17 hl (by decide) rfl (fun ls hl => ?_)
  have J_19 : ∀ (n9 : Nat) (v1_15 : Int32) (v2_17 : Int32) (v4_18 : Int32) (ws_21 : va_W) (H : Heap) (locs : List Loc) (ls : Array Slot), (2147483647 - v4_18.toInt).toNat = n9 → v1_15 = 0 ∨ v1_15 = 1 → 0 ≤ v4_18.toInt → 0 ≤ v2_17.toInt ∧ v2_17.toInt ≤ v4_18.toInt → gE ws_3 ws_21 → gF [(7, 2), (7, 9)] [(7, 0), (7, 1), (7, 3), (7, 5), (7, 6), (7, 7), (7, 8), (8, 1)] none ws_3 ws_21 → Good g ws_21 → smR ws_21 h0 → KR ws ws_21 r0_1 → va_P (gD g) cl0 ws_21 H → va_D A ws_21 → va_S A s.heap H locs → lv_has ls 5 [(0, .ref h0), (1, .int v1_15), (2, .int v2_17), (3, .int c2_14), (4, .int v4_18)] → W p l e (headSpec (wt yX9_dropUnreached cX9_dropUnreached 5 (some .boolean)) ({ frames := 4, cells := 0, slots := 0, locals := 90 })).room s m ([.ref h0] : List Value).toArray below meth c H locs (0) (0) (MQ below (va_Qi (fun (r : Int32) (u9 : va_W) => (r = 0 ∨ r = 1) ∧ (smR u9 h0) ∧ (KS ws u9 h0)) (gQ1 g [(7, 2), (7, 9)] [(7, 0), (7, 1), (7, 3), (7, 5), (7, 6), (7, 7), (7, 8), (8, 1), (8, 3)] none A ws) A) ([.ref h0] : List Value).toArray s (0) (0) A) (F0 m 19 ls []) := by
    intro n9
    induction n9 using Nat.strongRecOn with
    | ind n9 ih_19 =>
      intro v1_15 v2_17 v4_18 ws_21 H locs ls hm9 iv_16 iv_19 iv_20 E_22 Fr_23 hG jx_19_0 jx_19_1 hP hD hS hl
      subst hm9
      have hz_v1_15 := iv_16
      replace iv_19 := hide iv_19
      replace iv_20 := hide iv_20
      have aa_24 := a_r1_1
      have aa_25 := a_r2_1
      have aa_26 := a_r3_1
      have aa_27 := a_r4_1
      have aa_28 := a_r5_1
      have aa_29 := a_r0_14
      have aa_30 := a_r1_14
      have aa_31 := a_r3_14
      have aa_32 := a_r5_14
      have aa_33 := a_r6_14
      have aa_34 := a_r7_14
      have aa_35 := a_r8_14
      have o_h0 := E_22.1 _ _ o_h0
      refine lv_iload hx hb dX9_dropUnreached_19 (lv_at hl 4 rfl) ?_
      refine lv_iload_n hx hb dX9_dropUnreached_21 rfl (lv_at hl 3 rfl) ?_
      refine lv_icmp_ge (tgt := 68) hx hb dX9_dropUnreached_22 (by decide) (fun c_36 => ?_) (fun c_36 => ?_)
      · refine lv_iload_n hx hb dX9_dropUnreached_68 rfl (lv_at hl 1 rfl) ?_
        refine W.widen (k := 0) (n := 0) (Nat.le_of_ble_eq_true rfl) (Nat.le_of_ble_eq_true rfl) ?_
        exact W.zret (v := v1_15) hx hb hr (nz hz_v1_15) (fun t9 ht9 hW9 => ⟨⟨_, ws_21, rfl, ⟨hz_v1_15, jx_19_0, KS_of hDH9 hkH9 rfl jx_19_1⟩, ⟨(E_4.tr E_22), (gF.tr (gF.mo (F' := [(7, 2), (7, 9)]) (C' := [(7, 0), (7, 1), (7, 3), (7, 5), (7, 6), (7, 7), (7, 8), (8, 1), (8, 3)]) (S' := none) Fr_5 (fun _ h => absurd h List.not_mem_nil) (by decide) (Or.inr rfl)) (gF.mo (F' := [(7, 2), (7, 9)]) (C' := [(7, 0), (7, 1), (7, 3), (7, 5), (7, 6), (7, 7), (7, 8), (8, 1), (8, 3)]) (S' := none) Fr_23 (fun _ h => h) (by decide) (Or.inr rfl))), hG, by rw [ht9]; exact hP, hD⟩⟩, hS.F ht9⟩) hS.2.2 dX9_dropUnreached_69
      · refine lv_aload_n hx hb dX9_dropUnreached_25 rfl (lv_at hl 0 rfl) ?_
        obtain ⟨fs9, hk_37, hq_37⟩ := ((gF.a (F' := [(7, 2), (7, 9)]) Fr_23 (fun _ h => h))) _ _ _ hk_13
        refine opn_X9 hG hk_37 (fun r0_37 r1_37 n1_37 r2_37 n2_37 r3_37 n3_37 r4_37 n4_37 r5_37 n5_37 hf9 o_r0_37 a_r1_37 f2_37 a_r2_37 f4_37 a_r3_37 f6_37 a_r4_37 f8_37 a_r5_37 f10_37 f11_37 => ?_)
        subst hf9
        obtain rfl := fe_r (hq_37 0 (by decide))
        have o_r0_1 := o_r0_37
        obtain rfl := fe_r (hq_37 1 (by decide))
        have hn9 := gI_n hD ((E_22).1 _ _ aa_24) a_r1_37
        subst hn9
        have a_r1_1 := a_r1_37
        obtain rfl := fe_r (hq_37 2 (by decide))
        have hn9 := gI_n hD ((E_22).1 _ _ aa_25) a_r2_37
        subst hn9
        have a_r2_1 := a_r2_37
        obtain rfl := fe_r (hq_37 3 (by decide))
        have hn9 := gI_n hD ((E_22).1 _ _ aa_26) a_r3_37
        subst hn9
        have a_r3_1 := a_r3_37
        obtain rfl := fe_r (hq_37 4 (by decide))
        have hn9 := gI_n hD ((E_22).1 _ _ aa_27) a_r4_37
        subst hn9
        have a_r4_1 := a_r4_37
        obtain rfl := fe_r (hq_37 5 (by decide))
        have hn9 := gI_n hD ((E_22).1 _ _ aa_28) a_r5_37
        subst hn9
        have a_r5_1 := a_r5_37
        refine va_get (D := gD g) (ci := 8) (v := .ref r3_1) (C := RX9) (T := TX9) (N := 6) hx hb hts inX9 hown hK hP k_1 hk_37 rfl 3 (by decide) (hts _ kw_1554) (fun _ h9 => h9) rfl dX9_dropUnreached_26 ?_
        refine lv_iload hx hb dX9_dropUnreached_29 (lv_at hl 4 rfl) ?_
        obtain ⟨k_38, f_38, hk_38⟩ := gI_of a_r3_1
        refine va_zald hx hb hK hP k_38 2 hk_38 rfl (i_in2 (by first | (have q_f6_1 := Hide.out f6_1; have q_fq_b := Hide.out fq_b; have q_iv_19 := Hide.out iv_19; have q_iv_20 := Hide.out iv_20; have q_c_36 := i_nle c_36; have g_c2_14 := i_rg c2_14; have g_v2_17 := i_rg v2_17; have g_v4_18 := i_rg v4_18; omega) | (have q_f6_1 := Hide.out f6_1; have q_fq_b := Hide.out fq_b; have q_iv_19 := Hide.out iv_19; have q_iv_20 := Hide.out iv_20; have q_c_36 := i_nle c_36; have q_f19_14 := Hide.out f19_14; have q_f20_14 := Hide.out f20_14; have g_c2_14 := i_rg c2_14; have g_v2_17 := i_rg v2_17; have g_v4_18 := i_rg v4_18; omega) | (have q_f6_1 := Hide.out f6_1; have q_fq_b := Hide.out fq_b; have q_iv_19 := Hide.out iv_19; have q_iv_20 := Hide.out iv_20; have q_c_36 := i_nle c_36; have q_f19_14 := Hide.out f19_14; have q_f20_14 := Hide.out f20_14; have q_f1_14 := Hide.out f1_14; have q_f17_14 := Hide.out f17_14; have q_f18_14 := Hide.out f18_14; have g_c2_14 := i_rg c2_14; have g_v2_17 := i_rg v2_17; have g_v4_18 := i_rg v4_18; omega) | (have q_f6_1 := Hide.out f6_1; have q_fq_b := Hide.out fq_b; have q_iv_19 := Hide.out iv_19; have q_iv_20 := Hide.out iv_20; have q_c_36 := i_nle c_36; have q_f19_14 := Hide.out f19_14; have q_f20_14 := Hide.out f20_14; have q_f1_14 := Hide.out f1_14; have q_f17_14 := Hide.out f17_14; have q_f18_14 := Hide.out f18_14; have q_f3_14 := Hide.out f3_14; have g_c2_14 := i_rg c2_14; have g_v2_17 := i_rg v2_17; have g_v4_18 := i_rg v4_18; omega))) dX9_dropUnreached_31 ?_
        refine lv_topi (fun z_39 ez_39 => ?_)
        have J_62 : ∀ (v1_40 : Int32) (v2_42 : Int32) (ws_44 : va_W) (H : Heap) (locs : List Loc) (ls : Array Slot), v1_40 = 0 ∨ v1_40 = 1 → 0 ≤ v2_42.toInt ∧ v2_42.toInt ≤ v4_18.toInt + 1 → gE ws_21 ws_44 → gF [(7, 2), (7, 9)] [(7, 0), (7, 1), (7, 3), (7, 5), (7, 6), (7, 7), (7, 8), (8, 1)] none ws_21 ws_44 → Good g ws_44 → smR ws_44 h0 → KR ws ws_44 r0_1 → va_P (gD g) cl0 ws_44 H → va_D A ws_44 → va_S A s.heap H locs → lv_has ls 5 [(0, .ref h0), (1, .int v1_40), (2, .int v2_42), (3, .int c2_14), (4, .int v4_18)] → W p l e (headSpec (wt yX9_dropUnreached cX9_dropUnreached 5 (some .boolean)) ({ frames := 4, cells := 0, slots := 0, locals := 90 })).room s m ([.ref h0] : List Value).toArray below meth c H locs (0) (0) (MQ below (va_Qi (fun (r : Int32) (u9 : va_W) => (r = 0 ∨ r = 1) ∧ (smR u9 h0) ∧ (KS ws u9 h0)) (gQ1 g [(7, 2), (7, 9)] [(7, 0), (7, 1), (7, 3), (7, 5), (7, 6), (7, 7), (7, 8), (8, 1), (8, 3)] none A ws) A) ([.ref h0] : List Value).toArray s (0) (0) A) (F0 m 62 ls []) := by
          intro v1_40 v2_42 ws_44 H locs ls iv_41 iv_43 E_45 Fr_46 hG jx_62_0 jx_62_1 hP hD hS hl
          have hz_v1_40 := iv_41
          replace iv_43 := hide iv_43
          have aa_47 := a_r1_1
          have aa_48 := a_r2_1
          have aa_49 := a_r3_1
          have aa_50 := a_r4_1
          have aa_51 := a_r5_1
          have o_h0 := E_45.1 _ _ o_h0
          obtain ⟨z_52, ez_52⟩ : ∃ z : Int32, v4_18 + Int32.ofInt 1 = z := ⟨_, rfl⟩
          refine lv_iinc (v := z_52) (lv' := [(4, .int z_52), (0, .ref h0), (1, .int v1_40), (2, .int v2_42), (3, .int c2_14)]) hx hb dX9_dropUnreached_62 hl (k := 4) rfl ez_52 (by decide) rfl (fun ls hl => ?_)
          refine lv_goto (tgt := 19) hx hb dX9_dropUnreached_65 (by decide) ?_
          exact ih_19 _ (by first | (have q_iv_43 := Hide.out iv_43; obtain ⟨u_z_52, q_z_52⟩ := i_iz ez_52 (by decide) (by decide); have g_v1_40 := i_rg v1_40; have g_v2_42 := i_rg v2_42; have g_v4_18 := i_rg v4_18; have g_z_52 := i_rg z_52; have b_v1_40 := i_bit hz_v1_40; omega) | (have q_iv_43 := Hide.out iv_43; obtain ⟨u_z_52, q_z_52⟩ := i_iz ez_52 (by decide) (by decide); have q_iv_19 := Hide.out iv_19; have q_iv_20 := Hide.out iv_20; have q_c_36 := i_nle c_36; have g_c2_14 := i_rg c2_14; have g_v1_40 := i_rg v1_40; have g_v2_17 := i_rg v2_17; have g_v2_42 := i_rg v2_42; have g_v4_18 := i_rg v4_18; have g_z_52 := i_rg z_52; have b_v1_40 := i_bit hz_v1_40; omega) | (have q_iv_43 := Hide.out iv_43; obtain ⟨u_z_52, q_z_52⟩ := i_iz ez_52 (by decide) (by decide); have q_iv_19 := Hide.out iv_19; have q_iv_20 := Hide.out iv_20; have q_c_36 := i_nle c_36; have q_f19_14 := Hide.out f19_14; have q_f20_14 := Hide.out f20_14; have g_c2_14 := i_rg c2_14; have g_v1_40 := i_rg v1_40; have g_v2_17 := i_rg v2_17; have g_v2_42 := i_rg v2_42; have g_v4_18 := i_rg v4_18; have g_z_52 := i_rg z_52; have b_v1_40 := i_bit hz_v1_40; omega) | (have q_iv_43 := Hide.out iv_43; obtain ⟨u_z_52, q_z_52⟩ := i_iz ez_52 (by decide) (by decide); have q_iv_19 := Hide.out iv_19; have q_iv_20 := Hide.out iv_20; have q_c_36 := i_nle c_36; have q_f19_14 := Hide.out f19_14; have q_f20_14 := Hide.out f20_14; have q_f1_14 := Hide.out f1_14; have q_f17_14 := Hide.out f17_14; have q_f18_14 := Hide.out f18_14; have g_c2_14 := i_rg c2_14; have g_v1_40 := i_rg v1_40; have g_v2_17 := i_rg v2_17; have g_v2_42 := i_rg v2_42; have g_v4_18 := i_rg v4_18; have g_z_52 := i_rg z_52; have b_v1_40 := i_bit hz_v1_40; omega) | (have q_iv_43 := Hide.out iv_43; obtain ⟨u_z_52, q_z_52⟩ := i_iz ez_52 (by decide) (by decide); have q_iv_19 := Hide.out iv_19; have q_iv_20 := Hide.out iv_20; have q_c_36 := i_nle c_36; have q_f19_14 := Hide.out f19_14; have q_f20_14 := Hide.out f20_14; have q_f1_14 := Hide.out f1_14; have q_f17_14 := Hide.out f17_14; have q_f18_14 := Hide.out f18_14; have q_f3_14 := Hide.out f3_14; have g_c2_14 := i_rg c2_14; have g_v1_40 := i_rg v1_40; have g_v2_17 := i_rg v2_17; have g_v2_42 := i_rg v2_42; have g_v4_18 := i_rg v4_18; have g_z_52 := i_rg z_52; have b_v1_40 := i_bit hz_v1_40; omega)) (v1_40) (v2_42) (z_52) ws_44 H locs ls rfl hz_v1_40 (by first | (obtain ⟨u_z_52, q_z_52⟩ := i_iz ez_52 (by decide) (by decide); have g_v4_18 := i_rg v4_18; have g_z_52 := i_rg z_52; omega) | (obtain ⟨u_z_52, q_z_52⟩ := i_iz ez_52 (by decide) (by decide); have q_iv_19 := Hide.out iv_19; have q_iv_20 := Hide.out iv_20; have q_c_36 := i_nle c_36; have q_iv_43 := Hide.out iv_43; have g_c2_14 := i_rg c2_14; have g_v2_17 := i_rg v2_17; have g_v2_42 := i_rg v2_42; have g_v4_18 := i_rg v4_18; have g_z_52 := i_rg z_52; omega) | (obtain ⟨u_z_52, q_z_52⟩ := i_iz ez_52 (by decide) (by decide); have q_iv_19 := Hide.out iv_19; have q_iv_20 := Hide.out iv_20; have q_c_36 := i_nle c_36; have q_iv_43 := Hide.out iv_43; have q_f19_14 := Hide.out f19_14; have q_f20_14 := Hide.out f20_14; have g_c2_14 := i_rg c2_14; have g_v2_17 := i_rg v2_17; have g_v2_42 := i_rg v2_42; have g_v4_18 := i_rg v4_18; have g_z_52 := i_rg z_52; omega) | (obtain ⟨u_z_52, q_z_52⟩ := i_iz ez_52 (by decide) (by decide); have q_iv_19 := Hide.out iv_19; have q_iv_20 := Hide.out iv_20; have q_c_36 := i_nle c_36; have q_iv_43 := Hide.out iv_43; have q_f19_14 := Hide.out f19_14; have q_f20_14 := Hide.out f20_14; have q_f1_14 := Hide.out f1_14; have q_f17_14 := Hide.out f17_14; have q_f18_14 := Hide.out f18_14; have g_c2_14 := i_rg c2_14; have g_v2_17 := i_rg v2_17; have g_v2_42 := i_rg v2_42; have g_v4_18 := i_rg v4_18; have g_z_52 := i_rg z_52; omega) | (obtain ⟨u_z_52, q_z_52⟩ := i_iz ez_52 (by decide) (by decide); have q_iv_19 := Hide.out iv_19; have q_iv_20 := Hide.out iv_20; have q_c_36 := i_nle c_36; have q_iv_43 := Hide.out iv_43; have q_f19_14 := Hide.out f19_14; have q_f20_14 := Hide.out f20_14; have q_f1_14 := Hide.out f1_14; have q_f17_14 := Hide.out f17_14; have q_f18_14 := Hide.out f18_14; have q_f3_14 := Hide.out f3_14; have g_c2_14 := i_rg c2_14; have g_v2_17 := i_rg v2_17; have g_v2_42 := i_rg v2_42; have g_v4_18 := i_rg v4_18; have g_z_52 := i_rg z_52; omega)) (by first | (have q_f19_14 := Hide.out f19_14; have q_f20_14 := Hide.out f20_14; have q_c_36 := i_nle c_36; have q_iv_43 := Hide.out iv_43; obtain ⟨u_z_52, q_z_52⟩ := i_iz ez_52 (by decide) (by decide); have g_c2_14 := i_rg c2_14; have g_v1_40 := i_rg v1_40; have g_v2_42 := i_rg v2_42; have g_v4_18 := i_rg v4_18; have g_z_52 := i_rg z_52; have b_v1_40 := i_bit hz_v1_40; omega) | (have q_f19_14 := Hide.out f19_14; have q_f20_14 := Hide.out f20_14; have q_c_36 := i_nle c_36; have q_iv_43 := Hide.out iv_43; obtain ⟨u_z_52, q_z_52⟩ := i_iz ez_52 (by decide) (by decide); have q_f1_14 := Hide.out f1_14; have q_f17_14 := Hide.out f17_14; have q_f18_14 := Hide.out f18_14; have q_iv_19 := Hide.out iv_19; have q_iv_20 := Hide.out iv_20; have g_c2_14 := i_rg c2_14; have g_v1_40 := i_rg v1_40; have g_v2_17 := i_rg v2_17; have g_v2_42 := i_rg v2_42; have g_v4_18 := i_rg v4_18; have g_z_52 := i_rg z_52; have b_v1_40 := i_bit hz_v1_40; omega) | (have q_f19_14 := Hide.out f19_14; have q_f20_14 := Hide.out f20_14; have q_c_36 := i_nle c_36; have q_iv_43 := Hide.out iv_43; obtain ⟨u_z_52, q_z_52⟩ := i_iz ez_52 (by decide) (by decide); have q_f1_14 := Hide.out f1_14; have q_f17_14 := Hide.out f17_14; have q_f18_14 := Hide.out f18_14; have q_iv_19 := Hide.out iv_19; have q_iv_20 := Hide.out iv_20; have q_f3_14 := Hide.out f3_14; have g_c2_14 := i_rg c2_14; have g_v1_40 := i_rg v1_40; have g_v2_17 := i_rg v2_17; have g_v2_42 := i_rg v2_42; have g_v4_18 := i_rg v4_18; have g_z_52 := i_rg z_52; have b_v1_40 := i_bit hz_v1_40; omega)) ((E_22.tr E_45)) ((gF.tr Fr_23 Fr_46)) hG jx_62_0 jx_62_1 hP hD hS (lv_sub hl [1, 2, 3, 4, 0] rfl)
        refine lv_if_eq (tgt := 41) hx hb dX9_dropUnreached_32 (by decide) (fun c_53 => ?_) (fun c_53 => ?_)
        · refine lv_aload_n hx hb dX9_dropUnreached_41 rfl (lv_at hl 0 rfl) ?_
          refine va_get (D := gD g) (ci := 8) (v := .ref r0_1) (C := RX9) (T := TX9) (N := 6) hx hb hts inX9 hown hK hP k_1 hk_37 rfl 0 (by decide) (hts _ kw_1552) (fun _ h9 => h9) rfl dX9_dropUnreached_42 ?_
          refine lv_iload_n hx hb dX9_dropUnreached_45 rfl (lv_at hl 2 rfl) ?_
          refine lv_iconst (v := 1) hx hb dX9_dropUnreached_46 (by decide) ?_
          have tq_54 : rowC ws_21 r0_1 RW := smR_at hD hk_37 rfl jx_19_0
          have hFc := gfree hD hS hA
          obtain ⟨k_55, fs_55, hk_55⟩ := gC_of o_r0_1
          refine va_callv (va_runV (As := [.int v2_17, .int 1]) (rest := []) ⟨hx, hb, hml, hown, hts⟩ (m_X8_remove_y l g H.size ws_21 r0_1 (v2_17) (1) hG o_r0_1 tq_54 (by first | (have q_iv_20 := Hide.out iv_20; have g_v2_17 := i_rg v2_17; have g_v4_18 := i_rg v4_18; omega) | (have q_iv_20 := Hide.out iv_20; have q_iv_19 := Hide.out iv_19; have q_c_36 := i_nle c_36; have g_c2_14 := i_rg c2_14; have g_v2_17 := i_rg v2_17; have g_v4_18 := i_rg v4_18; omega) | (have q_iv_20 := Hide.out iv_20; have q_iv_19 := Hide.out iv_19; have q_c_36 := i_nle c_36; have q_f19_14 := Hide.out f19_14; have q_f20_14 := Hide.out f20_14; have g_c2_14 := i_rg c2_14; have g_v2_17 := i_rg v2_17; have g_v4_18 := i_rg v4_18; omega) | (have q_iv_20 := Hide.out iv_20; have q_iv_19 := Hide.out iv_19; have q_c_36 := i_nle c_36; have q_f19_14 := Hide.out f19_14; have q_f20_14 := Hide.out f20_14; have q_f1_14 := Hide.out f1_14; have q_f17_14 := Hide.out f17_14; have q_f18_14 := Hide.out f18_14; have g_c2_14 := i_rg c2_14; have g_v2_17 := i_rg v2_17; have g_v4_18 := i_rg v4_18; omega) | (have q_iv_20 := Hide.out iv_20; have q_iv_19 := Hide.out iv_19; have q_c_36 := i_nle c_36; have q_f19_14 := Hide.out f19_14; have q_f20_14 := Hide.out f20_14; have q_f1_14 := Hide.out f1_14; have q_f17_14 := Hide.out f17_14; have q_f18_14 := Hide.out f18_14; have q_f3_14 := Hide.out f3_14; have g_c2_14 := i_rg c2_14; have g_v2_17 := i_rg v2_17; have g_v4_18 := i_rg v4_18; omega)) (by have e1 : (1 : Int32).toInt = 1 := (by decide); omega)) (cwV 2 hts (gd_V kw_1555 kw_1516 kw_1517 kw_782 kw_1515) rfl rfl rfl (by decide +kernel) ⟨Nat.le_of_ble_eq_true rfl, Nat.le_of_ble_eq_true rfl⟩) ⟨gblind, va_recv hK hP (ci := 7) (q0 := k_55) rfl hk_55, fun U hU hW9 => gmk hU hW9 hP hK hD hex hE hS hFc⟩ rfl rfl hl.1 rfl (lv_room (Nat.le_of_ble_eq_true rfl)) dX9_dropUnreached_47 ⟨Nat.le_of_ble_eq_true rfl, Nat.le_of_ble_eq_true rfl⟩) hS (fun q _ h => hFc q h) hFc (fun  ws_56 t9 H1 locs ht9 hvm9 hw9 hB9 hz9 hk9 hS => ?_)
          obtain ⟨E_57, Fr_58, hG, hP1, hD1⟩ := hB9
          have hP : va_P (gD g) cl0 ws_56 H1 := by rw [← ht9]; exact hP1
          have hD : va_D A ws_56 := hD1.weaken (fun _ _ _ h => hFc _ h)
          obtain ⟨hw9, xp_61⟩ := hw9
          clear hP1 hD1 hz9 hk9 hvm9 ht9 hw9
          generalize H1 = H at hP hS ⊢
          have aa_62 := a_r1_1
          have aa_63 := a_r2_1
          have aa_64 := a_r3_1
          have aa_65 := a_r4_1
          have aa_66 := a_r5_1
          have o_h0 := E_57.1 _ _ o_h0
          have tq_67 : KR ws ws_56 r0_1 := KR.tr jx_19_1 (KR_s Fr_58)
          obtain ⟨fs9, hk_68, hq_68⟩ := ((gF.a (F' := [(7, 2), (7, 9)]) Fr_58 (fun _ h => h))) _ _ _ hk_37
          refine opn_X9 hG hk_68 (fun r0_68 r1_68 n1_68 r2_68 n2_68 r3_68 n3_68 r4_68 n4_68 r5_68 n5_68 hf9 o_r0_68 a_r1_68 f2_68 a_r2_68 f4_68 a_r3_68 f6_68 a_r4_68 f8_68 a_r5_68 f10_68 f11_68 => ?_)
          subst hf9
          obtain rfl := fe_r (hq_68 0 (by decide))
          have o_r0_1 := o_r0_68
          obtain rfl := fe_r (hq_68 1 (by decide))
          have hn9 := gI_n hD ((E_57).1 _ _ aa_62) a_r1_68
          subst hn9
          have a_r1_1 := a_r1_68
          obtain rfl := fe_r (hq_68 2 (by decide))
          have hn9 := gI_n hD ((E_57).1 _ _ aa_63) a_r2_68
          subst hn9
          have a_r2_1 := a_r2_68
          obtain rfl := fe_r (hq_68 3 (by decide))
          have hn9 := gI_n hD ((E_57).1 _ _ aa_64) a_r3_68
          subst hn9
          have a_r3_1 := a_r3_68
          obtain rfl := fe_r (hq_68 4 (by decide))
          have hn9 := gI_n hD ((E_57).1 _ _ aa_65) a_r4_68
          subst hn9
          have a_r4_1 := a_r4_68
          obtain rfl := fe_r (hq_68 5 (by decide))
          have hn9 := gI_n hD ((E_57).1 _ _ aa_66) a_r5_68
          subst hn9
          have a_r5_1 := a_r5_68
          have tq_69 : smR ws_56 h0 := ⟨_, r0_1, _, hk_68, rfl, xp_61⟩
          refine lv_aload_n hx hb dX9_dropUnreached_50 rfl (lv_at hl 0 rfl) ?_
          refine va_get (D := gD g) (ci := 8) (v := .ref r1_1) (C := RX9) (T := TX9) (N := 6) hx hb hts inX9 hown hK hP k_1 hk_68 rfl 1 (by decide) (hts _ kw_1547) (fun _ h9 => h9) rfl dX9_dropUnreached_51 ?_
          refine lv_iconst (v := 1) hx hb dX9_dropUnreached_54 (by decide) ?_
          refine lv_dup2_11 hx hb dX9_dropUnreached_55 rfl rfl ?_
          obtain ⟨k_70, f_70, hk_70⟩ := gI_of a_r1_1
          refine va_iald hx hb hK hP k_70 1 hk_70 rfl (i_in2 (by have e1 : (1 : Int32).toInt = 1 := (by decide); have q_f2_1 := Hide.out f2_1; have q_f11_1 := Hide.out f11_1; omega)) dX9_dropUnreached_56 ?_
          refine lv_topi (fun z_71 ez_71 => ?_)
          refine lv_iconst (v := 1) hx hb dX9_dropUnreached_57 (by decide) ?_
          refine lv_iadd hx hb dX9_dropUnreached_58 ?_
          refine lv_topi (fun z_72 ez_72 => ?_)
          have hC9 : hol ws_56 r1_1 [(8, 1)] := (hol_u hG.u hk_68 (j := 1) rfl a_r1_1 (by decide))
          have hS9 : holS ws_56 r1_1 none := holS_n
          refine va_iast hx hb hK hP hD hS k_70 1 hk_70 rfl (i_in2 (by have e1 : (1 : Int32).toInt = 1 := (by decide); have q_f2_1 := Hide.out f2_1; have q_f11_1 := Hide.out f11_1; omega)) dX9_dropUnreached_59 (fun H locs hP hD hS => ?_)
          obtain ⟨ws_73, e_ws_73⟩ : ∃ z, z = ws_56.set k_70 (r1_1, .inl (g.cI, n1_1, .inl (upd f_70 (1 : Int32).toNatClampNeg z_72))) := ⟨_, rfl⟩
          have hP : va_P (gD g) cl0 ws_73 H := by rw [e_ws_73]; exact hP
          have hD : va_D A ws_73 := by rw [e_ws_73]; exact hD
          have E_74 : gE ws_56 ws_73 := gE_ari e_ws_73 hk_70
          have hG : Good g ws_73 := Good_arI e_ws_73 hk_70 hG
          have Fr_75 : gF [] [(8, 1)] none ws_56 ws_73 := gF_ar e_ws_73 hk_70 rfl hC9 hS9
          have hk_68 := gset_arO e_ws_73 hk_70 hk_68
          have o_h0 := E_74.1 _ _ o_h0
          have o_r0_1 := E_74.1 _ _ o_r0_1
          have a_r1_1 := E_74.1 _ _ a_r1_1
          have a_r2_1 := E_74.1 _ _ a_r2_1
          have a_r3_1 := E_74.1 _ _ a_r3_1
          have a_r4_1 := E_74.1 _ _ a_r4_1
          have a_r5_1 := E_74.1 _ _ a_r5_1
          refine lv_iconst (v := 1) hx hb dX9_dropUnreached_60 (by decide) ?_
          refine lv_istore_n (lv' := [(1, .int 1), (0, .ref h0), (2, .int v2_17), (3, .int c2_14), (4, .int v4_18)]) hx hb dX9_dropUnreached_61 rfl hl (by decide) rfl (fun ls hl => ?_)
          have tq_76 : smR ws_73 h0 := smR_mo (Fr_75) (by decide) (by decide) (by decide) (by decide) (by decide) (by decide) (by decide) (by decide) (by decide) tq_69
          have tq_77 : KR ws ws_73 r0_1 := KR_mo (Fr_75) (by decide) (by decide) (by decide) (by decide) (by decide) (by decide) (by decide) (by decide) tq_67
          exact J_62 (1) (v2_17) ws_73 H locs ls (Or.inr rfl) (by first | (have e1 : (1 : Int32).toInt = 1 := (by decide); have q_f19_14 := Hide.out f19_14; have q_f20_14 := Hide.out f20_14; have q_iv_19 := Hide.out iv_19; have q_iv_20 := Hide.out iv_20; have q_c_36 := i_nle c_36; have g_c2_14 := i_rg c2_14; have g_v2_17 := i_rg v2_17; have g_v4_18 := i_rg v4_18; omega) | (have e1 : (1 : Int32).toInt = 1 := (by decide); have q_f19_14 := Hide.out f19_14; have q_f20_14 := Hide.out f20_14; have q_iv_19 := Hide.out iv_19; have q_iv_20 := Hide.out iv_20; have q_c_36 := i_nle c_36; have q_f1_14 := Hide.out f1_14; have q_f17_14 := Hide.out f17_14; have q_f18_14 := Hide.out f18_14; have g_c2_14 := i_rg c2_14; have g_v2_17 := i_rg v2_17; have g_v4_18 := i_rg v4_18; omega) | (have e1 : (1 : Int32).toInt = 1 := (by decide); have q_f19_14 := Hide.out f19_14; have q_f20_14 := Hide.out f20_14; have q_iv_19 := Hide.out iv_19; have q_iv_20 := Hide.out iv_20; have q_c_36 := i_nle c_36; have q_f1_14 := Hide.out f1_14; have q_f17_14 := Hide.out f17_14; have q_f18_14 := Hide.out f18_14; have q_f3_14 := Hide.out f3_14; have g_c2_14 := i_rg c2_14; have g_v2_17 := i_rg v2_17; have g_v4_18 := i_rg v4_18; omega)) ((E_57.tr E_74)) ((gF.tr (gF.mo (F' := [(7, 2), (7, 9)]) (C' := [(7, 0), (7, 1), (7, 3), (7, 5), (7, 6), (7, 7), (7, 8), (8, 1)]) (S' := none) Fr_58 (fun _ h => h) (by decide) (Or.inl rfl)) (gF.mo (F' := [(7, 2), (7, 9)]) (C' := [(7, 0), (7, 1), (7, 3), (7, 5), (7, 6), (7, 7), (7, 8), (8, 1)]) (S' := none) Fr_75 (fun _ h => absurd h List.not_mem_nil) (by decide) (Or.inr rfl)))) hG tq_76 tq_77 hP hD hS (lv_sub hl [1, 0, 2, 3, 4] rfl)
        · obtain ⟨z_78, ez_78⟩ : ∃ z : Int32, v2_17 + Int32.ofInt 1 = z := ⟨_, rfl⟩
          refine lv_iinc (v := z_78) (lv' := [(2, .int z_78), (0, .ref h0), (1, .int v1_15), (3, .int c2_14), (4, .int v4_18)]) hx hb dX9_dropUnreached_35 hl (k := 2) rfl ez_78 (by decide) rfl (fun ls hl => ?_)
          refine lv_goto (tgt := 62) hx hb dX9_dropUnreached_38 (by decide) ?_
          exact J_62 (v1_15) (z_78) ws_21 H locs ls hz_v1_15 (by first | (have q_f19_14 := Hide.out f19_14; have q_f20_14 := Hide.out f20_14; have q_iv_19 := Hide.out iv_19; have q_iv_20 := Hide.out iv_20; have q_c_36 := i_nle c_36; obtain ⟨u_z_78, q_z_78⟩ := i_iz ez_78 (by decide) (by decide); have g_c2_14 := i_rg c2_14; have g_v1_15 := i_rg v1_15; have g_v2_17 := i_rg v2_17; have g_v4_18 := i_rg v4_18; have g_z_78 := i_rg z_78; have b_v1_15 := i_bit hz_v1_15; omega) | (have q_f19_14 := Hide.out f19_14; have q_f20_14 := Hide.out f20_14; have q_iv_19 := Hide.out iv_19; have q_iv_20 := Hide.out iv_20; have q_c_36 := i_nle c_36; obtain ⟨u_z_78, q_z_78⟩ := i_iz ez_78 (by decide) (by decide); have q_f1_14 := Hide.out f1_14; have q_f17_14 := Hide.out f17_14; have q_f18_14 := Hide.out f18_14; have g_c2_14 := i_rg c2_14; have g_v1_15 := i_rg v1_15; have g_v2_17 := i_rg v2_17; have g_v4_18 := i_rg v4_18; have g_z_78 := i_rg z_78; have b_v1_15 := i_bit hz_v1_15; omega) | (have q_f19_14 := Hide.out f19_14; have q_f20_14 := Hide.out f20_14; have q_iv_19 := Hide.out iv_19; have q_iv_20 := Hide.out iv_20; have q_c_36 := i_nle c_36; obtain ⟨u_z_78, q_z_78⟩ := i_iz ez_78 (by decide) (by decide); have q_f1_14 := Hide.out f1_14; have q_f17_14 := Hide.out f17_14; have q_f18_14 := Hide.out f18_14; have q_f3_14 := Hide.out f3_14; have g_c2_14 := i_rg c2_14; have g_v1_15 := i_rg v1_15; have g_v2_17 := i_rg v2_17; have g_v4_18 := i_rg v4_18; have g_z_78 := i_rg z_78; have b_v1_15 := i_bit hz_v1_15; omega)) (gE.rf) (gF.rf) hG jx_19_0 jx_19_1 hP hD hS (lv_sub hl [1, 2, 0, 3, 4] rfl)
  have tq_79 : smR ws_3 h0 := smR_mo (Fr_5) (by decide) (by decide) (by decide) (by decide) (by decide) (by decide) (by decide) (by decide) (by decide) tk0
  have tq_80 : KR ws ws_3 r0_1 := KR_mo (Fr_5) (by decide) (by decide) (by decide) (by decide) (by decide) (by decide) (by decide) (by decide) tq_2
  exact J_19 _ (0) (0) (0) ws_3 H locs ls rfl (Or.inl rfl) (by have e0 : (0 : Int32).toInt = 0 := (by decide); omega) (by first | (have e0 : (0 : Int32).toInt = 0 := (by decide); have q_f19_14 := Hide.out f19_14; have q_f20_14 := Hide.out f20_14; have g_c2_14 := i_rg c2_14; omega) | (have e0 : (0 : Int32).toInt = 0 := (by decide); have q_f19_14 := Hide.out f19_14; have q_f20_14 := Hide.out f20_14; have q_f1_14 := Hide.out f1_14; have q_f17_14 := Hide.out f17_14; have q_f18_14 := Hide.out f18_14; have g_c2_14 := i_rg c2_14; omega) | (have e0 : (0 : Int32).toInt = 0 := (by decide); have q_f19_14 := Hide.out f19_14; have q_f20_14 := Hide.out f20_14; have q_f1_14 := Hide.out f1_14; have q_f17_14 := Hide.out f17_14; have q_f18_14 := Hide.out f18_14; have q_f3_14 := Hide.out f3_14; have g_c2_14 := i_rg c2_14; omega)) (gE.rf) (gF.rf) hG tq_79 tq_80 hP hD hS (lv_sub hl [4, 3, 2, 1, 0] rfl)
set_option maxHeartbeats 4000000 in
set_option maxRecDepth 100000 in
theorem m_X9_goThrough_x (l : Launch) (g : Gm) (sz : Nat) (ws : va_W) (h0 : Nat) (x1 : Int32) (hG : Good g ws) (o_h0 : gC ws h0 8) (fp_a : gP ws h0 (fun fs => ∀ (rn n : Nat), fs[2]? = some (.ref rn) → gI ws rn g.cZ n → 1297 ≤ n)) (fp_b : gP ws h0 (fun fs => ∀ (rn n : Nat), fs[3]? = some (.ref rn) → gI ws rn g.cZ n → 1297 ≤ n)) (fp_d : gP ws h0 (fun fs => ∀ (rn n : Nat), fs[4]? = some (.ref rn) → gI ws rn g.cI n → 1297 ≤ n)) (fp_f : gP ws h0 (fun fs => ∀ (rn n : Nat), fs[5]? = some (.ref rn) → gI ws rn g.cI n → 1297 ≤ n)) (tk0 : smR ws h0) (pr : 0 ≤ x1.toInt ∧ x1.toInt ≤ 11) : Met l yX9_goThrough (wt yX9_goThrough cX9_goThrough 6 (some .boolean)) ({ frames := 5, cells := 0, slots := 0, locals := 120 }) (va_Pc [.ref h0, .int x1] (st_G g sz ws)) (va_Qi (fun (r : Int32) (u9 : va_W) => (r = 0 ∨ r = 1) ∧ (smR u9 h0) ∧ (KS ws u9 h0)) (gQ1 g [(7, 2), (7, 9)] [(7, 0), (7, 1), (7, 3), (7, 5), (7, 6), (7, 7), (7, 8), (8, 1), (8, 2), (8, 4)] none (va_A ws sz) ws) (va_A ws sz)) (0) (0) (va_A ws sz) := by
  refine Met.ofW (cc := cX9_goThrough) (maxL := 6) (ret := (some .boolean)) (by decide) rfl ?_
  intro p e s m args below meth c s₁ B hml hv
  obtain ⟨rfl, hsz, hP, hK, hD0, hex, hE⟩ := hv
  have hx := B.exec
  have hb := B.bytes
  have hr := B.returns
  have hts0 := atoms_spec (ws := wt yX9_goThrough cX9_goThrough 6 (some .boolean)) B.pre
  have hts : ∀ w ∈ tb, w.before _ s = true := fun w h => hts0 w (List.mem_cons_of_mem _ h)
  have hown : s.vm.findClass RX9 = some m.cls := findClass_of_methodNamed B.named
  subst hsz
  have hD := hD0.self (sz := s.heap.size)
  generalize hAe : va_A ws s.heap.size = A at hD hE ⊢
  have hA : ∀ q : Nat, s.heap.size ≤ q → A q := fun q h => by rw [← hAe]; exact Or.inr h
  have hS : va_S A s.heap s.heap [] := va_S.rf
  have hl := lv_entry ([.ref h0, .int x1]) (n := 6) (Nat.le_of_ble_eq_true rfl)
  rw [lg_entry_eq]
  generalize (lg_sl ([.ref h0, .int x1]) ++ List.replicate (6 - (lg_sl ([.ref h0, .int x1])).length) Slot.unset).toArray = ls at hl ⊢
  replace pr := hide pr
  have hl : lv_has ls 6 [(0, .ref h0), (1, .int x1)] := hl
  obtain ⟨k_1, fs9, hk_1⟩ := gC_of o_h0
  refine opn_X9 hG hk_1 (fun r0_1 r1_1 n1_1 r2_1 n2_1 r3_1 n3_1 r4_1 n4_1 r5_1 n5_1 hf9 o_r0_1 a_r1_1 f2_1 a_r2_1 f4_1 a_r3_1 f6_1 a_r4_1 f8_1 a_r5_1 f10_1 f11_1 => ?_)
  subst hf9
  have fq_a := fp_a _ _ _ hk_1 _ _ rfl a_r2_1
  replace fq_a := hide fq_a
  have fq_b := fp_b _ _ _ hk_1 _ _ rfl a_r3_1
  replace fq_b := hide fq_b
  have fq_d := fp_d _ _ _ hk_1 _ _ rfl a_r4_1
  replace fq_d := hide fq_d
  have fq_f := fp_f _ _ _ hk_1 _ _ rfl a_r5_1
  replace fq_f := hide fq_f
  have hkH9 := hk_1
  have hDH9 := hD
  have tq_2 : KR ws ws r0_1 := KR_rf
  refine lv_iconst (v := 0) hx hb dX9_goThrough_0 (by decide) ?_
  refine lv_istore_n (lv' := [(2, .int 0), (0, .ref h0), (1, .int x1)]) hx hb dX9_goThrough_1 rfl hl (by decide) rfl (fun ls hl => ?_)
  refine lv_iconst (v := 1) hx hb dX9_goThrough_2 (by decide) ?_
  refine lv_istore_n (lv' := [(3, .int 1), (2, .int 0), (0, .ref h0), (1, .int x1)]) hx hb dX9_goThrough_3 rfl hl (by decide) rfl (fun ls hl => ?_)
  refine lv_iconst (v := 0) hx hb dX9_goThrough_4 (by decide) ?_
  refine lv_istore (lv' := [(4, .int 0), (3, .int 1), (2, .int 0), (0, .ref h0), (1, .int x1)]) hx hb dX9_goThrough_5 hl (by decide) rfl (fun ls hl => ?_)
  refine lv_iconst (v := 0) hx hb dX9_goThrough_7 (by decide) ?_
  refine lv_istore (lv' := [(5, .int 0), (4, .int 0), (3, .int 1), (2, .int 0), (0, .ref h0), (1, .int x1)]) hx hb dX9_goThrough_8 hl (by decide) rfl (fun ls hl => ?_)
  have J_10 : ∀ (n9 : Nat) (v2_3 : Int32) (v3_5 : Int32) (v4_7 : Int32) (v5_10 : Int32) (ws_12 : va_W) (H : Heap) (locs : List Loc) (ls : Array Slot), (2147483647 - v5_10.toInt).toNat = n9 → v2_3 = 0 ∨ v2_3 = 1 → v3_5 = 0 ∨ v3_5 = 1 → 0 ≤ v4_7.toInt → 0 ≤ v4_7.toInt ∧ v4_7.toInt ≤ 1296 → 0 ≤ v5_10.toInt → gE ws ws_12 → gF [(7, 2), (7, 9)] [(7, 0), (7, 1), (7, 3), (7, 5), (7, 6), (7, 7), (7, 8), (8, 1), (8, 2), (8, 4)] none ws ws_12 → Good g ws_12 → smR ws_12 h0 → KR ws ws_12 r0_1 → va_P (gD g) cl0 ws_12 H → va_D A ws_12 → va_S A s.heap H locs → lv_has ls 6 [(0, .ref h0), (1, .int x1), (2, .int v2_3), (3, .int v3_5), (4, .int v4_7), (5, .int v5_10)] → W p l e (headSpec (wt yX9_goThrough cX9_goThrough 6 (some .boolean)) ({ frames := 5, cells := 0, slots := 0, locals := 120 })).room s m ([.ref h0, .int x1] : List Value).toArray below meth c H locs (0) (0) (MQ below (va_Qi (fun (r : Int32) (u9 : va_W) => (r = 0 ∨ r = 1) ∧ (smR u9 h0) ∧ (KS ws u9 h0)) (gQ1 g [(7, 2), (7, 9)] [(7, 0), (7, 1), (7, 3), (7, 5), (7, 6), (7, 7), (7, 8), (8, 1), (8, 2), (8, 4)] none A ws) A) ([.ref h0, .int x1] : List Value).toArray s (0) (0) A) (F0 m 10 ls []) := by
    intro n9
    induction n9 using Nat.strongRecOn with
    | ind n9 ih_10 =>
      intro v2_3 v3_5 v4_7 v5_10 ws_12 H locs ls hm9 iv_4 iv_6 iv_8 iv_9 iv_11 E_13 Fr_14 hG jx_10_0 jx_10_1 hP hD hS hl
      subst hm9
      have hz_v2_3 := iv_4
      have hz_v3_5 := iv_6
      replace iv_8 := hide iv_8
      replace iv_9 := hide iv_9
      replace iv_11 := hide iv_11
      have aa_15 := a_r1_1
      have aa_16 := a_r2_1
      have aa_17 := a_r3_1
      have aa_18 := a_r4_1
      have aa_19 := a_r5_1
      have o_h0 := E_13.1 _ _ o_h0
      refine lv_iload hx hb dX9_goThrough_10 (lv_at hl 4 rfl) ?_
      refine lv_aload_n hx hb dX9_goThrough_12 rfl (lv_at hl 0 rfl) ?_
      obtain ⟨fs9, hk_20, hq_20⟩ := ((gF.a (F' := [(7, 2), (7, 9)]) Fr_14 (fun _ h => h))) _ _ _ hk_1
      refine opn_X9 hG hk_20 (fun r0_20 r1_20 n1_20 r2_20 n2_20 r3_20 n3_20 r4_20 n4_20 r5_20 n5_20 hf9 o_r0_20 a_r1_20 f2_20 a_r2_20 f4_20 a_r3_20 f6_20 a_r4_20 f8_20 a_r5_20 f10_20 f11_20 => ?_)
      subst hf9
      obtain rfl := fe_r (hq_20 0 (by decide))
      have o_r0_1 := o_r0_20
      obtain rfl := fe_r (hq_20 1 (by decide))
      have hn9 := gI_n hD ((E_13).1 _ _ aa_15) a_r1_20
      subst hn9
      have a_r1_1 := a_r1_20
      obtain rfl := fe_r (hq_20 2 (by decide))
      have hn9 := gI_n hD ((E_13).1 _ _ aa_16) a_r2_20
      subst hn9
      have a_r2_1 := a_r2_20
      obtain rfl := fe_r (hq_20 3 (by decide))
      have hn9 := gI_n hD ((E_13).1 _ _ aa_17) a_r3_20
      subst hn9
      have a_r3_1 := a_r3_20
      obtain rfl := fe_r (hq_20 4 (by decide))
      have hn9 := gI_n hD ((E_13).1 _ _ aa_18) a_r4_20
      subst hn9
      have a_r4_1 := a_r4_20
      obtain rfl := fe_r (hq_20 5 (by decide))
      have hn9 := gI_n hD ((E_13).1 _ _ aa_19) a_r5_20
      subst hn9
      have a_r5_1 := a_r5_20
      refine va_get (D := gD g) (ci := 8) (v := .ref r0_1) (C := RX9) (T := TX9) (N := 6) hx hb hts inX9 hown hK hP k_1 hk_20 rfl 0 (by decide) (hts _ kw_1552) (fun _ h9 => h9) rfl dX9_goThrough_13 ?_
      obtain ⟨k_21, fs9, hk_21⟩ := gC_of o_r0_1
      refine opn_X8 hG hk_21 (fun r0_21 n0_21 r1_21 n1_21 c2_21 r3_21 n3_21 c4_21 r5_21 n5_21 r6_21 n6_21 r7_21 n7_21 r8_21 n8_21 c9_21 c10_21 c11_21 v12_21 v13_21 v14_21 hf9 a_r0_21 f1_21 a_r1_21 f3_21 a_r3_21 f5_21 a_r5_21 f7_21 a_r6_21 f9_21 a_r7_21 f11_21 a_r8_21 f13_21 o_v12_21 o_v13_21 o_v14_21 f17_21 f18_21 f19_21 f20_21 f21_21 f22_21 f23_21 f24_21 f25_21 f26_21 f27_21 f28_21 f29_21 => ?_)
      subst hf9
      refine va_get (D := gD g) (ci := 7) (v := .int c2_21) (C := RX8) (T := TX8) (N := 15) hx hb hts inX8 hown hK hP k_21 hk_21 rfl 2 (by decide) (hts _ kw_1553) (fun _ h9 => h9) rfl dX9_goThrough_16 ?_
      have J_104 : ∀  (H : Heap) (locs : List Loc) (ls : Array Slot), va_P (gD g) cl0 ws_12 H → va_D A ws_12 → va_S A s.heap H locs → lv_has ls 6 [(2, .int v2_3)] → W p l e (headSpec (wt yX9_goThrough cX9_goThrough 6 (some .boolean)) ({ frames := 5, cells := 0, slots := 0, locals := 120 })).room s m ([.ref h0, .int x1] : List Value).toArray below meth c H locs (0) (0) (MQ below (va_Qi (fun (r : Int32) (u9 : va_W) => (r = 0 ∨ r = 1) ∧ (smR u9 h0) ∧ (KS ws u9 h0)) (gQ1 g [(7, 2), (7, 9)] [(7, 0), (7, 1), (7, 3), (7, 5), (7, 6), (7, 7), (7, 8), (8, 1), (8, 2), (8, 4)] none A ws) A) ([.ref h0, .int x1] : List Value).toArray s (0) (0) A) (F0 m 104 ls []) := by
        intro  H locs ls  hP hD hS hl
        refine lv_iload_n hx hb dX9_goThrough_104 rfl (lv_at hl 0 rfl) ?_
        refine W.widen (k := 0) (n := 0) (Nat.le_of_ble_eq_true rfl) (Nat.le_of_ble_eq_true rfl) ?_
        exact W.zret (v := v2_3) hx hb hr (nz hz_v2_3) (fun t9 ht9 hW9 => ⟨⟨_, ws_12, rfl, ⟨hz_v2_3, jx_10_0, KS_of hDH9 hkH9 rfl jx_10_1⟩, ⟨E_13, Fr_14, hG, by rw [ht9]; exact hP, hD⟩⟩, hS.F ht9⟩) hS.2.2 dX9_goThrough_105
      refine lv_icmp_ge (tgt := 104) hx hb dX9_goThrough_19 (by decide) (fun c_24 => ?_) (fun c_24 => ?_)
      · exact J_104  H locs ls  hP hD hS (lv_sub hl [2] rfl)
      · refine lv_iload hx hb dX9_goThrough_22 (lv_at hl 5 rfl) ?_
        refine lv_ldc hx hb hown (hts _ kw_1561) dX9_goThrough_24 ?_
        refine lv_icmp_ge (tgt := 104) hx hb dX9_goThrough_26 (by decide) (fun c_25 => ?_) (fun c_25 => ?_)
        · exact J_104  H locs ls  hP hD hS (lv_sub hl [2] rfl)
        · refine lv_iload_n hx hb dX9_goThrough_29 rfl (lv_at hl 3 rfl) ?_
          have J_49 : ∀ (ws_26 : va_W) (H : Heap) (locs : List Loc) (ls : Array Slot), gE ws_12 ws_26 → gF [] [(8, 4)] none ws_12 ws_26 → Good g ws_26 → smR ws_26 h0 → KR ws ws_26 r0_1 → va_P (gD g) cl0 ws_26 H → va_D A ws_26 → va_S A s.heap H locs → lv_has ls 6 [(0, .ref h0), (1, .int x1), (2, .int v2_3), (3, .int v3_5), (4, .int v4_7), (5, .int v5_10)] → W p l e (headSpec (wt yX9_goThrough cX9_goThrough 6 (some .boolean)) ({ frames := 5, cells := 0, slots := 0, locals := 120 })).room s m ([.ref h0, .int x1] : List Value).toArray below meth c H locs (0) (0) (MQ below (va_Qi (fun (r : Int32) (u9 : va_W) => (r = 0 ∨ r = 1) ∧ (smR u9 h0) ∧ (KS ws u9 h0)) (gQ1 g [(7, 2), (7, 9)] [(7, 0), (7, 1), (7, 3), (7, 5), (7, 6), (7, 7), (7, 8), (8, 1), (8, 2), (8, 4)] none A ws) A) ([.ref h0, .int x1] : List Value).toArray s (0) (0) A) (F0 m 49 ls []) := by
            intro ws_26 H locs ls  E_27 Fr_28 hG jx_49_0 jx_49_1 hP hD hS hl
            have aa_29 := a_r1_1
            have aa_30 := a_r2_1
            have aa_31 := a_r3_1
            have aa_32 := a_r4_1
            have aa_33 := a_r5_1
            have aa_34 := a_r0_21
            have aa_35 := a_r1_21
            have aa_36 := a_r3_21
            have aa_37 := a_r5_21
            have aa_38 := a_r6_21
            have aa_39 := a_r7_21
            have aa_40 := a_r8_21
            have o_h0 := E_27.1 _ _ o_h0
            refine lv_iload_n hx hb dX9_goThrough_49 rfl (lv_at hl 3 rfl) ?_
            have J_68 : ∀ (ws_41 : va_W) (H : Heap) (locs : List Loc) (ls : Array Slot), gE ws_26 ws_41 → gF [] [(8, 2)] none ws_26 ws_41 → Good g ws_41 → smR ws_41 h0 → KR ws ws_41 r0_1 → va_P (gD g) cl0 ws_41 H → va_D A ws_41 → va_S A s.heap H locs → lv_has ls 6 [(0, .ref h0), (1, .int x1), (2, .int v2_3), (4, .int v4_7), (5, .int v5_10)] → W p l e (headSpec (wt yX9_goThrough cX9_goThrough 6 (some .boolean)) ({ frames := 5, cells := 0, slots := 0, locals := 120 })).room s m ([.ref h0, .int x1] : List Value).toArray below meth c H locs (0) (0) (MQ below (va_Qi (fun (r : Int32) (u9 : va_W) => (r = 0 ∨ r = 1) ∧ (smR u9 h0) ∧ (KS ws u9 h0)) (gQ1 g [(7, 2), (7, 9)] [(7, 0), (7, 1), (7, 3), (7, 5), (7, 6), (7, 7), (7, 8), (8, 1), (8, 2), (8, 4)] none A ws) A) ([.ref h0, .int x1] : List Value).toArray s (0) (0) A) (F0 m 68 ls []) := by
              intro ws_41 H locs ls  E_42 Fr_43 hG jx_68_0 jx_68_1 hP hD hS hl
              have o_h0 := E_42.1 _ _ o_h0
              refine lv_aload_n hx hb dX9_goThrough_68 rfl (lv_at hl 0 rfl) ?_
              refine lv_iload_n hx hb dX9_goThrough_69 rfl (lv_at hl 1 rfl) ?_
              refine lv_iload hx hb dX9_goThrough_70 (lv_at hl 3 rfl) ?_
              obtain ⟨fs9, hk_44, hq_44⟩ := ((gA.tr (gF.a (F' := []) Fr_28 (fun _ h => h)) (gF.a (F' := []) Fr_43 (fun _ h => h)))) _ _ _ hk_20
              refine opn_X9 hG hk_44 (fun r0_44 r1_44 n1_44 r2_44 n2_44 r3_44 n3_44 r4_44 n4_44 r5_44 n5_44 hf9 o_r0_44 a_r1_44 f2_44 a_r2_44 f4_44 a_r3_44 f6_44 a_r4_44 f8_44 a_r5_44 f10_44 f11_44 => ?_)
              subst hf9
              obtain rfl := fe_r (hq_44 0 (by decide))
              have o_r0_1 := o_r0_44
              obtain rfl := fe_r (hq_44 1 (by decide))
              have hn9 := gI_n hD (((E_27.tr E_42)).1 _ _ aa_29) a_r1_44
              subst hn9
              have a_r1_1 := a_r1_44
              obtain rfl := fe_r (hq_44 2 (by decide))
              have hn9 := gI_n hD (((E_27.tr E_42)).1 _ _ aa_30) a_r2_44
              subst hn9
              have a_r2_1 := a_r2_44
              obtain rfl := fe_r (hq_44 3 (by decide))
              have hn9 := gI_n hD (((E_27.tr E_42)).1 _ _ aa_31) a_r3_44
              subst hn9
              have a_r3_1 := a_r3_44
              obtain rfl := fe_r (hq_44 4 (by decide))
              have hn9 := gI_n hD (((E_27.tr E_42)).1 _ _ aa_32) a_r4_44
              subst hn9
              have a_r4_1 := a_r4_44
              obtain rfl := fe_r (hq_44 5 (by decide))
              have hn9 := gI_n hD (((E_27.tr E_42)).1 _ _ aa_33) a_r5_44
              subst hn9
              have a_r5_1 := a_r5_44
              have hkQ9 := hk_44
              have hFc := gfree hD hS hA
              refine va_calli (va_runV (As := [.int x1, .int v4_7]) (rest := []) ⟨hx, hb, hml, hown, hts⟩ (m_X9_isDone_x l g H.size ws_41 h0 (x1) (v4_7) hG o_h0 (gP_of hD hk_44 (fun p90 q90 e90 g90 => by cases e90; have z90 := gI_n hD a_r2_1 g90; subst z90; exact (by have q_f4_1 := Hide.out f4_1; have q_fq_a := Hide.out fq_a; omega))) (gP_of hD hk_44 (fun p90 q90 e90 g90 => by cases e90; have z90 := gI_n hD a_r3_1 g90; subst z90; exact (by have q_f6_1 := Hide.out f6_1; have q_fq_b := Hide.out fq_b; omega))) (gP_of hD hk_44 (fun p90 q90 e90 g90 => by cases e90; have z90 := gI_n hD a_r4_1 g90; subst z90; exact (by have q_f8_1 := Hide.out f8_1; have q_fq_d := Hide.out fq_d; omega))) (gP_of hD hk_44 (fun p90 q90 e90 g90 => by cases e90; have z90 := gI_n hD a_r5_1 g90; subst z90; exact (by have q_f10_1 := Hide.out f10_1; have q_fq_f := Hide.out fq_f; omega))) jx_68_0 (by first | (have q_iv_8 := Hide.out iv_8; have q_iv_9 := Hide.out iv_9; have q_c_24 := i_nle c_24; have g_c2_21 := i_rg c2_21; have g_v4_7 := i_rg v4_7; omega) | (have q_iv_8 := Hide.out iv_8; have q_iv_9 := Hide.out iv_9; have q_c_24 := i_nle c_24; have q_f19_21 := Hide.out f19_21; have q_f20_21 := Hide.out f20_21; have g_c2_21 := i_rg c2_21; have g_v4_7 := i_rg v4_7; omega) | (have q_iv_8 := Hide.out iv_8; have q_iv_9 := Hide.out iv_9; have q_c_24 := i_nle c_24; have q_f19_21 := Hide.out f19_21; have q_f20_21 := Hide.out f20_21; have q_f1_21 := Hide.out f1_21; have q_f17_21 := Hide.out f17_21; have q_f18_21 := Hide.out f18_21; have g_c2_21 := i_rg c2_21; have g_v4_7 := i_rg v4_7; omega) | (have q_iv_8 := Hide.out iv_8; have q_iv_9 := Hide.out iv_9; have q_c_24 := i_nle c_24; have q_f19_21 := Hide.out f19_21; have q_f20_21 := Hide.out f20_21; have q_f1_21 := Hide.out f1_21; have q_f17_21 := Hide.out f17_21; have q_f18_21 := Hide.out f18_21; have q_f3_21 := Hide.out f3_21; have g_c2_21 := i_rg c2_21; have g_v4_7 := i_rg v4_7; omega)) (by first | (have q_iv_8 := Hide.out iv_8; have q_iv_9 := Hide.out iv_9; have q_c_24 := i_nle c_24; have g_c2_21 := i_rg c2_21; have g_v4_7 := i_rg v4_7; omega) | (have q_iv_8 := Hide.out iv_8; have q_iv_9 := Hide.out iv_9; have q_c_24 := i_nle c_24; have q_f19_21 := Hide.out f19_21; have q_f20_21 := Hide.out f20_21; have g_c2_21 := i_rg c2_21; have g_v4_7 := i_rg v4_7; omega) | (have q_iv_8 := Hide.out iv_8; have q_iv_9 := Hide.out iv_9; have q_c_24 := i_nle c_24; have q_f19_21 := Hide.out f19_21; have q_f20_21 := Hide.out f20_21; have q_f1_21 := Hide.out f1_21; have q_f17_21 := Hide.out f17_21; have q_f18_21 := Hide.out f18_21; have g_c2_21 := i_rg c2_21; have g_v4_7 := i_rg v4_7; omega) | (have q_iv_8 := Hide.out iv_8; have q_iv_9 := Hide.out iv_9; have q_c_24 := i_nle c_24; have q_f19_21 := Hide.out f19_21; have q_f20_21 := Hide.out f20_21; have q_f1_21 := Hide.out f1_21; have q_f17_21 := Hide.out f17_21; have q_f18_21 := Hide.out f18_21; have q_f3_21 := Hide.out f3_21; have g_c2_21 := i_rg c2_21; have g_v4_7 := i_rg v4_7; omega))) (cwV 2 hts (gd_V kw_1586 kw_1602 kw_1603 kw_404 kw_1601) rfl rfl rfl (by decide +kernel) ⟨Nat.le_of_ble_eq_true rfl, Nat.le_of_ble_eq_true rfl⟩) ⟨gblind, va_recv hK hP (ci := 8) (q0 := k_1) rfl hk_44, fun U hU hW9 => gmk hU hW9 hP hK hD hex hE hS hFc⟩ rfl rfl hl.1 rfl (lv_room (Nat.le_of_ble_eq_true rfl)) dX9_goThrough_72 ⟨Nat.le_of_ble_eq_true rfl, Nat.le_of_ble_eq_true rfl⟩) hS (fun q _ h => hFc q h) hFc (fun r_45 ws_46 t9 H1 locs ht9 hvm9 hw9 hB9 hz9 hk9 hS => ?_)
              obtain ⟨E_47, Fr_48, hG, hP1, hD1⟩ := hB9
              have hP : va_P (gD g) cl0 ws_46 H1 := by rw [← ht9]; exact hP1
              have hD : va_D A ws_46 := hD1.weaken (fun _ _ _ h => hFc _ h)
              obtain ⟨hw9, xp_51, xp_52⟩ := hw9
              have hz_r_45 : r_45 = 0 ∨ r_45 = 1 := hw9
              clear hP1 hD1 hz9 hk9 hvm9 ht9 hw9
              generalize H1 = H at hP hS ⊢
              have aa_53 := a_r1_1
              have aa_54 := a_r2_1
              have aa_55 := a_r3_1
              have aa_56 := a_r4_1
              have aa_57 := a_r5_1
              have o_h0 := E_47.1 _ _ o_h0
              have tq_58 : KR ws ws_46 r0_1 := KR.tr jx_68_1 (xp_52 _ _ _ hkQ9 rfl)
              refine lv_istore_n (lv' := [(3, .int r_45), (0, .ref h0), (1, .int x1), (2, .int v2_3), (4, .int v4_7), (5, .int v5_10)]) hx hb dX9_goThrough_75 rfl hl (by decide) rfl (fun ls hl => ?_)
              refine lv_iload_n hx hb dX9_goThrough_76 rfl (lv_at hl 0 rfl) ?_
              have J_98 : ∀ (v2_59 : Int32) (v4_61 : Int32) (ws_63 : va_W) (H : Heap) (locs : List Loc) (ls : Array Slot), v2_59 = 0 ∨ v2_59 = 1 → 0 ≤ v4_61.toInt ∧ v4_61.toInt ≤ 1296 → gE ws_46 ws_63 → gF [] [(8, 1)] none ws_46 ws_63 → Good g ws_63 → smR ws_63 h0 → KR ws ws_63 r0_1 → va_P (gD g) cl0 ws_63 H → va_D A ws_63 → va_S A s.heap H locs → lv_has ls 6 [(0, .ref h0), (1, .int x1), (2, .int v2_59), (3, .int r_45), (4, .int v4_61), (5, .int v5_10)] → W p l e (headSpec (wt yX9_goThrough cX9_goThrough 6 (some .boolean)) ({ frames := 5, cells := 0, slots := 0, locals := 120 })).room s m ([.ref h0, .int x1] : List Value).toArray below meth c H locs (0) (0) (MQ below (va_Qi (fun (r : Int32) (u9 : va_W) => (r = 0 ∨ r = 1) ∧ (smR u9 h0) ∧ (KS ws u9 h0)) (gQ1 g [(7, 2), (7, 9)] [(7, 0), (7, 1), (7, 3), (7, 5), (7, 6), (7, 7), (7, 8), (8, 1), (8, 2), (8, 4)] none A ws) A) ([.ref h0, .int x1] : List Value).toArray s (0) (0) A) (F0 m 98 ls []) := by
                intro v2_59 v4_61 ws_63 H locs ls iv_60 iv_62 E_64 Fr_65 hG jx_98_0 jx_98_1 hP hD hS hl
                have hz_v2_59 := iv_60
                replace iv_62 := hide iv_62
                have o_h0 := E_64.1 _ _ o_h0
                obtain ⟨z_66, ez_66⟩ : ∃ z : Int32, v5_10 + Int32.ofInt 1 = z := ⟨_, rfl⟩
                refine lv_iinc (v := z_66) (lv' := [(5, .int z_66), (0, .ref h0), (1, .int x1), (2, .int v2_59), (3, .int r_45), (4, .int v4_61)]) hx hb dX9_goThrough_98 hl (k := 5) rfl ez_66 (by decide) rfl (fun ls hl => ?_)
                refine lv_goto (tgt := 10) hx hb dX9_goThrough_101 (by decide) ?_
                exact ih_10 _ (by first | (have q_iv_62 := Hide.out iv_62; obtain ⟨u_z_66, q_z_66⟩ := i_iz ez_66 (by decide) (by decide); have g_r_45 := i_rg r_45; have g_v2_59 := i_rg v2_59; have g_v4_61 := i_rg v4_61; have g_v5_10 := i_rg v5_10; have g_z_66 := i_rg z_66; have b_r_45 := i_bit hz_r_45; have b_v2_59 := i_bit hz_v2_59; omega) | (have e1000000 : (1000000 : Int32).toInt = 1000000 := (by decide); have q_iv_62 := Hide.out iv_62; obtain ⟨u_z_66, q_z_66⟩ := i_iz ez_66 (by decide) (by decide); have q_iv_11 := Hide.out iv_11; have q_c_25 := i_nle c_25; have g_r_45 := i_rg r_45; have g_v2_59 := i_rg v2_59; have g_v4_61 := i_rg v4_61; have g_v5_10 := i_rg v5_10; have g_z_66 := i_rg z_66; have b_r_45 := i_bit hz_r_45; have b_v2_59 := i_bit hz_v2_59; omega)) (v2_59) (r_45) (v4_61) (z_66) ws_63 H locs ls rfl hz_v2_59 hz_r_45 (by have q_iv_62 := Hide.out iv_62; have g_v4_61 := i_rg v4_61; omega) (by have q_iv_62 := Hide.out iv_62; have g_v4_61 := i_rg v4_61; omega) (by first | (obtain ⟨u_z_66, q_z_66⟩ := i_iz ez_66 (by decide) (by decide); have g_v5_10 := i_rg v5_10; have g_z_66 := i_rg z_66; omega) | (have e1000000 : (1000000 : Int32).toInt = 1000000 := (by decide); obtain ⟨u_z_66, q_z_66⟩ := i_iz ez_66 (by decide) (by decide); have q_iv_11 := Hide.out iv_11; have q_c_25 := i_nle c_25; have g_v5_10 := i_rg v5_10; have g_z_66 := i_rg z_66; omega)) ((E_13.tr (E_27.tr (E_42.tr (E_47.tr E_64))))) ((gF.tr Fr_14 (gF.tr (gF.mo (F' := [(7, 2), (7, 9)]) (C' := [(7, 0), (7, 1), (7, 3), (7, 5), (7, 6), (7, 7), (7, 8), (8, 1), (8, 2), (8, 4)]) (S' := none) Fr_28 (fun _ h => absurd h List.not_mem_nil) (by decide) (Or.inr rfl)) (gF.tr (gF.mo (F' := [(7, 2), (7, 9)]) (C' := [(7, 0), (7, 1), (7, 3), (7, 5), (7, 6), (7, 7), (7, 8), (8, 1), (8, 2), (8, 4)]) (S' := none) Fr_43 (fun _ h => absurd h List.not_mem_nil) (by decide) (Or.inr rfl)) (gF.tr (gF.mo (F' := [(7, 2), (7, 9)]) (C' := [(7, 0), (7, 1), (7, 3), (7, 5), (7, 6), (7, 7), (7, 8), (8, 1), (8, 2), (8, 4)]) (S' := none) Fr_48 (fun _ h => h) (by decide) (Or.inr rfl)) (gF.mo (F' := [(7, 2), (7, 9)]) (C' := [(7, 0), (7, 1), (7, 3), (7, 5), (7, 6), (7, 7), (7, 8), (8, 1), (8, 2), (8, 4)]) (S' := none) Fr_65 (fun _ h => absurd h List.not_mem_nil) (by decide) (Or.inr rfl))))))) hG jx_98_0 jx_98_1 hP hD hS (lv_sub hl [1, 2, 3, 4, 5, 0] rfl)
              refine lv_if_eq (tgt := 95) hx hb dX9_goThrough_77 (by decide) (fun c_67 => ?_) (fun c_67 => ?_)
              · obtain ⟨z_68, ez_68⟩ : ∃ z : Int32, v4_7 + Int32.ofInt 1 = z := ⟨_, rfl⟩
                refine lv_iinc (v := z_68) (lv' := [(4, .int z_68), (3, .int r_45), (0, .ref h0), (1, .int x1), (2, .int v2_3), (5, .int v5_10)]) hx hb dX9_goThrough_95 hl (k := 4) rfl ez_68 (by decide) rfl (fun ls hl => ?_)
                exact J_98 (v2_3) (z_68) ws_46 H locs ls hz_v2_3 (by first | (obtain ⟨u_z_68, q_z_68⟩ := i_iz ez_68 (by decide) (by decide); have g_v4_7 := i_rg v4_7; have g_z_68 := i_rg z_68; omega) | (obtain ⟨u_z_68, q_z_68⟩ := i_iz ez_68 (by decide) (by decide); have q_iv_8 := Hide.out iv_8; have q_iv_9 := Hide.out iv_9; have q_c_24 := i_nle c_24; have g_c2_21 := i_rg c2_21; have g_v4_7 := i_rg v4_7; have g_z_68 := i_rg z_68; omega) | (obtain ⟨u_z_68, q_z_68⟩ := i_iz ez_68 (by decide) (by decide); have q_iv_8 := Hide.out iv_8; have q_iv_9 := Hide.out iv_9; have q_c_24 := i_nle c_24; have q_f19_21 := Hide.out f19_21; have q_f20_21 := Hide.out f20_21; have g_c2_21 := i_rg c2_21; have g_v4_7 := i_rg v4_7; have g_z_68 := i_rg z_68; omega) | (obtain ⟨u_z_68, q_z_68⟩ := i_iz ez_68 (by decide) (by decide); have q_iv_8 := Hide.out iv_8; have q_iv_9 := Hide.out iv_9; have q_c_24 := i_nle c_24; have q_f19_21 := Hide.out f19_21; have q_f20_21 := Hide.out f20_21; have q_f1_21 := Hide.out f1_21; have q_f17_21 := Hide.out f17_21; have q_f18_21 := Hide.out f18_21; have g_c2_21 := i_rg c2_21; have g_v4_7 := i_rg v4_7; have g_z_68 := i_rg z_68; omega) | (obtain ⟨u_z_68, q_z_68⟩ := i_iz ez_68 (by decide) (by decide); have q_iv_8 := Hide.out iv_8; have q_iv_9 := Hide.out iv_9; have q_c_24 := i_nle c_24; have q_f19_21 := Hide.out f19_21; have q_f20_21 := Hide.out f20_21; have q_f1_21 := Hide.out f1_21; have q_f17_21 := Hide.out f17_21; have q_f18_21 := Hide.out f18_21; have q_f3_21 := Hide.out f3_21; have g_c2_21 := i_rg c2_21; have g_v4_7 := i_rg v4_7; have g_z_68 := i_rg z_68; omega)) (gE.rf) (gF.rf) hG xp_51 tq_58 hP hD hS (lv_sub hl [2, 3, 4, 1, 0, 5] rfl)
              · refine lv_aload_n hx hb dX9_goThrough_80 rfl (lv_at hl 1 rfl) ?_
                obtain ⟨fs9, hk_69, hq_69⟩ := ((gF.a (F' := [(7, 2), (7, 9)]) Fr_48 (fun _ h => h))) _ _ _ hk_44
                refine opn_X9 hG hk_69 (fun r0_69 r1_69 n1_69 r2_69 n2_69 r3_69 n3_69 r4_69 n4_69 r5_69 n5_69 hf9 o_r0_69 a_r1_69 f2_69 a_r2_69 f4_69 a_r3_69 f6_69 a_r4_69 f8_69 a_r5_69 f10_69 f11_69 => ?_)
                subst hf9
                obtain rfl := fe_r (hq_69 0 (by decide))
                have o_r0_1 := o_r0_69
                obtain rfl := fe_r (hq_69 1 (by decide))
                have hn9 := gI_n hD ((E_47).1 _ _ aa_53) a_r1_69
                subst hn9
                have a_r1_1 := a_r1_69
                obtain rfl := fe_r (hq_69 2 (by decide))
                have hn9 := gI_n hD ((E_47).1 _ _ aa_54) a_r2_69
                subst hn9
                have a_r2_1 := a_r2_69
                obtain rfl := fe_r (hq_69 3 (by decide))
                have hn9 := gI_n hD ((E_47).1 _ _ aa_55) a_r3_69
                subst hn9
                have a_r3_1 := a_r3_69
                obtain rfl := fe_r (hq_69 4 (by decide))
                have hn9 := gI_n hD ((E_47).1 _ _ aa_56) a_r4_69
                subst hn9
                have a_r4_1 := a_r4_69
                obtain rfl := fe_r (hq_69 5 (by decide))
                have hn9 := gI_n hD ((E_47).1 _ _ aa_57) a_r5_69
                subst hn9
                have a_r5_1 := a_r5_69
                refine va_get (D := gD g) (ci := 8) (v := .ref r1_1) (C := RX9) (T := TX9) (N := 6) hx hb hts inX9 hown hK hP k_1 hk_69 rfl 1 (by decide) (hts _ kw_1547) (fun _ h9 => h9) rfl dX9_goThrough_81 ?_
                refine lv_iload_n hx hb dX9_goThrough_84 rfl (lv_at hl 2 rfl) ?_
                refine lv_dup2_11 hx hb dX9_goThrough_85 rfl rfl ?_
                obtain ⟨k_70, f_70, hk_70⟩ := gI_of a_r1_1
                refine va_iald hx hb hK hP k_70 1 hk_70 rfl (i_in2 (by have q_pr := Hide.out pr; have q_f2_1 := Hide.out f2_1; have q_f11_1 := Hide.out f11_1; have g_x1 := i_rg x1; omega)) dX9_goThrough_86 ?_
                refine lv_topi (fun z_71 ez_71 => ?_)
                refine lv_iconst (v := 1) hx hb dX9_goThrough_87 (by decide) ?_
                refine lv_iadd hx hb dX9_goThrough_88 ?_
                refine lv_topi (fun z_72 ez_72 => ?_)
                have hC9 : hol ws_46 r1_1 [(8, 1)] := (hol_u hG.u hk_69 (j := 1) rfl a_r1_1 (by decide))
                have hS9 : holS ws_46 r1_1 none := holS_n
                refine va_iast hx hb hK hP hD hS k_70 1 hk_70 rfl (i_in2 (by have q_pr := Hide.out pr; have q_f2_1 := Hide.out f2_1; have q_f11_1 := Hide.out f11_1; have g_x1 := i_rg x1; omega)) dX9_goThrough_89 (fun H locs hP hD hS => ?_)
                obtain ⟨ws_73, e_ws_73⟩ : ∃ z, z = ws_46.set k_70 (r1_1, .inl (g.cI, n1_1, .inl (upd f_70 (x1 : Int32).toNatClampNeg z_72))) := ⟨_, rfl⟩
                have hP : va_P (gD g) cl0 ws_73 H := by rw [e_ws_73]; exact hP
                have hD : va_D A ws_73 := by rw [e_ws_73]; exact hD
                have E_74 : gE ws_46 ws_73 := gE_ari e_ws_73 hk_70
                have hG : Good g ws_73 := Good_arI e_ws_73 hk_70 hG
                have Fr_75 : gF [] [(8, 1)] none ws_46 ws_73 := gF_ar e_ws_73 hk_70 rfl hC9 hS9
                have hk_69 := gset_arO e_ws_73 hk_70 hk_69
                have o_h0 := E_74.1 _ _ o_h0
                have o_r0_1 := E_74.1 _ _ o_r0_1
                have a_r1_1 := E_74.1 _ _ a_r1_1
                have a_r2_1 := E_74.1 _ _ a_r2_1
                have a_r3_1 := E_74.1 _ _ a_r3_1
                have a_r4_1 := E_74.1 _ _ a_r4_1
                have a_r5_1 := E_74.1 _ _ a_r5_1
                refine lv_iconst (v := 1) hx hb dX9_goThrough_90 (by decide) ?_
                refine lv_istore_n (lv' := [(2, .int 1), (3, .int r_45), (0, .ref h0), (1, .int x1), (4, .int v4_7), (5, .int v5_10)]) hx hb dX9_goThrough_91 rfl hl (by decide) rfl (fun ls hl => ?_)
                refine lv_goto (tgt := 98) hx hb dX9_goThrough_92 (by decide) ?_
                have tq_76 : smR ws_73 h0 := smR_mo (Fr_75) (by decide) (by decide) (by decide) (by decide) (by decide) (by decide) (by decide) (by decide) (by decide) xp_51
                have tq_77 : KR ws ws_73 r0_1 := KR_mo (Fr_75) (by decide) (by decide) (by decide) (by decide) (by decide) (by decide) (by decide) (by decide) tq_58
                exact J_98 (1) (v4_7) ws_73 H locs ls (Or.inr rfl) (by first | (have q_iv_8 := Hide.out iv_8; have q_iv_9 := Hide.out iv_9; have q_c_24 := i_nle c_24; have g_c2_21 := i_rg c2_21; have g_v4_7 := i_rg v4_7; omega) | (have q_iv_8 := Hide.out iv_8; have q_iv_9 := Hide.out iv_9; have q_c_24 := i_nle c_24; have q_f19_21 := Hide.out f19_21; have q_f20_21 := Hide.out f20_21; have g_c2_21 := i_rg c2_21; have g_v4_7 := i_rg v4_7; omega) | (have q_iv_8 := Hide.out iv_8; have q_iv_9 := Hide.out iv_9; have q_c_24 := i_nle c_24; have q_f19_21 := Hide.out f19_21; have q_f20_21 := Hide.out f20_21; have q_f1_21 := Hide.out f1_21; have q_f17_21 := Hide.out f17_21; have q_f18_21 := Hide.out f18_21; have g_c2_21 := i_rg c2_21; have g_v4_7 := i_rg v4_7; omega) | (have q_iv_8 := Hide.out iv_8; have q_iv_9 := Hide.out iv_9; have q_c_24 := i_nle c_24; have q_f19_21 := Hide.out f19_21; have q_f20_21 := Hide.out f20_21; have q_f1_21 := Hide.out f1_21; have q_f17_21 := Hide.out f17_21; have q_f18_21 := Hide.out f18_21; have q_f3_21 := Hide.out f3_21; have g_c2_21 := i_rg c2_21; have g_v4_7 := i_rg v4_7; omega)) (E_74) (Fr_75) hG tq_76 tq_77 hP hD hS (lv_sub hl [2, 3, 0, 1, 4, 5] rfl)
            refine lv_if_eq (tgt := 68) hx hb dX9_goThrough_50 (by decide) (fun c_78 => ?_) (fun c_78 => ?_)
            · exact J_68 ws_26 H locs ls (gE.rf) (gF.rf) hG jx_49_0 jx_49_1 hP hD hS (lv_sub hl [0, 1, 2, 4, 5] rfl)
            · refine lv_iload_n hx hb dX9_goThrough_53 rfl (lv_at hl 1 rfl) ?_
              refine lv_iconst (v := 5) hx hb dX9_goThrough_54 (by decide) ?_
              refine lv_icmp_lt (tgt := 68) hx hb dX9_goThrough_55 (by decide) (fun c_79 => ?_) (fun c_79 => ?_)
              · exact J_68 ws_26 H locs ls (gE.rf) (gF.rf) hG jx_49_0 jx_49_1 hP hD hS (lv_sub hl [0, 1, 2, 4, 5] rfl)
              · refine lv_iload_n hx hb dX9_goThrough_58 rfl (lv_at hl 1 rfl) ?_
                refine lv_bipush (v := 10) hx hb dX9_goThrough_59 (by decide) ?_
                refine lv_icmp_gt (tgt := 68) hx hb dX9_goThrough_61 (by decide) (fun c_80 => ?_) (fun c_80 => ?_)
                · exact J_68 ws_26 H locs ls (gE.rf) (gF.rf) hG jx_49_0 jx_49_1 hP hD hS (lv_sub hl [0, 1, 2, 4, 5] rfl)
                · refine lv_aload_n hx hb dX9_goThrough_64 rfl (lv_at hl 0 rfl) ?_
                  obtain ⟨fs9, hk_81, hq_81⟩ := ((gF.a (F' := []) Fr_28 (fun _ h => h))) _ _ _ hk_20
                  refine opn_X9 hG hk_81 (fun r0_81 r1_81 n1_81 r2_81 n2_81 r3_81 n3_81 r4_81 n4_81 r5_81 n5_81 hf9 o_r0_81 a_r1_81 f2_81 a_r2_81 f4_81 a_r3_81 f6_81 a_r4_81 f8_81 a_r5_81 f10_81 f11_81 => ?_)
                  subst hf9
                  obtain rfl := fe_r (hq_81 0 (by decide))
                  have o_r0_1 := o_r0_81
                  obtain rfl := fe_r (hq_81 1 (by decide))
                  have hn9 := gI_n hD ((E_27).1 _ _ aa_29) a_r1_81
                  subst hn9
                  have a_r1_1 := a_r1_81
                  obtain rfl := fe_r (hq_81 2 (by decide))
                  have hn9 := gI_n hD ((E_27).1 _ _ aa_30) a_r2_81
                  subst hn9
                  have a_r2_1 := a_r2_81
                  obtain rfl := fe_r (hq_81 3 (by decide))
                  have hn9 := gI_n hD ((E_27).1 _ _ aa_31) a_r3_81
                  subst hn9
                  have a_r3_1 := a_r3_81
                  obtain rfl := fe_r (hq_81 4 (by decide))
                  have hn9 := gI_n hD ((E_27).1 _ _ aa_32) a_r4_81
                  subst hn9
                  have a_r4_1 := a_r4_81
                  obtain rfl := fe_r (hq_81 5 (by decide))
                  have hn9 := gI_n hD ((E_27).1 _ _ aa_33) a_r5_81
                  subst hn9
                  have a_r5_1 := a_r5_81
                  have hFc := gfree hD hS hA
                  refine va_callv (va_runV (As := []) (rest := []) ⟨hx, hb, hml, hown, hts⟩ (m_X9_findMarked l g H.size ws_26 h0 hG o_h0 (gP_of hD hk_81 (fun p90 q90 e90 g90 => by cases e90; have z90 := gI_n hD a_r2_1 g90; subst z90; exact (by have q_f4_1 := Hide.out f4_1; have q_fq_a := Hide.out fq_a; omega))) (gP_of hD hk_81 (fun p90 q90 e90 g90 => by cases e90; have z90 := gI_n hD a_r3_1 g90; subst z90; exact (by have q_f6_1 := Hide.out f6_1; have q_fq_b := Hide.out fq_b; omega))) (gP_of hD hk_81 (fun p90 q90 e90 g90 => by cases e90; have z90 := gI_n hD a_r4_1 g90; subst z90; exact (by have q_f8_1 := Hide.out f8_1; have q_fq_d := Hide.out fq_d; omega))) (gP_of hD hk_81 (fun p90 q90 e90 g90 => by cases e90; have z90 := gI_n hD a_r5_1 g90; subst z90; exact (by have q_f10_1 := Hide.out f10_1; have q_fq_f := Hide.out fq_f; omega)))) (cwV 0 hts (gd_V kw_1585 kw_1564 kw_1565 kw_404 kw_1563) rfl rfl rfl (by decide +kernel) ⟨Nat.le_of_ble_eq_true rfl, Nat.le_of_ble_eq_true rfl⟩) ⟨gblind, va_recv hK hP (ci := 8) (q0 := k_1) rfl hk_81, fun U hU hW9 => gmk hU hW9 hP hK hD hex hE hS hFc⟩ rfl rfl hl.1 rfl (lv_room (Nat.le_of_ble_eq_true rfl)) dX9_goThrough_65 ⟨Nat.le_of_ble_eq_true rfl, Nat.le_of_ble_eq_true rfl⟩) hS (fun q _ h => hFc q h) hFc (fun  ws_82 t9 H1 locs ht9 hvm9 hw9 hB9 hz9 hk9 hS => ?_)
                  obtain ⟨E_83, Fr_84, hG, hP1, hD1⟩ := hB9
                  have hP : va_P (gD g) cl0 ws_82 H1 := by rw [← ht9]; exact hP1
                  have hD : va_D A ws_82 := hD1.weaken (fun _ _ _ h => hFc _ h)
                  clear hP1 hD1 hz9 hk9 hvm9 ht9 hw9
                  generalize H1 = H at hP hS ⊢
                  have aa_87 := a_r1_1
                  have aa_88 := a_r2_1
                  have aa_89 := a_r3_1
                  have aa_90 := a_r4_1
                  have aa_91 := a_r5_1
                  have o_h0 := E_83.1 _ _ o_h0
                  have tq_92 : smR ws_82 h0 := smR_mo (Fr_84) (by decide) (by decide) (by decide) (by decide) (by decide) (by decide) (by decide) (by decide) (by decide) jx_49_0
                  have tq_93 : KR ws ws_82 r0_1 := KR_mo (Fr_84) (by decide) (by decide) (by decide) (by decide) (by decide) (by decide) (by decide) (by decide) jx_49_1
                  exact J_68 ws_82 H locs ls (E_83) (Fr_84) hG tq_92 tq_93 hP hD hS (lv_sub hl [0, 1, 2, 4, 5] rfl)
          refine lv_if_eq (tgt := 49) hx hb dX9_goThrough_30 (by decide) (fun c_94 => ?_) (fun c_94 => ?_)
          · exact J_49 ws_12 H locs ls (gE.rf) (gF.rf) hG jx_10_0 jx_10_1 hP hD hS (lv_sub hl [0, 1, 2, 3, 4, 5] rfl)
          · refine lv_iload_n hx hb dX9_goThrough_33 rfl (lv_at hl 1 rfl) ?_
            refine lv_bipush (v := 10) hx hb dX9_goThrough_34 (by decide) ?_
            have J_45 : ∀  (H : Heap) (locs : List Loc) (ls : Array Slot), va_P (gD g) cl0 ws_12 H → va_D A ws_12 → va_S A s.heap H locs → lv_has ls 6 [(0, .ref h0), (1, .int x1), (2, .int v2_3), (3, .int v3_5), (4, .int v4_7), (5, .int v5_10)] → W p l e (headSpec (wt yX9_goThrough cX9_goThrough 6 (some .boolean)) ({ frames := 5, cells := 0, slots := 0, locals := 120 })).room s m ([.ref h0, .int x1] : List Value).toArray below meth c H locs (0) (0) (MQ below (va_Qi (fun (r : Int32) (u9 : va_W) => (r = 0 ∨ r = 1) ∧ (smR u9 h0) ∧ (KS ws u9 h0)) (gQ1 g [(7, 2), (7, 9)] [(7, 0), (7, 1), (7, 3), (7, 5), (7, 6), (7, 7), (7, 8), (8, 1), (8, 2), (8, 4)] none A ws) A) ([.ref h0, .int x1] : List Value).toArray s (0) (0) A) (F0 m 45 ls []) := by
              intro  H locs ls  hP hD hS hl
              refine lv_aload_n hx hb dX9_goThrough_45 rfl (lv_at hl 0 rfl) ?_
              have hFc := gfree hD hS hA
              refine va_callv (va_runV (As := []) (rest := []) ⟨hx, hb, hml, hown, hts⟩ (m_X9_findLive l g H.size ws_12 h0 hG o_h0 (gP_of hD hk_20 (fun p90 q90 e90 g90 => by cases e90; have z90 := gI_n hD a_r2_1 g90; subst z90; exact (by have q_f4_1 := Hide.out f4_1; have q_fq_a := Hide.out fq_a; omega))) (gP_of hD hk_20 (fun p90 q90 e90 g90 => by cases e90; have z90 := gI_n hD a_r3_1 g90; subst z90; exact (by have q_f6_1 := Hide.out f6_1; have q_fq_b := Hide.out fq_b; omega))) (gP_of hD hk_20 (fun p90 q90 e90 g90 => by cases e90; have z90 := gI_n hD a_r4_1 g90; subst z90; exact (by have q_f8_1 := Hide.out f8_1; have q_fq_d := Hide.out fq_d; omega))) (gP_of hD hk_20 (fun p90 q90 e90 g90 => by cases e90; have z90 := gI_n hD a_r5_1 g90; subst z90; exact (by have q_f10_1 := Hide.out f10_1; have q_fq_f := Hide.out fq_f; omega)))) (cwV 0 hts (gd_V kw_1584 kw_1557 kw_1558 kw_404 kw_1556) rfl rfl rfl (by decide +kernel) ⟨Nat.le_of_ble_eq_true rfl, Nat.le_of_ble_eq_true rfl⟩) ⟨gblind, va_recv hK hP (ci := 8) (q0 := k_1) rfl hk_20, fun U hU hW9 => gmk hU hW9 hP hK hD hex hE hS hFc⟩ rfl rfl hl.1 rfl (lv_room (Nat.le_of_ble_eq_true rfl)) dX9_goThrough_46 ⟨Nat.le_of_ble_eq_true rfl, Nat.le_of_ble_eq_true rfl⟩) hS (fun q _ h => hFc q h) hFc (fun  ws_97 t9 H1 locs ht9 hvm9 hw9 hB9 hz9 hk9 hS => ?_)
              obtain ⟨E_98, Fr_99, hG, hP1, hD1⟩ := hB9
              have hP : va_P (gD g) cl0 ws_97 H1 := by rw [← ht9]; exact hP1
              have hD : va_D A ws_97 := hD1.weaken (fun _ _ _ h => hFc _ h)
              clear hP1 hD1 hz9 hk9 hvm9 ht9 hw9
              generalize H1 = H at hP hS ⊢
              have aa_102 := a_r1_1
              have aa_103 := a_r2_1
              have aa_104 := a_r3_1
              have aa_105 := a_r4_1
              have aa_106 := a_r5_1
              have aa_107 := a_r0_21
              have aa_108 := a_r1_21
              have aa_109 := a_r3_21
              have aa_110 := a_r5_21
              have aa_111 := a_r6_21
              have aa_112 := a_r7_21
              have aa_113 := a_r8_21
              have o_h0 := E_98.1 _ _ o_h0
              have tq_114 : smR ws_97 h0 := smR_mo (Fr_99) (by decide) (by decide) (by decide) (by decide) (by decide) (by decide) (by decide) (by decide) (by decide) jx_10_0
              have tq_115 : KR ws ws_97 r0_1 := KR_mo (Fr_99) (by decide) (by decide) (by decide) (by decide) (by decide) (by decide) (by decide) (by decide) jx_10_1
              exact J_49 ws_97 H locs ls (E_98) (Fr_99) hG tq_114 tq_115 hP hD hS (lv_sub hl [0, 1, 2, 3, 4, 5] rfl)
            refine lv_icmp_eq (tgt := 45) hx hb dX9_goThrough_36 (by decide) (fun c_116 => ?_) (fun c_116 => ?_)
            · exact J_45  H locs ls  hP hD hS (lv_sub hl [0, 1, 2, 3, 4, 5] rfl)
            · refine lv_iload_n hx hb dX9_goThrough_39 rfl (lv_at hl 1 rfl) ?_
              refine lv_bipush (v := 11) hx hb dX9_goThrough_40 (by decide) ?_
              refine lv_icmp_ne (tgt := 49) hx hb dX9_goThrough_42 (by decide) (fun c_117 => ?_) (fun c_117 => ?_)
              · exact J_49 ws_12 H locs ls (gE.rf) (gF.rf) hG jx_10_0 jx_10_1 hP hD hS (lv_sub hl [0, 1, 2, 3, 4, 5] rfl)
              · exact J_45  H locs ls  hP hD hS (lv_sub hl [0, 1, 2, 3, 4, 5] rfl)
  exact J_10 _ (0) (1) (0) (0) ws _ _ ls rfl (Or.inl rfl) (Or.inr rfl) (by have e0 : (0 : Int32).toInt = 0 := (by decide); omega) (by have e0 : (0 : Int32).toInt = 0 := (by decide); omega) (by have e0 : (0 : Int32).toInt = 0 := (by decide); omega) (gE.rf) (gF.rf) hG tk0 tq_2 hP hD hS (lv_sub hl [4, 5, 3, 2, 1, 0] rfl)
