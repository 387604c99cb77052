set_option maxHeartbeats 1000000 in
set_option maxRecDepth 100000 in
theorem m_X8_set_x (l : Launch) (g : Gm) (sz : Nat) (ws : va_W) (h0 : Nat) (x1 : Int32) (x2 : Int32) (y3 : Int64) (hG : Good g ws) (o_h0 : gC ws h0 7) (fp_k : gP ws h0 (fun fs => ∀ (rn n : Nat), fs[0]? = some (.ref rn) → gI ws rn g.cI n → 0 ≤ x1.toInt ∧ x1.toInt < n)) (tk0 : rowC ws h0 RW) (psw : x2.toInt ≠ 170 ∧ x2.toInt ≠ 171) : Met l yX8_set (wt yX8_set cX8_set 5 none) ({ frames := 0, cells := 0, slots := 0, locals := 0 }) (va_Pc [.ref h0, .int x1, .int x2, .long y3] (st_G g sz ws)) (va_Qv (fun (u9 : va_W) => (True) ∧ (rowC u9 h0 (RWn x1))) (gQ1 g [] [(7, 0), (7, 1)] (some h0) (va_A ws sz) ws) (va_A ws sz)) (0) (0) (va_A ws sz) := by
  refine Met.ofW (cc := cX8_set) (maxL := 5) (ret := none) (by decide) rfl ?_
  intro p e s m args below meth c s₁ B hml hv
  obtain ⟨rfl, hsz, hP, hK, hD0, hex, hE⟩ := hv
  have hx := B.exec
  have hb := B.bytes
  have hr := B.returns
  have hts0 := atoms_spec (ws := wt yX8_set cX8_set 5 none) B.pre
  have hts : ∀ w ∈ tb, w.before _ s = true := fun w h => hts0 w (List.mem_cons_of_mem _ h)
  have hown : s.vm.findClass RX8 = some m.cls := findClass_of_methodNamed B.named
  subst hsz
  have hD := hD0.self (sz := s.heap.size)
  generalize hAe : va_A ws s.heap.size = A at hD hE ⊢
  have hA : ∀ q : Nat, s.heap.size ≤ q → A q := fun q h => by rw [← hAe]; exact Or.inr h
  have hS : va_S A s.heap s.heap [] := va_S.rf
  have hl := lv_entry ([.ref h0, .int x1, .int x2, .long y3]) (n := 5) (Nat.le_of_ble_eq_true rfl)
  rw [lg_entry_eq]
  generalize (lg_sl ([.ref h0, .int x1, .int x2, .long y3]) ++ List.replicate (5 - (lg_sl ([.ref h0, .int x1, .int x2, .long y3])).length) Slot.unset).toArray = ls at hl ⊢
  have hl : lv_has ls 5 [(0, .ref h0), (1, .int x1), (2, .int x2), (3, .long y3)] := hl
  obtain ⟨k_1, fs9, hk_1⟩ := gC_of o_h0
  obtain ⟨r0_1, n0_1, r1_1, n1_1, c2_1, r3_1, n3_1, c4_1, r5_1, n5_1, r6_1, n6_1, r7_1, n7_1, r8_1, n8_1, c9_1, c10_1, c11_1, v12_1, v13_1, v14_1, rfl, a_r0_1, f1_1, a_r1_1, f3_1, a_r3_1, f5_1, a_r5_1, f7_1, a_r6_1, f9_1, a_r7_1, f11_1, a_r8_1, f13_1, o_v12_1, o_v13_1, o_v14_1, f17_1, f18_1, f19_1, f20_1, f21_1, f22_1, f23_1, f24_1, f25_1, f26_1, f27_1, f28_1, f29_1, -⟩ := (hG.1 _ _ _ _ hk_1).hX8 rfl
  have fq_k := fp_k _ _ _ hk_1 _ _ rfl a_r0_1
  refine lv_iload_n hx hb dX8_set_0 rfl (lv_at hl 1 rfl) ?_
  refine lv_if_lt (tgt := 27) hx hb dX8_set_1 (by decide) (fun c_2 => ?_) (fun c_2 => ?_)
  · exact False.elim (by have e0 : (0 : Int32).toInt = 0 := (by decide); have q_fq_k := fq_k; have q_c_2 := i_lt c_2; have q_f1_1 := f1_1; have q_f17_1 := f17_1; have q_f18_1 := f18_1; have q_f20_1 := f20_1; have g_c2_1 := i_rg c2_1; have g_x1 := i_rg x1; omega)
  · refine lv_iload_n hx hb dX8_set_4 rfl (lv_at hl 1 rfl) ?_
    refine lv_aload_n hx hb dX8_set_5 rfl (lv_at hl 0 rfl) ?_
    refine va_get (D := gD g) (ci := 7) (v := .ref r0_1) (C := RX8) (T := TX8) (N := 15) hx hb hts inX8 hown hK hP k_1 hk_1 rfl 0 (by decide) (hts _ kw_1460) (fun _ h9 => h9) rfl dX8_set_6 ?_
    obtain ⟨k_3, f_3, hk_3⟩ := gI_of a_r0_1
    obtain ⟨z_4, ez_4⟩ : ∃ z : Int32, Int32.ofNat n0_1 = z := ⟨_, rfl⟩
    refine va_alen (v := z_4) hx hb hK hP k_3 1 hk_3 rfl ez_4 dX8_set_9 ?_
    refine lv_icmp_ge (tgt := 27) hx hb dX8_set_10 (by decide) (fun c_5 => ?_) (fun c_5 => ?_)
    · exact False.elim (by have e0 : (0 : Int32).toInt = 0 := (by decide); have q_fq_k := fq_k; have q_c_2 := i_nlt c_2; have q_z_4 := i_len ez_4 f1_1; have q_c_5 := i_le c_5; have q_f1_1 := f1_1; have q_f17_1 := f17_1; have q_f18_1 := f18_1; have q_f20_1 := f20_1; have g_c2_1 := i_rg c2_1; have g_x1 := i_rg x1; have g_z_4 := i_rg z_4; omega)
    · refine lv_aload_n hx hb dX8_set_13 rfl (lv_at hl 0 rfl) ?_
      refine va_get (D := gD g) (ci := 7) (v := .ref r0_1) (C := RX8) (T := TX8) (N := 15) hx hb hts inX8 hown hK hP k_1 hk_1 rfl 0 (by decide) (hts _ kw_1460) (fun _ h9 => h9) rfl dX8_set_14 ?_
      refine lv_iload_n hx hb dX8_set_17 rfl (lv_at hl 1 rfl) ?_
      refine lv_iload_n hx hb dX8_set_18 rfl (lv_at hl 2 rfl) ?_
      have hfS := hk_3
      have hkS := hk_1
      have hDS := hD
      have hUS := hG.u
      have hC9 : hol ws r0_1 [(7, 0)] := (hol_u hG.u hk_1 (j := 0) rfl a_r0_1 (by decide))
      have hS9 : holS ws r0_1 (some h0) := holS_u hG.u hk_1 (j := 0) rfl a_r0_1
      refine va_iast hx hb hK hP hD hS k_3 1 hk_3 rfl (i_in2 (by have e0 : (0 : Int32).toInt = 0 := (by decide); have q_f1_1 := f1_1; have q_f17_1 := f17_1; have q_f18_1 := f18_1; have q_f20_1 := f20_1; have q_fq_k := fq_k; have q_c_2 := i_nlt c_2; have q_z_4 := i_len ez_4 f1_1; have q_c_5 := i_nle c_5; have q_f3_1 := f3_1; have q_f19_1 := f19_1; have g_c2_1 := i_rg c2_1; have g_x1 := i_rg x1; have g_z_4 := i_rg z_4; omega)) dX8_set_19 (fun H locs hP hD hS => ?_)
      obtain ⟨ws_6, e_ws_6⟩ : ∃ z, z = ws.set k_3 (r0_1, .inl (g.cI, n0_1, .inl (upd f_3 (x1 : Int32).toNatClampNeg x2))) := ⟨_, rfl⟩
      have hP : va_P (gD g) cl0 ws_6 H := by rw [e_ws_6]; exact hP
      have hD : va_D A ws_6 := by rw [e_ws_6]; exact hD
      have E_7 : gE ws ws_6 := gE_ari e_ws_6 hk_3
      have hG : Good g ws_6 := Good_arI e_ws_6 hk_3 hG
      have Fr_8 : gF [] [(7, 0)] (some h0) ws ws_6 := gF_ar e_ws_6 hk_3 rfl hC9 hS9
      have hk_1 := gset_arO e_ws_6 hk_3 hk_1
      have o_h0 := E_7.1 _ _ o_h0
      have a_r0_1 := E_7.1 _ _ a_r0_1
      have a_r1_1 := E_7.1 _ _ a_r1_1
      have a_r3_1 := E_7.1 _ _ a_r3_1
      have a_r5_1 := E_7.1 _ _ a_r5_1
      have a_r6_1 := E_7.1 _ _ a_r6_1
      have a_r7_1 := E_7.1 _ _ a_r7_1
      have a_r8_1 := E_7.1 _ _ a_r8_1
      have o_v12_1 : ∀ b, v12_1 = some b → ∃ n, gI ws_6 b g.cB n ∧ n < 2147483648 := fun b h => (o_v12_1 b h).imp (fun n h => ⟨E_7.1 _ _ h.1, h.2⟩)
      have o_v13_1 : ∀ b, v13_1 = some b → ∃ n, gJ ws_6 b g.cL n ∧ n < 2147483648 := fun b h => (o_v13_1 b h).imp (fun n h => ⟨E_7.1 _ _ h.1, h.2⟩)
      have o_v14_1 : ∀ b, v14_1 = some b → ∃ n, gJ ws_6 b g.cL n ∧ n < 2147483648 := fun b h => (o_v14_1 b h).imp (fun n h => ⟨E_7.1 _ _ h.1, h.2⟩)
      have tq_9 : rowC ws_6 h0 (RWn x1) := rowC_o e_ws_6 hDS hUS hkS rfl hfS tk0 (fun _ _ _ _ _ w => ⟨w.set (k := (x1 : Int32).toNatClampNeg) (fun _ h => upd_ne h) (fun _ _ => rfl) (by rw [upd_eq]; exact swO_no psw), by rw [upd_eq]; exact swO_no psw⟩)
      refine lv_aload_n hx hb dX8_set_20 rfl (lv_at hl 0 rfl) ?_
      refine va_get (D := gD g) (ci := 7) (v := .ref r1_1) (C := RX8) (T := TX8) (N := 15) hx hb hts inX8 hown hK hP k_1 hk_1 rfl 1 (by decide) (hts _ kw_1478) (fun _ h9 => h9) rfl dX8_set_21 ?_
      refine lv_iload_n hx hb dX8_set_24 rfl (lv_at hl 1 rfl) ?_
      refine lv_lload_n hx hb dX8_set_25 rfl (lv_at hl 3 rfl) ?_
      obtain ⟨k_10, f_10, hk_10⟩ := gJ_of a_r1_1
      have hfS := hk_10
      have hkS := hk_1
      have hDS := hD
      have hUS := hG.u
      have hC9 : hol ws_6 r1_1 [(7, 1)] := (hol_u hG.u hk_1 (j := 1) rfl a_r1_1 (by decide))
      have hS9 : holS ws_6 r1_1 (some h0) := holS_u hG.u hk_1 (j := 1) rfl a_r1_1
      refine va_last hx hb hK hP hD hS k_10 3 hk_10 rfl (i_in2 (by have e0 : (0 : Int32).toInt = 0 := (by decide); have q_f3_1 := f3_1; have q_f17_1 := f17_1; have q_fq_k := fq_k; have q_c_2 := i_nlt c_2; have q_c_5 := i_nle c_5; have q_f1_1 := f1_1; have q_f18_1 := f18_1; have q_f20_1 := f20_1; have q_z_4 := i_len ez_4 f1_1; have g_c2_1 := i_rg c2_1; have g_x1 := i_rg x1; have g_z_4 := i_rg z_4; omega)) dX8_set_26 (fun H locs hP hD hS => ?_)
      obtain ⟨ws_11, e_ws_11⟩ : ∃ z, z = ws_6.set k_10 (r1_1, .inl (g.cL, n1_1, .inr (.inl (vp_updL f_10 (x1 : Int32).toNatClampNeg y3)))) := ⟨_, rfl⟩
      have hP : va_P (gD g) cl0 ws_11 H := by rw [e_ws_11]; exact hP
      have hD : va_D A ws_11 := by rw [e_ws_11]; exact hD
      have E_12 : gE ws_6 ws_11 := gE_arj e_ws_11 hk_10
      have hG : Good g ws_11 := Good_arj e_ws_11 hk_10 hG
      have Fr_13 : gF [] [(7, 1)] (some h0) ws_6 ws_11 := gF_ar e_ws_11 hk_10 rfl hC9 hS9
      have hk_1 := gset_arO e_ws_11 hk_10 hk_1
      have o_h0 := E_12.1 _ _ o_h0
      have a_r0_1 := E_12.1 _ _ a_r0_1
      have a_r1_1 := E_12.1 _ _ a_r1_1
      have a_r3_1 := E_12.1 _ _ a_r3_1
      have a_r5_1 := E_12.1 _ _ a_r5_1
      have a_r6_1 := E_12.1 _ _ a_r6_1
      have a_r7_1 := E_12.1 _ _ a_r7_1
      have a_r8_1 := E_12.1 _ _ a_r8_1
      have o_v12_1 : ∀ b, v12_1 = some b → ∃ n, gI ws_11 b g.cB n ∧ n < 2147483648 := fun b h => (o_v12_1 b h).imp (fun n h => ⟨E_12.1 _ _ h.1, h.2⟩)
      have o_v13_1 : ∀ b, v13_1 = some b → ∃ n, gJ ws_11 b g.cL n ∧ n < 2147483648 := fun b h => (o_v13_1 b h).imp (fun n h => ⟨E_12.1 _ _ h.1, h.2⟩)
      have o_v14_1 : ∀ b, v14_1 = some b → ∃ n, gJ ws_11 b g.cL n ∧ n < 2147483648 := fun b h => (o_v14_1 b h).imp (fun n h => ⟨E_12.1 _ _ h.1, h.2⟩)
      have tq_14 : rowC ws_11 h0 (RWn x1) := rowC_a e_ws_11 hDS hUS hkS rfl hfS tq_9 (fun _ _ _ _ _ w => ⟨w.1.set (k := (x1 : Int32).toNatClampNeg) (fun _ _ => rfl) (fun _ h => updL_ne h) w.2, w.2⟩)
      refine W.widen (k := 0) (n := 0) (Nat.le_of_ble_eq_true rfl) (Nat.le_of_ble_eq_true rfl) ?_
      exact W.vret hx hb hr (fun t9 ht9 hW9 => ⟨⟨ws_11, rfl, ⟨trivial, tq_14⟩, ⟨(E_7.tr E_12), (gF.tr (gF.mo (F' := []) (C' := [(7, 0), (7, 1)]) (S' := (some h0)) Fr_8 (fun _ h => h) (by decide) (Or.inr rfl)) (gF.mo (F' := []) (C' := [(7, 0), (7, 1)]) (S' := (some h0)) Fr_13 (fun _ h => h) (by decide) (Or.inr rfl))), hG, by rw [ht9]; exact hP, hD⟩⟩, hS.F ht9⟩) hS.2.2 dX8_set_27
set_option maxHeartbeats 1000000 in
set_option maxRecDepth 100000 in
theorem m_X8_add_x (l : Launch) (g : Gm) (sz : Nat) (ws : va_W) (h0 : Nat) (x1 : Int32) (y2 : Int64) (hG : Good g ws) (o_h0 : gC ws h0 7) (tk0 : rowC ws h0 RW) (psw : x1.toInt ≠ 170 ∧ x1.toInt ≠ 171) : Met l yX8_add (wt yX8_add cX8_add 4 none) ({ frames := 1, cells := 0, slots := 0, locals := 24 }) (va_Pc [.ref h0, .int x1, .long y2] (st_G g sz ws)) (va_Qv (fun (u9 : va_W) => (True) ∧ (rowC u9 h0 RW)) (gQ1 g [(7, 2)] [(7, 0), (7, 1)] (some h0) (va_A ws sz) ws) (va_A ws sz)) (0) (0) (va_A ws sz) := by
  refine Met.ofW (cc := cX8_add) (maxL := 4) (ret := none) (by decide) rfl ?_
  intro p e s m args below meth c s₁ B hml hv
  obtain ⟨rfl, hsz, hP, hK, hD0, hex, hE⟩ := hv
  have hx := B.exec
  have hb := B.bytes
  have hr := B.returns
  have hts0 := atoms_spec (ws := wt yX8_add cX8_add 4 none) B.pre
  have hts : ∀ w ∈ tb, w.before _ s = true := fun w h => hts0 w (List.mem_cons_of_mem _ h)
  have hown : s.vm.findClass RX8 = some m.cls := findClass_of_methodNamed B.named
  subst hsz
  have hD := hD0.self (sz := s.heap.size)
  generalize hAe : va_A ws s.heap.size = A at hD hE ⊢
  have hA : ∀ q : Nat, s.heap.size ≤ q → A q := fun q h => by rw [← hAe]; exact Or.inr h
  have hS : va_S A s.heap s.heap [] := va_S.rf
  have hl := lv_entry ([.ref h0, .int x1, .long y2]) (n := 4) (Nat.le_of_ble_eq_true rfl)
  rw [lg_entry_eq]
  generalize (lg_sl ([.ref h0, .int x1, .long y2]) ++ List.replicate (4 - (lg_sl ([.ref h0, .int x1, .long y2])).length) Slot.unset).toArray = ls at hl ⊢
  have hl : lv_has ls 4 [(0, .ref h0), (1, .int x1), (2, .long y2)] := hl
  refine lv_aload_n hx hb dX8_add_0 rfl (lv_at hl 0 rfl) ?_
  obtain ⟨k_1, fs9, hk_1⟩ := gC_of o_h0
  obtain ⟨r0_1, n0_1, r1_1, n1_1, c2_1, r3_1, n3_1, c4_1, r5_1, n5_1, r6_1, n6_1, r7_1, n7_1, r8_1, n8_1, c9_1, c10_1, c11_1, v12_1, v13_1, v14_1, rfl, a_r0_1, f1_1, a_r1_1, f3_1, a_r3_1, f5_1, a_r5_1, f7_1, a_r6_1, f9_1, a_r7_1, f11_1, a_r8_1, f13_1, o_v12_1, o_v13_1, o_v14_1, f17_1, f18_1, f19_1, f20_1, f21_1, f22_1, f23_1, f24_1, f25_1, f26_1, f27_1, f28_1, f29_1, -⟩ := (hG.1 _ _ _ _ hk_1).hX8 rfl
  refine va_get (D := gD g) (ci := 7) (v := .int c2_1) (C := RX8) (T := TX8) (N := 15) hx hb hts inX8 hown hK hP k_1 hk_1 rfl 2 (by decide) (hts _ kw_1459) (fun _ h9 => h9) rfl dX8_add_1 ?_
  refine lv_aload_n hx hb dX8_add_4 rfl (lv_at hl 0 rfl) ?_
  refine va_get (D := gD g) (ci := 7) (v := .ref r0_1) (C := RX8) (T := TX8) (N := 15) hx hb hts inX8 hown hK hP k_1 hk_1 rfl 0 (by decide) (hts _ kw_1460) (fun _ h9 => h9) rfl dX8_add_5 ?_
  obtain ⟨k_2, f_2, hk_2⟩ := gI_of a_r0_1
  obtain ⟨z_3, ez_3⟩ : ∃ z : Int32, Int32.ofNat n0_1 = z := ⟨_, rfl⟩
  refine va_alen (v := z_3) hx hb hK hP k_2 1 hk_2 rfl ez_3 dX8_add_8 ?_
  refine lv_icmp_ge (tgt := 32) hx hb dX8_add_9 (by decide) (fun c_4 => ?_) (fun c_4 => ?_)
  · refine W.widen (k := 0) (n := 0) (Nat.le_of_ble_eq_true rfl) (Nat.le_of_ble_eq_true rfl) ?_
    exact W.vret hx hb hr (fun t9 ht9 hW9 => ⟨⟨ws, rfl, ⟨trivial, tk0⟩, ⟨gE.rf, gF.rf, hG, by rw [ht9]; exact hP, hD⟩⟩, hS.F ht9⟩) hS.2.2 dX8_add_32
  · refine lv_aload_n hx hb dX8_add_12 rfl (lv_at hl 0 rfl) ?_
    refine lv_aload_n hx hb dX8_add_13 rfl (lv_at hl 0 rfl) ?_
    refine va_get (D := gD g) (ci := 7) (v := .int c2_1) (C := RX8) (T := TX8) (N := 15) hx hb hts inX8 hown hK hP k_1 hk_1 rfl 2 (by decide) (hts _ kw_1459) (fun _ h9 => h9) rfl dX8_add_14 ?_
    refine lv_iload_n hx hb dX8_add_17 rfl (lv_at hl 1 rfl) ?_
    refine lv_lload_n hx hb dX8_add_18 rfl (lv_at hl 2 rfl) ?_
    have hFc := gfree hD hS hA
    refine va_callv (va_runV (As := [.int c2_1, .int x1, .long y2]) (rest := []) ⟨hx, hb, hml, hown, hts⟩ (m_X8_set_x l g s.heap.size ws h0 (c2_1) (x1) (y2) hG o_h0 (gP_of hD hk_1 (fun p90 q90 e90 g90 => by cases e90; have z90 := gI_n hD a_r0_1 g90; subst z90; exact (by have q_f1_1 := f1_1; have q_f17_1 := f17_1; have q_f18_1 := f18_1; have q_f19_1 := f19_1; have q_f20_1 := f20_1; have q_z_3 := i_len ez_3 f1_1; have q_c_4 := i_nle c_4; have q_f3_1 := f3_1; have g_c2_1 := i_rg c2_1; have g_z_3 := i_rg z_3; omega))) tk0 (by have q_psw := psw; have g_x1 := i_rg x1; omega)) (cwV 3 hts (gd_V kw_1461 kw_1523 kw_1524 kw_782 kw_1522) rfl rfl rfl (by decide +kernel) ⟨Nat.le_of_ble_eq_true rfl, Nat.le_of_ble_eq_true rfl⟩) ⟨gblind, va_recv hK hP (ci := 7) (q0 := k_1) rfl hk_1, fun U hU hW9 => gmk hU hW9 hP hK hD hex hE hS hFc⟩ rfl rfl hl.1 rfl (lv_room (Nat.le_of_ble_eq_true rfl)) dX8_add_19 ⟨Nat.le_of_ble_eq_true rfl, Nat.le_of_ble_eq_true rfl⟩) hS (fun q _ h => hFc q h) hFc (fun  ws_5 t9 H1 locs ht9 hvm9 hw9 hB9 hz9 hk9 hS => ?_)
    obtain ⟨E_6, Fr_7, hG, hP1, hD1⟩ := hB9
    have hP : va_P (gD g) cl0 ws_5 H1 := by rw [← ht9]; exact hP1
    have hD : va_D A ws_5 := hD1.weaken (fun _ _ _ h => hFc _ h)
    obtain ⟨hw9, xp_10⟩ := hw9
    clear hP1 hD1 hz9 hk9 hvm9 ht9 hw9
    generalize H1 = H at hP hS ⊢
    have aa_11 := a_r0_1
    have aa_12 := a_r1_1
    have aa_13 := a_r3_1
    have aa_14 := a_r5_1
    have aa_15 := a_r6_1
    have aa_16 := a_r7_1
    have aa_17 := a_r8_1
    have o_h0 := E_6.1 _ _ o_h0
    refine lv_aload_n hx hb dX8_add_22 rfl (lv_at hl 0 rfl) ?_
    refine lv_dup hx hb dX8_add_23 rfl ?_
    obtain ⟨fs9, hk_18, hq_18⟩ := ((gF.a (F' := []) Fr_7 (fun _ h => h))) _ _ _ hk_1
    obtain ⟨r0_18, n0_18, r1_18, n1_18, c2_18, r3_18, n3_18, c4_18, r5_18, n5_18, r6_18, n6_18, r7_18, n7_18, r8_18, n8_18, c9_18, c10_18, c11_18, v12_18, v13_18, v14_18, rfl, a_r0_18, f1_18, a_r1_18, f3_18, a_r3_18, f5_18, a_r5_18, f7_18, a_r6_18, f9_18, a_r7_18, f11_18, a_r8_18, f13_18, o_v12_18, o_v13_18, o_v14_18, f17_18, f18_18, f19_18, f20_18, f21_18, f22_18, f23_18, f24_18, f25_18, f26_18, f27_18, f28_18, f29_18, -⟩ := (hG.1 _ _ _ _ hk_18).hX8 rfl
    obtain rfl := fe_r (hq_18 0 (by decide))
    have hn9 := gI_n hD ((E_6).1 _ _ aa_11) a_r0_18
    subst hn9
    have a_r0_1 := a_r0_18
    obtain rfl := fe_i (hq_18 2 (by decide))
    refine va_get (D := gD g) (ci := 7) (v := .int c2_1) (C := RX8) (T := TX8) (N := 15) hx hb hts inX8 hown hK hP k_1 hk_18 rfl 2 (by decide) (hts _ kw_1459) (fun _ h9 => h9) rfl dX8_add_24 ?_
    refine lv_iconst (v := 1) hx hb dX8_add_27 (by decide) ?_
    refine lv_iadd hx hb dX8_add_28 ?_
    refine lv_topi (fun z_19 ez_19 => ?_)
    have hkS := hk_18
    have hDS := hD
    have hUS := hG.u
    have hV9 : okv ws_5 7 2 (.int z_19) := okv_i
    refine va_put (D := gD g) (ci := 7) (v := .int z_19) (ty := .int) (C := RX8) (T := TX8) (N := 15) hx hb hts inX8 tyX8 tyX8_ok nmX8 hown hK hP hD hS k_1 hk_18 rfl 2 (by decide) (hts _ kw_1459) (fun _ h9 => h9) rfl (by decide +kernel) rfl rfl (Nat.le_of_ble_eq_true rfl) dX8_add_29 (fun H locs hP hD hS => ?_)
    have f_20 : 0 ≤ z_19.toInt := (by have e1 : (1 : Int32).toInt = 1 := (by decide); obtain ⟨u_z_19, q_z_19⟩ := i_add ez_19; have q_f19_1 := f19_1; have q_f20_1 := f20_1; have q_c_4 := i_nle c_4; have q_f1_1 := f1_1; have q_f17_1 := f17_1; have q_f18_1 := f18_1; have q_z_3 := i_len ez_3 f1_1; have q_f17_18 := f17_18; have g_c2_1 := i_rg c2_1; have g_z_19 := i_rg z_19; have g_z_3 := i_rg z_3; omega)
    have f_21 : z_19.toInt ≤ n0_1 := (by have e1 : (1 : Int32).toInt = 1 := (by decide); have q_f1_1 := f1_1; have q_f17_1 := f17_1; have q_f18_1 := f18_1; have q_f20_1 := f20_1; have q_z_3 := i_len ez_3 f1_1; have q_f17_18 := f17_18; obtain ⟨u_z_19, q_z_19⟩ := i_add ez_19; have q_f_20 := f_20; have q_f3_1 := f3_1; have q_f19_1 := f19_1; have q_c_4 := i_nle c_4; have q_f3_18 := f3_18; have g_c2_1 := i_rg c2_1; have g_z_19 := i_rg z_19; have g_z_3 := i_rg z_3; omega)
    have hi_22 : invX8 g ws_5 h0 [.ref r0_1, .ref r1_18, .int z_19, .ref r3_18, .int c4_18, .ref r5_18, .ref r6_18, .ref r7_18, .ref r8_18, .int c9_18, .int c10_18, .int c11_18, va_rf v12_18, va_rf v13_18, va_rf v14_18] := ⟨r0_1, (n0_1), r1_18, (n1_18), (z_19), r3_18, (n3_18), (c4_18), r5_18, (n5_18), r6_18, (n6_18), r7_18, (n7_18), r8_18, (n8_18), (c9_18), (c10_18), (c11_18), v12_18, v13_18, v14_18, rfl, a_r0_1, f1_18, a_r1_18, f3_18, a_r3_18, f5_18, a_r5_18, f7_18, a_r6_18, f9_18, a_r7_18, f11_18, a_r8_18, f13_18, o_v12_18, o_v13_18, o_v14_18, f17_18, f18_18, f_20, f_21, f21_18, f22_18, f23_18, f24_18, f25_18, f26_18, f27_18, f28_18, f29_18, trivial⟩
    obtain ⟨ws_23, e_ws_23⟩ : ∃ z, z = ws_5.set k_1 (h0, .inr (7, [.ref r0_1, .ref r1_18, .int z_19, .ref r3_18, .int c4_18, .ref r5_18, .ref r6_18, .ref r7_18, .ref r8_18, .int c9_18, .int c10_18, .int c11_18, va_rf v12_18, va_rf v13_18, va_rf v14_18])) := ⟨_, rfl⟩
    have hP : va_P (gD g) cl0 ws_23 H := by rw [e_ws_23]; exact hP
    have hD : va_D A ws_23 := by rw [e_ws_23]; exact hD
    have E_24 : gE ws_5 ws_23 := gE_set e_ws_23 hk_18 (cw_o (fi := 2) (v := .int z_19) rfl (by decide))
    have hG : Good g ws_23 := Good_set (fi := 2) (v := .int z_19) e_ws_23 hk_18 E_24 rfl hV9 hG (ivX8 hi_22)
    have Fr_25 : gF [(7, 2)] [] (some h0) ws_5 ws_23 := gF_put (fi := 2) (v := .int z_19) e_ws_23 hk_18 rfl (by decide)
    have hkN := gset_self e_ws_23 hk_18
    have hk_18 := hkN
    have o_h0 := E_24.1 _ _ o_h0
    have a_r1_18 := E_24.1 _ _ a_r1_18
    have a_r3_18 := E_24.1 _ _ a_r3_18
    have a_r5_18 := E_24.1 _ _ a_r5_18
    have a_r6_18 := E_24.1 _ _ a_r6_18
    have a_r7_18 := E_24.1 _ _ a_r7_18
    have a_r8_18 := E_24.1 _ _ a_r8_18
    have o_v12_18 : ∀ b, v12_18 = some b → ∃ n, gI ws_23 b g.cB n ∧ n < 2147483648 := fun b h => (o_v12_18 b h).imp (fun n h => ⟨E_24.1 _ _ h.1, h.2⟩)
    have o_v13_18 : ∀ b, v13_18 = some b → ∃ n, gJ ws_23 b g.cL n ∧ n < 2147483648 := fun b h => (o_v13_18 b h).imp (fun n h => ⟨E_24.1 _ _ h.1, h.2⟩)
    have o_v14_18 : ∀ b, v14_18 = some b → ∃ n, gJ ws_23 b g.cL n ∧ n < 2147483648 := fun b h => (o_v14_18 b h).imp (fun n h => ⟨E_24.1 _ _ h.1, h.2⟩)
    have a_r0_1 := E_24.1 _ _ a_r0_1
    have tq_26 : rowC ws_23 h0 RW := rowC_n e_ws_23 hDS hkS rfl (c0 := c2_1) rfl xp_10 (fun _ _ _ _ w => w.1.add1 (k := (c2_1 : Int32).toNatClampNeg) (by have e1 : (1 : Int32).toInt = 1 := (by decide); have q_f19_1 := f19_1; have q_f20_1 := f20_1; have q_c_4 := i_nle c_4; obtain ⟨u_z_19, q_z_19⟩ := i_add ez_19; have q_f1_1 := f1_1; have q_f17_1 := f17_1; have q_f18_1 := f18_1; have q_z_3 := i_len ez_3 f1_1; have q_f17_18 := f17_18; have q_f_20 := f_20; have q_f_21 := f_21; have q_f3_1 := f3_1; have q_f3_18 := f3_18; have g_c2_1 := i_rg c2_1; have g_z_19 := i_rg z_19; have g_z_3 := i_rg z_3; exact i_nn rfl (by omega)) (by have e1 : (1 : Int32).toInt = 1 := (by decide); have q_f19_1 := f19_1; have q_f20_1 := f20_1; have q_c_4 := i_nle c_4; obtain ⟨u_z_19, q_z_19⟩ := i_add ez_19; have q_f_20 := f_20; have q_f_21 := f_21; have q_f1_1 := f1_1; have q_f17_1 := f17_1; have q_f18_1 := f18_1; have q_z_3 := i_len ez_3 f1_1; have q_f17_18 := f17_18; have q_f3_1 := f3_1; have q_f3_18 := f3_18; have g_c2_1 := i_rg c2_1; have g_z_19 := i_rg z_19; have g_z_3 := i_rg z_3; omega) w.2)
    refine W.widen (k := 0) (n := 0) (Nat.le_of_ble_eq_true rfl) (Nat.le_of_ble_eq_true rfl) ?_
    exact W.vret hx hb hr (fun t9 ht9 hW9 => ⟨⟨ws_23, rfl, ⟨trivial, tq_26⟩, ⟨(E_6.tr E_24), (gF.tr (gF.mo (F' := [(7, 2)]) (C' := [(7, 0), (7, 1)]) (S' := (some h0)) Fr_7 (fun _ h => absurd h List.not_mem_nil) (fun _ h => h) (Or.inr rfl)) (gF.mo (F' := [(7, 2)]) (C' := [(7, 0), (7, 1)]) (S' := (some h0)) Fr_25 (fun _ h => h) (fun _ h => absurd h List.not_mem_nil) (Or.inr rfl))), hG, by rw [ht9]; exact hP, hD⟩⟩, hS.F ht9⟩) hS.2.2 dX8_add_32
set_option maxHeartbeats 1000000 in
set_option maxRecDepth 100000 in
theorem m_X8_addToTable_x (l : Launch) (g : Gm) (sz : Nat) (ws : va_W) (h0 : Nat) (x1 : Int32) (hG : Good g ws) (o_h0 : gC ws h0 7) (tk0 : rowC ws h0 RW) : Met l yX8_addToTable (wt yX8_addToTable cX8_addToTable 2 none) ({ frames := 0, cells := 0, slots := 0, locals := 0 }) (va_Pc [.ref h0, .int x1] (st_G g sz ws)) (va_Qv (fun (u9 : va_W) => (True) ∧ (rowC u9 h0 RW)) (gQ1 g [(7, 4)] [(7, 3)] (some h0) (va_A ws sz) ws) (va_A ws sz)) (0) (0) (va_A ws sz) := by
  refine Met.ofW (cc := cX8_addToTable) (maxL := 2) (ret := none) (by decide) rfl ?_
  intro p e s m args below meth c s₁ B hml hv
  obtain ⟨rfl, hsz, hP, hK, hD0, hex, hE⟩ := hv
  have hx := B.exec
  have hb := B.bytes
  have hr := B.returns
  have hts0 := atoms_spec (ws := wt yX8_addToTable cX8_addToTable 2 none) B.pre
  have hts : ∀ w ∈ tb, w.before _ s = true := fun w h => hts0 w (List.mem_cons_of_mem _ h)
  have hown : s.vm.findClass RX8 = some m.cls := findClass_of_methodNamed B.named
  subst hsz
  have hD := hD0.self (sz := s.heap.size)
  generalize hAe : va_A ws s.heap.size = A at hD hE ⊢
  have hA : ∀ q : Nat, s.heap.size ≤ q → A q := fun q h => by rw [← hAe]; exact Or.inr h
  have hS : va_S A s.heap s.heap [] := va_S.rf
  have hl := lv_entry ([.ref h0, .int x1]) (n := 2) (Nat.le_of_ble_eq_true rfl)
  rw [lg_entry_eq]
  generalize (lg_sl ([.ref h0, .int x1]) ++ List.replicate (2 - (lg_sl ([.ref h0, .int x1])).length) Slot.unset).toArray = ls at hl ⊢
  have hl : lv_has ls 2 [(0, .ref h0), (1, .int x1)] := hl
  refine lv_aload_n hx hb dX8_addToTable_0 rfl (lv_at hl 0 rfl) ?_
  obtain ⟨k_1, fs9, hk_1⟩ := gC_of o_h0
  obtain ⟨r0_1, n0_1, r1_1, n1_1, c2_1, r3_1, n3_1, c4_1, r5_1, n5_1, r6_1, n6_1, r7_1, n7_1, r8_1, n8_1, c9_1, c10_1, c11_1, v12_1, v13_1, v14_1, rfl, a_r0_1, f1_1, a_r1_1, f3_1, a_r3_1, f5_1, a_r5_1, f7_1, a_r6_1, f9_1, a_r7_1, f11_1, a_r8_1, f13_1, o_v12_1, o_v13_1, o_v14_1, f17_1, f18_1, f19_1, f20_1, f21_1, f22_1, f23_1, f24_1, f25_1, f26_1, f27_1, f28_1, f29_1, -⟩ := (hG.1 _ _ _ _ hk_1).hX8 rfl
  refine va_get (D := gD g) (ci := 7) (v := .int c4_1) (C := RX8) (T := TX8) (N := 15) hx hb hts inX8 hown hK hP k_1 hk_1 rfl 4 (by decide) (hts _ kw_1473) (fun _ h9 => h9) rfl dX8_addToTable_1 ?_
  refine lv_aload_n hx hb dX8_addToTable_4 rfl (lv_at hl 0 rfl) ?_
  refine va_get (D := gD g) (ci := 7) (v := .ref r3_1) (C := RX8) (T := TX8) (N := 15) hx hb hts inX8 hown hK hP k_1 hk_1 rfl 3 (by decide) (hts _ kw_1474) (fun _ h9 => h9) rfl dX8_addToTable_5 ?_
  obtain ⟨k_2, f_2, hk_2⟩ := gI_of a_r3_1
  obtain ⟨z_3, ez_3⟩ : ∃ z : Int32, Int32.ofNat n3_1 = z := ⟨_, rfl⟩
  refine va_alen (v := z_3) hx hb hK hP k_2 1 hk_2 rfl ez_3 dX8_addToTable_8 ?_
  refine lv_icmp_ge (tgt := 32) hx hb dX8_addToTable_9 (by decide) (fun c_4 => ?_) (fun c_4 => ?_)
  · refine W.widen (k := 0) (n := 0) (Nat.le_of_ble_eq_true rfl) (Nat.le_of_ble_eq_true rfl) ?_
    exact W.vret hx hb hr (fun t9 ht9 hW9 => ⟨⟨ws, rfl, ⟨trivial, tk0⟩, ⟨gE.rf, gF.rf, hG, by rw [ht9]; exact hP, hD⟩⟩, hS.F ht9⟩) hS.2.2 dX8_addToTable_32
  · refine lv_aload_n hx hb dX8_addToTable_12 rfl (lv_at hl 0 rfl) ?_
    refine va_get (D := gD g) (ci := 7) (v := .ref r3_1) (C := RX8) (T := TX8) (N := 15) hx hb hts inX8 hown hK hP k_1 hk_1 rfl 3 (by decide) (hts _ kw_1474) (fun _ h9 => h9) rfl dX8_addToTable_13 ?_
    refine lv_aload_n hx hb dX8_addToTable_16 rfl (lv_at hl 0 rfl) ?_
    refine va_get (D := gD g) (ci := 7) (v := .int c4_1) (C := RX8) (T := TX8) (N := 15) hx hb hts inX8 hown hK hP k_1 hk_1 rfl 4 (by decide) (hts _ kw_1473) (fun _ h9 => h9) rfl dX8_addToTable_17 ?_
    refine lv_iload_n hx hb dX8_addToTable_20 rfl (lv_at hl 1 rfl) ?_
    have hfS := hk_2
    have hkS := hk_1
    have hDS := hD
    have hUS := hG.u
    have hfx := rowC_fix hD hk_1 (c0 := c2_1) (t0 := c4_1) rfl rfl tk0
    have hC9 : hol ws r3_1 [(7, 3)] := (hol_u hG.u hk_1 (j := 3) rfl a_r3_1 (by decide))
    have hS9 : holS ws r3_1 (some h0) := holS_u hG.u hk_1 (j := 3) rfl a_r3_1
    refine va_iast hx hb hK hP hD hS k_2 1 hk_2 rfl (i_in2 (by have q_f5_1 := f5_1; have q_f21_1 := f21_1; have q_f22_1 := f22_1; have q_f28_1 := f28_1; have q_z_3 := i_len ez_3 f5_1; have q_c_4 := i_nle c_4; have g_c4_1 := i_rg c4_1; have g_z_3 := i_rg z_3; omega)) dX8_addToTable_21 (fun H locs hP hD hS => ?_)
    obtain ⟨ws_5, e_ws_5⟩ : ∃ z, z = ws.set k_2 (r3_1, .inl (g.cI, n3_1, .inl (upd f_2 (c4_1 : Int32).toNatClampNeg x1))) := ⟨_, rfl⟩
    have hP : va_P (gD g) cl0 ws_5 H := by rw [e_ws_5]; exact hP
    have hD : va_D A ws_5 := by rw [e_ws_5]; exact hD
    have E_6 : gE ws ws_5 := gE_ari e_ws_5 hk_2
    have hG : Good g ws_5 := Good_arI e_ws_5 hk_2 hG
    have Fr_7 : gF [] [(7, 3)] (some h0) ws ws_5 := gF_ar e_ws_5 hk_2 rfl hC9 hS9
    have hk_1 := gset_arO e_ws_5 hk_2 hk_1
    have o_h0 := E_6.1 _ _ o_h0
    have a_r0_1 := E_6.1 _ _ a_r0_1
    have a_r1_1 := E_6.1 _ _ a_r1_1
    have a_r3_1 := E_6.1 _ _ a_r3_1
    have a_r5_1 := E_6.1 _ _ a_r5_1
    have a_r6_1 := E_6.1 _ _ a_r6_1
    have a_r7_1 := E_6.1 _ _ a_r7_1
    have a_r8_1 := E_6.1 _ _ a_r8_1
    have o_v12_1 : ∀ b, v12_1 = some b → ∃ n, gI ws_5 b g.cB n ∧ n < 2147483648 := fun b h => (o_v12_1 b h).imp (fun n h => ⟨E_6.1 _ _ h.1, h.2⟩)
    have o_v13_1 : ∀ b, v13_1 = some b → ∃ n, gJ ws_5 b g.cL n ∧ n < 2147483648 := fun b h => (o_v13_1 b h).imp (fun n h => ⟨E_6.1 _ _ h.1, h.2⟩)
    have o_v14_1 : ∀ b, v14_1 = some b → ∃ n, gJ ws_5 b g.cL n ∧ n < 2147483648 := fun b h => (o_v14_1 b h).imp (fun n h => ⟨E_6.1 _ _ h.1, h.2⟩)
    have tq_8 : rowC ws_5 h0 RW := rowC_t e_ws_5 hDS hUS hkS rfl hfS hfx (fun _ _ _ _ _ w => w.1.tab (Int.le_refl _) (fun p hp => upd_ne (by have w2 := w.2.2; have q9 : (((c4_1 : Int32).toNatClampNeg : Nat) : Int) = (c4_1 : Int32).toInt := i_nn rfl (by have q_f21_1 := f21_1; have q_f22_1 := f22_1; have q_c_4 := i_nle c_4; have q_f5_1 := f5_1; have q_f28_1 := f28_1; have q_z_3 := i_len ez_3 f5_1; have g_c4_1 := i_rg c4_1; have g_z_3 := i_rg z_3; omega); omega)))
    refine lv_aload_n hx hb dX8_addToTable_22 rfl (lv_at hl 0 rfl) ?_
    refine lv_dup hx hb dX8_addToTable_23 rfl ?_
    refine va_get (D := gD g) (ci := 7) (v := .int c4_1) (C := RX8) (T := TX8) (N := 15) hx hb hts inX8 hown hK hP k_1 hk_1 rfl 4 (by decide) (hts _ kw_1473) (fun _ h9 => h9) rfl dX8_addToTable_24 ?_
    refine lv_iconst (v := 1) hx hb dX8_addToTable_27 (by decide) ?_
    refine lv_iadd hx hb dX8_addToTable_28 ?_
    refine lv_topi (fun z_9 ez_9 => ?_)
    have hkS := hk_1
    have hDS := hD
    have hUS := hG.u
    have hV9 : okv ws_5 7 4 (.int z_9) := okv_i
    refine va_put (D := gD g) (ci := 7) (v := .int z_9) (ty := .int) (C := RX8) (T := TX8) (N := 15) hx hb hts inX8 tyX8 tyX8_ok nmX8 hown hK hP hD hS k_1 hk_1 rfl 4 (by decide) (hts _ kw_1473) (fun _ h9 => h9) rfl (by decide +kernel) rfl rfl (Nat.le_of_ble_eq_true rfl) dX8_addToTable_29 (fun H locs hP hD hS => ?_)
    have f_10 : 0 ≤ z_9.toInt := (by have e1 : (1 : Int32).toInt = 1 := (by decide); obtain ⟨u_z_9, q_z_9⟩ := i_add ez_9; have q_f21_1 := f21_1; have q_f22_1 := f22_1; have q_c_4 := i_nle c_4; have q_f5_1 := f5_1; have q_f28_1 := f28_1; have q_z_3 := i_len ez_3 f5_1; have g_c4_1 := i_rg c4_1; have g_z_3 := i_rg z_3; have g_z_9 := i_rg z_9; omega)
    have f_11 : z_9.toInt ≤ n3_1 := (by have e1 : (1 : Int32).toInt = 1 := (by decide); have q_f5_1 := f5_1; have q_f22_1 := f22_1; have q_f28_1 := f28_1; have q_z_3 := i_len ez_3 f5_1; obtain ⟨u_z_9, q_z_9⟩ := i_add ez_9; have q_f_10 := f_10; have q_f21_1 := f21_1; have q_c_4 := i_nle c_4; have g_c4_1 := i_rg c4_1; have g_z_3 := i_rg z_3; have g_z_9 := i_rg z_9; omega)
    have hi_12 : invX8 g ws_5 h0 [.ref r0_1, .ref r1_1, .int c2_1, .ref r3_1, .int z_9, .ref r5_1, .ref r6_1, .ref r7_1, .ref r8_1, .int c9_1, .int c10_1, .int c11_1, va_rf v12_1, va_rf v13_1, va_rf v14_1] := ⟨r0_1, (n0_1), r1_1, (n1_1), (c2_1), r3_1, (n3_1), (z_9), r5_1, (n5_1), r6_1, (n6_1), r7_1, (n7_1), r8_1, (n8_1), (c9_1), (c10_1), (c11_1), v12_1, v13_1, v14_1, rfl, a_r0_1, f1_1, a_r1_1, f3_1, a_r3_1, f5_1, a_r5_1, f7_1, a_r6_1, f9_1, a_r7_1, f11_1, a_r8_1, f13_1, o_v12_1, o_v13_1, o_v14_1, f17_1, f18_1, f19_1, f20_1, f_10, f_11, f23_1, f24_1, f25_1, f26_1, f27_1, f28_1, f29_1, trivial⟩
    obtain ⟨ws_13, e_ws_13⟩ : ∃ z, z = ws_5.set k_1 (h0, .inr (7, [.ref r0_1, .ref r1_1, .int c2_1, .ref r3_1, .int z_9, .ref r5_1, .ref r6_1, .ref r7_1, .ref r8_1, .int c9_1, .int c10_1, .int c11_1, va_rf v12_1, va_rf v13_1, va_rf v14_1])) := ⟨_, rfl⟩
    have hP : va_P (gD g) cl0 ws_13 H := by rw [e_ws_13]; exact hP
    have hD : va_D A ws_13 := by rw [e_ws_13]; exact hD
    have E_14 : gE ws_5 ws_13 := gE_set e_ws_13 hk_1 (cw_o (fi := 4) (v := .int z_9) rfl (by decide))
    have hG : Good g ws_13 := Good_set (fi := 4) (v := .int z_9) e_ws_13 hk_1 E_14 rfl hV9 hG (ivX8 hi_12)
    have Fr_15 : gF [(7, 4)] [] (some h0) ws_5 ws_13 := gF_put (fi := 4) (v := .int z_9) e_ws_13 hk_1 rfl (by decide)
    have hkN := gset_self e_ws_13 hk_1
    have hk_1 := hkN
    have o_h0 := E_14.1 _ _ o_h0
    have a_r0_1 := E_14.1 _ _ a_r0_1
    have a_r1_1 := E_14.1 _ _ a_r1_1
    have a_r3_1 := E_14.1 _ _ a_r3_1
    have a_r5_1 := E_14.1 _ _ a_r5_1
    have a_r6_1 := E_14.1 _ _ a_r6_1
    have a_r7_1 := E_14.1 _ _ a_r7_1
    have a_r8_1 := E_14.1 _ _ a_r8_1
    have o_v12_1 : ∀ b, v12_1 = some b → ∃ n, gI ws_13 b g.cB n ∧ n < 2147483648 := fun b h => (o_v12_1 b h).imp (fun n h => ⟨E_14.1 _ _ h.1, h.2⟩)
    have o_v13_1 : ∀ b, v13_1 = some b → ∃ n, gJ ws_13 b g.cL n ∧ n < 2147483648 := fun b h => (o_v13_1 b h).imp (fun n h => ⟨E_14.1 _ _ h.1, h.2⟩)
    have o_v14_1 : ∀ b, v14_1 = some b → ∃ n, gJ ws_13 b g.cL n ∧ n < 2147483648 := fun b h => (o_v14_1 b h).imp (fun n h => ⟨E_14.1 _ _ h.1, h.2⟩)
    have tq_16 : rowC ws_13 h0 RW := rowC_m e_ws_13 hDS hkS rfl (c0 := c4_1) rfl tq_8 (fun _ _ _ _ w => w.tab (by have e1 : (1 : Int32).toInt = 1 := (by decide); have q_f21_1 := f21_1; have q_f22_1 := f22_1; have q_c_4 := i_nle c_4; obtain ⟨u_z_9, q_z_9⟩ := i_add ez_9; have q_f_10 := f_10; have q_f_11 := f_11; have q_f5_1 := f5_1; have q_f28_1 := f28_1; have q_z_3 := i_len ez_3 f5_1; have g_c4_1 := i_rg c4_1; have g_z_3 := i_rg z_3; have g_z_9 := i_rg z_9; omega) (fun _ _ => rfl))
    refine W.widen (k := 0) (n := 0) (Nat.le_of_ble_eq_true rfl) (Nat.le_of_ble_eq_true rfl) ?_
    exact W.vret hx hb hr (fun t9 ht9 hW9 => ⟨⟨ws_13, rfl, ⟨trivial, tq_16⟩, ⟨(E_6.tr E_14), (gF.tr (gF.mo (F' := [(7, 4)]) (C' := [(7, 3)]) (S' := (some h0)) Fr_7 (fun _ h => absurd h List.not_mem_nil) (fun _ h => h) (Or.inr rfl)) (gF.mo (F' := [(7, 4)]) (C' := [(7, 3)]) (S' := (some h0)) Fr_15 (fun _ h => h) (fun _ h => absurd h List.not_mem_nil) (Or.inr rfl))), hG, by rw [ht9]; exact hP, hD⟩⟩, hS.F ht9⟩) hS.2.2 dX8_addToTable_32
