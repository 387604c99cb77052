set_option maxHeartbeats 4000000 in
set_option maxRecDepth 100000 in
theorem m_X9_makeRoom_x (l : Launch) (g : Gm) (H0 : Heap) (ws : va_W) (h0 : Nat) (b1 : Nat) (hG : Good g ws) (o_h0 : gC ws h0 8) (o_b1 : gC ws b1 7) (f2_r : ∀ (k k2 b : Nat) (fs gs : List Value), ows ws k h0 8 fs → fs[0]? = some (.ref b) → ows ws k2 b 7 gs → ∀ (ra a : Nat), fs[2]? = some (.ref ra) → gI ws ra g.cZ a → ∀ (rb b : Nat), fs[3]? = some (.ref rb) → gI ws rb g.cZ b → ∀ (rc c : Nat), fs[4]? = some (.ref rc) → gI ws rc g.cI c → ∀ (rd d : Nat), fs[5]? = some (.ref rd) → gI ws rd g.cI d → ∀ (rm m : Nat), gs[0]? = some (.ref rm) → gI ws rm g.cI m → ∀ (rt t : Nat), gs[3]? = some (.ref rt) → gI ws rt g.cI t → m < 1296 ∨ (1297 ≤ a ∧ 1297 ≤ b ∧ 1297 ≤ c ∧ 1297 ≤ d ∧ 1200 ≤ t)) : Met l yX9_makeRoom (wt yX9_makeRoom cX9_makeRoom 2 none) ({ frames := 2, cells := PC ws + (12), slots := PS ws + (9059), locals := 35 }) (va_Pc [.ref h0, .ref b1] (st_H g H0 ws)) (va_Qv (fun (u9 : va_W) => (gP u9 h0 (fun fs => ∀ (rn n : Nat), fs[2]? = some (.ref rn) → gI u9 rn g.cZ n → 1297 ≤ n) ∧ gP u9 h0 (fun fs => ∀ (rn n : Nat), fs[3]? = some (.ref rn) → gI u9 rn g.cZ n → 1297 ≤ n) ∧ gP u9 h0 (fun fs => ∀ (rn n : Nat), fs[4]? = some (.ref rn) → gI u9 rn g.cI n → 1297 ≤ n) ∧ gP u9 h0 (fun fs => ∀ (rn n : Nat), fs[5]? = some (.ref rn) → gI u9 rn g.cI n → 1297 ≤ n)) ∧ (smW u9 h0) ∧ (KA ws u9 ∧ frW ws u9 h0)) (gQ2 g [(7, 0), (7, 1), (7, 3), (7, 5), (7, 6), (7, 7), (7, 8), (7, 11), (8, 0), (8, 2), (8, 3), (8, 4), (8, 5)] [] none (va_A ws H0.size) ws H0 (12) (9059)) (va_A ws H0.size)) (PC ws + (12)) (PS ws + (9059)) (va_A ws H0.size) := by
  refine Met.ofW (cc := cX9_makeRoom) (maxL := 2) (ret := none) (by decide) rfl ?_
  intro p e s m args below meth c s₁ B hml hv
  obtain ⟨rfl, hH0, hsz, hP, hK, hD0, hex, hE⟩ := hv
  have hx := B.exec
  have hb := B.bytes
  have hr := B.returns
  have hts0 := atoms_spec (ws := wt yX9_makeRoom cX9_makeRoom 2 none) B.pre
  have hts : ∀ w ∈ tb, w.before _ s = true := fun w h => hts0 w (List.mem_cons_of_mem _ h)
  have hown : s.vm.findClass RX9 = some m.cls := findClass_of_methodNamed B.named
  subst hH0
  have hD := hD0.self (sz := s.heap.size)
  generalize hAe : va_A ws s.heap.size = A at hD hE ⊢
  have hA : ∀ q : Nat, s.heap.size ≤ q → A q := fun q h => by rw [← hAe]; exact Or.inr h
  have hS : va_S A s.heap s.heap [] := va_S.rf
  have hl := lv_entry ([.ref h0, .ref b1]) (n := 2) (Nat.le_of_ble_eq_true rfl)
  rw [lg_entry_eq]
  generalize (lg_sl ([.ref h0, .ref b1]) ++ List.replicate (2 - (lg_sl ([.ref h0, .ref b1])).length) Slot.unset).toArray = ls at hl ⊢
  have hl : lv_has ls 2 [(0, .ref h0), (1, .ref b1)] := hl
  obtain ⟨k_1, fs9, hk_1⟩ := gC_of o_h0
  refine opn_X9 hG hk_1 (fun r0_1 r1_1 n1_1 r2_1 n2_1 r3_1 n3_1 r4_1 n4_1 r5_1 n5_1 hf9 o_r0_1 a_r1_1 f2_1 a_r2_1 f4_1 a_r3_1 f6_1 a_r4_1 f8_1 a_r5_1 f10_1 f11_1 => ?_)
  subst hf9
  obtain ⟨k_2, fs9, hk_2⟩ := gC_of o_r0_1
  refine opn_X8 hG hk_2 (fun r0_2 n0_2 r1_2 n1_2 c2_2 r3_2 n3_2 c4_2 r5_2 n5_2 r6_2 n6_2 r7_2 n7_2 r8_2 n8_2 c9_2 c10_2 c11_2 v12_2 v13_2 v14_2 hf9 a_r0_2 f1_2 a_r1_2 f3_2 a_r3_2 f5_2 a_r5_2 f7_2 a_r6_2 f9_2 a_r7_2 f11_2 a_r8_2 f13_2 o_v12_2 o_v13_2 o_v14_2 f17_2 f18_2 f19_2 f20_2 f21_2 f22_2 f23_2 f24_2 f25_2 f26_2 f27_2 f28_2 f29_2 => ?_)
  subst hf9
  have fq2_r := f2_r _ _ _ _ _ hk_1 rfl hk_2 _ _ rfl a_r2_1 _ _ rfl a_r3_1 _ _ rfl a_r4_1 _ _ rfl a_r5_1 _ _ rfl a_r0_2 _ _ rfl a_r3_2
  replace fq2_r := hide fq2_r
  have hkH9 := hk_1
  have tq_3 : KA ws ws := KA_rf
  refine lv_aload_n hx hb dX9_makeRoom_0 rfl (lv_at hl 0 rfl) ?_
  refine va_get (D := gD g) (ci := 8) (v := .ref r0_1) (C := RX9) (T := TX9) (N := 6) hx hb hts inX9 hown hK hP k_1 hk_1 rfl 0 (by decide) (hts _ kw_1552) (fun _ h9 => h9) rfl dX9_makeRoom_1 ?_
  refine va_get (D := gD g) (ci := 7) (v := .ref r0_2) (C := RX8) (T := TX8) (N := 15) hx hb hts inX8 hown hK hP k_2 hk_2 rfl 0 (by decide) (hts _ kw_1687) (fun _ h9 => h9) rfl dX9_makeRoom_4 ?_
  obtain ⟨k_4, f_4, hk_4⟩ := gI_of a_r0_2
  obtain ⟨z_5, ez_5⟩ : ∃ z : Int32, Int32.ofNat n0_2 = z := ⟨_, rfl⟩
  refine va_alen (v := z_5) hx hb hK hP k_4 1 hk_4 rfl ez_5 dX9_makeRoom_7 ?_
  refine lv_sipush (v := 1296) hx hb dX9_makeRoom_8 (by decide) ?_
  refine lv_icmp_ge (tgt := 69) hx hb dX9_makeRoom_11 (by decide) (fun c_6 => ?_) (fun c_6 => ?_)
  · refine lv_aload_n hx hb dX9_makeRoom_69 rfl (lv_at hl 0 rfl) ?_
    refine va_get (D := gD g) (ci := 8) (v := .ref r0_1) (C := RX9) (T := TX9) (N := 6) hx hb hts inX9 hown hK hP k_1 hk_1 rfl 0 (by decide) (hts _ kw_1552) (fun _ h9 => h9) rfl dX9_makeRoom_70 ?_
    refine lv_aload_n hx hb dX9_makeRoom_73 rfl (lv_at hl 1 rfl) ?_
    obtain ⟨k_7, fs9, hk_7⟩ := gC_of o_b1
    refine opn_X8 hG hk_7 (fun r0_7 n0_7 r1_7 n1_7 c2_7 r3_7 n3_7 c4_7 r5_7 n5_7 r6_7 n6_7 r7_7 n7_7 r8_7 n8_7 c9_7 c10_7 c11_7 v12_7 v13_7 v14_7 hf9 a_r0_7 f1_7 a_r1_7 f3_7 a_r3_7 f5_7 a_r5_7 f7_7 a_r6_7 f9_7 a_r7_7 f11_7 a_r8_7 f13_7 o_v12_7 o_v13_7 o_v14_7 f17_7 f18_7 f19_7 f20_7 f21_7 f22_7 f23_7 f24_7 f25_7 f26_7 f27_7 f28_7 f29_7 => ?_)
    subst hf9
    refine va_get (D := gD g) (ci := 7) (v := .int c11_7) (C := RX8) (T := TX8) (N := 15) hx hb hts inX8 hown hK hP k_7 hk_7 rfl 11 (by decide) (hts _ kw_1688) (fun _ h9 => h9) rfl dX9_makeRoom_74 ?_
    have hV9 : okv ws 7 11 (.int c11_7) := okv_i
    refine va_put (D := gD g) (ci := 7) (v := .int c11_7) (ty := .int) (C := RX8) (T := TX8) (N := 15) hx hb hts inX8 tyX8 tyX8_ok nmX8 hown hK hP hD hS k_2 hk_2 rfl 11 (by decide) (hts _ kw_1688) (fun _ h9 => h9) rfl (by decide +kernel) rfl rfl (Nat.le_of_ble_eq_true rfl) dX9_makeRoom_77 (fun H locs hP hD hS => ?_)
    have hi_8 : invX8 g ws r0_1 [.ref r0_2, .ref r1_2, .int c2_2, .ref r3_2, .int c4_2, .ref r5_2, .ref r6_2, .ref r7_2, .ref r8_2, .int c9_2, .int c10_2, .int c11_7, va_rf v12_2, va_rf v13_2, va_rf v14_2] := ⟨r0_2, (n0_2), r1_2, (n1_2), (c2_2), r3_2, (n3_2), (c4_2), r5_2, (n5_2), r6_2, (n6_2), r7_2, (n7_2), r8_2, (n8_2), (c9_2), (c10_2), (c11_7), v12_2, v13_2, v14_2, rfl, a_r0_2, f1_2, a_r1_2, f3_2, a_r3_2, f5_2, a_r5_2, f7_2, a_r6_2, f9_2, a_r7_2, f11_2, a_r8_2, f13_2, o_v12_2, o_v13_2, o_v14_2, f17_2, f18_2, f19_2, f20_2, f21_2, f22_2, f23_2, f24_2, f25_2, f26_2, f27_2, f28_2, f29_2, trivial⟩
    obtain ⟨ws_9, e_ws_9⟩ : ∃ z, z = ws.set k_2 (r0_1, .inr (7, [.ref r0_2, .ref r1_2, .int c2_2, .ref r3_2, .int c4_2, .ref r5_2, .ref r6_2, .ref r7_2, .ref r8_2, .int c9_2, .int c10_2, .int c11_7, va_rf v12_2, va_rf v13_2, va_rf v14_2])) := ⟨_, rfl⟩
    have hP : va_P (gD g) cl0 ws_9 H := by rw [e_ws_9]; exact hP
    have hD : va_D A ws_9 := by rw [e_ws_9]; exact hD
    have E_10 : gE ws ws_9 := gE_set e_ws_9 hk_2 (cw_o (fi := 11) (v := .int c11_7) rfl (by decide))
    have hG : Good g ws_9 := Good_set (fi := 11) (v := .int c11_7) e_ws_9 hk_2 E_10 rfl hV9 hG (ivX8 hi_8)
    have Fr_11 : gF [(7, 11)] [] (some r0_1) ws ws_9 := gF_put (fi := 11) (v := .int c11_7) e_ws_9 hk_2 rfl (by decide)
    have pp_12 := Fr_11.pp
    have hkN := gset_self e_ws_9 hk_2
    have hk_1 := gset_ob e_ws_9 hk_2 hk_1 (by decide)
    have hk_4 := gset_obI e_ws_9 hk_2 hk_4
    have aa_13 := a_r0_7
    have aa_14 := a_r1_7
    have aa_15 := a_r3_7
    have aa_16 := a_r5_7
    have aa_17 := a_r6_7
    have aa_18 := a_r7_7
    have aa_19 := a_r8_7
    have hk_2 := hkN
    have o_h0 := E_10.1 _ _ o_h0
    have o_b1 := E_10.1 _ _ o_b1
    have o_r0_1 := E_10.1 _ _ o_r0_1
    have a_r1_1 := E_10.1 _ _ a_r1_1
    have a_r2_1 := E_10.1 _ _ a_r2_1
    have a_r3_1 := E_10.1 _ _ a_r3_1
    have a_r4_1 := E_10.1 _ _ a_r4_1
    have a_r5_1 := E_10.1 _ _ a_r5_1
    have a_r0_2 := E_10.1 _ _ a_r0_2
    have a_r1_2 := E_10.1 _ _ a_r1_2
    have a_r3_2 := E_10.1 _ _ a_r3_2
    have a_r5_2 := E_10.1 _ _ a_r5_2
    have a_r6_2 := E_10.1 _ _ a_r6_2
    have a_r7_2 := E_10.1 _ _ a_r7_2
    have a_r8_2 := E_10.1 _ _ a_r8_2
    have o_v12_2 : ∀ b, v12_2 = some b → ∃ n, gI ws_9 b g.cB n ∧ n < 2147483648 := fun b h => (o_v12_2 b h).imp (fun n h => ⟨E_10.1 _ _ h.1, h.2⟩)
    have o_v13_2 : ∀ b, v13_2 = some b → ∃ n, gJ ws_9 b g.cL n ∧ n < 2147483648 := fun b h => (o_v13_2 b h).imp (fun n h => ⟨E_10.1 _ _ h.1, h.2⟩)
    have o_v14_2 : ∀ b, v14_2 = some b → ∃ n, gJ ws_9 b g.cL n ∧ n < 2147483648 := fun b h => (o_v14_2 b h).imp (fun n h => ⟨E_10.1 _ _ h.1, h.2⟩)
    have tq_20 : smW ws_9 h0 := ⟨_, r0_1, _, _, _, _, _, _, _, _, _, hk_1, rfl, hk_2, rfl, rfl, a_r0_2, a_r3_2, (by first | (have q_f1_2 := Hide.out f1_2; have q_f5_2 := Hide.out f5_2; have q_f17_2 := Hide.out f17_2; have q_f18_2 := Hide.out f18_2; have q_f20_2 := Hide.out f20_2; have q_f22_2 := Hide.out f22_2; have q_f28_2 := Hide.out f28_2; have q_fq2_r := Hide.out fq2_r; have q_z_5 := i_len ez_5 f1_2; have g_c2_2 := i_rg c2_2; have g_c4_2 := i_rg c4_2; have g_z_5 := i_rg z_5; have e96 : (1296 : Int32).toInt = 1296 := (by decide); have e12 : (1200 : Int32).toInt = 1200 := (by decide); omega) | (have e1296 : (1296 : Int32).toInt = 1296 := (by decide); have q_f1_2 := Hide.out f1_2; have q_f5_2 := Hide.out f5_2; have q_f17_2 := Hide.out f17_2; have q_f18_2 := Hide.out f18_2; have q_f20_2 := Hide.out f20_2; have q_f22_2 := Hide.out f22_2; have q_f28_2 := Hide.out f28_2; have q_fq2_r := Hide.out fq2_r; have q_z_5 := i_len ez_5 f1_2; have q_f4_1 := Hide.out f4_1; have q_f6_1 := Hide.out f6_1; have q_f8_1 := Hide.out f8_1; have q_f10_1 := Hide.out f10_1; have q_f3_2 := Hide.out f3_2; have q_f19_2 := Hide.out f19_2; have q_f21_2 := Hide.out f21_2; have q_c_6 := i_le c_6; have g_c2_2 := i_rg c2_2; have g_c4_2 := i_rg c4_2; have g_z_5 := i_rg z_5; have e96 : (1296 : Int32).toInt = 1296 := (by decide); have e12 : (1200 : Int32).toInt = 1200 := (by decide); omega))⟩
    refine W_led (fun hLd => ?_)
    have hcl : 0 + PC ws_9 ≤ PC ws + (12) := (by have e0 : (0 : Int32).toInt = 0 := (by decide); omega)
    have hsl : 0 + PS ws_9 ≤ PS ws + (9059) := (by have e0 : (0 : Int32).toInt = 0 := (by decide); omega)
    refine W.widen (k := PC ws + (12)) (n := PS ws + (9059)) (by omega) (by omega) ?_
    have tq_21 : KA ws ws_9 := KA_mo ((gF.mo (F' := [(7, 11)]) (C' := []) (S' := none) Fr_11 (fun _ h => h) (fun _ h => h) (Or.inl rfl))) (by decide) (by decide) (by decide) (by decide) (by decide) (by decide) (by decide) (by decide) tq_3
    exact W.vret hx hb hr (fun t9 ht9 hW9 => ⟨⟨ws_9, rfl, ⟨⟨(gP_of hD hk_1 (fun p90 q90 e90 g90 => by cases e90; have z90 := gI_n hD a_r2_1 g90; subst z90; exact (by first | (have q_f4_1 := Hide.out f4_1; have q_fq2_r := Hide.out fq2_r; omega) | (have q_f4_1 := Hide.out f4_1; have q_fq2_r := Hide.out fq2_r; have q_f6_1 := Hide.out f6_1; have q_f8_1 := Hide.out f8_1; have q_f10_1 := Hide.out f10_1; have q_f1_2 := Hide.out f1_2; have q_f5_2 := Hide.out f5_2; have q_f17_2 := Hide.out f17_2; have q_f18_2 := Hide.out f18_2; have q_f20_2 := Hide.out f20_2; have q_f22_2 := Hide.out f22_2; have q_f28_2 := Hide.out f28_2; have q_z_5 := i_len ez_5 f1_2; have g_c2_2 := i_rg c2_2; have g_c4_2 := i_rg c4_2; have g_z_5 := i_rg z_5; omega) | (have e1296 : (1296 : Int32).toInt = 1296 := (by decide); have q_f4_1 := Hide.out f4_1; have q_fq2_r := Hide.out fq2_r; have q_f6_1 := Hide.out f6_1; have q_f8_1 := Hide.out f8_1; have q_f10_1 := Hide.out f10_1; have q_f1_2 := Hide.out f1_2; have q_f5_2 := Hide.out f5_2; have q_f17_2 := Hide.out f17_2; have q_f18_2 := Hide.out f18_2; have q_f20_2 := Hide.out f20_2; have q_f22_2 := Hide.out f22_2; have q_f28_2 := Hide.out f28_2; have q_z_5 := i_len ez_5 f1_2; have q_f3_2 := Hide.out f3_2; have q_f19_2 := Hide.out f19_2; have q_f21_2 := Hide.out f21_2; have q_c_6 := i_le c_6; have g_c2_2 := i_rg c2_2; have g_c4_2 := i_rg c4_2; have g_z_5 := i_rg z_5; omega)))), (gP_of hD hk_1 (fun p90 q90 e90 g90 => by cases e90; have z90 := gI_n hD a_r3_1 g90; subst z90; exact (by first | (have q_f6_1 := Hide.out f6_1; have q_fq2_r := Hide.out fq2_r; omega) | (have q_f6_1 := Hide.out f6_1; have q_fq2_r := Hide.out fq2_r; have q_f4_1 := Hide.out f4_1; have q_f8_1 := Hide.out f8_1; have q_f10_1 := Hide.out f10_1; have q_f1_2 := Hide.out f1_2; have q_f5_2 := Hide.out f5_2; have q_f17_2 := Hide.out f17_2; have q_f18_2 := Hide.out f18_2; have q_f20_2 := Hide.out f20_2; have q_f22_2 := Hide.out f22_2; have q_f28_2 := Hide.out f28_2; have q_z_5 := i_len ez_5 f1_2; have g_c2_2 := i_rg c2_2; have g_c4_2 := i_rg c4_2; have g_z_5 := i_rg z_5; omega) | (have e1296 : (1296 : Int32).toInt = 1296 := (by decide); have q_f6_1 := Hide.out f6_1; have q_fq2_r := Hide.out fq2_r; have q_f4_1 := Hide.out f4_1; have q_f8_1 := Hide.out f8_1; have q_f10_1 := Hide.out f10_1; have q_f1_2 := Hide.out f1_2; have q_f5_2 := Hide.out f5_2; have q_f17_2 := Hide.out f17_2; have q_f18_2 := Hide.out f18_2; have q_f20_2 := Hide.out f20_2; have q_f22_2 := Hide.out f22_2; have q_f28_2 := Hide.out f28_2; have q_z_5 := i_len ez_5 f1_2; have q_f3_2 := Hide.out f3_2; have q_f19_2 := Hide.out f19_2; have q_f21_2 := Hide.out f21_2; have q_c_6 := i_le c_6; have g_c2_2 := i_rg c2_2; have g_c4_2 := i_rg c4_2; have g_z_5 := i_rg z_5; omega)))), (gP_of hD hk_1 (fun p90 q90 e90 g90 => by cases e90; have z90 := gI_n hD a_r4_1 g90; subst z90; exact (by first | (have q_f8_1 := Hide.out f8_1; have q_fq2_r := Hide.out fq2_r; omega) | (have q_f8_1 := Hide.out f8_1; have q_fq2_r := Hide.out fq2_r; have q_f4_1 := Hide.out f4_1; have q_f6_1 := Hide.out f6_1; have q_f10_1 := Hide.out f10_1; have q_f1_2 := Hide.out f1_2; have q_f5_2 := Hide.out f5_2; have q_f17_2 := Hide.out f17_2; have q_f18_2 := Hide.out f18_2; have q_f20_2 := Hide.out f20_2; have q_f22_2 := Hide.out f22_2; have q_f28_2 := Hide.out f28_2; have q_z_5 := i_len ez_5 f1_2; have g_c2_2 := i_rg c2_2; have g_c4_2 := i_rg c4_2; have g_z_5 := i_rg z_5; omega) | (have e1296 : (1296 : Int32).toInt = 1296 := (by decide); have q_f8_1 := Hide.out f8_1; have q_fq2_r := Hide.out fq2_r; have q_f4_1 := Hide.out f4_1; have q_f6_1 := Hide.out f6_1; have q_f10_1 := Hide.out f10_1; have q_f1_2 := Hide.out f1_2; have q_f5_2 := Hide.out f5_2; have q_f17_2 := Hide.out f17_2; have q_f18_2 := Hide.out f18_2; have q_f20_2 := Hide.out f20_2; have q_f22_2 := Hide.out f22_2; have q_f28_2 := Hide.out f28_2; have q_z_5 := i_len ez_5 f1_2; have q_f3_2 := Hide.out f3_2; have q_f19_2 := Hide.out f19_2; have q_f21_2 := Hide.out f21_2; have q_c_6 := i_le c_6; have g_c2_2 := i_rg c2_2; have g_c4_2 := i_rg c4_2; have g_z_5 := i_rg z_5; omega)))), (gP_of hD hk_1 (fun p90 q90 e90 g90 => by cases e90; have z90 := gI_n hD a_r5_1 g90; subst z90; exact (by first | (have q_f10_1 := Hide.out f10_1; have q_fq2_r := Hide.out fq2_r; omega) | (have q_f10_1 := Hide.out f10_1; have q_fq2_r := Hide.out fq2_r; have q_f4_1 := Hide.out f4_1; have q_f6_1 := Hide.out f6_1; have q_f8_1 := Hide.out f8_1; have q_f1_2 := Hide.out f1_2; have q_f5_2 := Hide.out f5_2; have q_f17_2 := Hide.out f17_2; have q_f18_2 := Hide.out f18_2; have q_f20_2 := Hide.out f20_2; have q_f22_2 := Hide.out f22_2; have q_f28_2 := Hide.out f28_2; have q_z_5 := i_len ez_5 f1_2; have g_c2_2 := i_rg c2_2; have g_c4_2 := i_rg c4_2; have g_z_5 := i_rg z_5; omega) | (have e1296 : (1296 : Int32).toInt = 1296 := (by decide); have q_f10_1 := Hide.out f10_1; have q_fq2_r := Hide.out fq2_r; have q_f4_1 := Hide.out f4_1; have q_f6_1 := Hide.out f6_1; have q_f8_1 := Hide.out f8_1; have q_f1_2 := Hide.out f1_2; have q_f5_2 := Hide.out f5_2; have q_f17_2 := Hide.out f17_2; have q_f18_2 := Hide.out f18_2; have q_f20_2 := Hide.out f20_2; have q_f22_2 := Hide.out f22_2; have q_f28_2 := Hide.out f28_2; have q_z_5 := i_len ez_5 f1_2; have q_f3_2 := Hide.out f3_2; have q_f19_2 := Hide.out f19_2; have q_f21_2 := Hide.out f21_2; have q_c_6 := i_le c_6; have g_c2_2 := i_rg c2_2; have g_c4_2 := i_rg c4_2; have g_z_5 := i_rg z_5; omega))))⟩, tq_20, ⟨tq_21, frW_of hD hk_1 rfl (Or.inl ⟨_, _, hkH9, rfl⟩)⟩⟩, ⟨E_10, (gF.mo (F' := [(7, 0), (7, 1), (7, 3), (7, 5), (7, 6), (7, 7), (7, 8), (7, 11), (8, 0), (8, 2), (8, 3), (8, 4), (8, 5)]) (C' := []) (S' := none) Fr_11 (by decide) (fun _ h => h) (Or.inl rfl)), hG, by rw [ht9]; exact hP, hD, _, _, by rw [ht9]; exact hLd, hcl, hsl⟩⟩, hS.F ht9⟩) hS.2.2 dX9_makeRoom_80
  · refine lv_aload_n hx hb dX9_makeRoom_14 rfl (lv_at hl 0 rfl) ?_
    refine va_new (ci := 7) (fs := dfX8) (C := RX8) (T := TX8) (N := 15) hx hb hts inX8 tyX8 tyX8_ok hown (hts _ kw_1590) (hts _ kw_781) (hts _ kw_782) hK hP hD hS hA rfl dfX8_ok (show 0 + 1 ≤ PC ws + (12) from (by have e0 : (0 : Int32).toInt = 0 := (by decide); omega)) (show 0 + 15 ≤ PS ws + (9059) from (by have e0 : (0 : Int32).toInt = 0 := (by decide); omega)) dX9_makeRoom_15 (fun q_22 H hP9 hD9 hS => ?_)
    have hP := (P_split hP9).1
    have hD := (D_split hD9).1
    have hN : pend A g ws q_22 7 dfX8 H := ⟨(P_split hP9).2, (D_split hD9).2⟩
    clear hP9 hD9
    refine lv_dup hx hb dX9_makeRoom_18 rfl ?_
    refine lv_sipush (v := 1296) hx hb dX9_makeRoom_19 (by decide) ?_
    refine lv_sipush (v := 1200) hx hb dX9_makeRoom_22 (by decide) ?_
    refine lv_bipush (v := 16) hx hb dX9_makeRoom_25 (by decide) ?_
    have hNf := hN.2.2
    have hP := va_P.app hP hN.1
    have hD0 := hD
    have hD := D_join (x := (q_22, .inr (7, dfX8))) hD hN.2.1 hN.2.2
    have hFc := gfree hD hS hA
    refine W_led (fun hL0 => ?_)
    refine va_callv (va_runI (As := [.int 1296, .int 1200, .int 16]) (rest := [.ref q_22, .ref h0]) ⟨hx, hb, hml, hown, hts⟩ (m_X8_init l g H (ws ++ [(q_22, .inr (7, dfX8))]) ws.length q_22 (1296) (1200) (16) (hG.newX (by simp [dfX8]) rfl) get_new (by have e1296 : (1296 : Int32).toInt = 1296 := (by decide); omega) (by have e1200 : (1200 : Int32).toInt = 1200 := (by decide); omega) (by have e16 : (16 : Int32).toInt = 16 := (by decide); omega)) (cwI 3 hts (gd_I kw_1496) rfl rfl rfl (hts _ kw_782) (hts _ kw_1591) (hts _ kw_1497) rfl (by decide +kernel) ⟨Nat.le_of_ble_eq_true rfl, Nat.le_of_ble_eq_true rfl⟩) ⟨gblindH, fun U hU hW9 => gmkH hU hW9 hP hK hD hex hE hS hFc⟩ rfl rfl hl.1 rfl (lv_room (Nat.le_of_ble_eq_true rfl)) dX9_makeRoom_27 ⟨(show 0 + 1 + (7) ≤ PC ws + (12) from (by have e7 : (7 : Int32).toInt = 7 := (by decide); have e16 : (16 : Int32).toInt = 16 := (by decide); have e1200 : (1200 : Int32).toInt = 1200 := (by decide); have e1296 : (1296 : Int32).toInt = 1296 := (by decide); omega)), (show 0 + 15 + (2 * (1296 : Int32).toInt.toNat + (1200 : Int32).toInt.toNat + 4 * (16 : Int32).toInt.toNat) ≤ PS ws + (9059) from (by have e7 : (7 : Int32).toInt = 7 := (by decide); have e16 : (16 : Int32).toInt = 16 := (by decide); have e1200 : (1200 : Int32).toInt = 1200 := (by decide); have e1296 : (1296 : Int32).toInt = 1296 := (by decide); omega))⟩) hS (fun q _ h => hFc q h) hFc (fun  ws_23 t9 H1 locs ht9 hvm9 hw9 hB9 hz9 hk9 hS => ?_)
    obtain ⟨E9, gx9, pm9, hG, hP1, hD1, dc_26, ds_27, hLd, hdc_26, hds_27⟩ := hB9
    have px9 : pM ws (ws ++ [(q_22, .inr (7, dfX8))]) := pM_ob (by intro j h; simp [pK] at h)
    have E_24 : gE ws ws_23 := gE_push.tr E9
    have Fr_25 : gF [] [] none ws ws_23 := gF_new gx9 pm9 px9
    have pq9 := px9.pp
    have hdc_26 : dc_26 + PC ws_23 ≤ PC ws + (7) := by omega
    have hds_27 : ds_27 + PS ws_23 ≤ PS ws + (2 * (1296 : Int32).toInt.toNat + (1200 : Int32).toInt.toNat + 4 * (16 : Int32).toInt.toNat) := by omega
    rw [ht9] at hLd
    refine W_tight (hL0.tr hLd).1 (hL0.tr hLd).2.1 ?_
    clear hL0 hLd pq9
    have hP : va_P (gD g) cl0 ws_23 H1 := by rw [← ht9]; exact hP1
    have hD : va_D A ws_23 := hD1.weaken (fun _ _ _ h => hFc _ h)
    have o_q_22 : gC ws_23 q_22 7 := E9.1 _ _ gS_new
    obtain ⟨kf_28, kf_29, kf_30, kf_31, kf_32⟩ := id hw9
    clear hP1 hD1 hD0 hN E9 gx9 pm9 px9 hz9 hk9 hvm9 ht9 hw9
    generalize H1 = H at hP hS ⊢
    have aa_33 := a_r1_1
    have aa_34 := a_r2_1
    have aa_35 := a_r3_1
    have aa_36 := a_r4_1
    have aa_37 := a_r5_1
    have aa_38 := a_r0_2
    have aa_39 := a_r1_2
    have aa_40 := a_r3_2
    have aa_41 := a_r5_2
    have aa_42 := a_r6_2
    have aa_43 := a_r7_2
    have aa_44 := a_r8_2
    have o_h0 := E_24.1 _ _ o_h0
    have o_b1 := E_24.1 _ _ o_b1
    obtain ⟨k_45, fs9, hk_45⟩ := gC_of o_q_22
    refine opn_X8 hG hk_45 (fun r0_45 n0_45 r1_45 n1_45 c2_45 r3_45 n3_45 c4_45 r5_45 n5_45 r6_45 n6_45 r7_45 n7_45 r8_45 n8_45 c9_45 c10_45 c11_45 v12_45 v13_45 v14_45 hf9 a_r0_45 f1_45 a_r1_45 f3_45 a_r3_45 f5_45 a_r5_45 f7_45 a_r6_45 f9_45 a_r7_45 f11_45 a_r8_45 f13_45 o_v12_45 o_v13_45 o_v14_45 f17_45 f18_45 f19_45 f20_45 f21_45 f22_45 f23_45 f24_45 f25_45 f26_45 f27_45 f28_45 f29_45 => ?_)
    subst hf9
    have kq_46 := kf_28 _ _ _ hk_45 _ _ rfl a_r0_45
    replace kq_46 := hide kq_46
    have kq_47 := kf_29 _ _ _ hk_45 _ _ rfl a_r3_45
    replace kq_47 := hide kq_47
    have kq_48 := kf_30 _ _ _ hk_45 _ _ rfl a_r5_45
    replace kq_48 := hide kq_48
    have kq_49 := kf_31 _ _ _ hk_45 _ rfl
    replace kq_49 := hide kq_49
    have kq_50 := kf_32 _ _ _ hk_45 _ rfl
    replace kq_50 := hide kq_50
    obtain ⟨fs9, hk_51, hq_51⟩ := ((gF.a (F' := []) Fr_25 (fun _ h => h))) _ _ _ hk_1
    refine opn_X9 hG hk_51 (fun r0_51 r1_51 n1_51 r2_51 n2_51 r3_51 n3_51 r4_51 n4_51 r5_51 n5_51 hf9 o_r0_51 a_r1_51 f2_51 a_r2_51 f4_51 a_r3_51 f6_51 a_r4_51 f8_51 a_r5_51 f10_51 f11_51 => ?_)
    subst hf9
    obtain rfl := fe_r (hq_51 0 (by decide))
    have o_r0_1 := o_r0_51
    obtain rfl := fe_r (hq_51 2 (by decide))
    have hn9 := gI_n hD ((E_24).1 _ _ aa_34) a_r2_51
    subst hn9
    have a_r2_1 := a_r2_51
    obtain rfl := fe_r (hq_51 3 (by decide))
    have hn9 := gI_n hD ((E_24).1 _ _ aa_35) a_r3_51
    subst hn9
    have a_r3_1 := a_r3_51
    obtain rfl := fe_r (hq_51 4 (by decide))
    have hn9 := gI_n hD ((E_24).1 _ _ aa_36) a_r4_51
    subst hn9
    have a_r4_1 := a_r4_51
    obtain rfl := fe_r (hq_51 5 (by decide))
    have hn9 := gI_n hD ((E_24).1 _ _ aa_37) a_r5_51
    subst hn9
    have a_r5_1 := a_r5_51
    have hV9 : okv ws_23 8 0 (.ref q_22) := (okv_o hD o_q_22)
    refine va_put (D := gD g) (ci := 8) (v := .ref q_22) (ty := (.object "CodeFoundry$Row")) (C := RX9) (T := TX9) (N := 6) hx hb hts inX9 tyX9 tyX9_ok nmX9 hown hK hP hD hS k_1 hk_51 rfl 0 (by decide) (hts _ kw_1552) (fun _ h9 => h9) rfl (by decide +kernel) rfl rfl (Nat.le_of_ble_eq_true rfl) dX9_makeRoom_30 (fun H locs hP hD hS => ?_)
    have hi_52 : invX9 g ws_23 h0 [.ref q_22, .ref r1_51, .ref r2_1, .ref r3_1, .ref r4_1, .ref r5_1] := ⟨q_22, r1_51, (n1_51), r2_1, (n2_1), r3_1, (n3_1), r4_1, (n4_1), r5_1, (n5_1), rfl, o_q_22, a_r1_51, f2_51, a_r2_1, f4_51, a_r3_1, f6_51, a_r4_1, f8_51, a_r5_1, f10_51, f11_51, trivial⟩
    obtain ⟨ws_53, e_ws_53⟩ : ∃ z, z = ws_23.set k_1 (h0, .inr (8, [.ref q_22, .ref r1_51, .ref r2_1, .ref r3_1, .ref r4_1, .ref r5_1])) := ⟨_, rfl⟩
    have hP : va_P (gD g) cl0 ws_53 H := by rw [e_ws_53]; exact hP
    have hD : va_D A ws_53 := by rw [e_ws_53]; exact hD
    have E_54 : gE ws_23 ws_53 := gE_set e_ws_53 hk_51 (cw_o (fi := 0) (v := .ref q_22) rfl (by decide))
    have hG : Good g ws_53 := Good_set (fi := 0) (v := .ref q_22) e_ws_53 hk_51 E_54 rfl hV9 hG (ivX9 hi_52)
    have Fr_55 : gF [(8, 0)] [] (some h0) ws_23 ws_53 := gF_put (fi := 0) (v := .ref q_22) e_ws_53 hk_51 rfl (by decide)
    have pp_56 := Fr_55.pp
    have hkN := gset_self e_ws_53 hk_51
    have hk_45 := gset_ob e_ws_53 hk_51 hk_45 (by decide)
    have hk_51 := hkN
    have o_h0 := E_54.1 _ _ o_h0
    have o_b1 := E_54.1 _ _ o_b1
    have o_q_22 := E_54.1 _ _ o_q_22
    have a_r0_45 := E_54.1 _ _ a_r0_45
    have a_r1_45 := E_54.1 _ _ a_r1_45
    have a_r3_45 := E_54.1 _ _ a_r3_45
    have a_r5_45 := E_54.1 _ _ a_r5_45
    have a_r6_45 := E_54.1 _ _ a_r6_45
    have a_r7_45 := E_54.1 _ _ a_r7_45
    have a_r8_45 := E_54.1 _ _ a_r8_45
    have o_v12_45 : ∀ b, v12_45 = some b → ∃ n, gI ws_53 b g.cB n ∧ n < 2147483648 := fun b h => (o_v12_45 b h).imp (fun n h => ⟨E_54.1 _ _ h.1, h.2⟩)
    have o_v13_45 : ∀ b, v13_45 = some b → ∃ n, gJ ws_53 b g.cL n ∧ n < 2147483648 := fun b h => (o_v13_45 b h).imp (fun n h => ⟨E_54.1 _ _ h.1, h.2⟩)
    have o_v14_45 : ∀ b, v14_45 = some b → ∃ n, gJ ws_53 b g.cL n ∧ n < 2147483648 := fun b h => (o_v14_45 b h).imp (fun n h => ⟨E_54.1 _ _ h.1, h.2⟩)
    have a_r1_51 := E_54.1 _ _ a_r1_51
    have a_r2_1 := E_54.1 _ _ a_r2_1
    have a_r3_1 := E_54.1 _ _ a_r3_1
    have a_r4_1 := E_54.1 _ _ a_r4_1
    have a_r5_1 := E_54.1 _ _ a_r5_1
    refine lv_aload_n hx hb dX9_makeRoom_33 rfl (lv_at hl 0 rfl) ?_
    refine lv_sipush (v := 1297) hx hb dX9_makeRoom_34 (by decide) ?_
    obtain ⟨n_58, en_58⟩ : ∃ y : Nat, (1297 : Int32).toNatClampNeg = y := ⟨_, rfl⟩
    have bn_58 : n_58 ≤ 1297 := i_cl en_58 (by have e1297 : (1297 : Int32).toInt = 1297 := (by decide); omega)
    have zn_58 : 0 ≤ (1297 : Int32).toInt := (by have e1297 : (1297 : Int32).toInt = 1297 := (by decide); omega)
    have q_n_58 := i_nn en_58 zn_58
    refine va_newa (atype := .boolean) (ty := .boolean) (a0 := (n_58, .inl (fun _ => 0))) (N' := n_58) hx hb (hts (.arrayClass .boolean) kw_553) rfl hK hP hD hS hA (fun _ => rfl) (i_nl0 zn_58) en_58 (i_by bn_58 (by decide)) (show 0 + 1 + dc_26 + 1 ≤ PC ws + (12) from (by have e16 : (16 : Int32).toInt = 16 := (by decide); have e1200 : (1200 : Int32).toInt = 1200 := (by decide); have e1296 : (1296 : Int32).toInt = 1296 := (by decide); have e1297 : (1297 : Int32).toInt = 1297 := (by decide); omega)) (show 0 + 15 + ds_27 + n_58 ≤ PS ws + (9059) from (by have e16 : (16 : Int32).toInt = 16 := (by decide); have e1200 : (1200 : Int32).toInt = 1200 := (by decide); have e1296 : (1296 : Int32).toInt = 1296 := (by decide); have e1297 : (1297 : Int32).toInt = 1297 := (by decide); omega)) dX9_makeRoom_37 (fun q_57 cA9 H hK9 hP hD hS => ?_)
    obtain rfl := cls_new hK hK9 (k := 2) rfl (fun _ h => by cases h)
    clear hK9
    have hD9 := hD
    obtain ⟨ws_59, e_ws_59⟩ : ∃ z, z = ws_53 ++ [(q_57, .inl (g.cZ, n_58, .inl (fun _ => 0)))] := ⟨_, rfl⟩
    have hP : va_P (gD g) cl0 ws_59 H := by rw [e_ws_59]; exact hP
    have hD : va_D A ws_59 := by rw [e_ws_59]; exact hD
    have E_60 : gE ws_53 ws_59 := by rw [e_ws_59]; exact gE_push
    have Fr_61 : gF [] [] none ws_53 ws_59 := by rw [e_ws_59]; exact gF_push
    have fr_q_57 : frs ws_59 q_57 := by rw [e_ws_59]; exact frs_new hD9 hG.u
    have hG : Good g ws_59 := by rw [e_ws_59]; exact Good_pushI hD9 hG
    have a_q_57 : gI ws_59 q_57 g.cZ n_58 := by rw [e_ws_59]; exact gS_new
    have s_q_57 : n_58 < 2147483648 := Nat.lt_of_le_of_lt bn_58 (by decide)
    have pp_62 := Fr_61.pp
    have hk_45 := get_oldE e_ws_59 hk_45
    have hk_51 := get_oldE e_ws_59 hk_51
    have o_h0 := E_60.1 _ _ o_h0
    have o_b1 := E_60.1 _ _ o_b1
    have o_q_22 := E_60.1 _ _ o_q_22
    have a_r0_45 := E_60.1 _ _ a_r0_45
    have a_r1_45 := E_60.1 _ _ a_r1_45
    have a_r3_45 := E_60.1 _ _ a_r3_45
    have a_r5_45 := E_60.1 _ _ a_r5_45
    have a_r6_45 := E_60.1 _ _ a_r6_45
    have a_r7_45 := E_60.1 _ _ a_r7_45
    have a_r8_45 := E_60.1 _ _ a_r8_45
    have o_v12_45 : ∀ b, v12_45 = some b → ∃ n, gI ws_59 b g.cB n ∧ n < 2147483648 := fun b h => (o_v12_45 b h).imp (fun n h => ⟨E_60.1 _ _ h.1, h.2⟩)
    have o_v13_45 : ∀ b, v13_45 = some b → ∃ n, gJ ws_59 b g.cL n ∧ n < 2147483648 := fun b h => (o_v13_45 b h).imp (fun n h => ⟨E_60.1 _ _ h.1, h.2⟩)
    have o_v14_45 : ∀ b, v14_45 = some b → ∃ n, gJ ws_59 b g.cL n ∧ n < 2147483648 := fun b h => (o_v14_45 b h).imp (fun n h => ⟨E_60.1 _ _ h.1, h.2⟩)
    have a_r1_51 := E_60.1 _ _ a_r1_51
    have a_r2_1 := E_60.1 _ _ a_r2_1
    have a_r3_1 := E_60.1 _ _ a_r3_1
    have a_r4_1 := E_60.1 _ _ a_r4_1
    have a_r5_1 := E_60.1 _ _ a_r5_1
    have hV9 : okv ws_59 8 2 (.ref q_57) := (okv_a a_q_57 fr_q_57)
    refine va_put (D := gD g) (ci := 8) (v := .ref q_57) (ty := (.array .boolean)) (C := RX9) (T := TX9) (N := 6) hx hb hts inX9 tyX9 tyX9_ok nmX9 hown hK hP hD hS k_1 hk_51 rfl 2 (by decide) (hts _ kw_1566) (fun _ h9 => h9) rfl (by decide +kernel) rfl rfl (Nat.le_of_ble_eq_true rfl) dX9_makeRoom_39 (fun H locs hP hD hS => ?_)
    have hi_63 : invX9 g ws_59 h0 [.ref q_22, .ref r1_51, .ref q_57, .ref r3_1, .ref r4_1, .ref r5_1] := ⟨q_22, r1_51, (n1_51), q_57, (n_58), r3_1, (n3_1), r4_1, (n4_1), r5_1, (n5_1), rfl, o_q_22, a_r1_51, f2_51, a_q_57, s_q_57, a_r3_1, f6_51, a_r4_1, f8_51, a_r5_1, f10_51, f11_51, trivial⟩
    obtain ⟨ws_64, e_ws_64⟩ : ∃ z, z = ws_59.set k_1 (h0, .inr (8, [.ref q_22, .ref r1_51, .ref q_57, .ref r3_1, .ref r4_1, .ref r5_1])) := ⟨_, rfl⟩
    have hP : va_P (gD g) cl0 ws_64 H := by rw [e_ws_64]; exact hP
    have hD : va_D A ws_64 := by rw [e_ws_64]; exact hD
    have E_65 : gE ws_59 ws_64 := gE_set e_ws_64 hk_51 (cw_o (fi := 2) (v := .ref q_57) rfl (by decide))
    have hG : Good g ws_64 := Good_set (fi := 2) (v := .ref q_57) e_ws_64 hk_51 E_65 rfl hV9 hG (ivX9 hi_63)
    have Fr_66 : gF [(8, 2)] [] (some h0) ws_59 ws_64 := gF_put (fi := 2) (v := .ref q_57) e_ws_64 hk_51 rfl (by decide)
    have pp_67 := Fr_66.pp
    have hkN := gset_self e_ws_64 hk_51
    have hk_45 := gset_ob e_ws_64 hk_51 hk_45 (by decide)
    have hk_51 := hkN
    have o_h0 := E_65.1 _ _ o_h0
    have o_b1 := E_65.1 _ _ o_b1
    have o_q_22 := E_65.1 _ _ o_q_22
    have a_r0_45 := E_65.1 _ _ a_r0_45
    have a_r1_45 := E_65.1 _ _ a_r1_45
    have a_r3_45 := E_65.1 _ _ a_r3_45
    have a_r5_45 := E_65.1 _ _ a_r5_45
    have a_r6_45 := E_65.1 _ _ a_r6_45
    have a_r7_45 := E_65.1 _ _ a_r7_45
    have a_r8_45 := E_65.1 _ _ a_r8_45
    have o_v12_45 : ∀ b, v12_45 = some b → ∃ n, gI ws_64 b g.cB n ∧ n < 2147483648 := fun b h => (o_v12_45 b h).imp (fun n h => ⟨E_65.1 _ _ h.1, h.2⟩)
    have o_v13_45 : ∀ b, v13_45 = some b → ∃ n, gJ ws_64 b g.cL n ∧ n < 2147483648 := fun b h => (o_v13_45 b h).imp (fun n h => ⟨E_65.1 _ _ h.1, h.2⟩)
    have o_v14_45 : ∀ b, v14_45 = some b → ∃ n, gJ ws_64 b g.cL n ∧ n < 2147483648 := fun b h => (o_v14_45 b h).imp (fun n h => ⟨E_65.1 _ _ h.1, h.2⟩)
    have a_r1_51 := E_65.1 _ _ a_r1_51
    have a_r3_1 := E_65.1 _ _ a_r3_1
    have a_r4_1 := E_65.1 _ _ a_r4_1
    have a_r5_1 := E_65.1 _ _ a_r5_1
    have a_q_57 := E_65.1 _ _ a_q_57
    refine lv_aload_n hx hb dX9_makeRoom_42 rfl (lv_at hl 0 rfl) ?_
    refine lv_sipush (v := 1297) hx hb dX9_makeRoom_43 (by decide) ?_
    obtain ⟨n_69, en_69⟩ : ∃ y : Nat, (1297 : Int32).toNatClampNeg = y := ⟨_, rfl⟩
    have bn_69 : n_69 ≤ 1297 := i_cl en_69 (by have e1297 : (1297 : Int32).toInt = 1297 := (by decide); omega)
    have zn_69 : 0 ≤ (1297 : Int32).toInt := (by have e1297 : (1297 : Int32).toInt = 1297 := (by decide); omega)
    have q_n_69 := i_nn en_69 zn_69
    refine va_newa (atype := .boolean) (ty := .boolean) (a0 := (n_69, .inl (fun _ => 0))) (N' := n_69) hx hb (hts (.arrayClass .boolean) kw_553) rfl hK hP hD hS hA (fun _ => rfl) (i_nl0 zn_69) en_69 (i_by bn_69 (by decide)) (show 0 + 1 + dc_26 + 1 + 1 ≤ PC ws + (12) from (by have e16 : (16 : Int32).toInt = 16 := (by decide); have e1200 : (1200 : Int32).toInt = 1200 := (by decide); have e1296 : (1296 : Int32).toInt = 1296 := (by decide); have e1297 : (1297 : Int32).toInt = 1297 := (by decide); have q_n_58 := i_nn en_58 zn_58; have q2_n_58 := bn_58; omega)) (show 0 + 15 + ds_27 + n_58 + n_69 ≤ PS ws + (9059) from (by have e16 : (16 : Int32).toInt = 16 := (by decide); have e1200 : (1200 : Int32).toInt = 1200 := (by decide); have e1296 : (1296 : Int32).toInt = 1296 := (by decide); have e1297 : (1297 : Int32).toInt = 1297 := (by decide); have q_n_58 := i_nn en_58 zn_58; have q2_n_58 := bn_58; omega)) dX9_makeRoom_46 (fun q_68 cA9 H hK9 hP hD hS => ?_)
    obtain rfl := cls_new hK hK9 (k := 2) rfl (fun _ h => by cases h)
    clear hK9
    have hD9 := hD
    obtain ⟨ws_70, e_ws_70⟩ : ∃ z, z = ws_64 ++ [(q_68, .inl (g.cZ, n_69, .inl (fun _ => 0)))] := ⟨_, rfl⟩
    have hP : va_P (gD g) cl0 ws_70 H := by rw [e_ws_70]; exact hP
    have hD : va_D A ws_70 := by rw [e_ws_70]; exact hD
    have E_71 : gE ws_64 ws_70 := by rw [e_ws_70]; exact gE_push
    have Fr_72 : gF [] [] none ws_64 ws_70 := by rw [e_ws_70]; exact gF_push
    have fr_q_68 : frs ws_70 q_68 := by rw [e_ws_70]; exact frs_new hD9 hG.u
    have hG : Good g ws_70 := by rw [e_ws_70]; exact Good_pushI hD9 hG
    have a_q_68 : gI ws_70 q_68 g.cZ n_69 := by rw [e_ws_70]; exact gS_new
    have s_q_68 : n_69 < 2147483648 := Nat.lt_of_le_of_lt bn_69 (by decide)
    have pp_73 := Fr_72.pp
    have hk_45 := get_oldE e_ws_70 hk_45
    have hk_51 := get_oldE e_ws_70 hk_51
    have o_h0 := E_71.1 _ _ o_h0
    have o_b1 := E_71.1 _ _ o_b1
    have o_q_22 := E_71.1 _ _ o_q_22
    have a_r0_45 := E_71.1 _ _ a_r0_45
    have a_r1_45 := E_71.1 _ _ a_r1_45
    have a_r3_45 := E_71.1 _ _ a_r3_45
    have a_r5_45 := E_71.1 _ _ a_r5_45
    have a_r6_45 := E_71.1 _ _ a_r6_45
    have a_r7_45 := E_71.1 _ _ a_r7_45
    have a_r8_45 := E_71.1 _ _ a_r8_45
    have o_v12_45 : ∀ b, v12_45 = some b → ∃ n, gI ws_70 b g.cB n ∧ n < 2147483648 := fun b h => (o_v12_45 b h).imp (fun n h => ⟨E_71.1 _ _ h.1, h.2⟩)
    have o_v13_45 : ∀ b, v13_45 = some b → ∃ n, gJ ws_70 b g.cL n ∧ n < 2147483648 := fun b h => (o_v13_45 b h).imp (fun n h => ⟨E_71.1 _ _ h.1, h.2⟩)
    have o_v14_45 : ∀ b, v14_45 = some b → ∃ n, gJ ws_70 b g.cL n ∧ n < 2147483648 := fun b h => (o_v14_45 b h).imp (fun n h => ⟨E_71.1 _ _ h.1, h.2⟩)
    have a_r1_51 := E_71.1 _ _ a_r1_51
    have a_r3_1 := E_71.1 _ _ a_r3_1
    have a_r4_1 := E_71.1 _ _ a_r4_1
    have a_r5_1 := E_71.1 _ _ a_r5_1
    have a_q_57 := E_71.1 _ _ a_q_57
    have hV9 : okv ws_70 8 3 (.ref q_68) := (okv_a a_q_68 fr_q_68)
    refine va_put (D := gD g) (ci := 8) (v := .ref q_68) (ty := (.array .boolean)) (C := RX9) (T := TX9) (N := 6) hx hb hts inX9 tyX9 tyX9_ok nmX9 hown hK hP hD hS k_1 hk_51 rfl 3 (by decide) (hts _ kw_1554) (fun _ h9 => h9) rfl (by decide +kernel) rfl rfl (Nat.le_of_ble_eq_true rfl) dX9_makeRoom_48 (fun H locs hP hD hS => ?_)
    have hi_74 : invX9 g ws_70 h0 [.ref q_22, .ref r1_51, .ref q_57, .ref q_68, .ref r4_1, .ref r5_1] := ⟨q_22, r1_51, (n1_51), q_57, (n_58), q_68, (n_69), r4_1, (n4_1), r5_1, (n5_1), rfl, o_q_22, a_r1_51, f2_51, a_q_57, s_q_57, a_q_68, s_q_68, a_r4_1, f8_51, a_r5_1, f10_51, f11_51, trivial⟩
    obtain ⟨ws_75, e_ws_75⟩ : ∃ z, z = ws_70.set k_1 (h0, .inr (8, [.ref q_22, .ref r1_51, .ref q_57, .ref q_68, .ref r4_1, .ref r5_1])) := ⟨_, rfl⟩
    have hP : va_P (gD g) cl0 ws_75 H := by rw [e_ws_75]; exact hP
    have hD : va_D A ws_75 := by rw [e_ws_75]; exact hD
    have E_76 : gE ws_70 ws_75 := gE_set e_ws_75 hk_51 (cw_o (fi := 3) (v := .ref q_68) rfl (by decide))
    have hG : Good g ws_75 := Good_set (fi := 3) (v := .ref q_68) e_ws_75 hk_51 E_76 rfl hV9 hG (ivX9 hi_74)
    have Fr_77 : gF [(8, 3)] [] (some h0) ws_70 ws_75 := gF_put (fi := 3) (v := .ref q_68) e_ws_75 hk_51 rfl (by decide)
    have pp_78 := Fr_77.pp
    have hkN := gset_self e_ws_75 hk_51
    have hk_45 := gset_ob e_ws_75 hk_51 hk_45 (by decide)
    have hk_51 := hkN
    have o_h0 := E_76.1 _ _ o_h0
    have o_b1 := E_76.1 _ _ o_b1
    have o_q_22 := E_76.1 _ _ o_q_22
    have a_r0_45 := E_76.1 _ _ a_r0_45
    have a_r1_45 := E_76.1 _ _ a_r1_45
    have a_r3_45 := E_76.1 _ _ a_r3_45
    have a_r5_45 := E_76.1 _ _ a_r5_45
    have a_r6_45 := E_76.1 _ _ a_r6_45
    have a_r7_45 := E_76.1 _ _ a_r7_45
    have a_r8_45 := E_76.1 _ _ a_r8_45
    have o_v12_45 : ∀ b, v12_45 = some b → ∃ n, gI ws_75 b g.cB n ∧ n < 2147483648 := fun b h => (o_v12_45 b h).imp (fun n h => ⟨E_76.1 _ _ h.1, h.2⟩)
    have o_v13_45 : ∀ b, v13_45 = some b → ∃ n, gJ ws_75 b g.cL n ∧ n < 2147483648 := fun b h => (o_v13_45 b h).imp (fun n h => ⟨E_76.1 _ _ h.1, h.2⟩)
    have o_v14_45 : ∀ b, v14_45 = some b → ∃ n, gJ ws_75 b g.cL n ∧ n < 2147483648 := fun b h => (o_v14_45 b h).imp (fun n h => ⟨E_76.1 _ _ h.1, h.2⟩)
    have a_r1_51 := E_76.1 _ _ a_r1_51
    have a_r4_1 := E_76.1 _ _ a_r4_1
    have a_r5_1 := E_76.1 _ _ a_r5_1
    have a_q_57 := E_76.1 _ _ a_q_57
    have a_q_68 := E_76.1 _ _ a_q_68
    refine lv_aload_n hx hb dX9_makeRoom_51 rfl (lv_at hl 0 rfl) ?_
    refine lv_sipush (v := 1297) hx hb dX9_makeRoom_52 (by decide) ?_
    obtain ⟨n_80, en_80⟩ : ∃ y : Nat, (1297 : Int32).toNatClampNeg = y := ⟨_, rfl⟩
    have bn_80 : n_80 ≤ 1297 := i_cl en_80 (by have e1297 : (1297 : Int32).toInt = 1297 := (by decide); omega)
    have zn_80 : 0 ≤ (1297 : Int32).toInt := (by have e1297 : (1297 : Int32).toInt = 1297 := (by decide); omega)
    have q_n_80 := i_nn en_80 zn_80
    refine va_newa (atype := .int) (ty := .int) (a0 := (n_80, .inl (fun _ => 0))) (N' := n_80) hx hb (hts (.arrayClass .int) kw_51) rfl hK hP hD hS hA (fun _ => rfl) (i_nl0 zn_80) en_80 (i_by bn_80 (by decide)) (show 0 + 1 + dc_26 + 1 + 1 + 1 ≤ PC ws + (12) from (by have e16 : (16 : Int32).toInt = 16 := (by decide); have e1200 : (1200 : Int32).toInt = 1200 := (by decide); have e1296 : (1296 : Int32).toInt = 1296 := (by decide); have e1297 : (1297 : Int32).toInt = 1297 := (by decide); have q_n_58 := i_nn en_58 zn_58; have q2_n_58 := bn_58; have q_n_69 := i_nn en_69 zn_69; have q2_n_69 := bn_69; omega)) (show 0 + 15 + ds_27 + n_58 + n_69 + n_80 ≤ PS ws + (9059) from (by have e16 : (16 : Int32).toInt = 16 := (by decide); have e1200 : (1200 : Int32).toInt = 1200 := (by decide); have e1296 : (1296 : Int32).toInt = 1296 := (by decide); have e1297 : (1297 : Int32).toInt = 1297 := (by decide); have q_n_58 := i_nn en_58 zn_58; have q2_n_58 := bn_58; have q_n_69 := i_nn en_69 zn_69; have q2_n_69 := bn_69; omega)) dX9_makeRoom_55 (fun q_79 cA9 H hK9 hP hD hS => ?_)
    obtain rfl := cls_new hK hK9 (k := 1) rfl (fun _ h => by cases h)
    clear hK9
    have hD9 := hD
    obtain ⟨ws_81, e_ws_81⟩ : ∃ z, z = ws_75 ++ [(q_79, .inl (g.cI, n_80, .inl (fun _ => 0)))] := ⟨_, rfl⟩
    have hP : va_P (gD g) cl0 ws_81 H := by rw [e_ws_81]; exact hP
    have hD : va_D A ws_81 := by rw [e_ws_81]; exact hD
    have E_82 : gE ws_75 ws_81 := by rw [e_ws_81]; exact gE_push
    have Fr_83 : gF [] [] none ws_75 ws_81 := by rw [e_ws_81]; exact gF_push
    have fr_q_79 : frs ws_81 q_79 := by rw [e_ws_81]; exact frs_new hD9 hG.u
    have hG : Good g ws_81 := by rw [e_ws_81]; exact Good_pushI hD9 hG
    have a_q_79 : gI ws_81 q_79 g.cI n_80 := by rw [e_ws_81]; exact gS_new
    have s_q_79 : n_80 < 2147483648 := Nat.lt_of_le_of_lt bn_80 (by decide)
    have pp_84 := Fr_83.pp
    have hk_45 := get_oldE e_ws_81 hk_45
    have hk_51 := get_oldE e_ws_81 hk_51
    have o_h0 := E_82.1 _ _ o_h0
    have o_b1 := E_82.1 _ _ o_b1
    have o_q_22 := E_82.1 _ _ o_q_22
    have a_r0_45 := E_82.1 _ _ a_r0_45
    have a_r1_45 := E_82.1 _ _ a_r1_45
    have a_r3_45 := E_82.1 _ _ a_r3_45
    have a_r5_45 := E_82.1 _ _ a_r5_45
    have a_r6_45 := E_82.1 _ _ a_r6_45
    have a_r7_45 := E_82.1 _ _ a_r7_45
    have a_r8_45 := E_82.1 _ _ a_r8_45
    have o_v12_45 : ∀ b, v12_45 = some b → ∃ n, gI ws_81 b g.cB n ∧ n < 2147483648 := fun b h => (o_v12_45 b h).imp (fun n h => ⟨E_82.1 _ _ h.1, h.2⟩)
    have o_v13_45 : ∀ b, v13_45 = some b → ∃ n, gJ ws_81 b g.cL n ∧ n < 2147483648 := fun b h => (o_v13_45 b h).imp (fun n h => ⟨E_82.1 _ _ h.1, h.2⟩)
    have o_v14_45 : ∀ b, v14_45 = some b → ∃ n, gJ ws_81 b g.cL n ∧ n < 2147483648 := fun b h => (o_v14_45 b h).imp (fun n h => ⟨E_82.1 _ _ h.1, h.2⟩)
    have a_r1_51 := E_82.1 _ _ a_r1_51
    have a_r4_1 := E_82.1 _ _ a_r4_1
    have a_r5_1 := E_82.1 _ _ a_r5_1
    have a_q_57 := E_82.1 _ _ a_q_57
    have a_q_68 := E_82.1 _ _ a_q_68
    have hV9 : okv ws_81 8 4 (.ref q_79) := (okv_a a_q_79 fr_q_79)
    refine va_put (D := gD g) (ci := 8) (v := .ref q_79) (ty := (.array .int)) (C := RX9) (T := TX9) (N := 6) hx hb hts inX9 tyX9 tyX9_ok nmX9 hown hK hP hD hS k_1 hk_51 rfl 4 (by decide) (hts _ kw_1559) (fun _ h9 => h9) rfl (by decide +kernel) rfl rfl (Nat.le_of_ble_eq_true rfl) dX9_makeRoom_57 (fun H locs hP hD hS => ?_)
    have hi_85 : invX9 g ws_81 h0 [.ref q_22, .ref r1_51, .ref q_57, .ref q_68, .ref q_79, .ref r5_1] := ⟨q_22, r1_51, (n1_51), q_57, (n_58), q_68, (n_69), q_79, (n_80), r5_1, (n5_1), rfl, o_q_22, a_r1_51, f2_51, a_q_57, s_q_57, a_q_68, s_q_68, a_q_79, s_q_79, a_r5_1, f10_51, f11_51, trivial⟩
    obtain ⟨ws_86, e_ws_86⟩ : ∃ z, z = ws_81.set k_1 (h0, .inr (8, [.ref q_22, .ref r1_51, .ref q_57, .ref q_68, .ref q_79, .ref r5_1])) := ⟨_, rfl⟩
    have hP : va_P (gD g) cl0 ws_86 H := by rw [e_ws_86]; exact hP
    have hD : va_D A ws_86 := by rw [e_ws_86]; exact hD
    have E_87 : gE ws_81 ws_86 := gE_set e_ws_86 hk_51 (cw_o (fi := 4) (v := .ref q_79) rfl (by decide))
    have hG : Good g ws_86 := Good_set (fi := 4) (v := .ref q_79) e_ws_86 hk_51 E_87 rfl hV9 hG (ivX9 hi_85)
    have Fr_88 : gF [(8, 4)] [] (some h0) ws_81 ws_86 := gF_put (fi := 4) (v := .ref q_79) e_ws_86 hk_51 rfl (by decide)
    have pp_89 := Fr_88.pp
    have hkN := gset_self e_ws_86 hk_51
    have hk_45 := gset_ob e_ws_86 hk_51 hk_45 (by decide)
    have hk_51 := hkN
    have o_h0 := E_87.1 _ _ o_h0
    have o_b1 := E_87.1 _ _ o_b1
    have o_q_22 := E_87.1 _ _ o_q_22
    have a_r0_45 := E_87.1 _ _ a_r0_45
    have a_r1_45 := E_87.1 _ _ a_r1_45
    have a_r3_45 := E_87.1 _ _ a_r3_45
    have a_r5_45 := E_87.1 _ _ a_r5_45
    have a_r6_45 := E_87.1 _ _ a_r6_45
    have a_r7_45 := E_87.1 _ _ a_r7_45
    have a_r8_45 := E_87.1 _ _ a_r8_45
    have o_v12_45 : ∀ b, v12_45 = some b → ∃ n, gI ws_86 b g.cB n ∧ n < 2147483648 := fun b h => (o_v12_45 b h).imp (fun n h => ⟨E_87.1 _ _ h.1, h.2⟩)
    have o_v13_45 : ∀ b, v13_45 = some b → ∃ n, gJ ws_86 b g.cL n ∧ n < 2147483648 := fun b h => (o_v13_45 b h).imp (fun n h => ⟨E_87.1 _ _ h.1, h.2⟩)
    have o_v14_45 : ∀ b, v14_45 = some b → ∃ n, gJ ws_86 b g.cL n ∧ n < 2147483648 := fun b h => (o_v14_45 b h).imp (fun n h => ⟨E_87.1 _ _ h.1, h.2⟩)
    have a_r1_51 := E_87.1 _ _ a_r1_51
    have a_r5_1 := E_87.1 _ _ a_r5_1
    have a_q_57 := E_87.1 _ _ a_q_57
    have a_q_68 := E_87.1 _ _ a_q_68
    have a_q_79 := E_87.1 _ _ a_q_79
    refine lv_aload_n hx hb dX9_makeRoom_60 rfl (lv_at hl 0 rfl) ?_
    refine lv_sipush (v := 1297) hx hb dX9_makeRoom_61 (by decide) ?_
    obtain ⟨n_91, en_91⟩ : ∃ y : Nat, (1297 : Int32).toNatClampNeg = y := ⟨_, rfl⟩
    have bn_91 : n_91 ≤ 1297 := i_cl en_91 (by have e1297 : (1297 : Int32).toInt = 1297 := (by decide); omega)
    have zn_91 : 0 ≤ (1297 : Int32).toInt := (by have e1297 : (1297 : Int32).toInt = 1297 := (by decide); omega)
    have q_n_91 := i_nn en_91 zn_91
    refine va_newa (atype := .int) (ty := .int) (a0 := (n_91, .inl (fun _ => 0))) (N' := n_91) hx hb (hts (.arrayClass .int) kw_51) rfl hK hP hD hS hA (fun _ => rfl) (i_nl0 zn_91) en_91 (i_by bn_91 (by decide)) (show 0 + 1 + dc_26 + 1 + 1 + 1 + 1 ≤ PC ws + (12) from (by have e16 : (16 : Int32).toInt = 16 := (by decide); have e1200 : (1200 : Int32).toInt = 1200 := (by decide); have e1296 : (1296 : Int32).toInt = 1296 := (by decide); have e1297 : (1297 : Int32).toInt = 1297 := (by decide); have q_n_58 := i_nn en_58 zn_58; have q2_n_58 := bn_58; have q_n_69 := i_nn en_69 zn_69; have q2_n_69 := bn_69; have q_n_80 := i_nn en_80 zn_80; have q2_n_80 := bn_80; omega)) (show 0 + 15 + ds_27 + n_58 + n_69 + n_80 + n_91 ≤ PS ws + (9059) from (by have e16 : (16 : Int32).toInt = 16 := (by decide); have e1200 : (1200 : Int32).toInt = 1200 := (by decide); have e1296 : (1296 : Int32).toInt = 1296 := (by decide); have e1297 : (1297 : Int32).toInt = 1297 := (by decide); have q_n_58 := i_nn en_58 zn_58; have q2_n_58 := bn_58; have q_n_69 := i_nn en_69 zn_69; have q2_n_69 := bn_69; have q_n_80 := i_nn en_80 zn_80; have q2_n_80 := bn_80; omega)) dX9_makeRoom_64 (fun q_90 cA9 H hK9 hP hD hS => ?_)
    obtain rfl := cls_new hK hK9 (k := 1) rfl (fun _ h => by cases h)
    clear hK9
    have hD9 := hD
    obtain ⟨ws_92, e_ws_92⟩ : ∃ z, z = ws_86 ++ [(q_90, .inl (g.cI, n_91, .inl (fun _ => 0)))] := ⟨_, rfl⟩
    have hP : va_P (gD g) cl0 ws_92 H := by rw [e_ws_92]; exact hP
    have hD : va_D A ws_92 := by rw [e_ws_92]; exact hD
    have E_93 : gE ws_86 ws_92 := by rw [e_ws_92]; exact gE_push
    have Fr_94 : gF [] [] none ws_86 ws_92 := by rw [e_ws_92]; exact gF_push
    have fr_q_90 : frs ws_92 q_90 := by rw [e_ws_92]; exact frs_new hD9 hG.u
    have hG : Good g ws_92 := by rw [e_ws_92]; exact Good_pushI hD9 hG
    have a_q_90 : gI ws_92 q_90 g.cI n_91 := by rw [e_ws_92]; exact gS_new
    have s_q_90 : n_91 < 2147483648 := Nat.lt_of_le_of_lt bn_91 (by decide)
    have pp_95 := Fr_94.pp
    have hk_45 := get_oldE e_ws_92 hk_45
    have hk_51 := get_oldE e_ws_92 hk_51
    have o_h0 := E_93.1 _ _ o_h0
    have o_b1 := E_93.1 _ _ o_b1
    have o_q_22 := E_93.1 _ _ o_q_22
    have a_r0_45 := E_93.1 _ _ a_r0_45
    have a_r1_45 := E_93.1 _ _ a_r1_45
    have a_r3_45 := E_93.1 _ _ a_r3_45
    have a_r5_45 := E_93.1 _ _ a_r5_45
    have a_r6_45 := E_93.1 _ _ a_r6_45
    have a_r7_45 := E_93.1 _ _ a_r7_45
    have a_r8_45 := E_93.1 _ _ a_r8_45
    have o_v12_45 : ∀ b, v12_45 = some b → ∃ n, gI ws_92 b g.cB n ∧ n < 2147483648 := fun b h => (o_v12_45 b h).imp (fun n h => ⟨E_93.1 _ _ h.1, h.2⟩)
    have o_v13_45 : ∀ b, v13_45 = some b → ∃ n, gJ ws_92 b g.cL n ∧ n < 2147483648 := fun b h => (o_v13_45 b h).imp (fun n h => ⟨E_93.1 _ _ h.1, h.2⟩)
    have o_v14_45 : ∀ b, v14_45 = some b → ∃ n, gJ ws_92 b g.cL n ∧ n < 2147483648 := fun b h => (o_v14_45 b h).imp (fun n h => ⟨E_93.1 _ _ h.1, h.2⟩)
    have a_r1_51 := E_93.1 _ _ a_r1_51
    have a_r5_1 := E_93.1 _ _ a_r5_1
    have a_q_57 := E_93.1 _ _ a_q_57
    have a_q_68 := E_93.1 _ _ a_q_68
    have a_q_79 := E_93.1 _ _ a_q_79
    have hV9 : okv ws_92 8 5 (.ref q_90) := (okv_a a_q_90 fr_q_90)
    refine va_put (D := gD g) (ci := 8) (v := .ref q_90) (ty := (.array .int)) (C := RX9) (T := TX9) (N := 6) hx hb hts inX9 tyX9 tyX9_ok nmX9 hown hK hP hD hS k_1 hk_51 rfl 5 (by decide) (hts _ kw_1592) (fun _ h9 => h9) rfl (by decide +kernel) rfl rfl (Nat.le_of_ble_eq_true rfl) dX9_makeRoom_66 (fun H locs hP hD hS => ?_)
    have hi_96 : invX9 g ws_92 h0 [.ref q_22, .ref r1_51, .ref q_57, .ref q_68, .ref q_79, .ref q_90] := ⟨q_22, r1_51, (n1_51), q_57, (n_58), q_68, (n_69), q_79, (n_80), q_90, (n_91), rfl, o_q_22, a_r1_51, f2_51, a_q_57, s_q_57, a_q_68, s_q_68, a_q_79, s_q_79, a_q_90, s_q_90, f11_51, trivial⟩
    obtain ⟨ws_97, e_ws_97⟩ : ∃ z, z = ws_92.set k_1 (h0, .inr (8, [.ref q_22, .ref r1_51, .ref q_57, .ref q_68, .ref q_79, .ref q_90])) := ⟨_, rfl⟩
    have hP : va_P (gD g) cl0 ws_97 H := by rw [e_ws_97]; exact hP
    have hD : va_D A ws_97 := by rw [e_ws_97]; exact hD
    have E_98 : gE ws_92 ws_97 := gE_set e_ws_97 hk_51 (cw_o (fi := 5) (v := .ref q_90) rfl (by decide))
    have hG : Good g ws_97 := Good_set (fi := 5) (v := .ref q_90) e_ws_97 hk_51 E_98 rfl hV9 hG (ivX9 hi_96)
    have Fr_99 : gF [(8, 5)] [] (some h0) ws_92 ws_97 := gF_put (fi := 5) (v := .ref q_90) e_ws_97 hk_51 rfl (by decide)
    have pp_100 := Fr_99.pp
    have hkN := gset_self e_ws_97 hk_51
    have hk_45 := gset_ob e_ws_97 hk_51 hk_45 (by decide)
    have hk_51 := hkN
    have o_h0 := E_98.1 _ _ o_h0
    have o_b1 := E_98.1 _ _ o_b1
    have o_q_22 := E_98.1 _ _ o_q_22
    have a_r0_45 := E_98.1 _ _ a_r0_45
    have a_r1_45 := E_98.1 _ _ a_r1_45
    have a_r3_45 := E_98.1 _ _ a_r3_45
    have a_r5_45 := E_98.1 _ _ a_r5_45
    have a_r6_45 := E_98.1 _ _ a_r6_45
    have a_r7_45 := E_98.1 _ _ a_r7_45
    have a_r8_45 := E_98.1 _ _ a_r8_45
    have o_v12_45 : ∀ b, v12_45 = some b → ∃ n, gI ws_97 b g.cB n ∧ n < 2147483648 := fun b h => (o_v12_45 b h).imp (fun n h => ⟨E_98.1 _ _ h.1, h.2⟩)
    have o_v13_45 : ∀ b, v13_45 = some b → ∃ n, gJ ws_97 b g.cL n ∧ n < 2147483648 := fun b h => (o_v13_45 b h).imp (fun n h => ⟨E_98.1 _ _ h.1, h.2⟩)
    have o_v14_45 : ∀ b, v14_45 = some b → ∃ n, gJ ws_97 b g.cL n ∧ n < 2147483648 := fun b h => (o_v14_45 b h).imp (fun n h => ⟨E_98.1 _ _ h.1, h.2⟩)
    have a_r1_51 := E_98.1 _ _ a_r1_51
    have a_q_57 := E_98.1 _ _ a_q_57
    have a_q_68 := E_98.1 _ _ a_q_68
    have a_q_79 := E_98.1 _ _ a_q_79
    have a_q_90 := E_98.1 _ _ a_q_90
    refine lv_aload_n hx hb dX9_makeRoom_69 rfl (lv_at hl 0 rfl) ?_
    refine va_get (D := gD g) (ci := 8) (v := .ref q_22) (C := RX9) (T := TX9) (N := 6) hx hb hts inX9 hown hK hP k_1 hk_51 rfl 0 (by decide) (hts _ kw_1552) (fun _ h9 => h9) rfl dX9_makeRoom_70 ?_
    refine lv_aload_n hx hb dX9_makeRoom_73 rfl (lv_at hl 1 rfl) ?_
    obtain ⟨k_101, fs9, hk_101⟩ := gC_of o_b1
    refine opn_X8 hG hk_101 (fun r0_101 n0_101 r1_101 n1_101 c2_101 r3_101 n3_101 c4_101 r5_101 n5_101 r6_101 n6_101 r7_101 n7_101 r8_101 n8_101 c9_101 c10_101 c11_101 v12_101 v13_101 v14_101 hf9 a_r0_101 f1_101 a_r1_101 f3_101 a_r3_101 f5_101 a_r5_101 f7_101 a_r6_101 f9_101 a_r7_101 f11_101 a_r8_101 f13_101 o_v12_101 o_v13_101 o_v14_101 f17_101 f18_101 f19_101 f20_101 f21_101 f22_101 f23_101 f24_101 f25_101 f26_101 f27_101 f28_101 f29_101 => ?_)
    subst hf9
    refine va_get (D := gD g) (ci := 7) (v := .int c11_101) (C := RX8) (T := TX8) (N := 15) hx hb hts inX8 hown hK hP k_101 hk_101 rfl 11 (by decide) (hts _ kw_1688) (fun _ h9 => h9) rfl dX9_makeRoom_74 ?_
    have hV9 : okv ws_97 7 11 (.int c11_101) := okv_i
    refine va_put (D := gD g) (ci := 7) (v := .int c11_101) (ty := .int) (C := RX8) (T := TX8) (N := 15) hx hb hts inX8 tyX8 tyX8_ok nmX8 hown hK hP hD hS k_45 hk_45 rfl 11 (by decide) (hts _ kw_1688) (fun _ h9 => h9) rfl (by decide +kernel) rfl rfl (Nat.le_of_ble_eq_true rfl) dX9_makeRoom_77 (fun H locs hP hD hS => ?_)
    have hi_102 : invX8 g ws_97 q_22 [.ref r0_45, .ref r1_45, .int c2_45, .ref r3_45, .int c4_45, .ref r5_45, .ref r6_45, .ref r7_45, .ref r8_45, .int c9_45, .int c10_45, .int c11_101, va_rf v12_45, va_rf v13_45, va_rf v14_45] := ⟨r0_45, (n0_45), r1_45, (n1_45), (c2_45), r3_45, (n3_45), (c4_45), r5_45, (n5_45), r6_45, (n6_45), r7_45, (n7_45), r8_45, (n8_45), (c9_45), (c10_45), (c11_101), v12_45, v13_45, v14_45, rfl, a_r0_45, f1_45, a_r1_45, f3_45, a_r3_45, f5_45, a_r5_45, f7_45, a_r6_45, f9_45, a_r7_45, f11_45, a_r8_45, f13_45, o_v12_45, o_v13_45, o_v14_45, f17_45, f18_45, f19_45, f20_45, f21_45, f22_45, f23_45, f24_45, f25_45, f26_45, f27_45, f28_45, f29_45, trivial⟩
    obtain ⟨ws_103, e_ws_103⟩ : ∃ z, z = ws_97.set k_45 (q_22, .inr (7, [.ref r0_45, .ref r1_45, .int c2_45, .ref r3_45, .int c4_45, .ref r5_45, .ref r6_45, .ref r7_45, .ref r8_45, .int c9_45, .int c10_45, .int c11_101, va_rf v12_45, va_rf v13_45, va_rf v14_45])) := ⟨_, rfl⟩
    have hP : va_P (gD g) cl0 ws_103 H := by rw [e_ws_103]; exact hP
    have hD : va_D A ws_103 := by rw [e_ws_103]; exact hD
    have E_104 : gE ws_97 ws_103 := gE_set e_ws_103 hk_45 (cw_o (fi := 11) (v := .int c11_101) rfl (by decide))
    have hG : Good g ws_103 := Good_set (fi := 11) (v := .int c11_101) e_ws_103 hk_45 E_104 rfl hV9 hG (ivX8 hi_102)
    have Fr_105 : gF [(7, 11)] [] (some q_22) ws_97 ws_103 := gF_put (fi := 11) (v := .int c11_101) e_ws_103 hk_45 rfl (by decide)
    have pp_106 := Fr_105.pp
    have hkN := gset_self e_ws_103 hk_45
    have hk_51 := gset_ob e_ws_103 hk_45 hk_51 (by decide)
    have aa_107 := a_r0_101
    have aa_108 := a_r1_101
    have aa_109 := a_r3_101
    have aa_110 := a_r5_101
    have aa_111 := a_r6_101
    have aa_112 := a_r7_101
    have aa_113 := a_r8_101
    have hk_45 := hkN
    have o_h0 := E_104.1 _ _ o_h0
    have o_b1 := E_104.1 _ _ o_b1
    have o_q_22 := E_104.1 _ _ o_q_22
    have a_r0_45 := E_104.1 _ _ a_r0_45
    have a_r1_45 := E_104.1 _ _ a_r1_45
    have a_r3_45 := E_104.1 _ _ a_r3_45
    have a_r5_45 := E_104.1 _ _ a_r5_45
    have a_r6_45 := E_104.1 _ _ a_r6_45
    have a_r7_45 := E_104.1 _ _ a_r7_45
    have a_r8_45 := E_104.1 _ _ a_r8_45
    have o_v12_45 : ∀ b, v12_45 = some b → ∃ n, gI ws_103 b g.cB n ∧ n < 2147483648 := fun b h => (o_v12_45 b h).imp (fun n h => ⟨E_104.1 _ _ h.1, h.2⟩)
    have o_v13_45 : ∀ b, v13_45 = some b → ∃ n, gJ ws_103 b g.cL n ∧ n < 2147483648 := fun b h => (o_v13_45 b h).imp (fun n h => ⟨E_104.1 _ _ h.1, h.2⟩)
    have o_v14_45 : ∀ b, v14_45 = some b → ∃ n, gJ ws_103 b g.cL n ∧ n < 2147483648 := fun b h => (o_v14_45 b h).imp (fun n h => ⟨E_104.1 _ _ h.1, h.2⟩)
    have a_r1_51 := E_104.1 _ _ a_r1_51
    have a_q_57 := E_104.1 _ _ a_q_57
    have a_q_68 := E_104.1 _ _ a_q_68
    have a_q_79 := E_104.1 _ _ a_q_79
    have a_q_90 := E_104.1 _ _ a_q_90
    have tq_114 : smW ws_103 h0 := ⟨_, q_22, _, _, _, _, _, _, _, _, _, hk_51, rfl, hk_45, rfl, rfl, a_r0_45, a_r3_45, (by first | (have q_f1_45 := Hide.out f1_45; have q_f5_45 := Hide.out f5_45; have q_f17_45 := Hide.out f17_45; have q_f18_45 := Hide.out f18_45; have q_f20_45 := Hide.out f20_45; have q_f22_45 := Hide.out f22_45; have q_f28_45 := Hide.out f28_45; have q_kq_46 := Hide.out kq_46; have q_kq_47 := Hide.out kq_47; have g_c2_45 := i_rg c2_45; have g_c4_45 := i_rg c4_45; have e96 : (1296 : Int32).toInt = 1296 := (by decide); have e12 : (1200 : Int32).toInt = 1200 := (by decide); omega) | (have q_f1_45 := Hide.out f1_45; have q_f5_45 := Hide.out f5_45; have q_f17_45 := Hide.out f17_45; have q_f18_45 := Hide.out f18_45; have q_f20_45 := Hide.out f20_45; have q_f22_45 := Hide.out f22_45; have q_f28_45 := Hide.out f28_45; have q_kq_46 := Hide.out kq_46; have q_kq_47 := Hide.out kq_47; have q_f3_45 := Hide.out f3_45; have q_f19_45 := Hide.out f19_45; have q_f21_45 := Hide.out f21_45; have q_kq_49 := Hide.out kq_49; have q_kq_50 := Hide.out kq_50; have g_c2_45 := i_rg c2_45; have g_c4_45 := i_rg c4_45; have e96 : (1296 : Int32).toInt = 1296 := (by decide); have e12 : (1200 : Int32).toInt = 1200 := (by decide); omega))⟩
    refine W_led (fun hLd => ?_)
    have hcl : 0 + 1 + dc_26 + 1 + 1 + 1 + 1 + PC ws_103 ≤ PC ws + (12) := (by have e16 : (16 : Int32).toInt = 16 := (by decide); have e1200 : (1200 : Int32).toInt = 1200 := (by decide); have e1296 : (1296 : Int32).toInt = 1296 := (by decide); have e1297 : (1297 : Int32).toInt = 1297 := (by decide); have q_n_58 := i_nn en_58 zn_58; have q2_n_58 := bn_58; have q_n_69 := i_nn en_69 zn_69; have q2_n_69 := bn_69; have q_n_80 := i_nn en_80 zn_80; have q2_n_80 := bn_80; have q_n_91 := i_nn en_91 zn_91; have q2_n_91 := bn_91; omega)
    have hsl : 0 + 15 + ds_27 + n_58 + n_69 + n_80 + n_91 + PS ws_103 ≤ PS ws + (9059) := (by have e16 : (16 : Int32).toInt = 16 := (by decide); have e1200 : (1200 : Int32).toInt = 1200 := (by decide); have e1296 : (1296 : Int32).toInt = 1296 := (by decide); have e1297 : (1297 : Int32).toInt = 1297 := (by decide); have q_n_58 := i_nn en_58 zn_58; have q2_n_58 := bn_58; have q_n_69 := i_nn en_69 zn_69; have q2_n_69 := bn_69; have q_n_80 := i_nn en_80 zn_80; have q2_n_80 := bn_80; have q_n_91 := i_nn en_91 zn_91; have q2_n_91 := bn_91; omega)
    refine W.widen (k := PC ws + (12)) (n := PS ws + (9059)) (by omega) (by omega) ?_
    have tq_115 : KA ws ws_103 := KA_mo ((gF.tr (gF.mo (F' := [(7, 11), (8, 0), (8, 2), (8, 3), (8, 4), (8, 5)]) (C' := []) (S' := none) Fr_25 (fun _ h => absurd h List.not_mem_nil) (fun _ h => h) (Or.inr rfl)) (gF.tr (gF.mo (F' := [(7, 11), (8, 0), (8, 2), (8, 3), (8, 4), (8, 5)]) (C' := []) (S' := none) Fr_55 (by decide) (fun _ h => h) (Or.inl rfl)) (gF.tr (gF.mo (F' := [(7, 11), (8, 0), (8, 2), (8, 3), (8, 4), (8, 5)]) (C' := []) (S' := none) Fr_61 (fun _ h => absurd h List.not_mem_nil) (fun _ h => h) (Or.inr rfl)) (gF.tr (gF.mo (F' := [(7, 11), (8, 0), (8, 2), (8, 3), (8, 4), (8, 5)]) (C' := []) (S' := none) Fr_66 (by decide) (fun _ h => h) (Or.inl rfl)) (gF.tr (gF.mo (F' := [(7, 11), (8, 0), (8, 2), (8, 3), (8, 4), (8, 5)]) (C' := []) (S' := none) Fr_72 (fun _ h => absurd h List.not_mem_nil) (fun _ h => h) (Or.inr rfl)) (gF.tr (gF.mo (F' := [(7, 11), (8, 0), (8, 2), (8, 3), (8, 4), (8, 5)]) (C' := []) (S' := none) Fr_77 (by decide) (fun _ h => h) (Or.inl rfl)) (gF.tr (gF.mo (F' := [(7, 11), (8, 0), (8, 2), (8, 3), (8, 4), (8, 5)]) (C' := []) (S' := none) Fr_83 (fun _ h => absurd h List.not_mem_nil) (fun _ h => h) (Or.inr rfl)) (gF.tr (gF.mo (F' := [(7, 11), (8, 0), (8, 2), (8, 3), (8, 4), (8, 5)]) (C' := []) (S' := none) Fr_88 (by decide) (fun _ h => h) (Or.inl rfl)) (gF.tr (gF.mo (F' := [(7, 11), (8, 0), (8, 2), (8, 3), (8, 4), (8, 5)]) (C' := []) (S' := none) Fr_94 (fun _ h => absurd h List.not_mem_nil) (fun _ h => h) (Or.inr rfl)) (gF.tr (gF.mo (F' := [(7, 11), (8, 0), (8, 2), (8, 3), (8, 4), (8, 5)]) (C' := []) (S' := none) Fr_99 (by decide) (fun _ h => h) (Or.inl rfl)) (gF.mo (F' := [(7, 11), (8, 0), (8, 2), (8, 3), (8, 4), (8, 5)]) (C' := []) (S' := none) Fr_105 (by decide) (fun _ h => h) (Or.inl rfl))))))))))))) (by decide) (by decide) (by decide) (by decide) (by decide) (by decide) (by decide) (by decide) tq_3
    exact W.vret hx hb hr (fun t9 ht9 hW9 => ⟨⟨ws_103, rfl, ⟨⟨(gP_of hD hk_51 (fun p90 q90 e90 g90 => by cases e90; have z90 := gI_n hD a_q_57 g90; subst z90; exact (by have e1297 : (1297 : Int32).toInt = 1297 := (by decide); have q_n_58 := i_nn en_58 zn_58; have q2_n_58 := bn_58; omega))), (gP_of hD hk_51 (fun p90 q90 e90 g90 => by cases e90; have z90 := gI_n hD a_q_68 g90; subst z90; exact (by have e1297 : (1297 : Int32).toInt = 1297 := (by decide); have q_n_69 := i_nn en_69 zn_69; have q2_n_69 := bn_69; omega))), (gP_of hD hk_51 (fun p90 q90 e90 g90 => by cases e90; have z90 := gI_n hD a_q_79 g90; subst z90; exact (by have e1297 : (1297 : Int32).toInt = 1297 := (by decide); have q_n_80 := i_nn en_80 zn_80; have q2_n_80 := bn_80; omega))), (gP_of hD hk_51 (fun p90 q90 e90 g90 => by cases e90; have z90 := gI_n hD a_q_90 g90; subst z90; exact (by have e1297 : (1297 : Int32).toInt = 1297 := (by decide); have q_n_91 := i_nn en_91 zn_91; have q2_n_91 := bn_91; omega)))⟩, tq_114, ⟨tq_115, frW_of hD hk_51 rfl (Or.inr (fun _ => no_gC hNf))⟩⟩, ⟨(E_24.tr (E_54.tr (E_60.tr (E_65.tr (E_71.tr (E_76.tr (E_82.tr (E_87.tr (E_93.tr (E_98.tr E_104)))))))))), (gF.tr (gF.mo (F' := [(7, 0), (7, 1), (7, 3), (7, 5), (7, 6), (7, 7), (7, 8), (7, 11), (8, 0), (8, 2), (8, 3), (8, 4), (8, 5)]) (C' := []) (S' := none) Fr_25 (fun _ h => absurd h List.not_mem_nil) (fun _ h => h) (Or.inr rfl)) (gF.tr (gF.mo (F' := [(7, 0), (7, 1), (7, 3), (7, 5), (7, 6), (7, 7), (7, 8), (7, 11), (8, 0), (8, 2), (8, 3), (8, 4), (8, 5)]) (C' := []) (S' := none) Fr_55 (by decide) (fun _ h => h) (Or.inl rfl)) (gF.tr (gF.mo (F' := [(7, 0), (7, 1), (7, 3), (7, 5), (7, 6), (7, 7), (7, 8), (7, 11), (8, 0), (8, 2), (8, 3), (8, 4), (8, 5)]) (C' := []) (S' := none) Fr_61 (fun _ h => absurd h List.not_mem_nil) (fun _ h => h) (Or.inr rfl)) (gF.tr (gF.mo (F' := [(7, 0), (7, 1), (7, 3), (7, 5), (7, 6), (7, 7), (7, 8), (7, 11), (8, 0), (8, 2), (8, 3), (8, 4), (8, 5)]) (C' := []) (S' := none) Fr_66 (by decide) (fun _ h => h) (Or.inl rfl)) (gF.tr (gF.mo (F' := [(7, 0), (7, 1), (7, 3), (7, 5), (7, 6), (7, 7), (7, 8), (7, 11), (8, 0), (8, 2), (8, 3), (8, 4), (8, 5)]) (C' := []) (S' := none) Fr_72 (fun _ h => absurd h List.not_mem_nil) (fun _ h => h) (Or.inr rfl)) (gF.tr (gF.mo (F' := [(7, 0), (7, 1), (7, 3), (7, 5), (7, 6), (7, 7), (7, 8), (7, 11), (8, 0), (8, 2), (8, 3), (8, 4), (8, 5)]) (C' := []) (S' := none) Fr_77 (by decide) (fun _ h => h) (Or.inl rfl)) (gF.tr (gF.mo (F' := [(7, 0), (7, 1), (7, 3), (7, 5), (7, 6), (7, 7), (7, 8), (7, 11), (8, 0), (8, 2), (8, 3), (8, 4), (8, 5)]) (C' := []) (S' := none) Fr_83 (fun _ h => absurd h List.not_mem_nil) (fun _ h => h) (Or.inr rfl)) (gF.tr (gF.mo (F' := [(7, 0), (7, 1), (7, 3), (7, 5), (7, 6), (7, 7), (7, 8), (7, 11), (8, 0), (8, 2), (8, 3), (8, 4), (8, 5)]) (C' := []) (S' := none) Fr_88 (by decide) (fun _ h => h) (Or.inl rfl)) (gF.tr (gF.mo (F' := [(7, 0), (7, 1), (7, 3), (7, 5), (7, 6), (7, 7), (7, 8), (7, 11), (8, 0), (8, 2), (8, 3), (8, 4), (8, 5)]) (C' := []) (S' := none) Fr_94 (fun _ h => absurd h List.not_mem_nil) (fun _ h => h) (Or.inr rfl)) (gF.tr (gF.mo (F' := [(7, 0), (7, 1), (7, 3), (7, 5), (7, 6), (7, 7), (7, 8), (7, 11), (8, 0), (8, 2), (8, 3), (8, 4), (8, 5)]) (C' := []) (S' := none) Fr_99 (by decide) (fun _ h => h) (Or.inl rfl)) (gF.mo (F' := [(7, 0), (7, 1), (7, 3), (7, 5), (7, 6), (7, 7), (7, 8), (7, 11), (8, 0), (8, 2), (8, 3), (8, 4), (8, 5)]) (C' := []) (S' := none) Fr_105 (by decide) (fun _ h => h) (Or.inl rfl)))))))))))), hG, by rw [ht9]; exact hP, hD, _, _, by rw [ht9]; exact hLd, hcl, hsl⟩⟩, hS.F ht9⟩) hS.2.2 dX9_makeRoom_80
set_option maxHeartbeats 4000000 in
set_option maxRecDepth 100000 in
theorem m_X9_makeBetter_x (l : Launch) (g : Gm) (H0 : Heap) (ws : va_W) (h0 : Nat) (b1 : Nat) (x2 : Int32) (hG : Good g ws) (o_h0 : gC ws h0 8) (o_b1 : gC ws b1 7) (f2_r : ∀ (k k2 b : Nat) (fs gs : List Value), ows ws k h0 8 fs → fs[0]? = some (.ref b) → ows ws k2 b 7 gs → ∀ (ra a : Nat), fs[2]? = some (.ref ra) → gI ws ra g.cZ a → ∀ (rb b : Nat), fs[3]? = some (.ref rb) → gI ws rb g.cZ b → ∀ (rc c : Nat), fs[4]? = some (.ref rc) → gI ws rc g.cI c → ∀ (rd d : Nat), fs[5]? = some (.ref rd) → gI ws rd g.cI d → ∀ (rm m : Nat), gs[0]? = some (.ref rm) → gI ws rm g.cI m → ∀ (rt t : Nat), gs[3]? = some (.ref rt) → gI ws rt g.cI t → m < 1296 ∨ (1297 ≤ a ∧ 1297 ≤ b ∧ 1297 ≤ c ∧ 1297 ≤ d ∧ 1200 ≤ t)) (tk0 : rowC ws b1 RW) (tk1 : nsR ws h0 b1) : Met l yX9_makeBetter (wt yX9_makeBetter cX9_makeBetter 6 none) ({ frames := 6, cells := PC ws + (12), slots := PS ws + (9059), locals := 145 }) (va_Pc [.ref h0, .ref b1, .int x2] (st_H g H0 ws)) (va_Qv (fun (u9 : va_W) => (True) ∧ (smR u9 h0) ∧ (smW u9 h0) ∧ (KM ws u9 h0)) (gQ2 g [(7, 0), (7, 1), (7, 2), (7, 3), (7, 4), (7, 5), (7, 6), (7, 7), (7, 8), (7, 9), (7, 11), (8, 0), (8, 2), (8, 3), (8, 4), (8, 5)] [(7, 0), (7, 1), (7, 3), (7, 5), (7, 6), (7, 7), (7, 8), (8, 1), (8, 2), (8, 3), (8, 4)] none (va_A ws H0.size) ws H0 (12) (9059)) (va_A ws H0.size)) (PC ws + (12)) (PS ws + (9059)) (va_A ws H0.size) := by
  refine Met.ofW (cc := cX9_makeBetter) (maxL := 6) (ret := none) (by decide) rfl ?_
  intro p e s m args below meth c s₁ B hml hv
  obtain ⟨rfl, hH0, hsz, hP, hK, hD0, hex, hE⟩ := hv
  have hx := B.exec
  have hb := B.bytes
  have hr := B.returns
  have hts0 := atoms_spec (ws := wt yX9_makeBetter cX9_makeBetter 6 none) B.pre
  have hts : ∀ w ∈ tb, w.before _ s = true := fun w h => hts0 w (List.mem_cons_of_mem _ h)
  have hown : s.vm.findClass RX9 = some m.cls := findClass_of_methodNamed B.named
  subst hH0
  have hD := hD0.self (sz := s.heap.size)
  generalize hAe : va_A ws s.heap.size = A at hD hE ⊢
  have hA : ∀ q : Nat, s.heap.size ≤ q → A q := fun q h => by rw [← hAe]; exact Or.inr h
  have hS : va_S A s.heap s.heap [] := va_S.rf
  have hl := lv_entry ([.ref h0, .ref b1, .int x2]) (n := 6) (Nat.le_of_ble_eq_true rfl)
  rw [lg_entry_eq]
  generalize (lg_sl ([.ref h0, .ref b1, .int x2]) ++ List.replicate (6 - (lg_sl ([.ref h0, .ref b1, .int x2])).length) Slot.unset).toArray = ls at hl ⊢
  have hl : lv_has ls 6 [(0, .ref h0), (1, .ref b1), (2, .int x2)] := hl
  obtain ⟨k_1, fs9, hk_1⟩ := gC_of o_h0
  refine opn_X9 hG hk_1 (fun r0_1 r1_1 n1_1 r2_1 n2_1 r3_1 n3_1 r4_1 n4_1 r5_1 n5_1 hf9 o_r0_1 a_r1_1 f2_1 a_r2_1 f4_1 a_r3_1 f6_1 a_r4_1 f8_1 a_r5_1 f10_1 f11_1 => ?_)
  subst hf9
  obtain ⟨k_2, fs9, hk_2⟩ := gC_of o_r0_1
  refine opn_X8 hG hk_2 (fun r0_2 n0_2 r1_2 n1_2 c2_2 r3_2 n3_2 c4_2 r5_2 n5_2 r6_2 n6_2 r7_2 n7_2 r8_2 n8_2 c9_2 c10_2 c11_2 v12_2 v13_2 v14_2 hf9 a_r0_2 f1_2 a_r1_2 f3_2 a_r3_2 f5_2 a_r5_2 f7_2 a_r6_2 f9_2 a_r7_2 f11_2 a_r8_2 f13_2 o_v12_2 o_v13_2 o_v14_2 f17_2 f18_2 f19_2 f20_2 f21_2 f22_2 f23_2 f24_2 f25_2 f26_2 f27_2 f28_2 f29_2 => ?_)
  subst hf9
  have fq2_r := f2_r _ _ _ _ _ hk_1 rfl hk_2 _ _ rfl a_r2_1 _ _ rfl a_r3_1 _ _ rfl a_r4_1 _ _ rfl a_r5_1 _ _ rfl a_r0_2 _ _ rfl a_r3_2
  replace fq2_r := hide fq2_r
  refine lv_aload_n hx hb dX9_makeBetter_0 rfl (lv_at hl 0 rfl) ?_
  refine lv_aload_n hx hb dX9_makeBetter_1 rfl (lv_at hl 1 rfl) ?_
  have oB9 := o_b1
  have hDB9 := hD
  have hFc := gfree hD hS hA
  refine W_led (fun hL0 => ?_)
  refine va_callv (va_runV (As := [.ref b1]) (rest := []) ⟨hx, hb, hml, hown, hts⟩ (m_X9_makeRoom_x l g s.heap ws h0 b1 hG o_h0 o_b1 (fun k9 k8 b9 fs gs e1 e2 e3 p90 m90 e50 g90 p91 m91 e51 g91 p92 m92 e52 g92 p93 m93 e53 g93 p80 m80 e60 g80 p81 m81 e61 g81 => by obtain rfl := gO_un hD hk_1 e1; cases e2; obtain rfl := gO_un hD hk_2 e3; cases e50; have z90 := gI_n hD a_r2_1 g90; subst z90; cases e51; have z91 := gI_n hD a_r3_1 g91; subst z91; cases e52; have z92 := gI_n hD a_r4_1 g92; subst z92; cases e53; have z93 := gI_n hD a_r5_1 g93; subst z93; cases e60; have z80 := gI_n hD a_r0_2 g80; subst z80; cases e61; have z81 := gI_n hD a_r3_2 g81; subst z81; exact (by first | (have q_f4_1 := Hide.out f4_1; have q_f6_1 := Hide.out f6_1; have q_f8_1 := Hide.out f8_1; have q_f10_1 := Hide.out f10_1; have q_f1_2 := Hide.out f1_2; have q_f5_2 := Hide.out f5_2; have q_f17_2 := Hide.out f17_2; have q_f18_2 := Hide.out f18_2; have q_f20_2 := Hide.out f20_2; have q_f22_2 := Hide.out f22_2; have q_f28_2 := Hide.out f28_2; have q_fq2_r := Hide.out fq2_r; have g_c2_2 := i_rg c2_2; have g_c4_2 := i_rg c4_2; omega) | (have q_f4_1 := Hide.out f4_1; have q_f6_1 := Hide.out f6_1; have q_f8_1 := Hide.out f8_1; have q_f10_1 := Hide.out f10_1; have q_f1_2 := Hide.out f1_2; have q_f5_2 := Hide.out f5_2; have q_f17_2 := Hide.out f17_2; have q_f18_2 := Hide.out f18_2; have q_f20_2 := Hide.out f20_2; have q_f22_2 := Hide.out f22_2; have q_f28_2 := Hide.out f28_2; have q_fq2_r := Hide.out fq2_r; have q_f3_2 := Hide.out f3_2; have q_f19_2 := Hide.out f19_2; have q_f21_2 := Hide.out f21_2; have g_c2_2 := i_rg c2_2; have g_c4_2 := i_rg c4_2; omega)))) (cwV 1 hts (gd_V kw_1680 kw_1685 kw_1686 kw_404 kw_1684) rfl rfl rfl (by decide +kernel) ⟨Nat.le_of_ble_eq_true rfl, Nat.le_of_ble_eq_true rfl⟩) ⟨gblindH, va_recv hK hP (ci := 8) (q0 := k_1) rfl hk_1, fun U hU hW9 => gmkH hU hW9 hP hK hD hex hE hS hFc⟩ rfl rfl hl.1 rfl (lv_room (Nat.le_of_ble_eq_true rfl)) dX9_makeBetter_2 ⟨(show 0 + (PC ws + (12)) ≤ PC ws + (12) from (by have e0 : (0 : Int32).toInt = 0 := (by decide); have e12 : (12 : Int32).toInt = 12 := (by decide); have e9059 : (9059 : Int32).toInt = 9059 := (by decide); omega)), (show 0 + (PS ws + (9059)) ≤ PS ws + (9059) from (by have e0 : (0 : Int32).toInt = 0 := (by decide); have e12 : (12 : Int32).toInt = 12 := (by decide); have e9059 : (9059 : Int32).toInt = 9059 := (by decide); omega))⟩) hS (fun q _ h => hFc q h) hFc (fun  ws_3 t9 H1 locs ht9 hvm9 hw9 hB9 hz9 hk9 hS => ?_)
  obtain ⟨E_4, Fr_5, hG, hP1, hD1, dc_6, ds_7, hLd, hdc_6, hds_7⟩ := hB9
  rw [ht9] at hLd
  refine W_tight (hL0.tr hLd).1 (hL0.tr hLd).2.1 ?_
  clear hL0 hLd
  have hP : va_P (gD g) cl0 ws_3 H1 := by rw [← ht9]; exact hP1
  have hD : va_D A ws_3 := hD1.weaken (fun _ _ _ h => hFc _ h)
  obtain ⟨hw9, xp_8, xp_9⟩ := hw9
  obtain ⟨kf_10, kf_11, kf_12, kf_13⟩ := id hw9
  clear hP1 hD1 hz9 hk9 hvm9 ht9 hw9
  generalize H1 = H at hP hS ⊢
  have aa_14 := a_r1_1
  have aa_15 := a_r2_1
  have aa_16 := a_r3_1
  have aa_17 := a_r4_1
  have aa_18 := a_r5_1
  have aa_19 := a_r0_2
  have aa_20 := a_r1_2
  have aa_21 := a_r3_2
  have aa_22 := a_r5_2
  have aa_23 := a_r6_2
  have aa_24 := a_r7_2
  have aa_25 := a_r8_2
  have o_h0 := E_4.1 _ _ o_h0
  have o_b1 := E_4.1 _ _ o_b1
  obtain ⟨fs9, hk_26, hq_26⟩ := ((gF.a (F' := [(7, 0), (7, 1), (7, 3), (7, 5), (7, 6), (7, 7), (7, 8), (7, 11), (8, 0), (8, 2), (8, 3), (8, 4), (8, 5)]) Fr_5 (fun _ h => h))) _ _ _ hk_1
  refine opn_X9 hG hk_26 (fun r0_26 r1_26 n1_26 r2_26 n2_26 r3_26 n3_26 r4_26 n4_26 r5_26 n5_26 hf9 o_r0_26 a_r1_26 f2_26 a_r2_26 f4_26 a_r3_26 f6_26 a_r4_26 f8_26 a_r5_26 f10_26 f11_26 => ?_)
  subst hf9
  have kq_27 := kf_10 _ _ _ hk_26 _ _ rfl a_r2_26
  replace kq_27 := hide kq_27
  have kq_28 := kf_11 _ _ _ hk_26 _ _ rfl a_r3_26
  replace kq_28 := hide kq_28
  have kq_29 := kf_12 _ _ _ hk_26 _ _ rfl a_r4_26
  replace kq_29 := hide kq_29
  have kq_30 := kf_13 _ _ _ hk_26 _ _ rfl a_r5_26
  replace kq_30 := hide kq_30
  have ka9 := xp_9.1
  have fw9 := xp_9.2
  have hkW9 := hk_26
  have nb9 : b1 ≠ r0_26 := ne_frW fw9 tk1 oB9 hk_26 rfl
  have tq_31 : rowC ws_3 b1 RW := ka9 _ _ tk0
  have tq_32 : KR ws_3 ws_3 r0_26 := KR_rf
  obtain ⟨k_33, fs9, hk_33⟩ := gC_of o_r0_26
  refine opn_X8 hG hk_33 (fun r0_33 n0_33 r1_33 n1_33 c2_33 r3_33 n3_33 c4_33 r5_33 n5_33 r6_33 n6_33 r7_33 n7_33 r8_33 n8_33 c9_33 c10_33 c11_33 v12_33 v13_33 v14_33 hf9 a_r0_33 f1_33 a_r1_33 f3_33 a_r3_33 f5_33 a_r5_33 f7_33 a_r6_33 f9_33 a_r7_33 f11_33 a_r8_33 f13_33 o_v12_33 o_v13_33 o_v14_33 f17_33 f18_33 f19_33 f20_33 f21_33 f22_33 f23_33 f24_33 f25_33 f26_33 f27_33 f28_33 f29_33 => ?_)
  subst hf9
  have sw_34 := smW_at hD hk_26 rfl hk_33 rfl rfl a_r0_33 a_r3_33 xp_8
  replace sw_34 := hide sw_34
  refine lv_aload_n hx hb dX9_makeBetter_5 rfl (lv_at hl 0 rfl) ?_
  refine va_get (D := gD g) (ci := 8) (v := .ref r0_26) (C := RX9) (T := TX9) (N := 6) hx hb hts inX9 hown hK hP k_1 hk_26 rfl 0 (by decide) (hts _ kw_1552) (fun _ h9 => h9) rfl dX9_makeBetter_6 ?_
  refine lv_aload_n hx hb dX9_makeBetter_9 rfl (lv_at hl 1 rfl) ?_
  have hFc := gfree hD hS hA
  refine va_callv (va_runV (As := [.ref b1]) (rest := []) ⟨hx, hb, hml, hown, hts⟩ (m_X8_copyFrom_y l g H.size ws_3 r0_26 b1 hG o_r0_26 o_b1 nb9 (gP_of hD hk_33 (fun p90 q90 e90 g90 p91 q91 e91 g91 => by cases e90; have z90 := gI_n hD a_r0_33 g90; subst z90; cases e91; have z91 := gI_n hD a_r3_33 g91; subst z91; exact (by first | (have q_f1_33 := Hide.out f1_33; have q_f5_33 := Hide.out f5_33; have q_f17_33 := Hide.out f17_33; have q_f18_33 := Hide.out f18_33; have q_f20_33 := Hide.out f20_33; have q_f22_33 := Hide.out f22_33; have q_f28_33 := Hide.out f28_33; have q_sw_34 := Hide.out sw_34; have g_c2_33 := i_rg c2_33; have g_c4_33 := i_rg c4_33; omega) | (have q_f1_33 := Hide.out f1_33; have q_f5_33 := Hide.out f5_33; have q_f17_33 := Hide.out f17_33; have q_f18_33 := Hide.out f18_33; have q_f20_33 := Hide.out f20_33; have q_f22_33 := Hide.out f22_33; have q_f28_33 := Hide.out f28_33; have q_sw_34 := Hide.out sw_34; have q_f3_33 := Hide.out f3_33; have q_f19_33 := Hide.out f19_33; have q_f21_33 := Hide.out f21_33; have g_c2_33 := i_rg c2_33; have g_c4_33 := i_rg c4_33; omega)))) tq_31) (cwV 1 hts (gd_V kw_1681 kw_1486 kw_1487 kw_782 kw_1485) rfl rfl rfl (by decide +kernel) ⟨Nat.le_of_ble_eq_true rfl, Nat.le_of_ble_eq_true rfl⟩) ⟨gblind, va_recv hK hP (ci := 7) (q0 := k_33) rfl hk_33, fun U hU hW9 => gmk hU hW9 hP hK hD hex hE hS hFc⟩ rfl rfl hl.1 rfl (lv_room (Nat.le_of_ble_eq_true rfl)) dX9_makeBetter_10 ⟨(show 0 + dc_6 + 0 ≤ PC ws + (12) from (by omega)), (show 0 + ds_7 + 0 ≤ PS ws + (9059) from (by omega))⟩) hS (fun q _ h => hFc q h) hFc (fun  ws_35 t9 H1 locs ht9 hvm9 hw9 hB9 hz9 hk9 hS => ?_)
  obtain ⟨E_36, Fr_37, hG, hP1, hD1⟩ := hB9
  have hP : va_P (gD g) cl0 ws_35 H1 := by rw [← ht9]; exact hP1
  have hD : va_D A ws_35 := hD1.weaken (fun _ _ _ h => hFc _ h)
  obtain ⟨hw9, xp_40⟩ := hw9
  clear hP1 hD1 hz9 hk9 hvm9 ht9 hw9
  generalize H1 = H at hP hS ⊢
  have aa_41 := a_r1_26
  have aa_42 := a_r2_26
  have aa_43 := a_r3_26
  have aa_44 := a_r4_26
  have aa_45 := a_r5_26
  have aa_46 := a_r0_33
  have aa_47 := a_r1_33
  have aa_48 := a_r3_33
  have aa_49 := a_r5_33
  have aa_50 := a_r6_33
  have aa_51 := a_r7_33
  have aa_52 := a_r8_33
  have o_h0 := E_36.1 _ _ o_h0
  have o_b1 := E_36.1 _ _ o_b1
  have pp_53 := Fr_37.pp
  have tq_54 : KR ws_3 ws_35 r0_26 := KR.tr tq_32 (KR_s Fr_37)
  obtain ⟨fs9, hk_55, hq_55⟩ := ((gF.a (F' := [(7, 2), (7, 4), (7, 9), (7, 11)]) Fr_37 (fun _ h => h))) _ _ _ hk_26
  refine opn_X9 hG hk_55 (fun r0_55 r1_55 n1_55 r2_55 n2_55 r3_55 n3_55 r4_55 n4_55 r5_55 n5_55 hf9 o_r0_55 a_r1_55 f2_55 a_r2_55 f4_55 a_r3_55 f6_55 a_r4_55 f8_55 a_r5_55 f10_55 f11_55 => ?_)
  subst hf9
  obtain rfl := fe_r (hq_55 0 (by decide))
  have o_r0_26 := o_r0_55
  obtain rfl := fe_r (hq_55 2 (by decide))
  have hn9 := gI_n hD ((E_36).1 _ _ aa_42) a_r2_55
  subst hn9
  have a_r2_26 := a_r2_55
  obtain rfl := fe_r (hq_55 3 (by decide))
  have hn9 := gI_n hD ((E_36).1 _ _ aa_43) a_r3_55
  subst hn9
  have a_r3_26 := a_r3_55
  obtain rfl := fe_r (hq_55 4 (by decide))
  have hn9 := gI_n hD ((E_36).1 _ _ aa_44) a_r4_55
  subst hn9
  have a_r4_26 := a_r4_55
  obtain rfl := fe_r (hq_55 5 (by decide))
  have hn9 := gI_n hD ((E_36).1 _ _ aa_45) a_r5_55
  subst hn9
  have a_r5_26 := a_r5_55
  have tq_56 : smR ws_35 h0 := ⟨_, r0_26, _, hk_55, rfl, xp_40⟩
  refine lv_iconst (v := 1) hx hb dX9_makeBetter_13 (by decide) ?_
  refine lv_istore_n (lv' := [(3, .int 1), (0, .ref h0), (1, .ref b1), (2, .int x2)]) hx hb dX9_makeBetter_14 rfl hl (by decide) rfl (fun ls hl => ?_)
  refine lv_iconst (v := 0) hx hb dX9_makeBetter_15 (by decide) ?_
  refine lv_istore (lv' := [(4, .int 0), (3, .int 1), (0, .ref h0), (1, .ref b1), (2, .int x2)]) hx hb dX9_makeBetter_16 hl (by decide) rfl (fun ls hl => ?_)
  have J_18 : ∀ (n9 : Nat) (v3_57 : Int32) (v4_59 : Int32) (dc_18_1 : Nat) (ds_18_1 : Nat) (ws_61 : va_W) (H : Heap) (locs : List Loc) (ls : Array Slot), (2147483647 - v4_59.toInt).toNat = n9 → v3_57 = 0 ∨ v3_57 = 1 → 0 ≤ v4_59.toInt → gE ws_35 ws_61 → gF [(7, 2), (7, 9)] [(7, 0), (7, 1), (7, 3), (7, 5), (7, 6), (7, 7), (7, 8), (8, 1), (8, 2), (8, 3), (8, 4)] none ws_35 ws_61 → Good g ws_61 → dc_18_1 + PC ws_61 ≤ PC ws + (12) → ds_18_1 + PS ws_61 ≤ PS ws + (9059) → smR ws_61 h0 → KR ws_3 ws_61 r0_26 → smW ws_61 h0 → va_P (gD g) cl0 ws_61 H → va_D A ws_61 → va_S A s.heap H locs → lv_has ls 6 [(0, .ref h0), (2, .int x2), (3, .int v3_57), (4, .int v4_59)] → W p l e (headSpec (wt yX9_makeBetter cX9_makeBetter 6 none) ({ frames := 6, cells := PC ws + (12), slots := PS ws + (9059), locals := 145 })).room s m ([.ref h0, .ref b1, .int x2] : List Value).toArray below meth c H locs (dc_18_1) (ds_18_1) (MQ below (va_Qv (fun (u9 : va_W) => (True) ∧ (smR u9 h0) ∧ (smW u9 h0) ∧ (KM ws u9 h0)) (gQ2 g [(7, 0), (7, 1), (7, 2), (7, 3), (7, 4), (7, 5), (7, 6), (7, 7), (7, 8), (7, 9), (7, 11), (8, 0), (8, 2), (8, 3), (8, 4), (8, 5)] [(7, 0), (7, 1), (7, 3), (7, 5), (7, 6), (7, 7), (7, 8), (8, 1), (8, 2), (8, 3), (8, 4)] none A ws s.heap (12) (9059)) A) ([.ref h0, .ref b1, .int x2] : List Value).toArray s (PC ws + (12)) (PS ws + (9059)) A) (F0 m 18 ls []) := by
    intro n9
    induction n9 using Nat.strongRecOn with
    | ind n9 ih_18 =>
      intro v3_57 v4_59 dc_18_1 ds_18_1 ws_61 H locs ls hm9 iv_58 iv_60 E_62 Fr_63 hG hc9 hs9 jx_18_0 jx_18_1 jx_18_2 hP hD hS hl
      subst hm9
      have hz_v3_57 := iv_58
      replace iv_60 := hide iv_60
      have aa_64 := a_r1_55
      have aa_65 := a_r2_26
      have aa_66 := a_r3_26
      have aa_67 := a_r4_26
      have aa_68 := a_r5_26
      have o_h0 := E_62.1 _ _ o_h0
      refine lv_iload_n hx hb dX9_makeBetter_18 rfl (lv_at hl 2 rfl) ?_
      have J_86 : ∀ (dc_86_2 : Nat) (ds_86_2 : Nat) (H : Heap) (locs : List Loc) (ls : Array Slot), dc_86_2 + PC ws_61 ≤ PC ws + (12) → ds_86_2 + PS ws_61 ≤ PS ws + (9059) → va_P (gD g) cl0 ws_61 H → va_D A ws_61 → va_S A s.heap H locs → lv_has ls 6 [] → W p l e (headSpec (wt yX9_makeBetter cX9_makeBetter 6 none) ({ frames := 6, cells := PC ws + (12), slots := PS ws + (9059), locals := 145 })).room s m ([.ref h0, .ref b1, .int x2] : List Value).toArray below meth c H locs (dc_86_2) (ds_86_2) (MQ below (va_Qv (fun (u9 : va_W) => (True) ∧ (smR u9 h0) ∧ (smW u9 h0) ∧ (KM ws u9 h0)) (gQ2 g [(7, 0), (7, 1), (7, 2), (7, 3), (7, 4), (7, 5), (7, 6), (7, 7), (7, 8), (7, 9), (7, 11), (8, 0), (8, 2), (8, 3), (8, 4), (8, 5)] [(7, 0), (7, 1), (7, 3), (7, 5), (7, 6), (7, 7), (7, 8), (8, 1), (8, 2), (8, 3), (8, 4)] none A ws s.heap (12) (9059)) A) ([.ref h0, .ref b1, .int x2] : List Value).toArray s (PC ws + (12)) (PS ws + (9059)) A) (F0 m 86 ls []) := by
        intro dc_86_2 ds_86_2 H locs ls  hc9 hs9 hP hD hS hl
        refine W_led (fun hLd => ?_)
        have hcl : dc_86_2 + PC ws_61 ≤ PC ws + (12) := (by omega)
        have hsl : ds_86_2 + PS ws_61 ≤ PS ws + (9059) := (by omega)
        refine W.widen (k := PC ws + (12)) (n := PS ws + (9059)) (by omega) (by omega) ?_
        exact W.vret hx hb hr (fun t9 ht9 hW9 => ⟨⟨ws_61, rfl, ⟨trivial, jx_18_0, jx_18_2, KM_of fw9 ka9 hkW9 rfl jx_18_1⟩, ⟨(E_4.tr (E_36.tr E_62)), (gF.tr (gF.mo (F' := [(7, 0), (7, 1), (7, 2), (7, 3), (7, 4), (7, 5), (7, 6), (7, 7), (7, 8), (7, 9), (7, 11), (8, 0), (8, 2), (8, 3), (8, 4), (8, 5)]) (C' := [(7, 0), (7, 1), (7, 3), (7, 5), (7, 6), (7, 7), (7, 8), (8, 1), (8, 2), (8, 3), (8, 4)]) (S' := none) Fr_5 (by decide) (fun _ h => absurd h List.not_mem_nil) (Or.inr rfl)) (gF.tr (gF.mo (F' := [(7, 0), (7, 1), (7, 2), (7, 3), (7, 4), (7, 5), (7, 6), (7, 7), (7, 8), (7, 9), (7, 11), (8, 0), (8, 2), (8, 3), (8, 4), (8, 5)]) (C' := [(7, 0), (7, 1), (7, 3), (7, 5), (7, 6), (7, 7), (7, 8), (8, 1), (8, 2), (8, 3), (8, 4)]) (S' := none) Fr_37 (by decide) (by decide) (Or.inl rfl)) (gF.mo (F' := [(7, 0), (7, 1), (7, 2), (7, 3), (7, 4), (7, 5), (7, 6), (7, 7), (7, 8), (7, 9), (7, 11), (8, 0), (8, 2), (8, 3), (8, 4), (8, 5)]) (C' := [(7, 0), (7, 1), (7, 3), (7, 5), (7, 6), (7, 7), (7, 8), (8, 1), (8, 2), (8, 3), (8, 4)]) (S' := none) Fr_63 (by decide) (fun _ h => h) (Or.inr rfl)))), hG, by rw [ht9]; exact hP, hD, _, _, by rw [ht9]; exact hLd, hcl, hsl⟩⟩, hS.F ht9⟩) hS.2.2 dX9_makeBetter_86
      refine lv_if_eq (tgt := 86) hx hb dX9_makeBetter_19 (by decide) (fun c_71 => ?_) (fun c_71 => ?_)
      · exact J_86 (dc_18_1) (ds_18_1) H locs ls (by omega) (by omega) hP hD hS (lv_sub hl [] rfl)
      · refine lv_iload hx hb dX9_makeBetter_22 (lv_at hl 3 rfl) ?_
        refine lv_bipush (v := 50) hx hb dX9_makeBetter_24 (by decide) ?_
        refine lv_icmp_ge (tgt := 86) hx hb dX9_makeBetter_26 (by decide) (fun c_72 => ?_) (fun c_72 => ?_)
        · exact J_86 (dc_18_1) (ds_18_1) H locs ls (by omega) (by omega) hP hD hS (lv_sub hl [] rfl)
        · refine lv_iconst (v := 0) hx hb dX9_makeBetter_29 (by decide) ?_
          refine lv_istore_n (lv' := [(3, .int 0), (0, .ref h0), (2, .int x2), (4, .int v4_59)]) hx hb dX9_makeBetter_30 rfl hl (by decide) rfl (fun ls hl => ?_)
          refine lv_iconst (v := 1) hx hb dX9_makeBetter_31 (by decide) ?_
          refine lv_istore (lv' := [(5, .int 1), (3, .int 0), (0, .ref h0), (2, .int x2), (4, .int v4_59)]) hx hb dX9_makeBetter_32 hl (by decide) rfl (fun ls hl => ?_)
          have J_34 : ∀ (n9 : Nat) (v3_73 : Int32) (v5_75 : Int32) (dc_34_3 : Nat) (ds_34_3 : Nat) (ws_77 : va_W) (H : Heap) (locs : List Loc) (ls : Array Slot), (2147483647 - v5_75.toInt).toNat = n9 → v3_73 = 0 ∨ v3_73 = 1 → 0 ≤ v5_75.toInt → gE ws_61 ws_77 → gF [(7, 2), (7, 9)] [(7, 0), (7, 1), (7, 3), (7, 5), (7, 6), (7, 7), (7, 8), (8, 1), (8, 2), (8, 3), (8, 4)] none ws_61 ws_77 → Good g ws_77 → dc_34_3 + PC ws_77 ≤ PC ws + (12) → ds_34_3 + PS ws_77 ≤ PS ws + (9059) → smR ws_77 h0 → KR ws_3 ws_77 r0_26 → smW ws_77 h0 → va_P (gD g) cl0 ws_77 H → va_D A ws_77 → va_S A s.heap H locs → lv_has ls 6 [(0, .ref h0), (2, .int x2), (3, .int v3_73), (4, .int v4_59), (5, .int v5_75)] → W p l e (headSpec (wt yX9_makeBetter cX9_makeBetter 6 none) ({ frames := 6, cells := PC ws + (12), slots := PS ws + (9059), locals := 145 })).room s m ([.ref h0, .ref b1, .int x2] : List Value).toArray below meth c H locs (dc_34_3) (ds_34_3) (MQ below (va_Qv (fun (u9 : va_W) => (True) ∧ (smR u9 h0) ∧ (smW u9 h0) ∧ (KM ws u9 h0)) (gQ2 g [(7, 0), (7, 1), (7, 2), (7, 3), (7, 4), (7, 5), (7, 6), (7, 7), (7, 8), (7, 9), (7, 11), (8, 0), (8, 2), (8, 3), (8, 4), (8, 5)] [(7, 0), (7, 1), (7, 3), (7, 5), (7, 6), (7, 7), (7, 8), (8, 1), (8, 2), (8, 3), (8, 4)] none A ws s.heap (12) (9059)) A) ([.ref h0, .ref b1, .int x2] : List Value).toArray s (PC ws + (12)) (PS ws + (9059)) A) (F0 m 34 ls []) := by
            intro n9
            induction n9 using Nat.strongRecOn with
            | ind n9 ih_34 =>
              intro v3_73 v5_75 dc_34_3 ds_34_3 ws_77 H locs ls hm9 iv_74 iv_76 E_78 Fr_79 hG hc9 hs9 jx_34_0 jx_34_1 jx_34_2 hP hD hS hl
              subst hm9
              have hz_v3_73 := iv_74
              replace iv_76 := hide iv_76
              have o_h0 := E_78.1 _ _ o_h0
              refine lv_iload hx hb dX9_makeBetter_34 (lv_at hl 4 rfl) ?_
              refine lv_bipush (v := 11) hx hb dX9_makeBetter_36 (by decide) ?_
              refine lv_icmp_gt (tgt := 80) hx hb dX9_makeBetter_38 (by decide) (fun c_80 => ?_) (fun c_80 => ?_)
              · obtain ⟨z_81, ez_81⟩ : ∃ z : Int32, v4_59 + Int32.ofInt 1 = z := ⟨_, rfl⟩
                refine lv_iinc (v := z_81) (lv' := [(4, .int z_81), (0, .ref h0), (2, .int x2), (3, .int v3_73), (5, .int v5_75)]) hx hb dX9_makeBetter_80 hl (k := 3) rfl ez_81 (by decide) rfl (fun ls hl => ?_)
                refine lv_goto (tgt := 18) hx hb dX9_makeBetter_83 (by decide) ?_
                exact ih_18 _ (by first | (obtain ⟨u_z_81, q_z_81⟩ := i_iz ez_81 (by decide) (by decide); have g_v3_73 := i_rg v3_73; have g_v4_59 := i_rg v4_59; have g_z_81 := i_rg z_81; have b_v3_73 := i_bit hz_v3_73; omega) | (have e50 : (50 : Int32).toInt = 50 := (by decide); obtain ⟨u_z_81, q_z_81⟩ := i_iz ez_81 (by decide) (by decide); have q_iv_60 := Hide.out iv_60; have q_c_72 := i_nle c_72; have g_v3_73 := i_rg v3_73; have g_v4_59 := i_rg v4_59; have g_z_81 := i_rg z_81; have b_v3_73 := i_bit hz_v3_73; omega)) (v3_73) (z_81) (dc_34_3) (ds_34_3) ws_77 H locs ls rfl hz_v3_73 (by first | (obtain ⟨u_z_81, q_z_81⟩ := i_iz ez_81 (by decide) (by decide); have g_v4_59 := i_rg v4_59; have g_z_81 := i_rg z_81; omega) | (have e50 : (50 : Int32).toInt = 50 := (by decide); obtain ⟨u_z_81, q_z_81⟩ := i_iz ez_81 (by decide) (by decide); have q_iv_60 := Hide.out iv_60; have q_c_72 := i_nle c_72; have g_v4_59 := i_rg v4_59; have g_z_81 := i_rg z_81; omega)) ((E_62.tr E_78)) ((gF.tr Fr_63 Fr_79)) hG (by omega) (by omega) jx_34_0 jx_34_1 jx_34_2 hP hD hS (lv_sub hl [1, 2, 3, 0] rfl)
              · refine lv_iload_n hx hb dX9_makeBetter_41 rfl (lv_at hl 1 rfl) ?_
                refine lv_iload hx hb dX9_makeBetter_42 (lv_at hl 4 rfl) ?_
                refine lv_iconst (v := 1) hx hb dX9_makeBetter_44 (by decide) ?_
                refine lv_isub hx hb dX9_makeBetter_45 ?_
                refine lv_topi (fun z_82 ez_82 => ?_)
                refine lv_ishr hx hb dX9_makeBetter_46 ?_
                refine lv_topi (fun z_83 ez_83 => ?_)
                refine lv_iconst (v := 1) hx hb dX9_makeBetter_47 (by decide) ?_
                refine lv_iand hx hb dX9_makeBetter_48 ?_
                refine lv_topi (fun z_84 ez_84 => ?_)
                have J_74 : ∀ (v3_85 : Int32) (dc_74_4 : Nat) (ds_74_4 : Nat) (ws_87 : va_W) (H : Heap) (locs : List Loc) (ls : Array Slot), v3_85 = 0 ∨ v3_85 = 1 → gE ws_77 ws_87 → gF [(7, 2), (7, 9)] [(7, 0), (7, 1), (7, 3), (7, 5), (7, 6), (7, 7), (7, 8), (8, 1), (8, 2), (8, 3), (8, 4)] none ws_77 ws_87 → Good g ws_87 → dc_74_4 + PC ws_87 ≤ PC ws + (12) → ds_74_4 + PS ws_87 ≤ PS ws + (9059) → smR ws_87 h0 → KR ws_3 ws_87 r0_26 → smW ws_87 h0 → va_P (gD g) cl0 ws_87 H → va_D A ws_87 → va_S A s.heap H locs → lv_has ls 6 [(0, .ref h0), (2, .int x2), (3, .int v3_85), (4, .int v4_59), (5, .int v5_75)] → W p l e (headSpec (wt yX9_makeBetter cX9_makeBetter 6 none) ({ frames := 6, cells := PC ws + (12), slots := PS ws + (9059), locals := 145 })).room s m ([.ref h0, .ref b1, .int x2] : List Value).toArray below meth c H locs (dc_74_4) (ds_74_4) (MQ below (va_Qv (fun (u9 : va_W) => (True) ∧ (smR u9 h0) ∧ (smW u9 h0) ∧ (KM ws u9 h0)) (gQ2 g [(7, 0), (7, 1), (7, 2), (7, 3), (7, 4), (7, 5), (7, 6), (7, 7), (7, 8), (7, 9), (7, 11), (8, 0), (8, 2), (8, 3), (8, 4), (8, 5)] [(7, 0), (7, 1), (7, 3), (7, 5), (7, 6), (7, 7), (7, 8), (8, 1), (8, 2), (8, 3), (8, 4)] none A ws s.heap (12) (9059)) A) ([.ref h0, .ref b1, .int x2] : List Value).toArray s (PC ws + (12)) (PS ws + (9059)) A) (F0 m 74 ls []) := by
                  intro v3_85 dc_74_4 ds_74_4 ws_87 H locs ls iv_86 E_88 Fr_89 hG hc9 hs9 jx_74_0 jx_74_1 jx_74_2 hP hD hS hl
                  have hz_v3_85 := iv_86
                  have o_h0 := E_88.1 _ _ o_h0
                  obtain ⟨z_90, ez_90⟩ : ∃ z : Int32, v5_75 + Int32.ofInt 1 = z := ⟨_, rfl⟩
                  refine lv_iinc (v := z_90) (lv' := [(5, .int z_90), (0, .ref h0), (2, .int x2), (3, .int v3_85), (4, .int v4_59)]) hx hb dX9_makeBetter_74 hl (k := 4) rfl ez_90 (by decide) rfl (fun ls hl => ?_)
                  refine lv_goto (tgt := 34) hx hb dX9_makeBetter_77 (by decide) ?_
                  exact ih_34 _ (by first | (obtain ⟨u_z_90, q_z_90⟩ := i_iz ez_90 (by decide) (by decide); have g_v3_85 := i_rg v3_85; have g_v5_75 := i_rg v5_75; have g_z_90 := i_rg z_90; have b_v3_85 := i_bit hz_v3_85; omega) | (have e1 : (1 : Int32).toInt = 1 := (by decide); have e11 : (11 : Int32).toInt = 11 := (by decide); obtain ⟨u_z_90, q_z_90⟩ := i_iz ez_90 (by decide) (by decide); have q_iv_76 := Hide.out iv_76; have q_c_80 := i_nlt c_80; obtain ⟨u_z_82, q_z_82⟩ := i_sub ez_82; have g_v3_85 := i_rg v3_85; have g_v5_75 := i_rg v5_75; have g_z_82 := i_rg z_82; have g_z_90 := i_rg z_90; have b_v3_85 := i_bit hz_v3_85; omega)) (v3_85) (z_90) (dc_74_4) (ds_74_4) ws_87 H locs ls rfl hz_v3_85 (by first | (obtain ⟨u_z_90, q_z_90⟩ := i_iz ez_90 (by decide) (by decide); have g_v5_75 := i_rg v5_75; have g_z_90 := i_rg z_90; omega) | (have e1 : (1 : Int32).toInt = 1 := (by decide); have e11 : (11 : Int32).toInt = 11 := (by decide); obtain ⟨u_z_90, q_z_90⟩ := i_iz ez_90 (by decide) (by decide); have q_iv_76 := Hide.out iv_76; have q_c_80 := i_nlt c_80; obtain ⟨u_z_82, q_z_82⟩ := i_sub ez_82; have g_v5_75 := i_rg v5_75; have g_z_82 := i_rg z_82; have g_z_90 := i_rg z_90; omega)) ((E_78.tr E_88)) ((gF.tr Fr_79 Fr_89)) hG (by omega) (by omega) jx_74_0 jx_74_1 jx_74_2 hP hD hS (lv_sub hl [1, 2, 3, 4, 0] rfl)
                refine lv_if_eq (tgt := 74) hx hb dX9_makeBetter_49 (by decide) (fun c_91 => ?_) (fun c_91 => ?_)
                · exact J_74 (v3_73) (dc_34_3) (ds_34_3) ws_77 H locs ls hz_v3_73 (gE.rf) (gF.rf) hG (by omega) (by omega) jx_34_0 jx_34_1 jx_34_2 hP hD hS (lv_sub hl [0, 1, 2, 3, 4] rfl)
                · refine lv_iload_n hx hb dX9_makeBetter_52 rfl (lv_at hl 2 rfl) ?_
                  refine lv_iload hx hb dX9_makeBetter_53 (lv_at hl 4 rfl) ?_
                  refine lv_iconst (v := 1) hx hb dX9_makeBetter_55 (by decide) ?_
                  refine lv_icmp_ne (tgt := 66) hx hb dX9_makeBetter_56 (by decide) (fun c_92 => ?_) (fun c_92 => ?_)
                  · refine lv_aload_n hx hb dX9_makeBetter_66 rfl (lv_at hl 0 rfl) ?_
                    refine lv_iload hx hb dX9_makeBetter_67 (lv_at hl 4 rfl) ?_
                    obtain ⟨fs9, hk_93, hq_93⟩ := ((gA.tr (gF.a (F' := [(7, 2), (7, 9)]) Fr_63 (fun _ h => h)) (gF.a (F' := [(7, 2), (7, 9)]) Fr_79 (fun _ h => h)))) _ _ _ hk_55
                    refine opn_X9 hG hk_93 (fun r0_93 r1_93 n1_93 r2_93 n2_93 r3_93 n3_93 r4_93 n4_93 r5_93 n5_93 hf9 o_r0_93 a_r1_93 f2_93 a_r2_93 f4_93 a_r3_93 f6_93 a_r4_93 f8_93 a_r5_93 f10_93 f11_93 => ?_)
                    subst hf9
                    obtain rfl := fe_r (hq_93 0 (by decide))
                    have o_r0_26 := o_r0_93
                    obtain rfl := fe_r (hq_93 2 (by decide))
                    have hn9 := gI_n hD (((E_62.tr E_78)).1 _ _ aa_65) a_r2_93
                    subst hn9
                    have a_r2_26 := a_r2_93
                    obtain rfl := fe_r (hq_93 3 (by decide))
                    have hn9 := gI_n hD (((E_62.tr E_78)).1 _ _ aa_66) a_r3_93
                    subst hn9
                    have a_r3_26 := a_r3_93
                    obtain rfl := fe_r (hq_93 4 (by decide))
                    have hn9 := gI_n hD (((E_62.tr E_78)).1 _ _ aa_67) a_r4_93
                    subst hn9
                    have a_r4_26 := a_r4_93
                    obtain rfl := fe_r (hq_93 5 (by decide))
                    have hn9 := gI_n hD (((E_62.tr E_78)).1 _ _ aa_68) a_r5_93
                    subst hn9
                    have a_r5_26 := a_r5_93
                    have hkQ9 := hk_93
                    have hFc := gfree hD hS hA
                    refine va_calli (va_runV (As := [.int v5_75]) (rest := [.int v3_73]) ⟨hx, hb, hml, hown, hts⟩ (m_X9_goThrough_x l g H.size ws_77 h0 (v5_75) hG o_h0 (gP_of hD hk_93 (fun p90 q90 e90 g90 => by cases e90; have z90 := gI_n hD a_r2_26 g90; subst z90; exact (by have q_f4_26 := Hide.out f4_26; have q_kq_27 := Hide.out kq_27; omega))) (gP_of hD hk_93 (fun p90 q90 e90 g90 => by cases e90; have z90 := gI_n hD a_r3_26 g90; subst z90; exact (by have q_f6_26 := Hide.out f6_26; have q_kq_28 := Hide.out kq_28; omega))) (gP_of hD hk_93 (fun p90 q90 e90 g90 => by cases e90; have z90 := gI_n hD a_r4_26 g90; subst z90; exact (by have q_f8_26 := Hide.out f8_26; have q_kq_29 := Hide.out kq_29; omega))) (gP_of hD hk_93 (fun p90 q90 e90 g90 => by cases e90; have z90 := gI_n hD a_r5_26 g90; subst z90; exact (by have q_f10_26 := Hide.out f10_26; have q_kq_30 := Hide.out kq_30; omega))) jx_34_0 (by have e1 : (1 : Int32).toInt = 1 := (by decide); have e11 : (11 : Int32).toInt = 11 := (by decide); have q_iv_76 := Hide.out iv_76; have q_c_80 := i_nlt c_80; obtain ⟨u_z_82, q_z_82⟩ := i_sub ez_82; have q_c_92 := i_ne c_92; have g_v5_75 := i_rg v5_75; have g_z_82 := i_rg z_82; omega)) (cwV 1 hts (gd_V kw_1683 kw_1582 kw_1583 kw_404 kw_1581) rfl rfl rfl (by decide +kernel) ⟨Nat.le_of_ble_eq_true rfl, Nat.le_of_ble_eq_true rfl⟩) ⟨gblind, va_recv hK hP (ci := 8) (q0 := k_1) rfl hk_93, fun U hU hW9 => gmk hU hW9 hP hK hD hex hE hS hFc⟩ rfl rfl hl.1 rfl (lv_room (Nat.le_of_ble_eq_true rfl)) dX9_makeBetter_69 ⟨(show dc_34_3 + 0 ≤ PC ws + (12) from (by omega)), (show ds_34_3 + 0 ≤ PS ws + (9059) from (by omega))⟩) hS (fun q _ h => hFc q h) hFc (fun r_94 ws_95 t9 H1 locs ht9 hvm9 hw9 hB9 hz9 hk9 hS => ?_)
                    obtain ⟨E_96, Fr_97, hG, hP1, hD1⟩ := hB9
                    have hP : va_P (gD g) cl0 ws_95 H1 := by rw [← ht9]; exact hP1
                    have hD : va_D A ws_95 := hD1.weaken (fun _ _ _ h => hFc _ h)
                    obtain ⟨hw9, xp_100, xp_101⟩ := hw9
                    have hz_r_94 : r_94 = 0 ∨ r_94 = 1 := hw9
                    clear hP1 hD1 hz9 hk9 hvm9 ht9 hw9
                    generalize H1 = H at hP hS ⊢
                    have aa_102 := a_r1_93
                    have aa_103 := a_r2_26
                    have aa_104 := a_r3_26
                    have aa_105 := a_r4_26
                    have aa_106 := a_r5_26
                    have o_h0 := E_96.1 _ _ o_h0
                    have pp_107 := Fr_97.pp
                    have tq_108 : KR ws_3 ws_95 r0_26 := KR.tr jx_34_1 (xp_101 _ _ _ hkQ9 rfl)
                    refine lv_ior hx hb dX9_makeBetter_72 ?_
                    refine lv_topi (fun z_109 ez_109 => ?_)
                    have hz_z_109 := bit_or ez_109 hz_v3_73 hz_r_94
                    refine lv_istore_n (lv' := [(3, .int z_109), (0, .ref h0), (2, .int x2), (4, .int v4_59), (5, .int v5_75)]) hx hb dX9_makeBetter_73 rfl hl (by decide) rfl (fun ls hl => ?_)
                    have tq_110 : smW ws_95 h0 := smW_mo (Fr_97) (E_96) (by decide) (by decide) (by decide) jx_34_2
                    exact J_74 (z_109) (dc_34_3) (ds_34_3) ws_95 H locs ls hz_z_109 (E_96) ((gF.mo (F' := [(7, 2), (7, 9)]) (C' := [(7, 0), (7, 1), (7, 3), (7, 5), (7, 6), (7, 7), (7, 8), (8, 1), (8, 2), (8, 3), (8, 4)]) (S' := none) Fr_97 (fun _ h => h) (by decide) (Or.inr rfl))) hG (by omega) (by omega) xp_100 tq_108 tq_110 hP hD hS (lv_sub hl [1, 2, 0, 3, 4] rfl)
                  · refine lv_aload_n hx hb dX9_makeBetter_59 rfl (lv_at hl 0 rfl) ?_
                    obtain ⟨fs9, hk_111, hq_111⟩ := ((gA.tr (gF.a (F' := [(7, 2), (7, 9)]) Fr_63 (fun _ h => h)) (gF.a (F' := [(7, 2), (7, 9)]) Fr_79 (fun _ h => h)))) _ _ _ hk_55
                    refine opn_X9 hG hk_111 (fun r0_111 r1_111 n1_111 r2_111 n2_111 r3_111 n3_111 r4_111 n4_111 r5_111 n5_111 hf9 o_r0_111 a_r1_111 f2_111 a_r2_111 f4_111 a_r3_111 f6_111 a_r4_111 f8_111 a_r5_111 f10_111 f11_111 => ?_)
                    subst hf9
                    obtain rfl := fe_r (hq_111 0 (by decide))
                    have o_r0_26 := o_r0_111
                    obtain rfl := fe_r (hq_111 2 (by decide))
                    have hn9 := gI_n hD (((E_62.tr E_78)).1 _ _ aa_65) a_r2_111
                    subst hn9
                    have a_r2_26 := a_r2_111
                    obtain rfl := fe_r (hq_111 3 (by decide))
                    have hn9 := gI_n hD (((E_62.tr E_78)).1 _ _ aa_66) a_r3_111
                    subst hn9
                    have a_r3_26 := a_r3_111
                    obtain rfl := fe_r (hq_111 4 (by decide))
                    have hn9 := gI_n hD (((E_62.tr E_78)).1 _ _ aa_67) a_r4_111
                    subst hn9
                    have a_r4_26 := a_r4_111
                    obtain rfl := fe_r (hq_111 5 (by decide))
                    have hn9 := gI_n hD (((E_62.tr E_78)).1 _ _ aa_68) a_r5_111
                    subst hn9
                    have a_r5_26 := a_r5_111
                    have hkQ9 := hk_111
                    have hFc := gfree hD hS hA
                    refine va_calli (va_runV (As := []) (rest := [.int v3_73]) ⟨hx, hb, hml, hown, hts⟩ (m_X9_dropUnreached_x l g H.size ws_77 h0 hG o_h0 (gP_of hD hk_111 (fun p90 q90 e90 g90 => by cases e90; have z90 := gI_n hD a_r2_26 g90; subst z90; exact (by have q_f4_26 := Hide.out f4_26; have q_kq_27 := Hide.out kq_27; omega))) (gP_of hD hk_111 (fun p90 q90 e90 g90 => by cases e90; have z90 := gI_n hD a_r3_26 g90; subst z90; exact (by have q_f6_26 := Hide.out f6_26; have q_kq_28 := Hide.out kq_28; omega))) (gP_of hD hk_111 (fun p90 q90 e90 g90 => by cases e90; have z90 := gI_n hD a_r4_26 g90; subst z90; exact (by have q_f8_26 := Hide.out f8_26; have q_kq_29 := Hide.out kq_29; omega))) (gP_of hD hk_111 (fun p90 q90 e90 g90 => by cases e90; have z90 := gI_n hD a_r5_26 g90; subst z90; exact (by have q_f10_26 := Hide.out f10_26; have q_kq_30 := Hide.out kq_30; omega))) jx_34_0) (cwV 0 hts (gd_V kw_1682 kw_1549 kw_1550 kw_404 kw_1548) rfl rfl rfl (by decide +kernel) ⟨Nat.le_of_ble_eq_true rfl, Nat.le_of_ble_eq_true rfl⟩) ⟨gblind, va_recv hK hP (ci := 8) (q0 := k_1) rfl hk_111, fun U hU hW9 => gmk hU hW9 hP hK hD hex hE hS hFc⟩ rfl rfl hl.1 rfl (lv_room (Nat.le_of_ble_eq_true rfl)) dX9_makeBetter_60 ⟨(show dc_34_3 + 0 ≤ PC ws + (12) from (by omega)), (show ds_34_3 + 0 ≤ PS ws + (9059) from (by omega))⟩) hS (fun q _ h => hFc q h) hFc (fun r_112 ws_113 t9 H1 locs ht9 hvm9 hw9 hB9 hz9 hk9 hS => ?_)
                    obtain ⟨E_114, Fr_115, hG, hP1, hD1⟩ := hB9
                    have hP : va_P (gD g) cl0 ws_113 H1 := by rw [← ht9]; exact hP1
                    have hD : va_D A ws_113 := hD1.weaken (fun _ _ _ h => hFc _ h)
                    obtain ⟨hw9, xp_118, xp_119⟩ := hw9
                    have hz_r_112 : r_112 = 0 ∨ r_112 = 1 := hw9
                    clear hP1 hD1 hz9 hk9 hvm9 ht9 hw9
                    generalize H1 = H at hP hS ⊢
                    have aa_120 := a_r1_111
                    have aa_121 := a_r2_26
                    have aa_122 := a_r3_26
                    have aa_123 := a_r4_26
                    have aa_124 := a_r5_26
                    have o_h0 := E_114.1 _ _ o_h0
                    have pp_125 := Fr_115.pp
                    have tq_126 : KR ws_3 ws_113 r0_26 := KR.tr jx_34_1 (xp_119 _ _ _ hkQ9 rfl)
                    refine lv_goto (tgt := 72) hx hb dX9_makeBetter_63 (by decide) ?_
                    refine lv_ior hx hb dX9_makeBetter_72 ?_
                    refine lv_topi (fun z_127 ez_127 => ?_)
                    have hz_z_127 := bit_or ez_127 hz_v3_73 hz_r_112
                    refine lv_istore_n (lv' := [(3, .int z_127), (0, .ref h0), (2, .int x2), (4, .int v4_59), (5, .int v5_75)]) hx hb dX9_makeBetter_73 rfl hl (by decide) rfl (fun ls hl => ?_)
                    have tq_128 : smW ws_113 h0 := smW_mo (Fr_115) (E_114) (by decide) (by decide) (by decide) jx_34_2
                    exact J_74 (z_127) (dc_34_3) (ds_34_3) ws_113 H locs ls hz_z_127 (E_114) ((gF.mo (F' := [(7, 2), (7, 9)]) (C' := [(7, 0), (7, 1), (7, 3), (7, 5), (7, 6), (7, 7), (7, 8), (8, 1), (8, 2), (8, 3), (8, 4)]) (S' := none) Fr_115 (fun _ h => h) (by decide) (Or.inr rfl))) hG (by omega) (by omega) xp_118 tq_126 tq_128 hP hD hS (lv_sub hl [1, 2, 0, 3, 4] rfl)
          exact J_34 _ (0) (1) (dc_18_1) (ds_18_1) ws_61 H locs ls rfl (Or.inl rfl) (by have e1 : (1 : Int32).toInt = 1 := (by decide); omega) (gE.rf) (gF.rf) hG (by omega) (by omega) jx_18_0 jx_18_1 jx_18_2 hP hD hS (lv_sub hl [2, 3, 1, 4, 0] rfl)
  have tq_129 : smW ws_35 h0 := smW_mo ((gF.mo (F' := [(7, 2), (7, 4), (7, 9), (7, 11)]) (C' := [(7, 0), (7, 1), (7, 3), (7, 5), (7, 6), (7, 7), (7, 8)]) (S' := none) Fr_37 (fun _ h => h) (fun _ h => h) (Or.inl rfl))) (E_36) (by decide) (by decide) (by decide) xp_8
  exact J_18 _ (1) (0) (0 + dc_6) (0 + ds_7) ws_35 H locs ls rfl (Or.inr rfl) (by have e0 : (0 : Int32).toInt = 0 := (by decide); omega) (gE.rf) (gF.rf) hG (by omega) (by omega) tq_56 tq_54 tq_129 hP hD hS (lv_sub hl [2, 4, 1, 0] rfl)
