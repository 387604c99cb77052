set_option maxHeartbeats 1000000 in
set_option maxRecDepth 100000 in
theorem m_X9_makeRoom (l : Launch) (g : Gm) (H0 : Heap) (ws : va_W) (h0 : Nat) (b1 : Nat) (hG : Good g ws) (o_h0 : gC ws h0 8) (o_b1 : gC ws b1 7) (f2_r : ∀ (k k2 b : Nat) (fs gs : List Value), ows ws k h0 8 fs → fs[0]? = some (.ref b) → ows ws k2 b 7 gs → ∀ (ra a : Nat), fs[2]? = some (.ref ra) → gI ws ra g.cZ a → ∀ (rb b : Nat), fs[3]? = some (.ref rb) → gI ws rb g.cZ b → ∀ (rc c : Nat), fs[4]? = some (.ref rc) → gI ws rc g.cI c → ∀ (rd d : Nat), fs[5]? = some (.ref rd) → gI ws rd g.cI d → ∀ (rm m : Nat), gs[0]? = some (.ref rm) → gI ws rm g.cI m → m < 1296 ∨ (1297 ≤ a ∧ 1297 ≤ b ∧ 1297 ≤ c ∧ 1297 ≤ d)) : Met l yX9_makeRoom (wt yX9_makeRoom cX9_makeRoom 2 none) ({ frames := 2, cells := PC ws + (12), slots := PS ws + (9059), locals := 35 }) (va_Pc [.ref h0, .ref b1] (st_H g H0 ws)) (va_Qv (fun (u9 : va_W) => gP u9 h0 (fun fs => ∀ (rn n : Nat), fs[2]? = some (.ref rn) → gI u9 rn g.cZ n → 1297 ≤ n) ∧ gP u9 h0 (fun fs => ∀ (rn n : Nat), fs[3]? = some (.ref rn) → gI u9 rn g.cZ n → 1297 ≤ n) ∧ gP u9 h0 (fun fs => ∀ (rn n : Nat), fs[4]? = some (.ref rn) → gI u9 rn g.cI n → 1297 ≤ n) ∧ gP u9 h0 (fun fs => ∀ (rn n : Nat), fs[5]? = some (.ref rn) → gI u9 rn g.cI n → 1297 ≤ n)) (gQ2 g [(7, 0), (7, 1), (7, 3), (7, 5), (7, 6), (7, 7), (7, 8), (7, 11), (8, 0), (8, 2), (8, 3), (8, 4), (8, 5)] [] none (va_A ws H0.size) ws H0 (12) (9059)) (va_A ws H0.size)) (PC ws + (12)) (PS ws + (9059)) (va_A ws H0.size) := by
  refine Met.ofW (cc := cX9_makeRoom) (maxL := 2) (ret := none) (by decide) rfl ?_
  intro p e s m args below meth c s₁ B hml hv
  obtain ⟨rfl, hH0, hsz, hP, hK, hD0, hex, hE⟩ := hv
  have hx := B.exec
  have hb := B.bytes
  have hr := B.returns
  have hts0 := atoms_spec (ws := wt yX9_makeRoom cX9_makeRoom 2 none) B.pre
  have hts : ∀ w ∈ tb, w.before _ s = true := fun w h => hts0 w (List.mem_cons_of_mem _ h)
  have hown : s.vm.findClass RX9 = some m.cls := findClass_of_methodNamed B.named
  subst hH0
  have hD := hD0.self (sz := s.heap.size)
  generalize hAe : va_A ws s.heap.size = A at hD hE ⊢
  have hA : ∀ q : Nat, s.heap.size ≤ q → A q := fun q h => by rw [← hAe]; exact Or.inr h
  have hS : va_S A s.heap s.heap [] := va_S.rf
  have hl := lv_entry ([.ref h0, .ref b1]) (n := 2) (Nat.le_of_ble_eq_true rfl)
  rw [lg_entry_eq]
  generalize (lg_sl ([.ref h0, .ref b1]) ++ List.replicate (2 - (lg_sl ([.ref h0, .ref b1])).length) Slot.unset).toArray = ls at hl ⊢
  have hl : lv_has ls 2 [(0, .ref h0), (1, .ref b1)] := hl
  obtain ⟨k_1, fs9, hk_1⟩ := gC_of o_h0
  obtain ⟨r0_1, r1_1, n1_1, r2_1, n2_1, r3_1, n3_1, r4_1, n4_1, r5_1, n5_1, rfl, o_r0_1, a_r1_1, f2_1, a_r2_1, f4_1, a_r3_1, f6_1, a_r4_1, f8_1, a_r5_1, f10_1, f11_1, -⟩ := (hG.1 _ _ _ _ hk_1).hX9 rfl
  obtain ⟨k_2, fs9, hk_2⟩ := gC_of o_r0_1
  obtain ⟨r0_2, n0_2, r1_2, n1_2, c2_2, r3_2, n3_2, c4_2, r5_2, n5_2, r6_2, n6_2, r7_2, n7_2, r8_2, n8_2, c9_2, c10_2, c11_2, v12_2, v13_2, v14_2, rfl, a_r0_2, f1_2, a_r1_2, f3_2, a_r3_2, f5_2, a_r5_2, f7_2, a_r6_2, f9_2, a_r7_2, f11_2, a_r8_2, f13_2, o_v12_2, o_v13_2, o_v14_2, f17_2, f18_2, f19_2, f20_2, f21_2, f22_2, f23_2, f24_2, f25_2, f26_2, f27_2, f28_2, f29_2, -⟩ := (hG.1 _ _ _ _ hk_2).hX8 rfl
  have fq2_r := f2_r _ _ _ _ _ hk_1 rfl hk_2 _ _ rfl a_r2_1 _ _ rfl a_r3_1 _ _ rfl a_r4_1 _ _ rfl a_r5_1 _ _ rfl a_r0_2
  refine lv_aload_n hx hb dX9_makeRoom_0 rfl (lv_at hl 0 rfl) ?_
  refine va_get (D := gD g) (ci := 8) (v := .ref r0_1) (C := RX9) (T := TX9) (N := 6) hx hb hts inX9 hown hK hP k_1 hk_1 rfl 0 (by decide) (hts _ kw_1552) (fun _ h9 => h9) rfl dX9_makeRoom_1 ?_
  refine va_get (D := gD g) (ci := 7) (v := .ref r0_2) (C := RX8) (T := TX8) (N := 15) hx hb hts inX8 hown hK hP k_2 hk_2 rfl 0 (by decide) (hts _ kw_1687) (fun _ h9 => h9) rfl dX9_makeRoom_4 ?_
  obtain ⟨k_3, f_3, hk_3⟩ := gI_of a_r0_2
  obtain ⟨z_4, ez_4⟩ : ∃ z : Int32, Int32.ofNat n0_2 = z := ⟨_, rfl⟩
  refine va_alen (v := z_4) hx hb hK hP k_3 1 hk_3 rfl ez_4 dX9_makeRoom_7 ?_
  refine lv_sipush (v := 1296) hx hb dX9_makeRoom_8 (by decide) ?_
  have J_69 : ∀ (dc_69_1 : Nat) (ds_69_1 : Nat) (ws_5 : va_W) (H : Heap) (locs : List Loc) (ls : Array Slot), gE ws ws_5 → gF [(7, 0), (7, 1), (7, 3), (7, 5), (7, 6), (7, 7), (7, 8), (8, 0), (8, 2), (8, 3), (8, 4), (8, 5)] [] none ws ws_5 → Good g ws_5 → dc_69_1 + PC ws_5 ≤ PC ws + (12) → ds_69_1 + PS ws_5 ≤ PS ws + (9059) → gP ws_5 h0 (fun fs => ∀ (rn n : Nat), fs[2]? = some (.ref rn) → gI ws_5 rn g.cZ n → 1297 ≤ n) → gP ws_5 h0 (fun fs => ∀ (rn n : Nat), fs[3]? = some (.ref rn) → gI ws_5 rn g.cZ n → 1297 ≤ n) → gP ws_5 h0 (fun fs => ∀ (rn n : Nat), fs[4]? = some (.ref rn) → gI ws_5 rn g.cI n → 1297 ≤ n) → gP ws_5 h0 (fun fs => ∀ (rn n : Nat), fs[5]? = some (.ref rn) → gI ws_5 rn g.cI n → 1297 ≤ n) → va_P (gD g) cl0 ws_5 H → va_D A ws_5 → va_S A s.heap H locs → lv_has ls 2 [(0, .ref h0), (1, .ref b1)] → W p l e (headSpec (wt yX9_makeRoom cX9_makeRoom 2 none) ({ frames := 2, cells := PC ws + (12), slots := PS ws + (9059), locals := 35 })).room s m ([.ref h0, .ref b1] : List Value).toArray below meth c H locs (dc_69_1) (ds_69_1) (MQ below (va_Qv (fun (u9 : va_W) => gP u9 h0 (fun fs => ∀ (rn n : Nat), fs[2]? = some (.ref rn) → gI u9 rn g.cZ n → 1297 ≤ n) ∧ gP u9 h0 (fun fs => ∀ (rn n : Nat), fs[3]? = some (.ref rn) → gI u9 rn g.cZ n → 1297 ≤ n) ∧ gP u9 h0 (fun fs => ∀ (rn n : Nat), fs[4]? = some (.ref rn) → gI u9 rn g.cI n → 1297 ≤ n) ∧ gP u9 h0 (fun fs => ∀ (rn n : Nat), fs[5]? = some (.ref rn) → gI u9 rn g.cI n → 1297 ≤ n)) (gQ2 g [(7, 0), (7, 1), (7, 3), (7, 5), (7, 6), (7, 7), (7, 8), (7, 11), (8, 0), (8, 2), (8, 3), (8, 4), (8, 5)] [] none A ws s.heap (12) (9059)) A) ([.ref h0, .ref b1] : List Value).toArray s (PC ws + (12)) (PS ws + (9059)) A) (F0 m 69 ls []) := by
    intro dc_69_1 ds_69_1 ws_5 H locs ls  E_6 Fr_7 hG hc9 hs9 jf_69_a jf_69_b jf_69_d jf_69_f hP hD hS hl
    have aa_8 := a_r1_1
    have aa_9 := a_r2_1
    have aa_10 := a_r3_1
    have aa_11 := a_r4_1
    have aa_12 := a_r5_1
    have aa_13 := a_r0_2
    have aa_14 := a_r1_2
    have aa_15 := a_r3_2
    have aa_16 := a_r5_2
    have aa_17 := a_r6_2
    have aa_18 := a_r7_2
    have aa_19 := a_r8_2
    have o_h0 := E_6.1 _ _ o_h0
    have o_b1 := E_6.1 _ _ o_b1
    refine lv_aload_n hx hb dX9_makeRoom_69 rfl (lv_at hl 0 rfl) ?_
    obtain ⟨fs9, hk_20, hq_20⟩ := ((gF.a (F' := [(7, 0), (7, 1), (7, 3), (7, 5), (7, 6), (7, 7), (7, 8), (8, 0), (8, 2), (8, 3), (8, 4), (8, 5)]) Fr_7 (fun _ h => h))) _ _ _ hk_1
    obtain ⟨r0_20, r1_20, n1_20, r2_20, n2_20, r3_20, n3_20, r4_20, n4_20, r5_20, n5_20, rfl, o_r0_20, a_r1_20, f2_20, a_r2_20, f4_20, a_r3_20, f6_20, a_r4_20, f8_20, a_r5_20, f10_20, f11_20, -⟩ := (hG.1 _ _ _ _ hk_20).hX9 rfl
    have kq_21 := jf_69_a _ _ _ hk_20 _ _ rfl a_r2_20
    have kq_22 := jf_69_b _ _ _ hk_20 _ _ rfl a_r3_20
    have kq_23 := jf_69_d _ _ _ hk_20 _ _ rfl a_r4_20
    have kq_24 := jf_69_f _ _ _ hk_20 _ _ rfl a_r5_20
    refine va_get (D := gD g) (ci := 8) (v := .ref r0_20) (C := RX9) (T := TX9) (N := 6) hx hb hts inX9 hown hK hP k_1 hk_20 rfl 0 (by decide) (hts _ kw_1552) (fun _ h9 => h9) rfl dX9_makeRoom_70 ?_
    refine lv_aload_n hx hb dX9_makeRoom_73 rfl (lv_at hl 1 rfl) ?_
    obtain ⟨k_25, fs9, hk_25⟩ := gC_of o_b1
    obtain ⟨r0_25, n0_25, r1_25, n1_25, c2_25, r3_25, n3_25, c4_25, r5_25, n5_25, r6_25, n6_25, r7_25, n7_25, r8_25, n8_25, c9_25, c10_25, c11_25, v12_25, v13_25, v14_25, rfl, a_r0_25, f1_25, a_r1_25, f3_25, a_r3_25, f5_25, a_r5_25, f7_25, a_r6_25, f9_25, a_r7_25, f11_25, a_r8_25, f13_25, o_v12_25, o_v13_25, o_v14_25, f17_25, f18_25, f19_25, f20_25, f21_25, f22_25, f23_25, f24_25, f25_25, f26_25, f27_25, f28_25, f29_25, -⟩ := (hG.1 _ _ _ _ hk_25).hX8 rfl
    refine va_get (D := gD g) (ci := 7) (v := .int c11_25) (C := RX8) (T := TX8) (N := 15) hx hb hts inX8 hown hK hP k_25 hk_25 rfl 11 (by decide) (hts _ kw_1688) (fun _ h9 => h9) rfl dX9_makeRoom_74 ?_
    obtain ⟨k_26, fs9, hk_26⟩ := gC_of o_r0_20
    obtain ⟨r0_26, n0_26, r1_26, n1_26, c2_26, r3_26, n3_26, c4_26, r5_26, n5_26, r6_26, n6_26, r7_26, n7_26, r8_26, n8_26, c9_26, c10_26, c11_26, v12_26, v13_26, v14_26, rfl, a_r0_26, f1_26, a_r1_26, f3_26, a_r3_26, f5_26, a_r5_26, f7_26, a_r6_26, f9_26, a_r7_26, f11_26, a_r8_26, f13_26, o_v12_26, o_v13_26, o_v14_26, f17_26, f18_26, f19_26, f20_26, f21_26, f22_26, f23_26, f24_26, f25_26, f26_26, f27_26, f28_26, f29_26, -⟩ := (hG.1 _ _ _ _ hk_26).hX8 rfl
    have hV9 : okv ws_5 7 11 (.int c11_25) := okv_i
    refine va_put (D := gD g) (ci := 7) (v := .int c11_25) (ty := .int) (C := RX8) (T := TX8) (N := 15) hx hb hts inX8 tyX8 tyX8_ok nmX8 hown hK hP hD hS k_26 hk_26 rfl 11 (by decide) (hts _ kw_1688) (fun _ h9 => h9) rfl (by decide +kernel) rfl rfl (Nat.le_of_ble_eq_true rfl) dX9_makeRoom_77 (fun H locs hP hD hS => ?_)
    have hi_27 : invX8 g ws_5 r0_20 [.ref r0_26, .ref r1_26, .int c2_26, .ref r3_26, .int c4_26, .ref r5_26, .ref r6_26, .ref r7_26, .ref r8_26, .int c9_26, .int c10_26, .int c11_25, va_rf v12_26, va_rf v13_26, va_rf v14_26] := ⟨r0_26, (n0_26), r1_26, (n1_26), (c2_26), r3_26, (n3_26), (c4_26), r5_26, (n5_26), r6_26, (n6_26), r7_26, (n7_26), r8_26, (n8_26), (c9_26), (c10_26), (c11_25), v12_26, v13_26, v14_26, rfl, a_r0_26, f1_26, a_r1_26, f3_26, a_r3_26, f5_26, a_r5_26, f7_26, a_r6_26, f9_26, a_r7_26, f11_26, a_r8_26, f13_26, o_v12_26, o_v13_26, o_v14_26, f17_26, f18_26, f19_26, f20_26, f21_26, f22_26, f23_26, f24_26, f25_26, f26_26, f27_26, f28_26, f29_26, trivial⟩
    obtain ⟨ws_28, e_ws_28⟩ : ∃ z, z = ws_5.set k_26 (r0_20, .inr (7, [.ref r0_26, .ref r1_26, .int c2_26, .ref r3_26, .int c4_26, .ref r5_26, .ref r6_26, .ref r7_26, .ref r8_26, .int c9_26, .int c10_26, .int c11_25, va_rf v12_26, va_rf v13_26, va_rf v14_26])) := ⟨_, rfl⟩
    have hP : va_P (gD g) cl0 ws_28 H := by rw [e_ws_28]; exact hP
    have hD : va_D A ws_28 := by rw [e_ws_28]; exact hD
    have E_29 : gE ws_5 ws_28 := gE_set e_ws_28 hk_26 (cw_o (fi := 11) (v := .int c11_25) rfl (by decide))
    have hG : Good g ws_28 := Good_set (fi := 11) (v := .int c11_25) e_ws_28 hk_26 E_29 rfl hV9 hG (ivX8 hi_27)
    have Fr_30 : gF [(7, 11)] [] (some r0_20) ws_5 ws_28 := gF_put (fi := 11) (v := .int c11_25) e_ws_28 hk_26 rfl (by decide)
    have pp_31 := Fr_30.pp
    have hkN := gset_self e_ws_28 hk_26
    have hk_20 := gset_ob e_ws_28 hk_26 hk_20 (by decide)
    have aa_32 := a_r0_25
    have aa_33 := a_r1_25
    have aa_34 := a_r3_25
    have aa_35 := a_r5_25
    have aa_36 := a_r6_25
    have aa_37 := a_r7_25
    have aa_38 := a_r8_25
    have hk_26 := hkN
    have o_h0 := E_29.1 _ _ o_h0
    have o_b1 := E_29.1 _ _ o_b1
    have o_r0_20 := E_29.1 _ _ o_r0_20
    have a_r1_20 := E_29.1 _ _ a_r1_20
    have a_r2_20 := E_29.1 _ _ a_r2_20
    have a_r3_20 := E_29.1 _ _ a_r3_20
    have a_r4_20 := E_29.1 _ _ a_r4_20
    have a_r5_20 := E_29.1 _ _ a_r5_20
    have a_r0_26 := E_29.1 _ _ a_r0_26
    have a_r1_26 := E_29.1 _ _ a_r1_26
    have a_r3_26 := E_29.1 _ _ a_r3_26
    have a_r5_26 := E_29.1 _ _ a_r5_26
    have a_r6_26 := E_29.1 _ _ a_r6_26
    have a_r7_26 := E_29.1 _ _ a_r7_26
    have a_r8_26 := E_29.1 _ _ a_r8_26
    have o_v12_26 : ∀ b, v12_26 = some b → ∃ n, gI ws_28 b g.cB n ∧ n < 2147483648 := fun b h => (o_v12_26 b h).imp (fun n h => ⟨E_29.1 _ _ h.1, h.2⟩)
    have o_v13_26 : ∀ b, v13_26 = some b → ∃ n, gJ ws_28 b g.cL n ∧ n < 2147483648 := fun b h => (o_v13_26 b h).imp (fun n h => ⟨E_29.1 _ _ h.1, h.2⟩)
    have o_v14_26 : ∀ b, v14_26 = some b → ∃ n, gJ ws_28 b g.cL n ∧ n < 2147483648 := fun b h => (o_v14_26 b h).imp (fun n h => ⟨E_29.1 _ _ h.1, h.2⟩)
    refine W_led (fun hLd => ?_)
    have hcl : dc_69_1 + PC ws_28 ≤ PC ws + (12) := (by omega)
    have hsl : ds_69_1 + PS ws_28 ≤ PS ws + (9059) := (by omega)
    refine W.widen (k := PC ws + (12)) (n := PS ws + (9059)) (by omega) (by omega) ?_
    exact W.vret hx hb hr (fun t9 ht9 hW9 => ⟨⟨ws_28, rfl, ⟨(gP_of hD hk_20 (fun p90 q90 e90 g90 => by cases e90; have z90 := gI_n hD a_r2_20 g90; subst z90; exact (by have q_f4_20 := f4_20; have q_kq_21 := kq_21; omega))), (gP_of hD hk_20 (fun p90 q90 e90 g90 => by cases e90; have z90 := gI_n hD a_r3_20 g90; subst z90; exact (by have q_f6_20 := f6_20; have q_kq_22 := kq_22; omega))), (gP_of hD hk_20 (fun p90 q90 e90 g90 => by cases e90; have z90 := gI_n hD a_r4_20 g90; subst z90; exact (by have q_f8_20 := f8_20; have q_kq_23 := kq_23; omega))), (gP_of hD hk_20 (fun p90 q90 e90 g90 => by cases e90; have z90 := gI_n hD a_r5_20 g90; subst z90; exact (by have q_f10_20 := f10_20; have q_kq_24 := kq_24; omega)))⟩, ⟨(E_6.tr E_29), (gF.tr (gF.mo (F' := [(7, 0), (7, 1), (7, 3), (7, 5), (7, 6), (7, 7), (7, 8), (7, 11), (8, 0), (8, 2), (8, 3), (8, 4), (8, 5)]) (C' := []) (S' := none) Fr_7 (by decide) (fun _ h => h) (Or.inr rfl)) (gF.mo (F' := [(7, 0), (7, 1), (7, 3), (7, 5), (7, 6), (7, 7), (7, 8), (7, 11), (8, 0), (8, 2), (8, 3), (8, 4), (8, 5)]) (C' := []) (S' := none) Fr_30 (by decide) (fun _ h => h) (Or.inl rfl))), hG, by rw [ht9]; exact hP, hD, _, _, by rw [ht9]; exact hLd, hcl, hsl⟩⟩, hS.F ht9⟩) hS.2.2 dX9_makeRoom_80
  refine lv_icmp_ge (tgt := 69) hx hb dX9_makeRoom_11 (by decide) (fun c_39 => ?_) (fun c_39 => ?_)
  · exact J_69 (0) (0) ws _ _ ls (gE.rf) (gF.rf) hG (by have e0 : (0 : Int32).toInt = 0 := (by decide); omega) (by have e0 : (0 : Int32).toInt = 0 := (by decide); omega) (gP_of hD hk_1 (fun p90 q90 e90 g90 => by cases e90; have z90 := gI_n hD a_r2_1 g90; subst z90; exact (by have e1296 : (1296 : Int32).toInt = 1296 := (by decide); have q_f4_1 := f4_1; have q_fq2_r := fq2_r; have q_f6_1 := f6_1; have q_f8_1 := f8_1; have q_f10_1 := f10_1; have q_f1_2 := f1_2; have q_f17_2 := f17_2; have q_f18_2 := f18_2; have q_f20_2 := f20_2; have q_z_4 := i_len ez_4 f1_2; have q_f3_2 := f3_2; have q_f19_2 := f19_2; have q_c_39 := i_le c_39; have g_c2_2 := i_rg c2_2; have g_z_4 := i_rg z_4; omega))) (gP_of hD hk_1 (fun p90 q90 e90 g90 => by cases e90; have z90 := gI_n hD a_r3_1 g90; subst z90; exact (by have e1296 : (1296 : Int32).toInt = 1296 := (by decide); have q_f6_1 := f6_1; have q_fq2_r := fq2_r; have q_f4_1 := f4_1; have q_f8_1 := f8_1; have q_f10_1 := f10_1; have q_f1_2 := f1_2; have q_f17_2 := f17_2; have q_f18_2 := f18_2; have q_f20_2 := f20_2; have q_z_4 := i_len ez_4 f1_2; have q_f3_2 := f3_2; have q_f19_2 := f19_2; have q_c_39 := i_le c_39; have g_c2_2 := i_rg c2_2; have g_z_4 := i_rg z_4; omega))) (gP_of hD hk_1 (fun p90 q90 e90 g90 => by cases e90; have z90 := gI_n hD a_r4_1 g90; subst z90; exact (by have e1296 : (1296 : Int32).toInt = 1296 := (by decide); have q_f8_1 := f8_1; have q_fq2_r := fq2_r; have q_f4_1 := f4_1; have q_f6_1 := f6_1; have q_f10_1 := f10_1; have q_f1_2 := f1_2; have q_f17_2 := f17_2; have q_f18_2 := f18_2; have q_f20_2 := f20_2; have q_z_4 := i_len ez_4 f1_2; have q_f3_2 := f3_2; have q_f19_2 := f19_2; have q_c_39 := i_le c_39; have g_c2_2 := i_rg c2_2; have g_z_4 := i_rg z_4; omega))) (gP_of hD hk_1 (fun p90 q90 e90 g90 => by cases e90; have z90 := gI_n hD a_r5_1 g90; subst z90; exact (by have e1296 : (1296 : Int32).toInt = 1296 := (by decide); have q_f10_1 := f10_1; have q_fq2_r := fq2_r; have q_f4_1 := f4_1; have q_f6_1 := f6_1; have q_f8_1 := f8_1; have q_f1_2 := f1_2; have q_f17_2 := f17_2; have q_f18_2 := f18_2; have q_f20_2 := f20_2; have q_z_4 := i_len ez_4 f1_2; have q_f3_2 := f3_2; have q_f19_2 := f19_2; have q_c_39 := i_le c_39; have g_c2_2 := i_rg c2_2; have g_z_4 := i_rg z_4; omega))) hP hD hS (lv_sub hl [0, 1] rfl)
  · refine lv_aload_n hx hb dX9_makeRoom_14 rfl (lv_at hl 0 rfl) ?_
    refine va_new (ci := 7) (fs := dfX8) (C := RX8) (T := TX8) (N := 15) hx hb hts inX8 tyX8 tyX8_ok hown (hts _ kw_1590) (hts _ kw_781) (hts _ kw_782) hK hP hD hS hA rfl dfX8_ok (show 0 + 1 ≤ PC ws + (12) from (by have e0 : (0 : Int32).toInt = 0 := (by decide); omega)) (show 0 + 15 ≤ PS ws + (9059) from (by have e0 : (0 : Int32).toInt = 0 := (by decide); omega)) dX9_makeRoom_15 (fun q_40 H hP9 hD9 hS => ?_)
    have hP := (P_split hP9).1
    have hD := (D_split hD9).1
    have hN : pend A g ws q_40 7 dfX8 H := ⟨(P_split hP9).2, (D_split hD9).2⟩
    clear hP9 hD9
    refine lv_dup hx hb dX9_makeRoom_18 rfl ?_
    refine lv_sipush (v := 1296) hx hb dX9_makeRoom_19 (by decide) ?_
    refine lv_sipush (v := 1200) hx hb dX9_makeRoom_22 (by decide) ?_
    refine lv_bipush (v := 16) hx hb dX9_makeRoom_25 (by decide) ?_
    have hP := va_P.app hP hN.1
    have hD0 := hD
    have hD := D_join (x := (q_40, .inr (7, dfX8))) hD hN.2.1 hN.2.2
    have hFc := gfree hD hS hA
    refine W_led (fun hL0 => ?_)
    refine va_callv (va_runI (As := [.int 1296, .int 1200, .int 16]) (rest := [.ref q_40, .ref h0]) ⟨hx, hb, hml, hown, hts⟩ (m_X8_init l g H (ws ++ [(q_40, .inr (7, dfX8))]) ws.length q_40 (1296) (1200) (16) (hG.newX (by simp [dfX8]) rfl) get_new (by have e1296 : (1296 : Int32).toInt = 1296 := (by decide); omega) (by have e1200 : (1200 : Int32).toInt = 1200 := (by decide); omega) (by have e16 : (16 : Int32).toInt = 16 := (by decide); omega)) (cwI 3 hts (gd_I kw_1496) rfl rfl rfl (hts _ kw_782) (hts _ kw_1591) (hts _ kw_1497) rfl (by decide +kernel) ⟨Nat.le_of_ble_eq_true rfl, Nat.le_of_ble_eq_true rfl⟩) ⟨gblindH, fun U hU hW9 => gmkH hU hW9 hP hK hD hex hE hS hFc⟩ rfl rfl hl.1 rfl (lv_room (Nat.le_of_ble_eq_true rfl)) dX9_makeRoom_27 ⟨(show 0 + 1 + (7) ≤ PC ws + (12) from (by have e7 : (7 : Int32).toInt = 7 := (by decide); have e16 : (16 : Int32).toInt = 16 := (by decide); have e1200 : (1200 : Int32).toInt = 1200 := (by decide); have e1296 : (1296 : Int32).toInt = 1296 := (by decide); omega)), (show 0 + 15 + (2 * (1296 : Int32).toInt.toNat + (1200 : Int32).toInt.toNat + 4 * (16 : Int32).toInt.toNat) ≤ PS ws + (9059) from (by have e7 : (7 : Int32).toInt = 7 := (by decide); have e16 : (16 : Int32).toInt = 16 := (by decide); have e1200 : (1200 : Int32).toInt = 1200 := (by decide); have e1296 : (1296 : Int32).toInt = 1296 := (by decide); omega))⟩) hS (fun q _ h => hFc q h) hFc (fun  ws_41 t9 H1 locs ht9 hvm9 hw9 hB9 hz9 hk9 hS => ?_)
    obtain ⟨E9, gx9, pm9, hG, hP1, hD1, dc_44, ds_45, hLd, hdc_44, hds_45⟩ := hB9
    have px9 : pM ws (ws ++ [(q_40, .inr (7, dfX8))]) := pM_ob (by intro j h; simp [pK] at h)
    have E_42 : gE ws ws_41 := gE_push.tr E9
    have Fr_43 : gF [] [] none ws ws_41 := gF_new gx9 pm9 px9
    have pq9 := px9.pp
    have hdc_44 : dc_44 + PC ws_41 ≤ PC ws + (7) := by omega
    have hds_45 : ds_45 + PS ws_41 ≤ PS ws + (2 * (1296 : Int32).toInt.toNat + (1200 : Int32).toInt.toNat + 4 * (16 : Int32).toInt.toNat) := by omega
    rw [ht9] at hLd
    refine W_tight (hL0.tr hLd).1 (hL0.tr hLd).2.1 ?_
    clear hL0 hLd pq9
    have hP : va_P (gD g) cl0 ws_41 H1 := by rw [← ht9]; exact hP1
    have hD : va_D A ws_41 := hD1.weaken (fun _ _ _ h => hFc _ h)
    have o_q_40 : gC ws_41 q_40 7 := E9.1 _ _ gS_new
    obtain ⟨kf_46, kf_47, kf_48, kf_49, kf_50⟩ := id hw9
    clear hP1 hD1 hD0 hN E9 gx9 pm9 px9 hz9 hk9 hvm9 ht9 hw9
    generalize H1 = H at hP hS ⊢
    have aa_51 := a_r1_1
    have aa_52 := a_r2_1
    have aa_53 := a_r3_1
    have aa_54 := a_r4_1
    have aa_55 := a_r5_1
    have aa_56 := a_r0_2
    have aa_57 := a_r1_2
    have aa_58 := a_r3_2
    have aa_59 := a_r5_2
    have aa_60 := a_r6_2
    have aa_61 := a_r7_2
    have aa_62 := a_r8_2
    have o_h0 := E_42.1 _ _ o_h0
    have o_b1 := E_42.1 _ _ o_b1
    obtain ⟨fs9, hk_63, hq_63⟩ := ((gF.a (F' := []) Fr_43 (fun _ h => h))) _ _ _ hk_1
    obtain ⟨r0_63, r1_63, n1_63, r2_63, n2_63, r3_63, n3_63, r4_63, n4_63, r5_63, n5_63, rfl, o_r0_63, a_r1_63, f2_63, a_r2_63, f4_63, a_r3_63, f6_63, a_r4_63, f8_63, a_r5_63, f10_63, f11_63, -⟩ := (hG.1 _ _ _ _ hk_63).hX9 rfl
    obtain rfl := fe_r (hq_63 0 (by decide))
    have o_r0_1 := o_r0_63
    obtain rfl := fe_r (hq_63 2 (by decide))
    have hn9 := gI_n hD ((E_42).1 _ _ aa_52) a_r2_63
    subst hn9
    have a_r2_1 := a_r2_63
    obtain rfl := fe_r (hq_63 3 (by decide))
    have hn9 := gI_n hD ((E_42).1 _ _ aa_53) a_r3_63
    subst hn9
    have a_r3_1 := a_r3_63
    obtain rfl := fe_r (hq_63 4 (by decide))
    have hn9 := gI_n hD ((E_42).1 _ _ aa_54) a_r4_63
    subst hn9
    have a_r4_1 := a_r4_63
    obtain rfl := fe_r (hq_63 5 (by decide))
    have hn9 := gI_n hD ((E_42).1 _ _ aa_55) a_r5_63
    subst hn9
    have a_r5_1 := a_r5_63
    have hV9 : okv ws_41 8 0 (.ref q_40) := (okv_o hD o_q_40)
    refine va_put (D := gD g) (ci := 8) (v := .ref q_40) (ty := (.object "CodeFoundry$Row")) (C := RX9) (T := TX9) (N := 6) hx hb hts inX9 tyX9 tyX9_ok nmX9 hown hK hP hD hS k_1 hk_63 rfl 0 (by decide) (hts _ kw_1552) (fun _ h9 => h9) rfl (by decide +kernel) rfl rfl (Nat.le_of_ble_eq_true rfl) dX9_makeRoom_30 (fun H locs hP hD hS => ?_)
    have hi_64 : invX9 g ws_41 h0 [.ref q_40, .ref r1_63, .ref r2_1, .ref r3_1, .ref r4_1, .ref r5_1] := ⟨q_40, r1_63, (n1_63), r2_1, (n2_1), r3_1, (n3_1), r4_1, (n4_1), r5_1, (n5_1), rfl, o_q_40, a_r1_63, f2_63, a_r2_1, f4_63, a_r3_1, f6_63, a_r4_1, f8_63, a_r5_1, f10_63, f11_63, trivial⟩
    obtain ⟨ws_65, e_ws_65⟩ : ∃ z, z = ws_41.set k_1 (h0, .inr (8, [.ref q_40, .ref r1_63, .ref r2_1, .ref r3_1, .ref r4_1, .ref r5_1])) := ⟨_, rfl⟩
    have hP : va_P (gD g) cl0 ws_65 H := by rw [e_ws_65]; exact hP
    have hD : va_D A ws_65 := by rw [e_ws_65]; exact hD
    have E_66 : gE ws_41 ws_65 := gE_set e_ws_65 hk_63 (cw_o (fi := 0) (v := .ref q_40) rfl (by decide))
    have hG : Good g ws_65 := Good_set (fi := 0) (v := .ref q_40) e_ws_65 hk_63 E_66 rfl hV9 hG (ivX9 hi_64)
    have Fr_67 : gF [(8, 0)] [] (some h0) ws_41 ws_65 := gF_put (fi := 0) (v := .ref q_40) e_ws_65 hk_63 rfl (by decide)
    have pp_68 := Fr_67.pp
    have hkN := gset_self e_ws_65 hk_63
    have hk_63 := hkN
    have o_h0 := E_66.1 _ _ o_h0
    have o_b1 := E_66.1 _ _ o_b1
    have o_q_40 := E_66.1 _ _ o_q_40
    have a_r1_63 := E_66.1 _ _ a_r1_63
    have a_r2_1 := E_66.1 _ _ a_r2_1
    have a_r3_1 := E_66.1 _ _ a_r3_1
    have a_r4_1 := E_66.1 _ _ a_r4_1
    have a_r5_1 := E_66.1 _ _ a_r5_1
    refine lv_aload_n hx hb dX9_makeRoom_33 rfl (lv_at hl 0 rfl) ?_
    refine lv_sipush (v := 1297) hx hb dX9_makeRoom_34 (by decide) ?_
    obtain ⟨n_70, en_70⟩ : ∃ y : Nat, (1297 : Int32).toNatClampNeg = y := ⟨_, rfl⟩
    have bn_70 : n_70 ≤ 1297 := i_cl en_70 (by have e1297 : (1297 : Int32).toInt = 1297 := (by decide); omega)
    have zn_70 : 0 ≤ (1297 : Int32).toInt := (by have e1297 : (1297 : Int32).toInt = 1297 := (by decide); omega)
    have q_n_70 := i_nn en_70 zn_70
    refine va_newa (atype := .boolean) (ty := .boolean) (a0 := (n_70, .inl (fun _ => 0))) (N' := n_70) hx hb (hts (.arrayClass .boolean) kw_553) rfl hK hP hD hS hA (fun _ => rfl) (i_nl0 zn_70) en_70 (i_by bn_70 (by decide)) (show 0 + 1 + dc_44 + 1 ≤ PC ws + (12) from (by have e16 : (16 : Int32).toInt = 16 := (by decide); have e1200 : (1200 : Int32).toInt = 1200 := (by decide); have e1296 : (1296 : Int32).toInt = 1296 := (by decide); have e1297 : (1297 : Int32).toInt = 1297 := (by decide); omega)) (show 0 + 15 + ds_45 + n_70 ≤ PS ws + (9059) from (by have e16 : (16 : Int32).toInt = 16 := (by decide); have e1200 : (1200 : Int32).toInt = 1200 := (by decide); have e1296 : (1296 : Int32).toInt = 1296 := (by decide); have e1297 : (1297 : Int32).toInt = 1297 := (by decide); omega)) dX9_makeRoom_37 (fun q_69 cA9 H hK9 hP hD hS => ?_)
    obtain rfl := cls_new hK hK9 (k := 2) rfl (fun _ h => by cases h)
    clear hK9
    have hD9 := hD
    obtain ⟨ws_71, e_ws_71⟩ : ∃ z, z = ws_65 ++ [(q_69, .inl (g.cZ, n_70, .inl (fun _ => 0)))] := ⟨_, rfl⟩
    have hP : va_P (gD g) cl0 ws_71 H := by rw [e_ws_71]; exact hP
    have hD : va_D A ws_71 := by rw [e_ws_71]; exact hD
    have E_72 : gE ws_65 ws_71 := by rw [e_ws_71]; exact gE_push
    have Fr_73 : gF [] [] none ws_65 ws_71 := by rw [e_ws_71]; exact gF_push
    have fr_q_69 : frs ws_71 q_69 := by rw [e_ws_71]; exact frs_new hD9 hG.u
    have hG : Good g ws_71 := by rw [e_ws_71]; exact Good_pushI hD9 hG
    have a_q_69 : gI ws_71 q_69 g.cZ n_70 := by rw [e_ws_71]; exact gS_new
    have s_q_69 : n_70 < 2147483648 := Nat.lt_of_le_of_lt bn_70 (by decide)
    have pp_74 := Fr_73.pp
    have hk_63 := get_oldE e_ws_71 hk_63
    have o_h0 := E_72.1 _ _ o_h0
    have o_b1 := E_72.1 _ _ o_b1
    have o_q_40 := E_72.1 _ _ o_q_40
    have a_r1_63 := E_72.1 _ _ a_r1_63
    have a_r2_1 := E_72.1 _ _ a_r2_1
    have a_r3_1 := E_72.1 _ _ a_r3_1
    have a_r4_1 := E_72.1 _ _ a_r4_1
    have a_r5_1 := E_72.1 _ _ a_r5_1
    have hV9 : okv ws_71 8 2 (.ref q_69) := (okv_a a_q_69 fr_q_69)
    refine va_put (D := gD g) (ci := 8) (v := .ref q_69) (ty := (.array .boolean)) (C := RX9) (T := TX9) (N := 6) hx hb hts inX9 tyX9 tyX9_ok nmX9 hown hK hP hD hS k_1 hk_63 rfl 2 (by decide) (hts _ kw_1566) (fun _ h9 => h9) rfl (by decide +kernel) rfl rfl (Nat.le_of_ble_eq_true rfl) dX9_makeRoom_39 (fun H locs hP hD hS => ?_)
    have hi_75 : invX9 g ws_71 h0 [.ref q_40, .ref r1_63, .ref q_69, .ref r3_1, .ref r4_1, .ref r5_1] := ⟨q_40, r1_63, (n1_63), q_69, (n_70), r3_1, (n3_1), r4_1, (n4_1), r5_1, (n5_1), rfl, o_q_40, a_r1_63, f2_63, a_q_69, s_q_69, a_r3_1, f6_63, a_r4_1, f8_63, a_r5_1, f10_63, f11_63, trivial⟩
    obtain ⟨ws_76, e_ws_76⟩ : ∃ z, z = ws_71.set k_1 (h0, .inr (8, [.ref q_40, .ref r1_63, .ref q_69, .ref r3_1, .ref r4_1, .ref r5_1])) := ⟨_, rfl⟩
    have hP : va_P (gD g) cl0 ws_76 H := by rw [e_ws_76]; exact hP
    have hD : va_D A ws_76 := by rw [e_ws_76]; exact hD
    have E_77 : gE ws_71 ws_76 := gE_set e_ws_76 hk_63 (cw_o (fi := 2) (v := .ref q_69) rfl (by decide))
    have hG : Good g ws_76 := Good_set (fi := 2) (v := .ref q_69) e_ws_76 hk_63 E_77 rfl hV9 hG (ivX9 hi_75)
    have Fr_78 : gF [(8, 2)] [] (some h0) ws_71 ws_76 := gF_put (fi := 2) (v := .ref q_69) e_ws_76 hk_63 rfl (by decide)
    have pp_79 := Fr_78.pp
    have hkN := gset_self e_ws_76 hk_63
    have hk_63 := hkN
    have o_h0 := E_77.1 _ _ o_h0
    have o_b1 := E_77.1 _ _ o_b1
    have o_q_40 := E_77.1 _ _ o_q_40
    have a_r1_63 := E_77.1 _ _ a_r1_63
    have a_r3_1 := E_77.1 _ _ a_r3_1
    have a_r4_1 := E_77.1 _ _ a_r4_1
    have a_r5_1 := E_77.1 _ _ a_r5_1
    have a_q_69 := E_77.1 _ _ a_q_69
    refine lv_aload_n hx hb dX9_makeRoom_42 rfl (lv_at hl 0 rfl) ?_
    refine lv_sipush (v := 1297) hx hb dX9_makeRoom_43 (by decide) ?_
    obtain ⟨n_81, en_81⟩ : ∃ y : Nat, (1297 : Int32).toNatClampNeg = y := ⟨_, rfl⟩
    have bn_81 : n_81 ≤ 1297 := i_cl en_81 (by have e1297 : (1297 : Int32).toInt = 1297 := (by decide); omega)
    have zn_81 : 0 ≤ (1297 : Int32).toInt := (by have e1297 : (1297 : Int32).toInt = 1297 := (by decide); omega)
    have q_n_81 := i_nn en_81 zn_81
    refine va_newa (atype := .boolean) (ty := .boolean) (a0 := (n_81, .inl (fun _ => 0))) (N' := n_81) hx hb (hts (.arrayClass .boolean) kw_553) rfl hK hP hD hS hA (fun _ => rfl) (i_nl0 zn_81) en_81 (i_by bn_81 (by decide)) (show 0 + 1 + dc_44 + 1 + 1 ≤ PC ws + (12) from (by have e16 : (16 : Int32).toInt = 16 := (by decide); have e1200 : (1200 : Int32).toInt = 1200 := (by decide); have e1296 : (1296 : Int32).toInt = 1296 := (by decide); have e1297 : (1297 : Int32).toInt = 1297 := (by decide); have q_n_70 := i_nn en_70 zn_70; have q2_n_70 := bn_70; omega)) (show 0 + 15 + ds_45 + n_70 + n_81 ≤ PS ws + (9059) from (by have e16 : (16 : Int32).toInt = 16 := (by decide); have e1200 : (1200 : Int32).toInt = 1200 := (by decide); have e1296 : (1296 : Int32).toInt = 1296 := (by decide); have e1297 : (1297 : Int32).toInt = 1297 := (by decide); have q_n_70 := i_nn en_70 zn_70; have q2_n_70 := bn_70; omega)) dX9_makeRoom_46 (fun q_80 cA9 H hK9 hP hD hS => ?_)
    obtain rfl := cls_new hK hK9 (k := 2) rfl (fun _ h => by cases h)
    clear hK9
    have hD9 := hD
    obtain ⟨ws_82, e_ws_82⟩ : ∃ z, z = ws_76 ++ [(q_80, .inl (g.cZ, n_81, .inl (fun _ => 0)))] := ⟨_, rfl⟩
    have hP : va_P (gD g) cl0 ws_82 H := by rw [e_ws_82]; exact hP
    have hD : va_D A ws_82 := by rw [e_ws_82]; exact hD
    have E_83 : gE ws_76 ws_82 := by rw [e_ws_82]; exact gE_push
    have Fr_84 : gF [] [] none ws_76 ws_82 := by rw [e_ws_82]; exact gF_push
    have fr_q_80 : frs ws_82 q_80 := by rw [e_ws_82]; exact frs_new hD9 hG.u
    have hG : Good g ws_82 := by rw [e_ws_82]; exact Good_pushI hD9 hG
    have a_q_80 : gI ws_82 q_80 g.cZ n_81 := by rw [e_ws_82]; exact gS_new
    have s_q_80 : n_81 < 2147483648 := Nat.lt_of_le_of_lt bn_81 (by decide)
    have pp_85 := Fr_84.pp
    have hk_63 := get_oldE e_ws_82 hk_63
    have o_h0 := E_83.1 _ _ o_h0
    have o_b1 := E_83.1 _ _ o_b1
    have o_q_40 := E_83.1 _ _ o_q_40
    have a_r1_63 := E_83.1 _ _ a_r1_63
    have a_r3_1 := E_83.1 _ _ a_r3_1
    have a_r4_1 := E_83.1 _ _ a_r4_1
    have a_r5_1 := E_83.1 _ _ a_r5_1
    have a_q_69 := E_83.1 _ _ a_q_69
    have hV9 : okv ws_82 8 3 (.ref q_80) := (okv_a a_q_80 fr_q_80)
    refine va_put (D := gD g) (ci := 8) (v := .ref q_80) (ty := (.array .boolean)) (C := RX9) (T := TX9) (N := 6) hx hb hts inX9 tyX9 tyX9_ok nmX9 hown hK hP hD hS k_1 hk_63 rfl 3 (by decide) (hts _ kw_1554) (fun _ h9 => h9) rfl (by decide +kernel) rfl rfl (Nat.le_of_ble_eq_true rfl) dX9_makeRoom_48 (fun H locs hP hD hS => ?_)
    have hi_86 : invX9 g ws_82 h0 [.ref q_40, .ref r1_63, .ref q_69, .ref q_80, .ref r4_1, .ref r5_1] := ⟨q_40, r1_63, (n1_63), q_69, (n_70), q_80, (n_81), r4_1, (n4_1), r5_1, (n5_1), rfl, o_q_40, a_r1_63, f2_63, a_q_69, s_q_69, a_q_80, s_q_80, a_r4_1, f8_63, a_r5_1, f10_63, f11_63, trivial⟩
    obtain ⟨ws_87, e_ws_87⟩ : ∃ z, z = ws_82.set k_1 (h0, .inr (8, [.ref q_40, .ref r1_63, .ref q_69, .ref q_80, .ref r4_1, .ref r5_1])) := ⟨_, rfl⟩
    have hP : va_P (gD g) cl0 ws_87 H := by rw [e_ws_87]; exact hP
    have hD : va_D A ws_87 := by rw [e_ws_87]; exact hD
    have E_88 : gE ws_82 ws_87 := gE_set e_ws_87 hk_63 (cw_o (fi := 3) (v := .ref q_80) rfl (by decide))
    have hG : Good g ws_87 := Good_set (fi := 3) (v := .ref q_80) e_ws_87 hk_63 E_88 rfl hV9 hG (ivX9 hi_86)
    have Fr_89 : gF [(8, 3)] [] (some h0) ws_82 ws_87 := gF_put (fi := 3) (v := .ref q_80) e_ws_87 hk_63 rfl (by decide)
    have pp_90 := Fr_89.pp
    have hkN := gset_self e_ws_87 hk_63
    have hk_63 := hkN
    have o_h0 := E_88.1 _ _ o_h0
    have o_b1 := E_88.1 _ _ o_b1
    have o_q_40 := E_88.1 _ _ o_q_40
    have a_r1_63 := E_88.1 _ _ a_r1_63
    have a_r4_1 := E_88.1 _ _ a_r4_1
    have a_r5_1 := E_88.1 _ _ a_r5_1
    have a_q_69 := E_88.1 _ _ a_q_69
    have a_q_80 := E_88.1 _ _ a_q_80
    refine lv_aload_n hx hb dX9_makeRoom_51 rfl (lv_at hl 0 rfl) ?_
    refine lv_sipush (v := 1297) hx hb dX9_makeRoom_52 (by decide) ?_
    obtain ⟨n_92, en_92⟩ : ∃ y : Nat, (1297 : Int32).toNatClampNeg = y := ⟨_, rfl⟩
    have bn_92 : n_92 ≤ 1297 := i_cl en_92 (by have e1297 : (1297 : Int32).toInt = 1297 := (by decide); omega)
    have zn_92 : 0 ≤ (1297 : Int32).toInt := (by have e1297 : (1297 : Int32).toInt = 1297 := (by decide); omega)
    have q_n_92 := i_nn en_92 zn_92
    refine va_newa (atype := .int) (ty := .int) (a0 := (n_92, .inl (fun _ => 0))) (N' := n_92) hx hb (hts (.arrayClass .int) kw_51) rfl hK hP hD hS hA (fun _ => rfl) (i_nl0 zn_92) en_92 (i_by bn_92 (by decide)) (show 0 + 1 + dc_44 + 1 + 1 + 1 ≤ PC ws + (12) from (by have e16 : (16 : Int32).toInt = 16 := (by decide); have e1200 : (1200 : Int32).toInt = 1200 := (by decide); have e1296 : (1296 : Int32).toInt = 1296 := (by decide); have e1297 : (1297 : Int32).toInt = 1297 := (by decide); have q_n_70 := i_nn en_70 zn_70; have q2_n_70 := bn_70; have q_n_81 := i_nn en_81 zn_81; have q2_n_81 := bn_81; omega)) (show 0 + 15 + ds_45 + n_70 + n_81 + n_92 ≤ PS ws + (9059) from (by have e16 : (16 : Int32).toInt = 16 := (by decide); have e1200 : (1200 : Int32).toInt = 1200 := (by decide); have e1296 : (1296 : Int32).toInt = 1296 := (by decide); have e1297 : (1297 : Int32).toInt = 1297 := (by decide); have q_n_70 := i_nn en_70 zn_70; have q2_n_70 := bn_70; have q_n_81 := i_nn en_81 zn_81; have q2_n_81 := bn_81; omega)) dX9_makeRoom_55 (fun q_91 cA9 H hK9 hP hD hS => ?_)
    obtain rfl := cls_new hK hK9 (k := 1) rfl (fun _ h => by cases h)
    clear hK9
    have hD9 := hD
    obtain ⟨ws_93, e_ws_93⟩ : ∃ z, z = ws_87 ++ [(q_91, .inl (g.cI, n_92, .inl (fun _ => 0)))] := ⟨_, rfl⟩
    have hP : va_P (gD g) cl0 ws_93 H := by rw [e_ws_93]; exact hP
    have hD : va_D A ws_93 := by rw [e_ws_93]; exact hD
    have E_94 : gE ws_87 ws_93 := by rw [e_ws_93]; exact gE_push
    have Fr_95 : gF [] [] none ws_87 ws_93 := by rw [e_ws_93]; exact gF_push
    have fr_q_91 : frs ws_93 q_91 := by rw [e_ws_93]; exact frs_new hD9 hG.u
    have hG : Good g ws_93 := by rw [e_ws_93]; exact Good_pushI hD9 hG
    have a_q_91 : gI ws_93 q_91 g.cI n_92 := by rw [e_ws_93]; exact gS_new
    have s_q_91 : n_92 < 2147483648 := Nat.lt_of_le_of_lt bn_92 (by decide)
    have pp_96 := Fr_95.pp
    have hk_63 := get_oldE e_ws_93 hk_63
    have o_h0 := E_94.1 _ _ o_h0
    have o_b1 := E_94.1 _ _ o_b1
    have o_q_40 := E_94.1 _ _ o_q_40
    have a_r1_63 := E_94.1 _ _ a_r1_63
    have a_r4_1 := E_94.1 _ _ a_r4_1
    have a_r5_1 := E_94.1 _ _ a_r5_1
    have a_q_69 := E_94.1 _ _ a_q_69
    have a_q_80 := E_94.1 _ _ a_q_80
    have hV9 : okv ws_93 8 4 (.ref q_91) := (okv_a a_q_91 fr_q_91)
    refine va_put (D := gD g) (ci := 8) (v := .ref q_91) (ty := (.array .int)) (C := RX9) (T := TX9) (N := 6) hx hb hts inX9 tyX9 tyX9_ok nmX9 hown hK hP hD hS k_1 hk_63 rfl 4 (by decide) (hts _ kw_1559) (fun _ h9 => h9) rfl (by decide +kernel) rfl rfl (Nat.le_of_ble_eq_true rfl) dX9_makeRoom_57 (fun H locs hP hD hS => ?_)
    have hi_97 : invX9 g ws_93 h0 [.ref q_40, .ref r1_63, .ref q_69, .ref q_80, .ref q_91, .ref r5_1] := ⟨q_40, r1_63, (n1_63), q_69, (n_70), q_80, (n_81), q_91, (n_92), r5_1, (n5_1), rfl, o_q_40, a_r1_63, f2_63, a_q_69, s_q_69, a_q_80, s_q_80, a_q_91, s_q_91, a_r5_1, f10_63, f11_63, trivial⟩
    obtain ⟨ws_98, e_ws_98⟩ : ∃ z, z = ws_93.set k_1 (h0, .inr (8, [.ref q_40, .ref r1_63, .ref q_69, .ref q_80, .ref q_91, .ref r5_1])) := ⟨_, rfl⟩
    have hP : va_P (gD g) cl0 ws_98 H := by rw [e_ws_98]; exact hP
    have hD : va_D A ws_98 := by rw [e_ws_98]; exact hD
    have E_99 : gE ws_93 ws_98 := gE_set e_ws_98 hk_63 (cw_o (fi := 4) (v := .ref q_91) rfl (by decide))
    have hG : Good g ws_98 := Good_set (fi := 4) (v := .ref q_91) e_ws_98 hk_63 E_99 rfl hV9 hG (ivX9 hi_97)
    have Fr_100 : gF [(8, 4)] [] (some h0) ws_93 ws_98 := gF_put (fi := 4) (v := .ref q_91) e_ws_98 hk_63 rfl (by decide)
    have pp_101 := Fr_100.pp
    have hkN := gset_self e_ws_98 hk_63
    have hk_63 := hkN
    have o_h0 := E_99.1 _ _ o_h0
    have o_b1 := E_99.1 _ _ o_b1
    have o_q_40 := E_99.1 _ _ o_q_40
    have a_r1_63 := E_99.1 _ _ a_r1_63
    have a_r5_1 := E_99.1 _ _ a_r5_1
    have a_q_69 := E_99.1 _ _ a_q_69
    have a_q_80 := E_99.1 _ _ a_q_80
    have a_q_91 := E_99.1 _ _ a_q_91
    refine lv_aload_n hx hb dX9_makeRoom_60 rfl (lv_at hl 0 rfl) ?_
    refine lv_sipush (v := 1297) hx hb dX9_makeRoom_61 (by decide) ?_
    obtain ⟨n_103, en_103⟩ : ∃ y : Nat, (1297 : Int32).toNatClampNeg = y := ⟨_, rfl⟩
    have bn_103 : n_103 ≤ 1297 := i_cl en_103 (by have e1297 : (1297 : Int32).toInt = 1297 := (by decide); omega)
    have zn_103 : 0 ≤ (1297 : Int32).toInt := (by have e1297 : (1297 : Int32).toInt = 1297 := (by decide); omega)
    have q_n_103 := i_nn en_103 zn_103
    refine va_newa (atype := .int) (ty := .int) (a0 := (n_103, .inl (fun _ => 0))) (N' := n_103) hx hb (hts (.arrayClass .int) kw_51) rfl hK hP hD hS hA (fun _ => rfl) (i_nl0 zn_103) en_103 (i_by bn_103 (by decide)) (show 0 + 1 + dc_44 + 1 + 1 + 1 + 1 ≤ PC ws + (12) from (by have e16 : (16 : Int32).toInt = 16 := (by decide); have e1200 : (1200 : Int32).toInt = 1200 := (by decide); have e1296 : (1296 : Int32).toInt = 1296 := (by decide); have e1297 : (1297 : Int32).toInt = 1297 := (by decide); have q_n_70 := i_nn en_70 zn_70; have q2_n_70 := bn_70; have q_n_81 := i_nn en_81 zn_81; have q2_n_81 := bn_81; have q_n_92 := i_nn en_92 zn_92; have q2_n_92 := bn_92; omega)) (show 0 + 15 + ds_45 + n_70 + n_81 + n_92 + n_103 ≤ PS ws + (9059) from (by have e16 : (16 : Int32).toInt = 16 := (by decide); have e1200 : (1200 : Int32).toInt = 1200 := (by decide); have e1296 : (1296 : Int32).toInt = 1296 := (by decide); have e1297 : (1297 : Int32).toInt = 1297 := (by decide); have q_n_70 := i_nn en_70 zn_70; have q2_n_70 := bn_70; have q_n_81 := i_nn en_81 zn_81; have q2_n_81 := bn_81; have q_n_92 := i_nn en_92 zn_92; have q2_n_92 := bn_92; omega)) dX9_makeRoom_64 (fun q_102 cA9 H hK9 hP hD hS => ?_)
    obtain rfl := cls_new hK hK9 (k := 1) rfl (fun _ h => by cases h)
    clear hK9
    have hD9 := hD
    obtain ⟨ws_104, e_ws_104⟩ : ∃ z, z = ws_98 ++ [(q_102, .inl (g.cI, n_103, .inl (fun _ => 0)))] := ⟨_, rfl⟩
    have hP : va_P (gD g) cl0 ws_104 H := by rw [e_ws_104]; exact hP
    have hD : va_D A ws_104 := by rw [e_ws_104]; exact hD
    have E_105 : gE ws_98 ws_104 := by rw [e_ws_104]; exact gE_push
    have Fr_106 : gF [] [] none ws_98 ws_104 := by rw [e_ws_104]; exact gF_push
    have fr_q_102 : frs ws_104 q_102 := by rw [e_ws_104]; exact frs_new hD9 hG.u
    have hG : Good g ws_104 := by rw [e_ws_104]; exact Good_pushI hD9 hG
    have a_q_102 : gI ws_104 q_102 g.cI n_103 := by rw [e_ws_104]; exact gS_new
    have s_q_102 : n_103 < 2147483648 := Nat.lt_of_le_of_lt bn_103 (by decide)
    have pp_107 := Fr_106.pp
    have hk_63 := get_oldE e_ws_104 hk_63
    have o_h0 := E_105.1 _ _ o_h0
    have o_b1 := E_105.1 _ _ o_b1
    have o_q_40 := E_105.1 _ _ o_q_40
    have a_r1_63 := E_105.1 _ _ a_r1_63
    have a_r5_1 := E_105.1 _ _ a_r5_1
    have a_q_69 := E_105.1 _ _ a_q_69
    have a_q_80 := E_105.1 _ _ a_q_80
    have a_q_91 := E_105.1 _ _ a_q_91
    have hV9 : okv ws_104 8 5 (.ref q_102) := (okv_a a_q_102 fr_q_102)
    refine va_put (D := gD g) (ci := 8) (v := .ref q_102) (ty := (.array .int)) (C := RX9) (T := TX9) (N := 6) hx hb hts inX9 tyX9 tyX9_ok nmX9 hown hK hP hD hS k_1 hk_63 rfl 5 (by decide) (hts _ kw_1592) (fun _ h9 => h9) rfl (by decide +kernel) rfl rfl (Nat.le_of_ble_eq_true rfl) dX9_makeRoom_66 (fun H locs hP hD hS => ?_)
    have hi_108 : invX9 g ws_104 h0 [.ref q_40, .ref r1_63, .ref q_69, .ref q_80, .ref q_91, .ref q_102] := ⟨q_40, r1_63, (n1_63), q_69, (n_70), q_80, (n_81), q_91, (n_92), q_102, (n_103), rfl, o_q_40, a_r1_63, f2_63, a_q_69, s_q_69, a_q_80, s_q_80, a_q_91, s_q_91, a_q_102, s_q_102, f11_63, trivial⟩
    obtain ⟨ws_109, e_ws_109⟩ : ∃ z, z = ws_104.set k_1 (h0, .inr (8, [.ref q_40, .ref r1_63, .ref q_69, .ref q_80, .ref q_91, .ref q_102])) := ⟨_, rfl⟩
    have hP : va_P (gD g) cl0 ws_109 H := by rw [e_ws_109]; exact hP
    have hD : va_D A ws_109 := by rw [e_ws_109]; exact hD
    have E_110 : gE ws_104 ws_109 := gE_set e_ws_109 hk_63 (cw_o (fi := 5) (v := .ref q_102) rfl (by decide))
    have hG : Good g ws_109 := Good_set (fi := 5) (v := .ref q_102) e_ws_109 hk_63 E_110 rfl hV9 hG (ivX9 hi_108)
    have Fr_111 : gF [(8, 5)] [] (some h0) ws_104 ws_109 := gF_put (fi := 5) (v := .ref q_102) e_ws_109 hk_63 rfl (by decide)
    have pp_112 := Fr_111.pp
    have hkN := gset_self e_ws_109 hk_63
    have hk_63 := hkN
    have o_h0 := E_110.1 _ _ o_h0
    have o_b1 := E_110.1 _ _ o_b1
    have o_q_40 := E_110.1 _ _ o_q_40
    have a_r1_63 := E_110.1 _ _ a_r1_63
    have a_q_69 := E_110.1 _ _ a_q_69
    have a_q_80 := E_110.1 _ _ a_q_80
    have a_q_91 := E_110.1 _ _ a_q_91
    have a_q_102 := E_110.1 _ _ a_q_102
    exact J_69 (0 + 1 + dc_44 + 1 + 1 + 1 + 1) (0 + 15 + ds_45 + n_70 + n_81 + n_92 + n_103) ws_109 H locs ls ((E_42.tr (E_66.tr (E_72.tr (E_77.tr (E_83.tr (E_88.tr (E_94.tr (E_99.tr (E_105.tr E_110)))))))))) ((gF.tr (gF.mo (F' := [(7, 0), (7, 1), (7, 3), (7, 5), (7, 6), (7, 7), (7, 8), (8, 0), (8, 2), (8, 3), (8, 4), (8, 5)]) (C' := []) (S' := none) Fr_43 (fun _ h => absurd h List.not_mem_nil) (fun _ h => h) (Or.inr rfl)) (gF.tr (gF.mo (F' := [(7, 0), (7, 1), (7, 3), (7, 5), (7, 6), (7, 7), (7, 8), (8, 0), (8, 2), (8, 3), (8, 4), (8, 5)]) (C' := []) (S' := none) Fr_67 (by decide) (fun _ h => h) (Or.inl rfl)) (gF.tr (gF.mo (F' := [(7, 0), (7, 1), (7, 3), (7, 5), (7, 6), (7, 7), (7, 8), (8, 0), (8, 2), (8, 3), (8, 4), (8, 5)]) (C' := []) (S' := none) Fr_73 (fun _ h => absurd h List.not_mem_nil) (fun _ h => h) (Or.inr rfl)) (gF.tr (gF.mo (F' := [(7, 0), (7, 1), (7, 3), (7, 5), (7, 6), (7, 7), (7, 8), (8, 0), (8, 2), (8, 3), (8, 4), (8, 5)]) (C' := []) (S' := none) Fr_78 (by decide) (fun _ h => h) (Or.inl rfl)) (gF.tr (gF.mo (F' := [(7, 0), (7, 1), (7, 3), (7, 5), (7, 6), (7, 7), (7, 8), (8, 0), (8, 2), (8, 3), (8, 4), (8, 5)]) (C' := []) (S' := none) Fr_84 (fun _ h => absurd h List.not_mem_nil) (fun _ h => h) (Or.inr rfl)) (gF.tr (gF.mo (F' := [(7, 0), (7, 1), (7, 3), (7, 5), (7, 6), (7, 7), (7, 8), (8, 0), (8, 2), (8, 3), (8, 4), (8, 5)]) (C' := []) (S' := none) Fr_89 (by decide) (fun _ h => h) (Or.inl rfl)) (gF.tr (gF.mo (F' := [(7, 0), (7, 1), (7, 3), (7, 5), (7, 6), (7, 7), (7, 8), (8, 0), (8, 2), (8, 3), (8, 4), (8, 5)]) (C' := []) (S' := none) Fr_95 (fun _ h => absurd h List.not_mem_nil) (fun _ h => h) (Or.inr rfl)) (gF.tr (gF.mo (F' := [(7, 0), (7, 1), (7, 3), (7, 5), (7, 6), (7, 7), (7, 8), (8, 0), (8, 2), (8, 3), (8, 4), (8, 5)]) (C' := []) (S' := none) Fr_100 (by decide) (fun _ h => h) (Or.inl rfl)) (gF.tr (gF.mo (F' := [(7, 0), (7, 1), (7, 3), (7, 5), (7, 6), (7, 7), (7, 8), (8, 0), (8, 2), (8, 3), (8, 4), (8, 5)]) (C' := []) (S' := none) Fr_106 (fun _ h => absurd h List.not_mem_nil) (fun _ h => h) (Or.inr rfl)) (gF.mo (F' := [(7, 0), (7, 1), (7, 3), (7, 5), (7, 6), (7, 7), (7, 8), (8, 0), (8, 2), (8, 3), (8, 4), (8, 5)]) (C' := []) (S' := none) Fr_111 (by decide) (fun _ h => h) (Or.inl rfl)))))))))))) hG (by have e16 : (16 : Int32).toInt = 16 := (by decide); have e1200 : (1200 : Int32).toInt = 1200 := (by decide); have e1296 : (1296 : Int32).toInt = 1296 := (by decide); have e1297 : (1297 : Int32).toInt = 1297 := (by decide); have q_n_70 := i_nn en_70 zn_70; have q2_n_70 := bn_70; have q_n_81 := i_nn en_81 zn_81; have q2_n_81 := bn_81; have q_n_92 := i_nn en_92 zn_92; have q2_n_92 := bn_92; have q_n_103 := i_nn en_103 zn_103; have q2_n_103 := bn_103; omega) (by have e16 : (16 : Int32).toInt = 16 := (by decide); have e1200 : (1200 : Int32).toInt = 1200 := (by decide); have e1296 : (1296 : Int32).toInt = 1296 := (by decide); have e1297 : (1297 : Int32).toInt = 1297 := (by decide); have q_n_70 := i_nn en_70 zn_70; have q2_n_70 := bn_70; have q_n_81 := i_nn en_81 zn_81; have q2_n_81 := bn_81; have q_n_92 := i_nn en_92 zn_92; have q2_n_92 := bn_92; have q_n_103 := i_nn en_103 zn_103; have q2_n_103 := bn_103; omega) (gP_of hD hk_63 (fun p90 q90 e90 g90 => by cases e90; have z90 := gI_n hD a_q_69 g90; subst z90; exact (by have e1297 : (1297 : Int32).toInt = 1297 := (by decide); have q_n_70 := i_nn en_70 zn_70; have q2_n_70 := bn_70; omega))) (gP_of hD hk_63 (fun p90 q90 e90 g90 => by cases e90; have z90 := gI_n hD a_q_80 g90; subst z90; exact (by have e1297 : (1297 : Int32).toInt = 1297 := (by decide); have q_n_81 := i_nn en_81 zn_81; have q2_n_81 := bn_81; omega))) (gP_of hD hk_63 (fun p90 q90 e90 g90 => by cases e90; have z90 := gI_n hD a_q_91 g90; subst z90; exact (by have e1297 : (1297 : Int32).toInt = 1297 := (by decide); have q_n_92 := i_nn en_92 zn_92; have q2_n_92 := bn_92; omega))) (gP_of hD hk_63 (fun p90 q90 e90 g90 => by cases e90; have z90 := gI_n hD a_q_102 g90; subst z90; exact (by have e1297 : (1297 : Int32).toInt = 1297 := (by decide); have q_n_103 := i_nn en_103 zn_103; have q2_n_103 := bn_103; omega))) hP hD hS (lv_sub hl [0, 1] rfl)
set_option maxHeartbeats 1000000 in
set_option maxRecDepth 100000 in
theorem m_X9_makeBetter (l : Launch) (g : Gm) (H0 : Heap) (ws : va_W) (h0 : Nat) (b1 : Nat) (x2 : Int32) (hG : Good g ws) (o_h0 : gC ws h0 8) (o_b1 : gC ws b1 7) (f2_r : ∀ (k k2 b : Nat) (fs gs : List Value), ows ws k h0 8 fs → fs[0]? = some (.ref b) → ows ws k2 b 7 gs → ∀ (ra a : Nat), fs[2]? = some (.ref ra) → gI ws ra g.cZ a → ∀ (rb b : Nat), fs[3]? = some (.ref rb) → gI ws rb g.cZ b → ∀ (rc c : Nat), fs[4]? = some (.ref rc) → gI ws rc g.cI c → ∀ (rd d : Nat), fs[5]? = some (.ref rd) → gI ws rd g.cI d → ∀ (rm m : Nat), gs[0]? = some (.ref rm) → gI ws rm g.cI m → m < 1296 ∨ (1297 ≤ a ∧ 1297 ≤ b ∧ 1297 ≤ c ∧ 1297 ≤ d)) : Met l yX9_makeBetter (wt yX9_makeBetter cX9_makeBetter 6 none) ({ frames := 6, cells := PC ws + (12), slots := PS ws + (9059), locals := 145 }) (va_Pc [.ref h0, .ref b1, .int x2] (st_H g H0 ws)) (va_Qv (fun (u9 : va_W) => True) (gQ2 g [(7, 0), (7, 1), (7, 2), (7, 3), (7, 4), (7, 5), (7, 6), (7, 7), (7, 8), (7, 9), (7, 11), (8, 0), (8, 2), (8, 3), (8, 4), (8, 5)] [(7, 0), (7, 1), (7, 3), (7, 5), (7, 6), (7, 7), (7, 8), (8, 1), (8, 2), (8, 3), (8, 4)] none (va_A ws H0.size) ws H0 (12) (9059)) (va_A ws H0.size)) (PC ws + (12)) (PS ws + (9059)) (va_A ws H0.size) := by
  refine Met.ofW (cc := cX9_makeBetter) (maxL := 6) (ret := none) (by decide) rfl ?_
  intro p e s m args below meth c s₁ B hml hv
  obtain ⟨rfl, hH0, hsz, hP, hK, hD0, hex, hE⟩ := hv
  have hx := B.exec
  have hb := B.bytes
  have hr := B.returns
  have hts0 := atoms_spec (ws := wt yX9_makeBetter cX9_makeBetter 6 none) B.pre
  have hts : ∀ w ∈ tb, w.before _ s = true := fun w h => hts0 w (List.mem_cons_of_mem _ h)
  have hown : s.vm.findClass RX9 = some m.cls := findClass_of_methodNamed B.named
  subst hH0
  have hD := hD0.self (sz := s.heap.size)
  generalize hAe : va_A ws s.heap.size = A at hD hE ⊢
  have hA : ∀ q : Nat, s.heap.size ≤ q → A q := fun q h => by rw [← hAe]; exact Or.inr h
  have hS : va_S A s.heap s.heap [] := va_S.rf
  have hl := lv_entry ([.ref h0, .ref b1, .int x2]) (n := 6) (Nat.le_of_ble_eq_true rfl)
  rw [lg_entry_eq]
  generalize (lg_sl ([.ref h0, .ref b1, .int x2]) ++ List.replicate (6 - (lg_sl ([.ref h0, .ref b1, .int x2])).length) Slot.unset).toArray = ls at hl ⊢
  have hl : lv_has ls 6 [(0, .ref h0), (1, .ref b1), (2, .int x2)] := hl
  obtain ⟨k_1, fs9, hk_1⟩ := gC_of o_h0
  obtain ⟨r0_1, r1_1, n1_1, r2_1, n2_1, r3_1, n3_1, r4_1, n4_1, r5_1, n5_1, rfl, o_r0_1, a_r1_1, f2_1, a_r2_1, f4_1, a_r3_1, f6_1, a_r4_1, f8_1, a_r5_1, f10_1, f11_1, -⟩ := (hG.1 _ _ _ _ hk_1).hX9 rfl
  obtain ⟨k_2, fs9, hk_2⟩ := gC_of o_r0_1
  obtain ⟨r0_2, n0_2, r1_2, n1_2, c2_2, r3_2, n3_2, c4_2, r5_2, n5_2, r6_2, n6_2, r7_2, n7_2, r8_2, n8_2, c9_2, c10_2, c11_2, v12_2, v13_2, v14_2, rfl, a_r0_2, f1_2, a_r1_2, f3_2, a_r3_2, f5_2, a_r5_2, f7_2, a_r6_2, f9_2, a_r7_2, f11_2, a_r8_2, f13_2, o_v12_2, o_v13_2, o_v14_2, f17_2, f18_2, f19_2, f20_2, f21_2, f22_2, f23_2, f24_2, f25_2, f26_2, f27_2, f28_2, f29_2, -⟩ := (hG.1 _ _ _ _ hk_2).hX8 rfl
  have fq2_r := f2_r _ _ _ _ _ hk_1 rfl hk_2 _ _ rfl a_r2_1 _ _ rfl a_r3_1 _ _ rfl a_r4_1 _ _ rfl a_r5_1 _ _ rfl a_r0_2
  refine lv_aload_n hx hb dX9_makeBetter_0 rfl (lv_at hl 0 rfl) ?_
  refine lv_aload_n hx hb dX9_makeBetter_1 rfl (lv_at hl 1 rfl) ?_
  have hFc := gfree hD hS hA
  refine W_led (fun hL0 => ?_)
  refine va_callv (va_runV (As := [.ref b1]) (rest := []) ⟨hx, hb, hml, hown, hts⟩ (m_X9_makeRoom l g s.heap ws h0 b1 hG o_h0 o_b1 (fun k9 k8 b9 fs gs e1 e2 e3 p90 m90 e50 g90 p91 m91 e51 g91 p92 m92 e52 g92 p93 m93 e53 g93 p80 m80 e60 g80 => by obtain rfl := gO_un hD hk_1 e1; cases e2; obtain rfl := gO_un hD hk_2 e3; cases e50; have z90 := gI_n hD a_r2_1 g90; subst z90; cases e51; have z91 := gI_n hD a_r3_1 g91; subst z91; cases e52; have z92 := gI_n hD a_r4_1 g92; subst z92; cases e53; have z93 := gI_n hD a_r5_1 g93; subst z93; cases e60; have z80 := gI_n hD a_r0_2 g80; subst z80; exact (by have q_f4_1 := f4_1; have q_f6_1 := f6_1; have q_f8_1 := f8_1; have q_f10_1 := f10_1; have q_f1_2 := f1_2; have q_f17_2 := f17_2; have q_f18_2 := f18_2; have q_f20_2 := f20_2; have q_fq2_r := fq2_r; have q_f3_2 := f3_2; have q_f19_2 := f19_2; have g_c2_2 := i_rg c2_2; omega))) (cwV 1 hts (gd_V kw_1680 kw_1685 kw_1686 kw_404 kw_1684) rfl rfl rfl (by decide +kernel) ⟨Nat.le_of_ble_eq_true rfl, Nat.le_of_ble_eq_true rfl⟩) ⟨gblindH, va_recv hK hP (ci := 8) (q0 := k_1) rfl hk_1, fun U hU hW9 => gmkH hU hW9 hP hK hD hex hE hS hFc⟩ rfl rfl hl.1 rfl (lv_room (Nat.le_of_ble_eq_true rfl)) dX9_makeBetter_2 ⟨(show 0 + (PC ws + (12)) ≤ PC ws + (12) from (by have e0 : (0 : Int32).toInt = 0 := (by decide); have e12 : (12 : Int32).toInt = 12 := (by decide); have e9059 : (9059 : Int32).toInt = 9059 := (by decide); omega)), (show 0 + (PS ws + (9059)) ≤ PS ws + (9059) from (by have e0 : (0 : Int32).toInt = 0 := (by decide); have e12 : (12 : Int32).toInt = 12 := (by decide); have e9059 : (9059 : Int32).toInt = 9059 := (by decide); omega))⟩) hS (fun q _ h => hFc q h) hFc (fun  ws_3 t9 H1 locs ht9 hvm9 hw9 hB9 hz9 hk9 hS => ?_)
  obtain ⟨E_4, Fr_5, hG, hP1, hD1, dc_6, ds_7, hLd, hdc_6, hds_7⟩ := hB9
  rw [ht9] at hLd
  refine W_tight (hL0.tr hLd).1 (hL0.tr hLd).2.1 ?_
  clear hL0 hLd
  have hP : va_P (gD g) cl0 ws_3 H1 := by rw [← ht9]; exact hP1
  have hD : va_D A ws_3 := hD1.weaken (fun _ _ _ h => hFc _ h)
  obtain ⟨kf_8, kf_9, kf_10, kf_11⟩ := id hw9
  clear hP1 hD1 hz9 hk9 hvm9 ht9 hw9
  generalize H1 = H at hP hS ⊢
  have aa_12 := a_r1_1
  have aa_13 := a_r2_1
  have aa_14 := a_r3_1
  have aa_15 := a_r4_1
  have aa_16 := a_r5_1
  have aa_17 := a_r0_2
  have aa_18 := a_r1_2
  have aa_19 := a_r3_2
  have aa_20 := a_r5_2
  have aa_21 := a_r6_2
  have aa_22 := a_r7_2
  have aa_23 := a_r8_2
  have o_h0 := E_4.1 _ _ o_h0
  have o_b1 := E_4.1 _ _ o_b1
  refine lv_aload_n hx hb dX9_makeBetter_5 rfl (lv_at hl 0 rfl) ?_
  obtain ⟨fs9, hk_24, hq_24⟩ := ((gF.a (F' := [(7, 0), (7, 1), (7, 3), (7, 5), (7, 6), (7, 7), (7, 8), (7, 11), (8, 0), (8, 2), (8, 3), (8, 4), (8, 5)]) Fr_5 (fun _ h => h))) _ _ _ hk_1
  obtain ⟨r0_24, r1_24, n1_24, r2_24, n2_24, r3_24, n3_24, r4_24, n4_24, r5_24, n5_24, rfl, o_r0_24, a_r1_24, f2_24, a_r2_24, f4_24, a_r3_24, f6_24, a_r4_24, f8_24, a_r5_24, f10_24, f11_24, -⟩ := (hG.1 _ _ _ _ hk_24).hX9 rfl
  have kq_25 := kf_8 _ _ _ hk_24 _ _ rfl a_r2_24
  have kq_26 := kf_9 _ _ _ hk_24 _ _ rfl a_r3_24
  have kq_27 := kf_10 _ _ _ hk_24 _ _ rfl a_r4_24
  have kq_28 := kf_11 _ _ _ hk_24 _ _ rfl a_r5_24
  refine va_get (D := gD g) (ci := 8) (v := .ref r0_24) (C := RX9) (T := TX9) (N := 6) hx hb hts inX9 hown hK hP k_1 hk_24 rfl 0 (by decide) (hts _ kw_1552) (fun _ h9 => h9) rfl dX9_makeBetter_6 ?_
  refine lv_aload_n hx hb dX9_makeBetter_9 rfl (lv_at hl 1 rfl) ?_
  have hFc := gfree hD hS hA
  obtain ⟨k_29, fs_29, hk_29⟩ := gC_of o_r0_24
  refine va_callv (va_runV (As := [.ref b1]) (rest := []) ⟨hx, hb, hml, hown, hts⟩ (m_X8_copyFrom l g H.size ws_3 r0_24 b1 hG o_r0_24 o_b1) (cwV 1 hts (gd_V kw_1681 kw_1486 kw_1487 kw_782 kw_1485) rfl rfl rfl (by decide +kernel) ⟨Nat.le_of_ble_eq_true rfl, Nat.le_of_ble_eq_true rfl⟩) ⟨gblind, va_recv hK hP (ci := 7) (q0 := k_29) rfl hk_29, fun U hU hW9 => gmk hU hW9 hP hK hD hex hE hS hFc⟩ rfl rfl hl.1 rfl (lv_room (Nat.le_of_ble_eq_true rfl)) dX9_makeBetter_10 ⟨(show 0 + dc_6 + 0 ≤ PC ws + (12) from (by omega)), (show 0 + ds_7 + 0 ≤ PS ws + (9059) from (by omega))⟩) hS (fun q _ h => hFc q h) hFc (fun  ws_30 t9 H1 locs ht9 hvm9 hw9 hB9 hz9 hk9 hS => ?_)
  obtain ⟨E_31, Fr_32, hG, hP1, hD1⟩ := hB9
  have hP : va_P (gD g) cl0 ws_30 H1 := by rw [← ht9]; exact hP1
  have hD : va_D A ws_30 := hD1.weaken (fun _ _ _ h => hFc _ h)
  clear hP1 hD1 hz9 hk9 hvm9 ht9 hw9
  generalize H1 = H at hP hS ⊢
  have aa_35 := a_r1_24
  have aa_36 := a_r2_24
  have aa_37 := a_r3_24
  have aa_38 := a_r4_24
  have aa_39 := a_r5_24
  have o_h0 := E_31.1 _ _ o_h0
  have o_b1 := E_31.1 _ _ o_b1
  have pp_40 := Fr_32.pp
  refine lv_iconst (v := 1) hx hb dX9_makeBetter_13 (by decide) ?_
  refine lv_istore_n (lv' := [(3, .int 1), (0, .ref h0), (1, .ref b1), (2, .int x2)]) hx hb dX9_makeBetter_14 rfl hl (by decide) rfl (fun ls hl => ?_)
  refine lv_iconst (v := 0) hx hb dX9_makeBetter_15 (by decide) ?_
  refine lv_istore (lv' := [(4, .int 0), (3, .int 1), (0, .ref h0), (1, .ref b1), (2, .int x2)]) hx hb dX9_makeBetter_16 hl (by decide) rfl (fun ls hl => ?_)
  have J_18 : ∀ (n9 : Nat) (v3_41 : Int32) (v4_43 : Int32) (dc_18_1 : Nat) (ds_18_1 : Nat) (ws_45 : va_W) (H : Heap) (locs : List Loc) (ls : Array Slot), (2147483647 - v4_43.toInt).toNat = n9 → v3_41 = 0 ∨ v3_41 = 1 → 0 ≤ v4_43.toInt → gE ws_30 ws_45 → gF [(7, 2), (7, 9)] [(7, 0), (7, 1), (7, 3), (7, 5), (7, 6), (7, 7), (7, 8), (8, 1), (8, 2), (8, 3), (8, 4)] none ws_30 ws_45 → Good g ws_45 → dc_18_1 + PC ws_45 ≤ PC ws + (12) → ds_18_1 + PS ws_45 ≤ PS ws + (9059) → va_P (gD g) cl0 ws_45 H → va_D A ws_45 → va_S A s.heap H locs → lv_has ls 6 [(0, .ref h0), (2, .int x2), (3, .int v3_41), (4, .int v4_43)] → W p l e (headSpec (wt yX9_makeBetter cX9_makeBetter 6 none) ({ frames := 6, cells := PC ws + (12), slots := PS ws + (9059), locals := 145 })).room s m ([.ref h0, .ref b1, .int x2] : List Value).toArray below meth c H locs (dc_18_1) (ds_18_1) (MQ below (va_Qv (fun (u9 : va_W) => True) (gQ2 g [(7, 0), (7, 1), (7, 2), (7, 3), (7, 4), (7, 5), (7, 6), (7, 7), (7, 8), (7, 9), (7, 11), (8, 0), (8, 2), (8, 3), (8, 4), (8, 5)] [(7, 0), (7, 1), (7, 3), (7, 5), (7, 6), (7, 7), (7, 8), (8, 1), (8, 2), (8, 3), (8, 4)] none A ws s.heap (12) (9059)) A) ([.ref h0, .ref b1, .int x2] : List Value).toArray s (PC ws + (12)) (PS ws + (9059)) A) (F0 m 18 ls []) := by
    intro n9
    induction n9 using Nat.strongRecOn with
    | ind n9 ih_18 =>
      intro v3_41 v4_43 dc_18_1 ds_18_1 ws_45 H locs ls hm9 iv_42 iv_44 E_46 Fr_47 hG hc9 hs9 hP hD hS hl
      subst hm9
      have hz_v3_41 := iv_42
      have o_h0 := E_46.1 _ _ o_h0
      refine lv_iload_n hx hb dX9_makeBetter_18 rfl (lv_at hl 2 rfl) ?_
      have J_86 : ∀ (dc_86_2 : Nat) (ds_86_2 : Nat) (H : Heap) (locs : List Loc) (ls : Array Slot), dc_86_2 + PC ws_45 ≤ PC ws + (12) → ds_86_2 + PS ws_45 ≤ PS ws + (9059) → va_P (gD g) cl0 ws_45 H → va_D A ws_45 → va_S A s.heap H locs → lv_has ls 6 [] → W p l e (headSpec (wt yX9_makeBetter cX9_makeBetter 6 none) ({ frames := 6, cells := PC ws + (12), slots := PS ws + (9059), locals := 145 })).room s m ([.ref h0, .ref b1, .int x2] : List Value).toArray below meth c H locs (dc_86_2) (ds_86_2) (MQ below (va_Qv (fun (u9 : va_W) => True) (gQ2 g [(7, 0), (7, 1), (7, 2), (7, 3), (7, 4), (7, 5), (7, 6), (7, 7), (7, 8), (7, 9), (7, 11), (8, 0), (8, 2), (8, 3), (8, 4), (8, 5)] [(7, 0), (7, 1), (7, 3), (7, 5), (7, 6), (7, 7), (7, 8), (8, 1), (8, 2), (8, 3), (8, 4)] none A ws s.heap (12) (9059)) A) ([.ref h0, .ref b1, .int x2] : List Value).toArray s (PC ws + (12)) (PS ws + (9059)) A) (F0 m 86 ls []) := by
        intro dc_86_2 ds_86_2 H locs ls  hc9 hs9 hP hD hS hl
        refine W_led (fun hLd => ?_)
        have hcl : dc_86_2 + PC ws_45 ≤ PC ws + (12) := (by omega)
        have hsl : ds_86_2 + PS ws_45 ≤ PS ws + (9059) := (by omega)
        refine W.widen (k := PC ws + (12)) (n := PS ws + (9059)) (by omega) (by omega) ?_
        exact W.vret hx hb hr (fun t9 ht9 hW9 => ⟨⟨ws_45, rfl, trivial, ⟨(E_4.tr (E_31.tr E_46)), (gF.tr (gF.mo (F' := [(7, 0), (7, 1), (7, 2), (7, 3), (7, 4), (7, 5), (7, 6), (7, 7), (7, 8), (7, 9), (7, 11), (8, 0), (8, 2), (8, 3), (8, 4), (8, 5)]) (C' := [(7, 0), (7, 1), (7, 3), (7, 5), (7, 6), (7, 7), (7, 8), (8, 1), (8, 2), (8, 3), (8, 4)]) (S' := none) Fr_5 (by decide) (fun _ h => absurd h List.not_mem_nil) (Or.inr rfl)) (gF.tr (gF.mo (F' := [(7, 0), (7, 1), (7, 2), (7, 3), (7, 4), (7, 5), (7, 6), (7, 7), (7, 8), (7, 9), (7, 11), (8, 0), (8, 2), (8, 3), (8, 4), (8, 5)]) (C' := [(7, 0), (7, 1), (7, 3), (7, 5), (7, 6), (7, 7), (7, 8), (8, 1), (8, 2), (8, 3), (8, 4)]) (S' := none) Fr_32 (by decide) (by decide) (Or.inl rfl)) (gF.mo (F' := [(7, 0), (7, 1), (7, 2), (7, 3), (7, 4), (7, 5), (7, 6), (7, 7), (7, 8), (7, 9), (7, 11), (8, 0), (8, 2), (8, 3), (8, 4), (8, 5)]) (C' := [(7, 0), (7, 1), (7, 3), (7, 5), (7, 6), (7, 7), (7, 8), (8, 1), (8, 2), (8, 3), (8, 4)]) (S' := none) Fr_47 (by decide) (fun _ h => h) (Or.inr rfl)))), hG, by rw [ht9]; exact hP, hD, _, _, by rw [ht9]; exact hLd, hcl, hsl⟩⟩, hS.F ht9⟩) hS.2.2 dX9_makeBetter_86
      refine lv_if_eq (tgt := 86) hx hb dX9_makeBetter_19 (by decide) (fun c_50 => ?_) (fun c_50 => ?_)
      · exact J_86 (dc_18_1) (ds_18_1) H locs ls (by omega) (by omega) hP hD hS (lv_sub hl [] rfl)
      · refine lv_iload hx hb dX9_makeBetter_22 (lv_at hl 3 rfl) ?_
        refine lv_bipush (v := 50) hx hb dX9_makeBetter_24 (by decide) ?_
        refine lv_icmp_ge (tgt := 86) hx hb dX9_makeBetter_26 (by decide) (fun c_51 => ?_) (fun c_51 => ?_)
        · exact J_86 (dc_18_1) (ds_18_1) H locs ls (by omega) (by omega) hP hD hS (lv_sub hl [] rfl)
        · refine lv_iconst (v := 0) hx hb dX9_makeBetter_29 (by decide) ?_
          refine lv_istore_n (lv' := [(3, .int 0), (0, .ref h0), (2, .int x2), (4, .int v4_43)]) hx hb dX9_makeBetter_30 rfl hl (by decide) rfl (fun ls hl => ?_)
          refine lv_iconst (v := 1) hx hb dX9_makeBetter_31 (by decide) ?_
          refine lv_istore (lv' := [(5, .int 1), (3, .int 0), (0, .ref h0), (2, .int x2), (4, .int v4_43)]) hx hb dX9_makeBetter_32 hl (by decide) rfl (fun ls hl => ?_)
          have J_34 : ∀ (n9 : Nat) (v3_52 : Int32) (v5_54 : Int32) (dc_34_3 : Nat) (ds_34_3 : Nat) (ws_56 : va_W) (H : Heap) (locs : List Loc) (ls : Array Slot), (2147483647 - v5_54.toInt).toNat = n9 → v3_52 = 0 ∨ v3_52 = 1 → 0 ≤ v5_54.toInt → gE ws_45 ws_56 → gF [(7, 2), (7, 9)] [(7, 0), (7, 1), (7, 3), (7, 5), (7, 6), (7, 7), (7, 8), (8, 1), (8, 2), (8, 3), (8, 4)] none ws_45 ws_56 → Good g ws_56 → dc_34_3 + PC ws_56 ≤ PC ws + (12) → ds_34_3 + PS ws_56 ≤ PS ws + (9059) → va_P (gD g) cl0 ws_56 H → va_D A ws_56 → va_S A s.heap H locs → lv_has ls 6 [(0, .ref h0), (2, .int x2), (3, .int v3_52), (4, .int v4_43), (5, .int v5_54)] → W p l e (headSpec (wt yX9_makeBetter cX9_makeBetter 6 none) ({ frames := 6, cells := PC ws + (12), slots := PS ws + (9059), locals := 145 })).room s m ([.ref h0, .ref b1, .int x2] : List Value).toArray below meth c H locs (dc_34_3) (ds_34_3) (MQ below (va_Qv (fun (u9 : va_W) => True) (gQ2 g [(7, 0), (7, 1), (7, 2), (7, 3), (7, 4), (7, 5), (7, 6), (7, 7), (7, 8), (7, 9), (7, 11), (8, 0), (8, 2), (8, 3), (8, 4), (8, 5)] [(7, 0), (7, 1), (7, 3), (7, 5), (7, 6), (7, 7), (7, 8), (8, 1), (8, 2), (8, 3), (8, 4)] none A ws s.heap (12) (9059)) A) ([.ref h0, .ref b1, .int x2] : List Value).toArray s (PC ws + (12)) (PS ws + (9059)) A) (F0 m 34 ls []) := by
            intro n9
            induction n9 using Nat.strongRecOn with
            | ind n9 ih_34 =>
              intro v3_52 v5_54 dc_34_3 ds_34_3 ws_56 H locs ls hm9 iv_53 iv_55 E_57 Fr_58 hG hc9 hs9 hP hD hS hl
              subst hm9
              have hz_v3_52 := iv_53
              have o_h0 := E_57.1 _ _ o_h0
              refine lv_iload hx hb dX9_makeBetter_34 (lv_at hl 4 rfl) ?_
              refine lv_bipush (v := 11) hx hb dX9_makeBetter_36 (by decide) ?_
              refine lv_icmp_gt (tgt := 80) hx hb dX9_makeBetter_38 (by decide) (fun c_59 => ?_) (fun c_59 => ?_)
              · obtain ⟨z_60, ez_60⟩ : ∃ z : Int32, v4_43 + Int32.ofInt 1 = z := ⟨_, rfl⟩
                refine lv_iinc (v := z_60) (lv' := [(4, .int z_60), (0, .ref h0), (2, .int x2), (3, .int v3_52), (5, .int v5_54)]) hx hb dX9_makeBetter_80 hl (k := 3) rfl ez_60 (by decide) rfl (fun ls hl => ?_)
                refine lv_goto (tgt := 18) hx hb dX9_makeBetter_83 (by decide) ?_
                exact ih_18 _ (by have e50 : (50 : Int32).toInt = 50 := (by decide); obtain ⟨u_z_60, q_z_60⟩ := i_iz ez_60 (by decide) (by decide); have q_iv_44 := iv_44; have q_c_51 := i_nle c_51; have g_v3_52 := i_rg v3_52; have g_v4_43 := i_rg v4_43; have g_z_60 := i_rg z_60; have b_v3_52 := i_bit hz_v3_52; omega) (v3_52) (z_60) (dc_34_3) (ds_34_3) ws_56 H locs ls rfl hz_v3_52 (by have e50 : (50 : Int32).toInt = 50 := (by decide); obtain ⟨u_z_60, q_z_60⟩ := i_iz ez_60 (by decide) (by decide); have q_iv_44 := iv_44; have q_c_51 := i_nle c_51; have g_v4_43 := i_rg v4_43; have g_z_60 := i_rg z_60; omega) ((E_46.tr E_57)) ((gF.tr Fr_47 Fr_58)) hG (by omega) (by omega) hP hD hS (lv_sub hl [1, 2, 3, 0] rfl)
              · refine lv_iload_n hx hb dX9_makeBetter_41 rfl (lv_at hl 1 rfl) ?_
                refine lv_iload hx hb dX9_makeBetter_42 (lv_at hl 4 rfl) ?_
                refine lv_iconst (v := 1) hx hb dX9_makeBetter_44 (by decide) ?_
                refine lv_isub hx hb dX9_makeBetter_45 ?_
                refine lv_topi (fun z_61 ez_61 => ?_)
                refine lv_ishr hx hb dX9_makeBetter_46 ?_
                refine lv_topi (fun z_62 ez_62 => ?_)
                refine lv_iconst (v := 1) hx hb dX9_makeBetter_47 (by decide) ?_
                refine lv_iand hx hb dX9_makeBetter_48 ?_
                refine lv_topi (fun z_63 ez_63 => ?_)
                have J_74 : ∀ (v3_64 : Int32) (dc_74_4 : Nat) (ds_74_4 : Nat) (ws_66 : va_W) (H : Heap) (locs : List Loc) (ls : Array Slot), v3_64 = 0 ∨ v3_64 = 1 → gE ws_56 ws_66 → gF [(7, 2), (7, 9)] [(7, 0), (7, 1), (7, 3), (7, 5), (7, 6), (7, 7), (7, 8), (8, 1), (8, 2), (8, 3), (8, 4)] none ws_56 ws_66 → Good g ws_66 → dc_74_4 + PC ws_66 ≤ PC ws + (12) → ds_74_4 + PS ws_66 ≤ PS ws + (9059) → va_P (gD g) cl0 ws_66 H → va_D A ws_66 → va_S A s.heap H locs → lv_has ls 6 [(0, .ref h0), (2, .int x2), (3, .int v3_64), (4, .int v4_43), (5, .int v5_54)] → W p l e (headSpec (wt yX9_makeBetter cX9_makeBetter 6 none) ({ frames := 6, cells := PC ws + (12), slots := PS ws + (9059), locals := 145 })).room s m ([.ref h0, .ref b1, .int x2] : List Value).toArray below meth c H locs (dc_74_4) (ds_74_4) (MQ below (va_Qv (fun (u9 : va_W) => True) (gQ2 g [(7, 0), (7, 1), (7, 2), (7, 3), (7, 4), (7, 5), (7, 6), (7, 7), (7, 8), (7, 9), (7, 11), (8, 0), (8, 2), (8, 3), (8, 4), (8, 5)] [(7, 0), (7, 1), (7, 3), (7, 5), (7, 6), (7, 7), (7, 8), (8, 1), (8, 2), (8, 3), (8, 4)] none A ws s.heap (12) (9059)) A) ([.ref h0, .ref b1, .int x2] : List Value).toArray s (PC ws + (12)) (PS ws + (9059)) A) (F0 m 74 ls []) := by
                  intro v3_64 dc_74_4 ds_74_4 ws_66 H locs ls iv_65 E_67 Fr_68 hG hc9 hs9 hP hD hS hl
                  have hz_v3_64 := iv_65
                  have o_h0 := E_67.1 _ _ o_h0
                  obtain ⟨z_69, ez_69⟩ : ∃ z : Int32, v5_54 + Int32.ofInt 1 = z := ⟨_, rfl⟩
                  refine lv_iinc (v := z_69) (lv' := [(5, .int z_69), (0, .ref h0), (2, .int x2), (3, .int v3_64), (4, .int v4_43)]) hx hb dX9_makeBetter_74 hl (k := 4) rfl ez_69 (by decide) rfl (fun ls hl => ?_)
                  refine lv_goto (tgt := 34) hx hb dX9_makeBetter_77 (by decide) ?_
                  exact ih_34 _ (by have e1 : (1 : Int32).toInt = 1 := (by decide); have e11 : (11 : Int32).toInt = 11 := (by decide); obtain ⟨u_z_69, q_z_69⟩ := i_iz ez_69 (by decide) (by decide); have q_iv_55 := iv_55; have q_c_59 := i_nlt c_59; obtain ⟨u_z_61, q_z_61⟩ := i_sub ez_61; have g_v3_64 := i_rg v3_64; have g_v5_54 := i_rg v5_54; have g_z_61 := i_rg z_61; have g_z_69 := i_rg z_69; have b_v3_64 := i_bit hz_v3_64; omega) (v3_64) (z_69) (dc_74_4) (ds_74_4) ws_66 H locs ls rfl hz_v3_64 (by have e1 : (1 : Int32).toInt = 1 := (by decide); have e11 : (11 : Int32).toInt = 11 := (by decide); obtain ⟨u_z_69, q_z_69⟩ := i_iz ez_69 (by decide) (by decide); have q_iv_55 := iv_55; have q_c_59 := i_nlt c_59; obtain ⟨u_z_61, q_z_61⟩ := i_sub ez_61; have g_v5_54 := i_rg v5_54; have g_z_61 := i_rg z_61; have g_z_69 := i_rg z_69; omega) ((E_57.tr E_67)) ((gF.tr Fr_58 Fr_68)) hG (by omega) (by omega) hP hD hS (lv_sub hl [1, 2, 3, 4, 0] rfl)
                refine lv_if_eq (tgt := 74) hx hb dX9_makeBetter_49 (by decide) (fun c_70 => ?_) (fun c_70 => ?_)
                · exact J_74 (v3_52) (dc_34_3) (ds_34_3) ws_56 H locs ls hz_v3_52 (gE.rf) (gF.rf) hG (by omega) (by omega) hP hD hS (lv_sub hl [0, 1, 2, 3, 4] rfl)
                · refine lv_iload_n hx hb dX9_makeBetter_52 rfl (lv_at hl 2 rfl) ?_
                  refine lv_iload hx hb dX9_makeBetter_53 (lv_at hl 4 rfl) ?_
                  refine lv_iconst (v := 1) hx hb dX9_makeBetter_55 (by decide) ?_
                  have J_72 : ∀ (t_71 : Int32) (dc_72_5 : Nat) (ds_72_5 : Nat) (ws_73 : va_W) (H : Heap) (locs : List Loc) (ls : Array Slot), t_71 = 0 ∨ t_71 = 1 → gE ws_56 ws_73 → gF [(7, 2), (7, 9)] [(7, 0), (7, 1), (7, 3), (7, 5), (7, 6), (7, 7), (7, 8), (8, 1), (8, 2), (8, 3), (8, 4)] none ws_56 ws_73 → Good g ws_73 → dc_72_5 + PC ws_73 ≤ PC ws + (12) → ds_72_5 + PS ws_73 ≤ PS ws + (9059) → va_P (gD g) cl0 ws_73 H → va_D A ws_73 → va_S A s.heap H locs → lv_has ls 6 [(0, .ref h0), (2, .int x2), (4, .int v4_43), (5, .int v5_54)] → W p l e (headSpec (wt yX9_makeBetter cX9_makeBetter 6 none) ({ frames := 6, cells := PC ws + (12), slots := PS ws + (9059), locals := 145 })).room s m ([.ref h0, .ref b1, .int x2] : List Value).toArray below meth c H locs (dc_72_5) (ds_72_5) (MQ below (va_Qv (fun (u9 : va_W) => True) (gQ2 g [(7, 0), (7, 1), (7, 2), (7, 3), (7, 4), (7, 5), (7, 6), (7, 7), (7, 8), (7, 9), (7, 11), (8, 0), (8, 2), (8, 3), (8, 4), (8, 5)] [(7, 0), (7, 1), (7, 3), (7, 5), (7, 6), (7, 7), (7, 8), (8, 1), (8, 2), (8, 3), (8, 4)] none A ws s.heap (12) (9059)) A) ([.ref h0, .ref b1, .int x2] : List Value).toArray s (PC ws + (12)) (PS ws + (9059)) A) (F0 m 72 ls [.int t_71, .int v3_52]) := by
                    intro t_71 dc_72_5 ds_72_5 ws_73 H locs ls iv_72 E_74 Fr_75 hG hc9 hs9 hP hD hS hl
                    have hz_t_71 := iv_72
                    have o_h0 := E_74.1 _ _ o_h0
                    refine lv_ior hx hb dX9_makeBetter_72 ?_
                    refine lv_topi (fun z_76 ez_76 => ?_)
                    have hz_z_76 := bit_or ez_76 hz_v3_52 hz_t_71
                    refine lv_istore_n (lv' := [(3, .int z_76), (0, .ref h0), (2, .int x2), (4, .int v4_43), (5, .int v5_54)]) hx hb dX9_makeBetter_73 rfl hl (by decide) rfl (fun ls hl => ?_)
                    exact J_74 (z_76) (dc_72_5) (ds_72_5) ws_73 H locs ls hz_z_76 (E_74) (Fr_75) hG (by omega) (by omega) hP hD hS (lv_sub hl [1, 2, 0, 3, 4] rfl)
                  refine lv_icmp_ne (tgt := 66) hx hb dX9_makeBetter_56 (by decide) (fun c_77 => ?_) (fun c_77 => ?_)
                  · refine lv_aload_n hx hb dX9_makeBetter_66 rfl (lv_at hl 0 rfl) ?_
                    refine lv_iload hx hb dX9_makeBetter_67 (lv_at hl 4 rfl) ?_
                    obtain ⟨fs9, hk_78, hq_78⟩ := ((gA.tr (gF.a (F' := [(7, 2), (7, 4), (7, 9), (7, 11)]) Fr_32 (fun _ h => h)) (gA.tr (gF.a (F' := [(7, 2), (7, 4), (7, 9), (7, 11)]) Fr_47 (by decide)) (gF.a (F' := [(7, 2), (7, 4), (7, 9), (7, 11)]) Fr_58 (by decide))))) _ _ _ hk_24
                    obtain ⟨r0_78, r1_78, n1_78, r2_78, n2_78, r3_78, n3_78, r4_78, n4_78, r5_78, n5_78, rfl, o_r0_78, a_r1_78, f2_78, a_r2_78, f4_78, a_r3_78, f6_78, a_r4_78, f8_78, a_r5_78, f10_78, f11_78, -⟩ := (hG.1 _ _ _ _ hk_78).hX9 rfl
                    obtain rfl := fe_r (hq_78 0 (by decide))
                    have o_r0_24 := o_r0_78
                    obtain rfl := fe_r (hq_78 2 (by decide))
                    have hn9 := gI_n hD (((E_31.tr (E_46.tr E_57))).1 _ _ aa_36) a_r2_78
                    subst hn9
                    have a_r2_24 := a_r2_78
                    obtain rfl := fe_r (hq_78 3 (by decide))
                    have hn9 := gI_n hD (((E_31.tr (E_46.tr E_57))).1 _ _ aa_37) a_r3_78
                    subst hn9
                    have a_r3_24 := a_r3_78
                    obtain rfl := fe_r (hq_78 4 (by decide))
                    have hn9 := gI_n hD (((E_31.tr (E_46.tr E_57))).1 _ _ aa_38) a_r4_78
                    subst hn9
                    have a_r4_24 := a_r4_78
                    obtain rfl := fe_r (hq_78 5 (by decide))
                    have hn9 := gI_n hD (((E_31.tr (E_46.tr E_57))).1 _ _ aa_39) a_r5_78
                    subst hn9
                    have a_r5_24 := a_r5_78
                    have hFc := gfree hD hS hA
                    refine va_calli (va_runV (As := [.int v5_54]) (rest := [.int v3_52]) ⟨hx, hb, hml, hown, hts⟩ (m_X9_goThrough l g H.size ws_56 h0 (v5_54) hG o_h0 (gP_of hD hk_78 (fun p90 q90 e90 g90 => by cases e90; have z90 := gI_n hD a_r2_24 g90; subst z90; exact (by have q_f4_24 := f4_24; have q_kq_25 := kq_25; omega))) (gP_of hD hk_78 (fun p90 q90 e90 g90 => by cases e90; have z90 := gI_n hD a_r3_24 g90; subst z90; exact (by have q_f6_24 := f6_24; have q_kq_26 := kq_26; omega))) (gP_of hD hk_78 (fun p90 q90 e90 g90 => by cases e90; have z90 := gI_n hD a_r4_24 g90; subst z90; exact (by have q_f8_24 := f8_24; have q_kq_27 := kq_27; omega))) (gP_of hD hk_78 (fun p90 q90 e90 g90 => by cases e90; have z90 := gI_n hD a_r5_24 g90; subst z90; exact (by have q_f10_24 := f10_24; have q_kq_28 := kq_28; omega))) (by have e1 : (1 : Int32).toInt = 1 := (by decide); have e11 : (11 : Int32).toInt = 11 := (by decide); have q_iv_55 := iv_55; have q_c_59 := i_nlt c_59; obtain ⟨u_z_61, q_z_61⟩ := i_sub ez_61; have q_c_77 := i_ne c_77; have g_v5_54 := i_rg v5_54; have g_z_61 := i_rg z_61; omega)) (cwV 1 hts (gd_V kw_1683 kw_1582 kw_1583 kw_404 kw_1581) rfl rfl rfl (by decide +kernel) ⟨Nat.le_of_ble_eq_true rfl, Nat.le_of_ble_eq_true rfl⟩) ⟨gblind, va_recv hK hP (ci := 8) (q0 := k_1) rfl hk_78, fun U hU hW9 => gmk hU hW9 hP hK hD hex hE hS hFc⟩ rfl rfl hl.1 rfl (lv_room (Nat.le_of_ble_eq_true rfl)) dX9_makeBetter_69 ⟨(show dc_34_3 + 0 ≤ PC ws + (12) from (by omega)), (show ds_34_3 + 0 ≤ PS ws + (9059) from (by omega))⟩) hS (fun q _ h => hFc q h) hFc (fun r_79 ws_80 t9 H1 locs ht9 hvm9 hw9 hB9 hz9 hk9 hS => ?_)
                    obtain ⟨E_81, Fr_82, hG, hP1, hD1⟩ := hB9
                    have hP : va_P (gD g) cl0 ws_80 H1 := by rw [← ht9]; exact hP1
                    have hD : va_D A ws_80 := hD1.weaken (fun _ _ _ h => hFc _ h)
                    have hz_r_79 : r_79 = 0 ∨ r_79 = 1 := hw9
                    clear hP1 hD1 hz9 hk9 hvm9 ht9 hw9
                    generalize H1 = H at hP hS ⊢
                    have aa_85 := a_r1_78
                    have aa_86 := a_r2_24
                    have aa_87 := a_r3_24
                    have aa_88 := a_r4_24
                    have aa_89 := a_r5_24
                    have o_h0 := E_81.1 _ _ o_h0
                    have pp_90 := Fr_82.pp
                    exact J_72 (r_79) (dc_34_3) (ds_34_3) ws_80 H locs ls hz_r_79 (E_81) ((gF.mo (F' := [(7, 2), (7, 9)]) (C' := [(7, 0), (7, 1), (7, 3), (7, 5), (7, 6), (7, 7), (7, 8), (8, 1), (8, 2), (8, 3), (8, 4)]) (S' := none) Fr_82 (fun _ h => h) (by decide) (Or.inr rfl))) hG (by omega) (by omega) hP hD hS (lv_sub hl [0, 1, 3, 4] rfl)
                  · refine lv_aload_n hx hb dX9_makeBetter_59 rfl (lv_at hl 0 rfl) ?_
                    obtain ⟨fs9, hk_91, hq_91⟩ := ((gA.tr (gF.a (F' := [(7, 2), (7, 4), (7, 9), (7, 11)]) Fr_32 (fun _ h => h)) (gA.tr (gF.a (F' := [(7, 2), (7, 4), (7, 9), (7, 11)]) Fr_47 (by decide)) (gF.a (F' := [(7, 2), (7, 4), (7, 9), (7, 11)]) Fr_58 (by decide))))) _ _ _ hk_24
                    obtain ⟨r0_91, r1_91, n1_91, r2_91, n2_91, r3_91, n3_91, r4_91, n4_91, r5_91, n5_91, rfl, o_r0_91, a_r1_91, f2_91, a_r2_91, f4_91, a_r3_91, f6_91, a_r4_91, f8_91, a_r5_91, f10_91, f11_91, -⟩ := (hG.1 _ _ _ _ hk_91).hX9 rfl
                    obtain rfl := fe_r (hq_91 0 (by decide))
                    have o_r0_24 := o_r0_91
                    obtain rfl := fe_r (hq_91 2 (by decide))
                    have hn9 := gI_n hD (((E_31.tr (E_46.tr E_57))).1 _ _ aa_36) a_r2_91
                    subst hn9
                    have a_r2_24 := a_r2_91
                    obtain rfl := fe_r (hq_91 3 (by decide))
                    have hn9 := gI_n hD (((E_31.tr (E_46.tr E_57))).1 _ _ aa_37) a_r3_91
                    subst hn9
                    have a_r3_24 := a_r3_91
                    obtain rfl := fe_r (hq_91 4 (by decide))
                    have hn9 := gI_n hD (((E_31.tr (E_46.tr E_57))).1 _ _ aa_38) a_r4_91
                    subst hn9
                    have a_r4_24 := a_r4_91
                    obtain rfl := fe_r (hq_91 5 (by decide))
                    have hn9 := gI_n hD (((E_31.tr (E_46.tr E_57))).1 _ _ aa_39) a_r5_91
                    subst hn9
                    have a_r5_24 := a_r5_91
                    have hFc := gfree hD hS hA
                    refine va_calli (va_runV (As := []) (rest := [.int v3_52]) ⟨hx, hb, hml, hown, hts⟩ (m_X9_dropUnreached l g H.size ws_56 h0 hG o_h0 (gP_of hD hk_91 (fun p90 q90 e90 g90 => by cases e90; have z90 := gI_n hD a_r2_24 g90; subst z90; exact (by have q_f4_24 := f4_24; have q_kq_25 := kq_25; omega))) (gP_of hD hk_91 (fun p90 q90 e90 g90 => by cases e90; have z90 := gI_n hD a_r3_24 g90; subst z90; exact (by have q_f6_24 := f6_24; have q_kq_26 := kq_26; omega))) (gP_of hD hk_91 (fun p90 q90 e90 g90 => by cases e90; have z90 := gI_n hD a_r4_24 g90; subst z90; exact (by have q_f8_24 := f8_24; have q_kq_27 := kq_27; omega))) (gP_of hD hk_91 (fun p90 q90 e90 g90 => by cases e90; have z90 := gI_n hD a_r5_24 g90; subst z90; exact (by have q_f10_24 := f10_24; have q_kq_28 := kq_28; omega)))) (cwV 0 hts (gd_V kw_1682 kw_1549 kw_1550 kw_404 kw_1548) rfl rfl rfl (by decide +kernel) ⟨Nat.le_of_ble_eq_true rfl, Nat.le_of_ble_eq_true rfl⟩) ⟨gblind, va_recv hK hP (ci := 8) (q0 := k_1) rfl hk_91, fun U hU hW9 => gmk hU hW9 hP hK hD hex hE hS hFc⟩ rfl rfl hl.1 rfl (lv_room (Nat.le_of_ble_eq_true rfl)) dX9_makeBetter_60 ⟨(show dc_34_3 + 0 ≤ PC ws + (12) from (by omega)), (show ds_34_3 + 0 ≤ PS ws + (9059) from (by omega))⟩) hS (fun q _ h => hFc q h) hFc (fun r_92 ws_93 t9 H1 locs ht9 hvm9 hw9 hB9 hz9 hk9 hS => ?_)
                    obtain ⟨E_94, Fr_95, hG, hP1, hD1⟩ := hB9
                    have hP : va_P (gD g) cl0 ws_93 H1 := by rw [← ht9]; exact hP1
                    have hD : va_D A ws_93 := hD1.weaken (fun _ _ _ h => hFc _ h)
                    have hz_r_92 : r_92 = 0 ∨ r_92 = 1 := hw9
                    clear hP1 hD1 hz9 hk9 hvm9 ht9 hw9
                    generalize H1 = H at hP hS ⊢
                    have aa_98 := a_r1_91
                    have aa_99 := a_r2_24
                    have aa_100 := a_r3_24
                    have aa_101 := a_r4_24
                    have aa_102 := a_r5_24
                    have o_h0 := E_94.1 _ _ o_h0
                    have pp_103 := Fr_95.pp
                    refine lv_goto (tgt := 72) hx hb dX9_makeBetter_63 (by decide) ?_
                    exact J_72 (r_92) (dc_34_3) (ds_34_3) ws_93 H locs ls hz_r_92 (E_94) ((gF.mo (F' := [(7, 2), (7, 9)]) (C' := [(7, 0), (7, 1), (7, 3), (7, 5), (7, 6), (7, 7), (7, 8), (8, 1), (8, 2), (8, 3), (8, 4)]) (S' := none) Fr_95 (fun _ h => h) (by decide) (Or.inr rfl))) hG (by omega) (by omega) hP hD hS (lv_sub hl [0, 1, 3, 4] rfl)
          exact J_34 _ (0) (1) (dc_18_1) (ds_18_1) ws_45 H locs ls rfl (Or.inl rfl) (by have e1 : (1 : Int32).toInt = 1 := (by decide); omega) (gE.rf) (gF.rf) hG (by omega) (by omega) hP hD hS (lv_sub hl [2, 3, 1, 4, 0] rfl)
  exact J_18 _ (1) (0) (0 + dc_6) (0 + ds_7) ws_30 H locs ls rfl (Or.inr rfl) (by have e0 : (0 : Int32).toInt = 0 := (by decide); omega) (gE.rf) (gF.rf) hG (by omega) (by omega) hP hD hS (lv_sub hl [2, 4, 1, 0] rfl)
