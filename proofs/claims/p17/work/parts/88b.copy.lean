set_option maxHeartbeats 4000000 in
set_option maxRecDepth 100000 in
theorem m_X8_copyFrom_y (l : Launch) (g : Gm) (sz : Nat) (ws : va_W) (h0 : Nat) (b1 : Nat) (hG : Good g ws) (o_h0 : gC ws h0 7) (o_b1 : gC ws b1 7) (ne_b1_h0 : b1 ≠ h0) (fp_k : gP ws h0 (fun fs => ∀ (rn n : Nat), fs[0]? = some (.ref rn) → gI ws rn g.cI n → ∀ (rm m : Nat), fs[3]? = some (.ref rm) → gI ws rm g.cI m → 1296 ≤ n ∧ 1200 ≤ m)) (tk0 : rowC ws b1 RW) : Met l yX8_copyFrom (wt yX8_copyFrom cX8_copyFrom 3 none) ({ frames := 2, cells := 0, slots := 0, locals := 47 }) (va_Pc [.ref h0, .ref b1] (st_G g sz ws)) (va_Qv (fun (u9 : va_W) => (True) ∧ (rowC u9 h0 RW)) (gQ1 g [(7, 2), (7, 4), (7, 9), (7, 11)] [(7, 0), (7, 1), (7, 3), (7, 5), (7, 6), (7, 7), (7, 8)] (some h0) (va_A ws sz) ws) (va_A ws sz)) (0) (0) (va_A ws sz) := by
  refine Met.ofW (cc := cX8_copyFrom) (maxL := 3) (ret := none) (by decide) rfl ?_
  intro p e s m args below meth c s₁ B hml hv
  obtain ⟨rfl, hsz, hP, hK, hD0, hex, hE⟩ := hv
  have hx := B.exec
  have hb := B.bytes
  have hr := B.returns
  have hts0 := atoms_spec (ws := wt yX8_copyFrom cX8_copyFrom 3 none) B.pre
  have hts : ∀ w ∈ tb, w.before _ s = true := fun w h => hts0 w (List.mem_cons_of_mem _ h)
  have hown : s.vm.findClass RX8 = some m.cls := findClass_of_methodNamed B.named
  subst hsz
  have hD := hD0.self (sz := s.heap.size)
  generalize hAe : va_A ws s.heap.size = A at hD hE ⊢
  have hA : ∀ q : Nat, s.heap.size ≤ q → A q := fun q h => by rw [← hAe]; exact Or.inr h
  have hS : va_S A s.heap s.heap [] := va_S.rf
  have hl := lv_entry ([.ref h0, .ref b1]) (n := 3) (Nat.le_of_ble_eq_true rfl)
  rw [lg_entry_eq]
  generalize (lg_sl ([.ref h0, .ref b1]) ++ List.replicate (3 - (lg_sl ([.ref h0, .ref b1])).length) Slot.unset).toArray = ls at hl ⊢
  have hl : lv_has ls 3 [(0, .ref h0), (1, .ref b1)] := hl
  obtain ⟨k_1, fs9, hk_1⟩ := gC_of o_h0
  refine opn_X8 hG hk_1 (fun r0_1 n0_1 r1_1 n1_1 c2_1 r3_1 n3_1 c4_1 r5_1 n5_1 r6_1 n6_1 r7_1 n7_1 r8_1 n8_1 c9_1 c10_1 c11_1 v12_1 v13_1 v14_1 hf9 a_r0_1 f1_1 a_r1_1 f3_1 a_r3_1 f5_1 a_r5_1 f7_1 a_r6_1 f9_1 a_r7_1 f11_1 a_r8_1 f13_1 o_v12_1 o_v13_1 o_v14_1 f17_1 f18_1 f19_1 f20_1 f21_1 f22_1 f23_1 f24_1 f25_1 f26_1 f27_1 f28_1 f29_1 => ?_)
  subst hf9
  have fq_k := fp_k _ _ _ hk_1 _ _ rfl a_r0_1 _ _ rfl a_r3_1
  replace fq_k := hide fq_k
  obtain ⟨k_2, fs9, hk_2⟩ := gC_of o_b1
  refine opn_X8 hG hk_2 (fun r0_2 n0_2 r1_2 n1_2 c2_2 r3_2 n3_2 c4_2 r5_2 n5_2 r6_2 n6_2 r7_2 n7_2 r8_2 n8_2 c9_2 c10_2 c11_2 v12_2 v13_2 v14_2 hf9 a_r0_2 f1_2 a_r1_2 f3_2 a_r3_2 f5_2 a_r5_2 f7_2 a_r6_2 f9_2 a_r7_2 f11_2 a_r8_2 f13_2 o_v12_2 o_v13_2 o_v14_2 f17_2 f18_2 f19_2 f20_2 f21_2 f22_2 f23_2 f24_2 f25_2 f26_2 f27_2 f28_2 f29_2 => ?_)
  subst hf9
  obtain ⟨k_3, f_3, hk_3⟩ := gI_of a_r0_2
  obtain ⟨k_4, f_4, hk_4⟩ := gJ_of a_r1_2
  obtain ⟨k_5, f_5, hk_5⟩ := gI_of a_r3_2
  obtain ⟨fS9, efS9⟩ : ∃ z, z = f_3 := ⟨_, rfl⟩
  obtain ⟨aS9, eaS9⟩ : ∃ z, z = f_4 := ⟨_, rfl⟩
  obtain ⟨tS9, etS9⟩ : ∃ z, z = f_5 := ⟨_, rfl⟩
  obtain ⟨cS9, ecS9⟩ : ∃ z : Int, z = c2_2.toInt := ⟨_, rfl⟩
  obtain ⟨mS9, emS9⟩ : ∃ z : Int, z = c4_2.toInt := ⟨_, rfl⟩
  have hRW9 : RW fS9 aS9 tS9 cS9 mS9 := (by rw [efS9, eaS9, etS9, ecS9, emS9]; exact rowC_at hD hk_2 rfl rfl rfl rfl rfl hk_3 hk_4 hk_5 tk0)
  have tq_6 : rowC ws b1 (RQ fS9 aS9 tS9 cS9 mS9) := rowC_of hk_2 rfl rfl rfl rfl rfl hk_3 hk_4 hk_5 ⟨efS9.symm, eaS9.symm, etS9.symm, ecS9.symm, emS9.symm⟩
  refine lv_aload_n hx hb dX8_copyFrom_0 rfl (lv_at hl 0 rfl) ?_
  refine lv_aload_n hx hb dX8_copyFrom_1 rfl (lv_at hl 1 rfl) ?_
  refine va_get (D := gD g) (ci := 7) (v := .int c11_2) (C := RX8) (T := TX8) (N := 15) hx hb hts inX8 hown hK hP k_2 hk_2 rfl 11 (by decide) (hts _ kw_1488) (fun _ h9 => h9) rfl dX8_copyFrom_2 ?_
  have hV9 : okv ws 7 11 (.int c11_2) := okv_i
  refine va_put (D := gD g) (ci := 7) (v := .int c11_2) (ty := .int) (C := RX8) (T := TX8) (N := 15) hx hb hts inX8 tyX8 tyX8_ok nmX8 hown hK hP hD hS k_1 hk_1 rfl 11 (by decide) (hts _ kw_1488) (fun _ h9 => h9) rfl (by decide +kernel) rfl rfl (Nat.le_of_ble_eq_true rfl) dX8_copyFrom_5 (fun H locs hP hD hS => ?_)
  have hi_7 : invX8 g ws h0 [.ref r0_1, .ref r1_1, .int c2_1, .ref r3_1, .int c4_1, .ref r5_1, .ref r6_1, .ref r7_1, .ref r8_1, .int c9_1, .int c10_1, .int c11_2, va_rf v12_1, va_rf v13_1, va_rf v14_1] := ⟨r0_1, (n0_1), r1_1, (n1_1), (c2_1), r3_1, (n3_1), (c4_1), r5_1, (n5_1), r6_1, (n6_1), r7_1, (n7_1), r8_1, (n8_1), (c9_1), (c10_1), (c11_2), v12_1, v13_1, v14_1, rfl, a_r0_1, f1_1, a_r1_1, f3_1, a_r3_1, f5_1, a_r5_1, f7_1, a_r6_1, f9_1, a_r7_1, f11_1, a_r8_1, f13_1, o_v12_1, o_v13_1, o_v14_1, f17_1, f18_1, f19_1, f20_1, f21_1, f22_1, f23_1, f24_1, f25_1, f26_1, f27_1, f28_1, f29_1, trivial⟩
  obtain ⟨ws_8, e_ws_8⟩ : ∃ z, z = ws.set k_1 (h0, .inr (7, [.ref r0_1, .ref r1_1, .int c2_1, .ref r3_1, .int c4_1, .ref r5_1, .ref r6_1, .ref r7_1, .ref r8_1, .int c9_1, .int c10_1, .int c11_2, va_rf v12_1, va_rf v13_1, va_rf v14_1])) := ⟨_, rfl⟩
  have hP : va_P (gD g) cl0 ws_8 H := by rw [e_ws_8]; exact hP
  have hD : va_D A ws_8 := by rw [e_ws_8]; exact hD
  have E_9 : gE ws ws_8 := gE_set e_ws_8 hk_1 (cw_o (fi := 11) (v := .int c11_2) rfl (by decide))
  have hG : Good g ws_8 := Good_set (fi := 11) (v := .int c11_2) e_ws_8 hk_1 E_9 rfl hV9 hG (ivX8 hi_7)
  have Fr_10 : gF [(7, 11)] [] (some h0) ws ws_8 := gF_put (fi := 11) (v := .int c11_2) e_ws_8 hk_1 rfl (by decide)
  have hkN := gset_self e_ws_8 hk_1
  have aa_11 := a_r0_2
  have aa_12 := a_r1_2
  have aa_13 := a_r3_2
  have aa_14 := a_r5_2
  have aa_15 := a_r6_2
  have aa_16 := a_r7_2
  have aa_17 := a_r8_2
  have hk_3 := gset_obI e_ws_8 hk_1 hk_3
  have hk_4 := gset_obI e_ws_8 hk_1 hk_4
  have hk_5 := gset_obI e_ws_8 hk_1 hk_5
  have hk_1 := hkN
  have o_h0 := E_9.1 _ _ o_h0
  have o_b1 := E_9.1 _ _ o_b1
  have a_r0_1 := E_9.1 _ _ a_r0_1
  have a_r1_1 := E_9.1 _ _ a_r1_1
  have a_r3_1 := E_9.1 _ _ a_r3_1
  have a_r5_1 := E_9.1 _ _ a_r5_1
  have a_r6_1 := E_9.1 _ _ a_r6_1
  have a_r7_1 := E_9.1 _ _ a_r7_1
  have a_r8_1 := E_9.1 _ _ a_r8_1
  have o_v12_1 : ∀ b, v12_1 = some b → ∃ n, gI ws_8 b g.cB n ∧ n < 2147483648 := fun b h => (o_v12_1 b h).imp (fun n h => ⟨E_9.1 _ _ h.1, h.2⟩)
  have o_v13_1 : ∀ b, v13_1 = some b → ∃ n, gJ ws_8 b g.cL n ∧ n < 2147483648 := fun b h => (o_v13_1 b h).imp (fun n h => ⟨E_9.1 _ _ h.1, h.2⟩)
  have o_v14_1 : ∀ b, v14_1 = some b → ∃ n, gJ ws_8 b g.cL n ∧ n < 2147483648 := fun b h => (o_v14_1 b h).imp (fun n h => ⟨E_9.1 _ _ h.1, h.2⟩)
  refine lv_aload_n hx hb dX8_copyFrom_8 rfl (lv_at hl 0 rfl) ?_
  refine lv_iconst (v := 0) hx hb dX8_copyFrom_9 (by decide) ?_
  have hV9 : okv ws_8 7 2 (.int 0) := okv_i
  refine va_put (D := gD g) (ci := 7) (v := .int 0) (ty := .int) (C := RX8) (T := TX8) (N := 15) hx hb hts inX8 tyX8 tyX8_ok nmX8 hown hK hP hD hS k_1 hk_1 rfl 2 (by decide) (hts _ kw_1459) (fun _ h9 => h9) rfl (by decide +kernel) rfl rfl (Nat.le_of_ble_eq_true rfl) dX8_copyFrom_10 (fun H locs hP hD hS => ?_)
  have f_18 : 0 ≤ (0 : Int32).toInt := (by have e0 : (0 : Int32).toInt = 0 := (by decide); omega)
  replace f_18 := hide f_18
  have f_19 : (0 : Int32).toInt ≤ n0_1 := (by first | (have e0 : (0 : Int32).toInt = 0 := (by decide); have q_f1_1 := Hide.out f1_1; have q_f17_1 := Hide.out f17_1; have q_f18_1 := Hide.out f18_1; have q_f20_1 := Hide.out f20_1; have q_fq_k := Hide.out fq_k; have q_f_18 := Hide.out f_18; have g_c2_1 := i_rg c2_1; omega) | (have e0 : (0 : Int32).toInt = 0 := (by decide); have q_f1_1 := Hide.out f1_1; have q_f17_1 := Hide.out f17_1; have q_f18_1 := Hide.out f18_1; have q_f20_1 := Hide.out f20_1; have q_fq_k := Hide.out fq_k; have q_f_18 := Hide.out f_18; have q_f3_1 := Hide.out f3_1; have q_f5_1 := Hide.out f5_1; have q_f19_1 := Hide.out f19_1; have q_f22_1 := Hide.out f22_1; have q_f28_1 := Hide.out f28_1; have g_c2_1 := i_rg c2_1; have g_c4_1 := i_rg c4_1; omega) | (have e0 : (0 : Int32).toInt = 0 := (by decide); have q_f1_1 := Hide.out f1_1; have q_f17_1 := Hide.out f17_1; have q_f18_1 := Hide.out f18_1; have q_f20_1 := Hide.out f20_1; have q_fq_k := Hide.out fq_k; have q_f_18 := Hide.out f_18; have q_f3_1 := Hide.out f3_1; have q_f5_1 := Hide.out f5_1; have q_f19_1 := Hide.out f19_1; have q_f22_1 := Hide.out f22_1; have q_f28_1 := Hide.out f28_1; have q_f21_1 := Hide.out f21_1; have g_c2_1 := i_rg c2_1; have g_c4_1 := i_rg c4_1; omega))
  replace f_19 := hide f_19
  have hi_20 : invX8 g ws_8 h0 [.ref r0_1, .ref r1_1, .int 0, .ref r3_1, .int c4_1, .ref r5_1, .ref r6_1, .ref r7_1, .ref r8_1, .int c9_1, .int c10_1, .int c11_2, va_rf v12_1, va_rf v13_1, va_rf v14_1] := ⟨r0_1, (n0_1), r1_1, (n1_1), (0), r3_1, (n3_1), (c4_1), r5_1, (n5_1), r6_1, (n6_1), r7_1, (n7_1), r8_1, (n8_1), (c9_1), (c10_1), (c11_2), v12_1, v13_1, v14_1, rfl, a_r0_1, f1_1, a_r1_1, f3_1, a_r3_1, f5_1, a_r5_1, f7_1, a_r6_1, f9_1, a_r7_1, f11_1, a_r8_1, f13_1, o_v12_1, o_v13_1, o_v14_1, f17_1, f18_1, f_18, f_19, f21_1, f22_1, f23_1, f24_1, f25_1, f26_1, f27_1, f28_1, f29_1, trivial⟩
  obtain ⟨ws_21, e_ws_21⟩ : ∃ z, z = ws_8.set k_1 (h0, .inr (7, [.ref r0_1, .ref r1_1, .int 0, .ref r3_1, .int c4_1, .ref r5_1, .ref r6_1, .ref r7_1, .ref r8_1, .int c9_1, .int c10_1, .int c11_2, va_rf v12_1, va_rf v13_1, va_rf v14_1])) := ⟨_, rfl⟩
  have hP : va_P (gD g) cl0 ws_21 H := by rw [e_ws_21]; exact hP
  have hD : va_D A ws_21 := by rw [e_ws_21]; exact hD
  have E_22 : gE ws_8 ws_21 := gE_set e_ws_21 hk_1 (cw_o (fi := 2) (v := .int 0) rfl (by decide))
  have hG : Good g ws_21 := Good_set (fi := 2) (v := .int 0) e_ws_21 hk_1 E_22 rfl hV9 hG (ivX8 hi_20)
  have Fr_23 : gF [(7, 2)] [] (some h0) ws_8 ws_21 := gF_put (fi := 2) (v := .int 0) e_ws_21 hk_1 rfl (by decide)
  have hkN := gset_self e_ws_21 hk_1
  have hk_3 := gset_obI e_ws_21 hk_1 hk_3
  have hk_4 := gset_obI e_ws_21 hk_1 hk_4
  have hk_5 := gset_obI e_ws_21 hk_1 hk_5
  have hk_1 := hkN
  have o_h0 := E_22.1 _ _ o_h0
  have o_b1 := E_22.1 _ _ o_b1
  have a_r0_1 := E_22.1 _ _ a_r0_1
  have a_r1_1 := E_22.1 _ _ a_r1_1
  have a_r3_1 := E_22.1 _ _ a_r3_1
  have a_r5_1 := E_22.1 _ _ a_r5_1
  have a_r6_1 := E_22.1 _ _ a_r6_1
  have a_r7_1 := E_22.1 _ _ a_r7_1
  have a_r8_1 := E_22.1 _ _ a_r8_1
  have o_v12_1 : ∀ b, v12_1 = some b → ∃ n, gI ws_21 b g.cB n ∧ n < 2147483648 := fun b h => (o_v12_1 b h).imp (fun n h => ⟨E_22.1 _ _ h.1, h.2⟩)
  have o_v13_1 : ∀ b, v13_1 = some b → ∃ n, gJ ws_21 b g.cL n ∧ n < 2147483648 := fun b h => (o_v13_1 b h).imp (fun n h => ⟨E_22.1 _ _ h.1, h.2⟩)
  have o_v14_1 : ∀ b, v14_1 = some b → ∃ n, gJ ws_21 b g.cL n ∧ n < 2147483648 := fun b h => (o_v14_1 b h).imp (fun n h => ⟨E_22.1 _ _ h.1, h.2⟩)
  obtain ⟨k_24, f_24, hk_24⟩ := gI_of a_r0_1
  obtain ⟨k_25, f_25, hk_25⟩ := gJ_of a_r1_1
  obtain ⟨k_26, f_26, hk_26⟩ := gI_of a_r3_1
  have tq_27 : rowC ws_21 h0 (CP fS9 aS9 (0 : Int32).toInt) := rowC_of hk_1 rfl rfl rfl rfl rfl hk_24 hk_25 hk_26 ⟨rfl, fun j9 h9 => absurd h9 (by have e9 : (0 : Int32).toInt = 0 := rfl; omega)⟩
  refine lv_iconst (v := 0) hx hb dX8_copyFrom_13 (by decide) ?_
  refine lv_istore_n (lv' := [(2, .int 0), (0, .ref h0), (1, .ref b1)]) hx hb dX8_copyFrom_14 rfl hl (by decide) rfl (fun ls hl => ?_)
  obtain ⟨fs9, hk_30, hq_30⟩ := ((gA.tr (gF.s (F' := []) Fr_10 ne_b1_h0) (gF.s (F' := []) Fr_23 ne_b1_h0))) _ _ _ hk_2
  refine opn_X8 hG hk_30 (fun r0_30 n0_30 r1_30 n1_30 c2_30 r3_30 n3_30 c4_30 r5_30 n5_30 r6_30 n6_30 r7_30 n7_30 r8_30 n8_30 c9_30 c10_30 c11_30 v12_30 v13_30 v14_30 hf9 a_r0_30 f1_30 a_r1_30 f3_30 a_r3_30 f5_30 a_r5_30 f7_30 a_r6_30 f9_30 a_r7_30 f11_30 a_r8_30 f13_30 o_v12_30 o_v13_30 o_v14_30 f17_30 f18_30 f19_30 f20_30 f21_30 f22_30 f23_30 f24_30 f25_30 f26_30 f27_30 f28_30 f29_30 => ?_)
  subst hf9
  obtain rfl := fe_r (hq_30 0 (by decide))
  have hn9 := gI_n hD (((E_9.tr E_22)).1 _ _ aa_11) a_r0_30
  subst hn9
  have a_r0_2 := a_r0_30
  obtain rfl := fe_r (hq_30 1 (by decide))
  have hn9 := gI_n hD (((E_9.tr E_22)).1 _ _ aa_12) a_r1_30
  subst hn9
  have a_r1_2 := a_r1_30
  obtain rfl := fe_i (hq_30 2 (by decide))
  obtain rfl := fe_r (hq_30 3 (by decide))
  have hn9 := gI_n hD (((E_9.tr E_22)).1 _ _ aa_13) a_r3_30
  subst hn9
  have a_r3_2 := a_r3_30
  obtain rfl := fe_i (hq_30 4 (by decide))
  obtain rfl := fe_r (hq_30 5 (by decide))
  have hn9 := gI_n hD (((E_9.tr E_22)).1 _ _ aa_14) a_r5_30
  subst hn9
  have a_r5_2 := a_r5_30
  obtain rfl := fe_r (hq_30 6 (by decide))
  have hn9 := gI_n hD (((E_9.tr E_22)).1 _ _ aa_15) a_r6_30
  subst hn9
  have a_r6_2 := a_r6_30
  obtain rfl := fe_r (hq_30 7 (by decide))
  have hn9 := gI_n hD (((E_9.tr E_22)).1 _ _ aa_16) a_r7_30
  subst hn9
  have a_r7_2 := a_r7_30
  obtain rfl := fe_r (hq_30 8 (by decide))
  have hn9 := gI_n hD (((E_9.tr E_22)).1 _ _ aa_17) a_r8_30
  subst hn9
  have a_r8_2 := a_r8_30
  obtain rfl := fe_i (hq_30 9 (by decide))
  obtain rfl := fe_i (hq_30 11 (by decide))
  have J_15 : ∀ (n9 : Nat) (v2_28 : Int32) (ws_32 : va_W) (H : Heap) (locs : List Loc) (ls : Array Slot), (2147483647 - v2_28.toInt).toNat = n9 → 0 ≤ v2_28.toInt → v2_28.toInt ≤ c2_2.toInt → gE ws_21 ws_32 → gF [(7, 2)] [(7, 0), (7, 1)] (some h0) ws_21 ws_32 → Good g ws_32 → rowC ws_32 h0 (CP fS9 aS9 v2_28.toInt) → va_P (gD g) cl0 ws_32 H → va_D A ws_32 → va_S A s.heap H locs → lv_has ls 3 [(0, .ref h0), (1, .ref b1), (2, .int v2_28)] → W p l e (headSpec (wt yX8_copyFrom cX8_copyFrom 3 none) ({ frames := 2, cells := 0, slots := 0, locals := 47 })).room s m ([.ref h0, .ref b1] : List Value).toArray below meth c H locs (0) (0) (MQ below (va_Qv (fun (u9 : va_W) => (True) ∧ (rowC u9 h0 RW)) (gQ1 g [(7, 2), (7, 4), (7, 9), (7, 11)] [(7, 0), (7, 1), (7, 3), (7, 5), (7, 6), (7, 7), (7, 8)] (some h0) A ws) A) ([.ref h0, .ref b1] : List Value).toArray s (0) (0) A) (F0 m 15 ls []) := by
    intro n9
    induction n9 using Nat.strongRecOn with
    | ind n9 ih_15 =>
      intro v2_28 ws_32 H locs ls hm9 iv_29 iv_31 E_33 Fr_34 hG jx_15_0 hP hD hS hl
      subst hm9
      replace iv_29 := hide iv_29
      replace iv_31 := hide iv_31
      have aa_35 := a_r0_1
      have aa_36 := a_r1_1
      have aa_37 := a_r3_1
      have aa_38 := a_r5_1
      have aa_39 := a_r6_1
      have aa_40 := a_r7_1
      have aa_41 := a_r8_1
      have aa_42 := a_r0_2
      have aa_43 := a_r1_2
      have aa_44 := a_r3_2
      have aa_45 := a_r5_2
      have aa_46 := a_r6_2
      have aa_47 := a_r7_2
      have aa_48 := a_r8_2
      have o_h0 := E_33.1 _ _ o_h0
      have o_b1 := E_33.1 _ _ o_b1
      refine lv_iload_n hx hb dX8_copyFrom_15 rfl (lv_at hl 2 rfl) ?_
      refine lv_aload_n hx hb dX8_copyFrom_16 rfl (lv_at hl 1 rfl) ?_
      obtain ⟨fs9, hk_49, hq_49⟩ := ((gF.s (F' := []) Fr_34 ne_b1_h0)) _ _ _ hk_30
      refine opn_X8 hG hk_49 (fun r0_49 n0_49 r1_49 n1_49 c2_49 r3_49 n3_49 c4_49 r5_49 n5_49 r6_49 n6_49 r7_49 n7_49 r8_49 n8_49 c9_49 c10_49 c11_49 v12_49 v13_49 v14_49 hf9 a_r0_49 f1_49 a_r1_49 f3_49 a_r3_49 f5_49 a_r5_49 f7_49 a_r6_49 f9_49 a_r7_49 f11_49 a_r8_49 f13_49 o_v12_49 o_v13_49 o_v14_49 f17_49 f18_49 f19_49 f20_49 f21_49 f22_49 f23_49 f24_49 f25_49 f26_49 f27_49 f28_49 f29_49 => ?_)
      subst hf9
      obtain rfl := fe_r (hq_49 0 (by decide))
      have hn9 := gI_n hD ((E_33).1 _ _ aa_42) a_r0_49
      subst hn9
      have a_r0_2 := a_r0_49
      obtain rfl := fe_r (hq_49 1 (by decide))
      have hn9 := gI_n hD ((E_33).1 _ _ aa_43) a_r1_49
      subst hn9
      have a_r1_2 := a_r1_49
      obtain rfl := fe_i (hq_49 2 (by decide))
      obtain rfl := fe_r (hq_49 3 (by decide))
      have hn9 := gI_n hD ((E_33).1 _ _ aa_44) a_r3_49
      subst hn9
      have a_r3_2 := a_r3_49
      obtain rfl := fe_i (hq_49 4 (by decide))
      obtain rfl := fe_r (hq_49 5 (by decide))
      have hn9 := gI_n hD ((E_33).1 _ _ aa_45) a_r5_49
      subst hn9
      have a_r5_2 := a_r5_49
      obtain rfl := fe_r (hq_49 6 (by decide))
      have hn9 := gI_n hD ((E_33).1 _ _ aa_46) a_r6_49
      subst hn9
      have a_r6_2 := a_r6_49
      obtain rfl := fe_r (hq_49 7 (by decide))
      have hn9 := gI_n hD ((E_33).1 _ _ aa_47) a_r7_49
      subst hn9
      have a_r7_2 := a_r7_49
      obtain rfl := fe_r (hq_49 8 (by decide))
      have hn9 := gI_n hD ((E_33).1 _ _ aa_48) a_r8_49
      subst hn9
      have a_r8_2 := a_r8_49
      obtain rfl := fe_i (hq_49 9 (by decide))
      obtain rfl := fe_i (hq_49 11 (by decide))
      obtain ⟨k_50, f_50, hk_50⟩ := gI_of a_r0_2
      obtain ⟨k_51, f_51, hk_51⟩ := gJ_of a_r1_2
      obtain ⟨k_52, f_52, hk_52⟩ := gI_of a_r3_2
      have tq_54 : rowC ws_32 b1 (RQ fS9 aS9 tS9 cS9 mS9) := (rowC_ms Fr_34 ne_b1_h0 (rowC_ms Fr_23 ne_b1_h0 (rowC_mo Fr_10 (by decide) (by decide) (by decide) (by decide) (by decide) (by decide) (by decide) (by decide) tq_6)))
      have rq_53 := rowC_at hD hk_49 rfl rfl rfl rfl rfl hk_50 hk_51 hk_52 tq_54
      have rn_55 := And.intro rq_53.2.2.2.1 rq_53.2.2.2.2
      replace rn_55 := hide rn_55
      refine va_get (D := gD g) (ci := 7) (v := .int c2_2) (C := RX8) (T := TX8) (N := 15) hx hb hts inX8 hown hK hP k_2 hk_49 rfl 2 (by decide) (hts _ kw_1459) (fun _ h9 => h9) rfl dX8_copyFrom_17 ?_
      refine lv_icmp_ge (tgt := 45) hx hb dX8_copyFrom_20 (by decide) (fun c_56 => ?_) (fun c_56 => ?_)
      · refine lv_aload_n hx hb dX8_copyFrom_45 rfl (lv_at hl 0 rfl) ?_
        refine lv_iconst (v := 0) hx hb dX8_copyFrom_46 (by decide) ?_
        obtain ⟨fs9, hk_57, hq_57⟩ := ((gF.a (F' := [(7, 2)]) Fr_34 (fun _ h => h))) _ _ _ hk_1
        refine opn_X8 hG hk_57 (fun r0_57 n0_57 r1_57 n1_57 c2_57 r3_57 n3_57 c4_57 r5_57 n5_57 r6_57 n6_57 r7_57 n7_57 r8_57 n8_57 c9_57 c10_57 c11_57 v12_57 v13_57 v14_57 hf9 a_r0_57 f1_57 a_r1_57 f3_57 a_r3_57 f5_57 a_r5_57 f7_57 a_r6_57 f9_57 a_r7_57 f11_57 a_r8_57 f13_57 o_v12_57 o_v13_57 o_v14_57 f17_57 f18_57 f19_57 f20_57 f21_57 f22_57 f23_57 f24_57 f25_57 f26_57 f27_57 f28_57 f29_57 => ?_)
        subst hf9
        obtain rfl := fe_r (hq_57 0 (by decide))
        have hn9 := gI_n hD ((E_33).1 _ _ aa_35) a_r0_57
        subst hn9
        have a_r0_1 := a_r0_57
        obtain rfl := fe_r (hq_57 1 (by decide))
        have hn9 := gI_n hD ((E_33).1 _ _ aa_36) a_r1_57
        subst hn9
        have a_r1_1 := a_r1_57
        obtain rfl := fe_r (hq_57 3 (by decide))
        have hn9 := gI_n hD ((E_33).1 _ _ aa_37) a_r3_57
        subst hn9
        have a_r3_1 := a_r3_57
        obtain rfl := fe_i (hq_57 4 (by decide))
        obtain rfl := fe_r (hq_57 5 (by decide))
        have hn9 := gI_n hD ((E_33).1 _ _ aa_38) a_r5_57
        subst hn9
        have a_r5_1 := a_r5_57
        obtain rfl := fe_r (hq_57 6 (by decide))
        have hn9 := gI_n hD ((E_33).1 _ _ aa_39) a_r6_57
        subst hn9
        have a_r6_1 := a_r6_57
        obtain rfl := fe_r (hq_57 7 (by decide))
        have hn9 := gI_n hD ((E_33).1 _ _ aa_40) a_r7_57
        subst hn9
        have a_r7_1 := a_r7_57
        obtain rfl := fe_r (hq_57 8 (by decide))
        have hn9 := gI_n hD ((E_33).1 _ _ aa_41) a_r8_57
        subst hn9
        have a_r8_1 := a_r8_57
        obtain rfl := fe_i (hq_57 9 (by decide))
        obtain rfl := fe_i (hq_57 11 (by decide))
        have hkS := hk_57
        have hDS := hD
        have hUS := hG.u
        have hV9 : okv ws_32 7 4 (.int 0) := okv_i
        refine va_put (D := gD g) (ci := 7) (v := .int 0) (ty := .int) (C := RX8) (T := TX8) (N := 15) hx hb hts inX8 tyX8 tyX8_ok nmX8 hown hK hP hD hS k_1 hk_57 rfl 4 (by decide) (hts _ kw_1473) (fun _ h9 => h9) rfl (by decide +kernel) rfl rfl (Nat.le_of_ble_eq_true rfl) dX8_copyFrom_47 (fun H locs hP hD hS => ?_)
        have f_58 : 0 ≤ (0 : Int32).toInt := (by have e0 : (0 : Int32).toInt = 0 := (by decide); have q_f_18 := Hide.out f_18; omega)
        replace f_58 := hide f_58
        have f_59 : (0 : Int32).toInt ≤ n3_1 := (by first | (have e0 : (0 : Int32).toInt = 0 := (by decide); have q_f5_1 := Hide.out f5_1; have q_f22_1 := Hide.out f22_1; have q_f28_1 := Hide.out f28_1; have q_fq_k := Hide.out fq_k; have q_f_18 := Hide.out f_18; have q_f_58 := Hide.out f_58; have g_c4_1 := i_rg c4_1; omega) | (have e0 : (0 : Int32).toInt = 0 := (by decide); have q_f5_1 := Hide.out f5_1; have q_f22_1 := Hide.out f22_1; have q_f28_1 := Hide.out f28_1; have q_fq_k := Hide.out fq_k; have q_f_18 := Hide.out f_18; have q_f_58 := Hide.out f_58; have q_f1_1 := Hide.out f1_1; have q_f17_1 := Hide.out f17_1; have q_f18_1 := Hide.out f18_1; have q_f20_1 := Hide.out f20_1; have q_f21_1 := Hide.out f21_1; have q_f_19 := Hide.out f_19; have q_f20_57 := Hide.out f20_57; have g_c2_1 := i_rg c2_1; have g_c2_57 := i_rg c2_57; have g_c4_1 := i_rg c4_1; omega) | (have e0 : (0 : Int32).toInt = 0 := (by decide); have q_f5_1 := Hide.out f5_1; have q_f22_1 := Hide.out f22_1; have q_f28_1 := Hide.out f28_1; have q_fq_k := Hide.out fq_k; have q_f_18 := Hide.out f_18; have q_f_58 := Hide.out f_58; have q_f1_1 := Hide.out f1_1; have q_f17_1 := Hide.out f17_1; have q_f18_1 := Hide.out f18_1; have q_f20_1 := Hide.out f20_1; have q_f21_1 := Hide.out f21_1; have q_f_19 := Hide.out f_19; have q_f20_57 := Hide.out f20_57; have q_f3_1 := Hide.out f3_1; have q_f19_1 := Hide.out f19_1; have q_f19_57 := Hide.out f19_57; have g_c2_1 := i_rg c2_1; have g_c2_57 := i_rg c2_57; have g_c4_1 := i_rg c4_1; omega))
        replace f_59 := hide f_59
        have hi_60 : invX8 g ws_32 h0 [.ref r0_1, .ref r1_1, .int c2_57, .ref r3_1, .int 0, .ref r5_1, .ref r6_1, .ref r7_1, .ref r8_1, .int c9_1, .int c10_57, .int c11_2, va_rf v12_57, va_rf v13_57, va_rf v14_57] := ⟨r0_1, (n0_1), r1_1, (n1_1), (c2_57), r3_1, (n3_1), (0), r5_1, (n5_1), r6_1, (n6_1), r7_1, (n7_1), r8_1, (n8_1), (c9_1), (c10_57), (c11_2), v12_57, v13_57, v14_57, rfl, a_r0_1, f1_57, a_r1_1, f3_57, a_r3_1, f5_57, a_r5_1, f7_57, a_r6_1, f9_57, a_r7_1, f11_57, a_r8_1, f13_57, o_v12_57, o_v13_57, o_v14_57, f17_57, f18_57, f19_57, f20_57, f_58, f_59, f23_57, f24_57, f25_57, f26_57, f27_57, f28_57, f29_57, trivial⟩
        obtain ⟨ws_61, e_ws_61⟩ : ∃ z, z = ws_32.set k_1 (h0, .inr (7, [.ref r0_1, .ref r1_1, .int c2_57, .ref r3_1, .int 0, .ref r5_1, .ref r6_1, .ref r7_1, .ref r8_1, .int c9_1, .int c10_57, .int c11_2, va_rf v12_57, va_rf v13_57, va_rf v14_57])) := ⟨_, rfl⟩
        have hP : va_P (gD g) cl0 ws_61 H := by rw [e_ws_61]; exact hP
        have hD : va_D A ws_61 := by rw [e_ws_61]; exact hD
        have E_62 : gE ws_32 ws_61 := gE_set e_ws_61 hk_57 (cw_o (fi := 4) (v := .int 0) rfl (by decide))
        have hG : Good g ws_61 := Good_set (fi := 4) (v := .int 0) e_ws_61 hk_57 E_62 rfl hV9 hG (ivX8 hi_60)
        have Fr_63 : gF [(7, 4)] [] (some h0) ws_32 ws_61 := gF_put (fi := 4) (v := .int 0) e_ws_61 hk_57 rfl (by decide)
        have hkN := gset_self e_ws_61 hk_57
        have aa_64 := a_r0_2
        have aa_65 := a_r1_2
        have aa_66 := a_r3_2
        have aa_67 := a_r5_2
        have aa_68 := a_r6_2
        have aa_69 := a_r7_2
        have aa_70 := a_r8_2
        have hk_50 := gset_obI e_ws_61 hk_57 hk_50
        have hk_51 := gset_obI e_ws_61 hk_57 hk_51
        have hk_52 := gset_obI e_ws_61 hk_57 hk_52
        have hk_57 := hkN
        have o_h0 := E_62.1 _ _ o_h0
        have o_b1 := E_62.1 _ _ o_b1
        have o_v12_57 : ∀ b, v12_57 = some b → ∃ n, gI ws_61 b g.cB n ∧ n < 2147483648 := fun b h => (o_v12_57 b h).imp (fun n h => ⟨E_62.1 _ _ h.1, h.2⟩)
        have o_v13_57 : ∀ b, v13_57 = some b → ∃ n, gJ ws_61 b g.cL n ∧ n < 2147483648 := fun b h => (o_v13_57 b h).imp (fun n h => ⟨E_62.1 _ _ h.1, h.2⟩)
        have o_v14_57 : ∀ b, v14_57 = some b → ∃ n, gJ ws_61 b g.cL n ∧ n < 2147483648 := fun b h => (o_v14_57 b h).imp (fun n h => ⟨E_62.1 _ _ h.1, h.2⟩)
        have a_r0_1 := E_62.1 _ _ a_r0_1
        have a_r1_1 := E_62.1 _ _ a_r1_1
        have a_r3_1 := E_62.1 _ _ a_r3_1
        have a_r5_1 := E_62.1 _ _ a_r5_1
        have a_r6_1 := E_62.1 _ _ a_r6_1
        have a_r7_1 := E_62.1 _ _ a_r7_1
        have a_r8_1 := E_62.1 _ _ a_r8_1
        obtain ⟨fs9, hk_71, hq_71⟩ := ((gF.s (F' := []) Fr_63 ne_b1_h0)) _ _ _ hk_49
        refine opn_X8 hG hk_71 (fun r0_71 n0_71 r1_71 n1_71 c2_71 r3_71 n3_71 c4_71 r5_71 n5_71 r6_71 n6_71 r7_71 n7_71 r8_71 n8_71 c9_71 c10_71 c11_71 v12_71 v13_71 v14_71 hf9 a_r0_71 f1_71 a_r1_71 f3_71 a_r3_71 f5_71 a_r5_71 f7_71 a_r6_71 f9_71 a_r7_71 f11_71 a_r8_71 f13_71 o_v12_71 o_v13_71 o_v14_71 f17_71 f18_71 f19_71 f20_71 f21_71 f22_71 f23_71 f24_71 f25_71 f26_71 f27_71 f28_71 f29_71 => ?_)
        subst hf9
        obtain rfl := fe_r (hq_71 0 (by decide))
        have hn9 := gI_n hD ((E_62).1 _ _ aa_64) a_r0_71
        subst hn9
        have a_r0_2 := a_r0_71
        obtain rfl := fe_r (hq_71 1 (by decide))
        have hn9 := gI_n hD ((E_62).1 _ _ aa_65) a_r1_71
        subst hn9
        have a_r1_2 := a_r1_71
        obtain rfl := fe_i (hq_71 2 (by decide))
        obtain rfl := fe_r (hq_71 3 (by decide))
        have hn9 := gI_n hD ((E_62).1 _ _ aa_66) a_r3_71
        subst hn9
        have a_r3_2 := a_r3_71
        obtain rfl := fe_i (hq_71 4 (by decide))
        obtain rfl := fe_r (hq_71 5 (by decide))
        have hn9 := gI_n hD ((E_62).1 _ _ aa_67) a_r5_71
        subst hn9
        have a_r5_2 := a_r5_71
        obtain rfl := fe_r (hq_71 6 (by decide))
        have hn9 := gI_n hD ((E_62).1 _ _ aa_68) a_r6_71
        subst hn9
        have a_r6_2 := a_r6_71
        obtain rfl := fe_r (hq_71 7 (by decide))
        have hn9 := gI_n hD ((E_62).1 _ _ aa_69) a_r7_71
        subst hn9
        have a_r7_2 := a_r7_71
        obtain rfl := fe_r (hq_71 8 (by decide))
        have hn9 := gI_n hD ((E_62).1 _ _ aa_70) a_r8_71
        subst hn9
        have a_r8_2 := a_r8_71
        obtain rfl := fe_i (hq_71 9 (by decide))
        obtain rfl := fe_i (hq_71 11 (by decide))
        have tq_72 : rowC ws_61 h0 (CT fS9 aS9 tS9 cS9 (0 : Int32).toInt) := rowC_m e_ws_61 hDS hkS rfl (c0 := c4_1) rfl jx_15_0 (fun _ _ _ _ w => ⟨(by have e9 : v2_28.toInt = cS9 := (by first | (have e0 : (0 : Int32).toInt = 0 := (by decide); have q_f19_2 := Hide.out f19_2; have q_f20_2 := Hide.out f20_2; have q_f_18 := Hide.out f_18; have q_iv_29 := Hide.out iv_29; have q_iv_31 := Hide.out iv_31; have q_rn_55 := Hide.out rn_55; have q_c_56 := i_le c_56; have q_f_58 := Hide.out f_58; have g_c2_2 := i_rg c2_2; have g_c4_2 := i_rg c4_2; have g_v2_28 := i_rg v2_28; omega) | (have e0 : (0 : Int32).toInt = 0 := (by decide); have q_f19_2 := Hide.out f19_2; have q_f20_2 := Hide.out f20_2; have q_f_18 := Hide.out f_18; have q_iv_29 := Hide.out iv_29; have q_iv_31 := Hide.out iv_31; have q_rn_55 := Hide.out rn_55; have q_c_56 := i_le c_56; have q_f_58 := Hide.out f_58; have q_f1_2 := Hide.out f1_2; have q_f17_2 := Hide.out f17_2; have q_f18_2 := Hide.out f18_2; have q_f21_2 := Hide.out f21_2; have q_f22_2 := Hide.out f22_2; have g_c2_2 := i_rg c2_2; have g_c4_2 := i_rg c4_2; have g_v2_28 := i_rg v2_28; omega) | (have e0 : (0 : Int32).toInt = 0 := (by decide); have q_f19_2 := Hide.out f19_2; have q_f20_2 := Hide.out f20_2; have q_f_18 := Hide.out f_18; have q_iv_29 := Hide.out iv_29; have q_iv_31 := Hide.out iv_31; have q_rn_55 := Hide.out rn_55; have q_c_56 := i_le c_56; have q_f_58 := Hide.out f_58; have q_f1_2 := Hide.out f1_2; have q_f17_2 := Hide.out f17_2; have q_f18_2 := Hide.out f18_2; have q_f21_2 := Hide.out f21_2; have q_f22_2 := Hide.out f22_2; have q_f3_2 := Hide.out f3_2; have q_f5_2 := Hide.out f5_2; have q_f28_2 := Hide.out f28_2; have g_c2_2 := i_rg c2_2; have g_c4_2 := i_rg c4_2; have g_v2_28 := i_rg v2_28; omega)); rw [e9] at w; exact w), rfl, fun j9 h9 => absurd h9 (by have e9 : (0 : Int32).toInt = 0 := rfl; omega)⟩)
        refine lv_iconst (v := 0) hx hb dX8_copyFrom_50 (by decide) ?_
        refine lv_istore_n (lv' := [(2, .int 0), (0, .ref h0), (1, .ref b1)]) hx hb dX8_copyFrom_51 rfl hl (by decide) rfl (fun ls hl => ?_)
        have J_52 : ∀ (n9 : Nat) (v2_73 : Int32) (ws_76 : va_W) (H : Heap) (locs : List Loc) (ls : Array Slot), (2147483647 - v2_73.toInt).toNat = n9 → 0 ≤ v2_73.toInt → v2_73.toInt ≤ c4_2.toInt → gE ws_61 ws_76 → gF [(7, 4)] [(7, 3)] (some h0) ws_61 ws_76 → Good g ws_76 → rowC ws_76 h0 (CT fS9 aS9 tS9 cS9 v2_73.toInt) → va_P (gD g) cl0 ws_76 H → va_D A ws_76 → va_S A s.heap H locs → lv_has ls 3 [(0, .ref h0), (1, .ref b1), (2, .int v2_73)] → W p l e (headSpec (wt yX8_copyFrom cX8_copyFrom 3 none) ({ frames := 2, cells := 0, slots := 0, locals := 47 })).room s m ([.ref h0, .ref b1] : List Value).toArray below meth c H locs (0) (0) (MQ below (va_Qv (fun (u9 : va_W) => (True) ∧ (rowC u9 h0 RW)) (gQ1 g [(7, 2), (7, 4), (7, 9), (7, 11)] [(7, 0), (7, 1), (7, 3), (7, 5), (7, 6), (7, 7), (7, 8)] (some h0) A ws) A) ([.ref h0, .ref b1] : List Value).toArray s (0) (0) A) (F0 m 52 ls []) := by
          intro n9
          induction n9 using Nat.strongRecOn with
          | ind n9 ih_52 =>
            intro v2_73 ws_76 H locs ls hm9 iv_74 iv_75 E_77 Fr_78 hG jx_52_0 hP hD hS hl
            subst hm9
            replace iv_74 := hide iv_74
            replace iv_75 := hide iv_75
            have aa_79 := a_r0_1
            have aa_80 := a_r1_1
            have aa_81 := a_r3_1
            have aa_82 := a_r5_1
            have aa_83 := a_r6_1
            have aa_84 := a_r7_1
            have aa_85 := a_r8_1
            have aa_86 := a_r0_2
            have aa_87 := a_r1_2
            have aa_88 := a_r3_2
            have aa_89 := a_r5_2
            have aa_90 := a_r6_2
            have aa_91 := a_r7_2
            have aa_92 := a_r8_2
            have o_h0 := E_77.1 _ _ o_h0
            have o_b1 := E_77.1 _ _ o_b1
            refine lv_iload_n hx hb dX8_copyFrom_52 rfl (lv_at hl 2 rfl) ?_
            refine lv_aload_n hx hb dX8_copyFrom_53 rfl (lv_at hl 1 rfl) ?_
            obtain ⟨fs9, hk_93, hq_93⟩ := ((gF.s (F' := []) Fr_78 ne_b1_h0)) _ _ _ hk_71
            refine opn_X8 hG hk_93 (fun r0_93 n0_93 r1_93 n1_93 c2_93 r3_93 n3_93 c4_93 r5_93 n5_93 r6_93 n6_93 r7_93 n7_93 r8_93 n8_93 c9_93 c10_93 c11_93 v12_93 v13_93 v14_93 hf9 a_r0_93 f1_93 a_r1_93 f3_93 a_r3_93 f5_93 a_r5_93 f7_93 a_r6_93 f9_93 a_r7_93 f11_93 a_r8_93 f13_93 o_v12_93 o_v13_93 o_v14_93 f17_93 f18_93 f19_93 f20_93 f21_93 f22_93 f23_93 f24_93 f25_93 f26_93 f27_93 f28_93 f29_93 => ?_)
            subst hf9
            obtain rfl := fe_r (hq_93 0 (by decide))
            have hn9 := gI_n hD ((E_77).1 _ _ aa_86) a_r0_93
            subst hn9
            have a_r0_2 := a_r0_93
            obtain rfl := fe_r (hq_93 1 (by decide))
            have hn9 := gI_n hD ((E_77).1 _ _ aa_87) a_r1_93
            subst hn9
            have a_r1_2 := a_r1_93
            obtain rfl := fe_i (hq_93 2 (by decide))
            obtain rfl := fe_r (hq_93 3 (by decide))
            have hn9 := gI_n hD ((E_77).1 _ _ aa_88) a_r3_93
            subst hn9
            have a_r3_2 := a_r3_93
            obtain rfl := fe_i (hq_93 4 (by decide))
            obtain rfl := fe_r (hq_93 5 (by decide))
            have hn9 := gI_n hD ((E_77).1 _ _ aa_89) a_r5_93
            subst hn9
            have a_r5_2 := a_r5_93
            obtain rfl := fe_r (hq_93 6 (by decide))
            have hn9 := gI_n hD ((E_77).1 _ _ aa_90) a_r6_93
            subst hn9
            have a_r6_2 := a_r6_93
            obtain rfl := fe_r (hq_93 7 (by decide))
            have hn9 := gI_n hD ((E_77).1 _ _ aa_91) a_r7_93
            subst hn9
            have a_r7_2 := a_r7_93
            obtain rfl := fe_r (hq_93 8 (by decide))
            have hn9 := gI_n hD ((E_77).1 _ _ aa_92) a_r8_93
            subst hn9
            have a_r8_2 := a_r8_93
            obtain rfl := fe_i (hq_93 9 (by decide))
            obtain rfl := fe_i (hq_93 11 (by decide))
            obtain ⟨k_94, f_94, hk_94⟩ := gI_of a_r0_2
            obtain ⟨k_95, f_95, hk_95⟩ := gJ_of a_r1_2
            obtain ⟨k_96, f_96, hk_96⟩ := gI_of a_r3_2
            have tq_98 : rowC ws_76 b1 (RQ fS9 aS9 tS9 cS9 mS9) := (rowC_ms Fr_78 ne_b1_h0 (rowC_ms Fr_63 ne_b1_h0 tq_54))
            have rq_97 := rowC_at hD hk_93 rfl rfl rfl rfl rfl hk_94 hk_95 hk_96 tq_98
            have rn_99 := And.intro rq_97.2.2.2.1 rq_97.2.2.2.2
            replace rn_99 := hide rn_99
            refine va_get (D := gD g) (ci := 7) (v := .int c4_2) (C := RX8) (T := TX8) (N := 15) hx hb hts inX8 hown hK hP k_2 hk_93 rfl 4 (by decide) (hts _ kw_1473) (fun _ h9 => h9) rfl dX8_copyFrom_54 ?_
            refine lv_icmp_ge (tgt := 76) hx hb dX8_copyFrom_57 (by decide) (fun c_100 => ?_) (fun c_100 => ?_)
            · have tq_101 : rowC ws_76 h0 RW := rowC_im jx_52_0 (fun _ _ _ _ _ w => ct_rw w hRW9 (Int.le_refl _) (by first | (have e0 : (0 : Int32).toInt = 0 := (by decide); have q_f21_2 := Hide.out f21_2; have q_f22_2 := Hide.out f22_2; have q_f_18 := Hide.out f_18; have q_rn_55 := Hide.out rn_55; have q_f_58 := Hide.out f_58; have q_iv_74 := Hide.out iv_74; have q_iv_75 := Hide.out iv_75; have q_rn_99 := Hide.out rn_99; have q_c_100 := i_le c_100; have g_c2_2 := i_rg c2_2; have g_c4_2 := i_rg c4_2; have g_v2_73 := i_rg v2_73; omega) | (have e0 : (0 : Int32).toInt = 0 := (by decide); have q_f21_2 := Hide.out f21_2; have q_f22_2 := Hide.out f22_2; have q_f_18 := Hide.out f_18; have q_rn_55 := Hide.out rn_55; have q_f_58 := Hide.out f_58; have q_iv_74 := Hide.out iv_74; have q_iv_75 := Hide.out iv_75; have q_rn_99 := Hide.out rn_99; have q_c_100 := i_le c_100; have q_f5_2 := Hide.out f5_2; have q_f19_2 := Hide.out f19_2; have q_f20_2 := Hide.out f20_2; have q_f28_2 := Hide.out f28_2; have q_iv_31 := Hide.out iv_31; have q_c_56 := i_le c_56; have g_c2_2 := i_rg c2_2; have g_c4_2 := i_rg c4_2; have g_v2_28 := i_rg v2_28; have g_v2_73 := i_rg v2_73; omega) | (have e0 : (0 : Int32).toInt = 0 := (by decide); have q_f21_2 := Hide.out f21_2; have q_f22_2 := Hide.out f22_2; have q_f_18 := Hide.out f_18; have q_rn_55 := Hide.out rn_55; have q_f_58 := Hide.out f_58; have q_iv_74 := Hide.out iv_74; have q_iv_75 := Hide.out iv_75; have q_rn_99 := Hide.out rn_99; have q_c_100 := i_le c_100; have q_f5_2 := Hide.out f5_2; have q_f19_2 := Hide.out f19_2; have q_f20_2 := Hide.out f20_2; have q_f28_2 := Hide.out f28_2; have q_iv_31 := Hide.out iv_31; have q_c_56 := i_le c_56; have q_f1_2 := Hide.out f1_2; have q_f17_2 := Hide.out f17_2; have q_f18_2 := Hide.out f18_2; have q_iv_29 := Hide.out iv_29; have g_c2_2 := i_rg c2_2; have g_c4_2 := i_rg c4_2; have g_v2_28 := i_rg v2_28; have g_v2_73 := i_rg v2_73; omega) | (have e0 : (0 : Int32).toInt = 0 := (by decide); have q_f21_2 := Hide.out f21_2; have q_f22_2 := Hide.out f22_2; have q_f_18 := Hide.out f_18; have q_rn_55 := Hide.out rn_55; have q_f_58 := Hide.out f_58; have q_iv_74 := Hide.out iv_74; have q_iv_75 := Hide.out iv_75; have q_rn_99 := Hide.out rn_99; have q_c_100 := i_le c_100; have q_f5_2 := Hide.out f5_2; have q_f19_2 := Hide.out f19_2; have q_f20_2 := Hide.out f20_2; have q_f28_2 := Hide.out f28_2; have q_iv_31 := Hide.out iv_31; have q_c_56 := i_le c_56; have q_f1_2 := Hide.out f1_2; have q_f17_2 := Hide.out f17_2; have q_f18_2 := Hide.out f18_2; have q_iv_29 := Hide.out iv_29; have q_f3_2 := Hide.out f3_2; have g_c2_2 := i_rg c2_2; have g_c4_2 := i_rg c4_2; have g_v2_28 := i_rg v2_28; have g_v2_73 := i_rg v2_73; omega)))
              refine lv_aload_n hx hb dX8_copyFrom_76 rfl (lv_at hl 0 rfl) ?_
              refine lv_iconst (v := 0) hx hb dX8_copyFrom_77 (by decide) ?_
              obtain ⟨fs9, hk_102, hq_102⟩ := ((gF.a (F' := [(7, 4)]) Fr_78 (fun _ h => h))) _ _ _ hk_57
              refine opn_X8 hG hk_102 (fun r0_102 n0_102 r1_102 n1_102 c2_102 r3_102 n3_102 c4_102 r5_102 n5_102 r6_102 n6_102 r7_102 n7_102 r8_102 n8_102 c9_102 c10_102 c11_102 v12_102 v13_102 v14_102 hf9 a_r0_102 f1_102 a_r1_102 f3_102 a_r3_102 f5_102 a_r5_102 f7_102 a_r6_102 f9_102 a_r7_102 f11_102 a_r8_102 f13_102 o_v12_102 o_v13_102 o_v14_102 f17_102 f18_102 f19_102 f20_102 f21_102 f22_102 f23_102 f24_102 f25_102 f26_102 f27_102 f28_102 f29_102 => ?_)
              subst hf9
              obtain rfl := fe_r (hq_102 0 (by decide))
              have hn9 := gI_n hD ((E_77).1 _ _ aa_79) a_r0_102
              subst hn9
              have a_r0_1 := a_r0_102
              obtain rfl := fe_r (hq_102 1 (by decide))
              have hn9 := gI_n hD ((E_77).1 _ _ aa_80) a_r1_102
              subst hn9
              have a_r1_1 := a_r1_102
              obtain rfl := fe_i (hq_102 2 (by decide))
              obtain rfl := fe_r (hq_102 3 (by decide))
              have hn9 := gI_n hD ((E_77).1 _ _ aa_81) a_r3_102
              subst hn9
              have a_r3_1 := a_r3_102
              obtain rfl := fe_r (hq_102 5 (by decide))
              have hn9 := gI_n hD ((E_77).1 _ _ aa_82) a_r5_102
              subst hn9
              have a_r5_1 := a_r5_102
              obtain rfl := fe_r (hq_102 6 (by decide))
              have hn9 := gI_n hD ((E_77).1 _ _ aa_83) a_r6_102
              subst hn9
              have a_r6_1 := a_r6_102
              obtain rfl := fe_r (hq_102 7 (by decide))
              have hn9 := gI_n hD ((E_77).1 _ _ aa_84) a_r7_102
              subst hn9
              have a_r7_1 := a_r7_102
              obtain rfl := fe_r (hq_102 8 (by decide))
              have hn9 := gI_n hD ((E_77).1 _ _ aa_85) a_r8_102
              subst hn9
              have a_r8_1 := a_r8_102
              obtain rfl := fe_i (hq_102 9 (by decide))
              obtain rfl := fe_i (hq_102 11 (by decide))
              have hV9 : okv ws_76 7 9 (.int 0) := okv_i
              refine va_put (D := gD g) (ci := 7) (v := .int 0) (ty := .int) (C := RX8) (T := TX8) (N := 15) hx hb hts inX8 tyX8 tyX8_ok nmX8 hown hK hP hD hS k_1 hk_102 rfl 9 (by decide) (hts _ kw_1465) (fun _ h9 => h9) rfl (by decide +kernel) rfl rfl (Nat.le_of_ble_eq_true rfl) dX8_copyFrom_78 (fun H locs hP hD hS => ?_)
              have f_103 : 0 ≤ (0 : Int32).toInt := (by have e0 : (0 : Int32).toInt = 0 := (by decide); have q_f_18 := Hide.out f_18; have q_f_58 := Hide.out f_58; omega)
              replace f_103 := hide f_103
              have f_104 : (0 : Int32).toInt ≤ n5_1 := (by first | (have e0 : (0 : Int32).toInt = 0 := (by decide); have q_f7_1 := Hide.out f7_1; have q_f23_1 := Hide.out f23_1; have q_f24_1 := Hide.out f24_1; have q_f25_1 := Hide.out f25_1; have q_f27_1 := Hide.out f27_1; have q_f29_1 := Hide.out f29_1; have q_f_18 := Hide.out f_18; have q_f_58 := Hide.out f_58; have q_f_103 := Hide.out f_103; have g_c9_1 := i_rg c9_1; omega) | (have e0 : (0 : Int32).toInt = 0 := (by decide); have q_f7_1 := Hide.out f7_1; have q_f23_1 := Hide.out f23_1; have q_f24_1 := Hide.out f24_1; have q_f25_1 := Hide.out f25_1; have q_f27_1 := Hide.out f27_1; have q_f29_1 := Hide.out f29_1; have q_f_18 := Hide.out f_18; have q_f_58 := Hide.out f_58; have q_f_103 := Hide.out f_103; have q_f9_1 := Hide.out f9_1; have q_f11_1 := Hide.out f11_1; have q_f13_1 := Hide.out f13_1; have q_f26_1 := Hide.out f26_1; have g_c9_1 := i_rg c9_1; omega))
              replace f_104 := hide f_104
              have hi_105 : invX8 g ws_76 h0 [.ref r0_1, .ref r1_1, .int c2_57, .ref r3_1, .int c4_102, .ref r5_1, .ref r6_1, .ref r7_1, .ref r8_1, .int 0, .int c10_102, .int c11_2, va_rf v12_102, va_rf v13_102, va_rf v14_102] := ⟨r0_1, (n0_1), r1_1, (n1_1), (c2_57), r3_1, (n3_1), (c4_102), r5_1, (n5_1), r6_1, (n6_1), r7_1, (n7_1), r8_1, (n8_1), (0), (c10_102), (c11_2), v12_102, v13_102, v14_102, rfl, a_r0_1, f1_102, a_r1_1, f3_102, a_r3_1, f5_102, a_r5_1, f7_102, a_r6_1, f9_102, a_r7_1, f11_102, a_r8_1, f13_102, o_v12_102, o_v13_102, o_v14_102, f17_102, f18_102, f19_102, f20_102, f21_102, f22_102, f23_102, f24_102, f25_102, f_103, f_104, f28_102, f29_102, trivial⟩
              obtain ⟨ws_106, e_ws_106⟩ : ∃ z, z = ws_76.set k_1 (h0, .inr (7, [.ref r0_1, .ref r1_1, .int c2_57, .ref r3_1, .int c4_102, .ref r5_1, .ref r6_1, .ref r7_1, .ref r8_1, .int 0, .int c10_102, .int c11_2, va_rf v12_102, va_rf v13_102, va_rf v14_102])) := ⟨_, rfl⟩
              have hP : va_P (gD g) cl0 ws_106 H := by rw [e_ws_106]; exact hP
              have hD : va_D A ws_106 := by rw [e_ws_106]; exact hD
              have E_107 : gE ws_76 ws_106 := gE_set e_ws_106 hk_102 (cw_o (fi := 9) (v := .int 0) rfl (by decide))
              have hG : Good g ws_106 := Good_set (fi := 9) (v := .int 0) e_ws_106 hk_102 E_107 rfl hV9 hG (ivX8 hi_105)
              have Fr_108 : gF [(7, 9)] [] (some h0) ws_76 ws_106 := gF_put (fi := 9) (v := .int 0) e_ws_106 hk_102 rfl (by decide)
              have hkN := gset_self e_ws_106 hk_102
              have aa_109 := a_r0_2
              have aa_110 := a_r1_2
              have aa_111 := a_r3_2
              have aa_112 := a_r5_2
              have aa_113 := a_r6_2
              have aa_114 := a_r7_2
              have aa_115 := a_r8_2
              have hk_94 := gset_obI e_ws_106 hk_102 hk_94
              have hk_95 := gset_obI e_ws_106 hk_102 hk_95
              have hk_96 := gset_obI e_ws_106 hk_102 hk_96
              have hk_102 := hkN
              have o_h0 := E_107.1 _ _ o_h0
              have o_b1 := E_107.1 _ _ o_b1
              have o_v12_102 : ∀ b, v12_102 = some b → ∃ n, gI ws_106 b g.cB n ∧ n < 2147483648 := fun b h => (o_v12_102 b h).imp (fun n h => ⟨E_107.1 _ _ h.1, h.2⟩)
              have o_v13_102 : ∀ b, v13_102 = some b → ∃ n, gJ ws_106 b g.cL n ∧ n < 2147483648 := fun b h => (o_v13_102 b h).imp (fun n h => ⟨E_107.1 _ _ h.1, h.2⟩)
              have o_v14_102 : ∀ b, v14_102 = some b → ∃ n, gJ ws_106 b g.cL n ∧ n < 2147483648 := fun b h => (o_v14_102 b h).imp (fun n h => ⟨E_107.1 _ _ h.1, h.2⟩)
              have a_r0_1 := E_107.1 _ _ a_r0_1
              have a_r1_1 := E_107.1 _ _ a_r1_1
              have a_r3_1 := E_107.1 _ _ a_r3_1
              have a_r5_1 := E_107.1 _ _ a_r5_1
              have a_r6_1 := E_107.1 _ _ a_r6_1
              have a_r7_1 := E_107.1 _ _ a_r7_1
              have a_r8_1 := E_107.1 _ _ a_r8_1
              refine lv_iconst (v := 0) hx hb dX8_copyFrom_81 (by decide) ?_
              refine lv_istore_n (lv' := [(2, .int 0), (0, .ref h0), (1, .ref b1)]) hx hb dX8_copyFrom_82 rfl hl (by decide) rfl (fun ls hl => ?_)
              have J_83 : ∀ (n9 : Nat) (v2_116 : Int32) (ws_118 : va_W) (H : Heap) (locs : List Loc) (ls : Array Slot), (2147483647 - v2_116.toInt).toNat = n9 → 0 ≤ v2_116.toInt → gE ws_106 ws_118 → gF [(7, 9)] [(7, 5), (7, 6), (7, 7), (7, 8)] (some h0) ws_106 ws_118 → Good g ws_118 → va_P (gD g) cl0 ws_118 H → va_D A ws_118 → va_S A s.heap H locs → lv_has ls 3 [(0, .ref h0), (1, .ref b1), (2, .int v2_116)] → W p l e (headSpec (wt yX8_copyFrom cX8_copyFrom 3 none) ({ frames := 2, cells := 0, slots := 0, locals := 47 })).room s m ([.ref h0, .ref b1] : List Value).toArray below meth c H locs (0) (0) (MQ below (va_Qv (fun (u9 : va_W) => (True) ∧ (rowC u9 h0 RW)) (gQ1 g [(7, 2), (7, 4), (7, 9), (7, 11)] [(7, 0), (7, 1), (7, 3), (7, 5), (7, 6), (7, 7), (7, 8)] (some h0) A ws) A) ([.ref h0, .ref b1] : List Value).toArray s (0) (0) A) (F0 m 83 ls []) := by
                intro n9
                induction n9 using Nat.strongRecOn with
                | ind n9 ih_83 =>
                  intro v2_116 ws_118 H locs ls hm9 iv_117 E_119 Fr_120 hG hP hD hS hl
                  subst hm9
                  replace iv_117 := hide iv_117
                  have aa_121 := a_r0_1
                  have aa_122 := a_r1_1
                  have aa_123 := a_r3_1
                  have aa_124 := a_r5_1
                  have aa_125 := a_r6_1
                  have aa_126 := a_r7_1
                  have aa_127 := a_r8_1
                  have o_h0 := E_119.1 _ _ o_h0
                  have o_b1 := E_119.1 _ _ o_b1
                  refine lv_iload_n hx hb dX8_copyFrom_83 rfl (lv_at hl 2 rfl) ?_
                  refine lv_aload_n hx hb dX8_copyFrom_84 rfl (lv_at hl 1 rfl) ?_
                  obtain ⟨fs9, hk_128, hq_128⟩ := ((gA.tr (gF.s (F' := []) Fr_108 ne_b1_h0) (gF.s (F' := []) Fr_120 ne_b1_h0))) _ _ _ hk_93
                  refine opn_X8 hG hk_128 (fun r0_128 n0_128 r1_128 n1_128 c2_128 r3_128 n3_128 c4_128 r5_128 n5_128 r6_128 n6_128 r7_128 n7_128 r8_128 n8_128 c9_128 c10_128 c11_128 v12_128 v13_128 v14_128 hf9 a_r0_128 f1_128 a_r1_128 f3_128 a_r3_128 f5_128 a_r5_128 f7_128 a_r6_128 f9_128 a_r7_128 f11_128 a_r8_128 f13_128 o_v12_128 o_v13_128 o_v14_128 f17_128 f18_128 f19_128 f20_128 f21_128 f22_128 f23_128 f24_128 f25_128 f26_128 f27_128 f28_128 f29_128 => ?_)
                  subst hf9
                  obtain rfl := fe_r (hq_128 0 (by decide))
                  have hn9 := gI_n hD (((E_107.tr E_119)).1 _ _ aa_109) a_r0_128
                  subst hn9
                  have a_r0_2 := a_r0_128
                  obtain rfl := fe_r (hq_128 1 (by decide))
                  have hn9 := gI_n hD (((E_107.tr E_119)).1 _ _ aa_110) a_r1_128
                  subst hn9
                  have a_r1_2 := a_r1_128
                  obtain rfl := fe_i (hq_128 2 (by decide))
                  obtain rfl := fe_r (hq_128 3 (by decide))
                  have hn9 := gI_n hD (((E_107.tr E_119)).1 _ _ aa_111) a_r3_128
                  subst hn9
                  have a_r3_2 := a_r3_128
                  obtain rfl := fe_i (hq_128 4 (by decide))
                  obtain rfl := fe_r (hq_128 5 (by decide))
                  have hn9 := gI_n hD (((E_107.tr E_119)).1 _ _ aa_112) a_r5_128
                  subst hn9
                  have a_r5_2 := a_r5_128
                  obtain rfl := fe_r (hq_128 6 (by decide))
                  have hn9 := gI_n hD (((E_107.tr E_119)).1 _ _ aa_113) a_r6_128
                  subst hn9
                  have a_r6_2 := a_r6_128
                  obtain rfl := fe_r (hq_128 7 (by decide))
                  have hn9 := gI_n hD (((E_107.tr E_119)).1 _ _ aa_114) a_r7_128
                  subst hn9
                  have a_r7_2 := a_r7_128
                  obtain rfl := fe_r (hq_128 8 (by decide))
                  have hn9 := gI_n hD (((E_107.tr E_119)).1 _ _ aa_115) a_r8_128
                  subst hn9
                  have a_r8_2 := a_r8_128
                  obtain rfl := fe_i (hq_128 9 (by decide))
                  obtain rfl := fe_i (hq_128 11 (by decide))
                  refine va_get (D := gD g) (ci := 7) (v := .int c9_2) (C := RX8) (T := TX8) (N := 15) hx hb hts inX8 hown hK hP k_2 hk_128 rfl 9 (by decide) (hts _ kw_1465) (fun _ h9 => h9) rfl dX8_copyFrom_85 ?_
                  refine lv_icmp_ge (tgt := 125) hx hb dX8_copyFrom_88 (by decide) (fun c_129 => ?_) (fun c_129 => ?_)
                  · refine W.widen (k := 0) (n := 0) (Nat.le_of_ble_eq_true rfl) (Nat.le_of_ble_eq_true rfl) ?_
                    have tq_130 : rowC ws_118 h0 RW := rowC_mo ((gF.tr (gF.mo (F' := [(7, 9)]) (C' := [(7, 5), (7, 6), (7, 7), (7, 8)]) (S' := none) Fr_108 (fun _ h => h) (fun _ h => absurd h List.not_mem_nil) (Or.inl rfl)) (gF.mo (F' := [(7, 9)]) (C' := [(7, 5), (7, 6), (7, 7), (7, 8)]) (S' := none) Fr_120 (fun _ h => h) (fun _ h => h) (Or.inl rfl)))) (by decide) (by decide) (by decide) (by decide) (by decide) (by decide) (by decide) (by decide) tq_101
                    exact W.vret hx hb hr (fun t9 ht9 hW9 => ⟨⟨ws_118, rfl, ⟨trivial, tq_130⟩, ⟨(E_9.tr (E_22.tr (E_33.tr (E_62.tr (E_77.tr (E_107.tr E_119)))))), (gF.tr (gF.mo (F' := [(7, 2), (7, 4), (7, 9), (7, 11)]) (C' := [(7, 0), (7, 1), (7, 3), (7, 5), (7, 6), (7, 7), (7, 8)]) (S' := (some h0)) Fr_10 (by decide) (fun _ h => absurd h List.not_mem_nil) (Or.inr rfl)) (gF.tr (gF.mo (F' := [(7, 2), (7, 4), (7, 9), (7, 11)]) (C' := [(7, 0), (7, 1), (7, 3), (7, 5), (7, 6), (7, 7), (7, 8)]) (S' := (some h0)) Fr_23 (by decide) (fun _ h => absurd h List.not_mem_nil) (Or.inr rfl)) (gF.tr (gF.mo (F' := [(7, 2), (7, 4), (7, 9), (7, 11)]) (C' := [(7, 0), (7, 1), (7, 3), (7, 5), (7, 6), (7, 7), (7, 8)]) (S' := (some h0)) Fr_34 (by decide) (by decide) (Or.inr rfl)) (gF.tr (gF.mo (F' := [(7, 2), (7, 4), (7, 9), (7, 11)]) (C' := [(7, 0), (7, 1), (7, 3), (7, 5), (7, 6), (7, 7), (7, 8)]) (S' := (some h0)) Fr_63 (by decide) (fun _ h => absurd h List.not_mem_nil) (Or.inr rfl)) (gF.tr (gF.mo (F' := [(7, 2), (7, 4), (7, 9), (7, 11)]) (C' := [(7, 0), (7, 1), (7, 3), (7, 5), (7, 6), (7, 7), (7, 8)]) (S' := (some h0)) Fr_78 (by decide) (by decide) (Or.inr rfl)) (gF.tr (gF.mo (F' := [(7, 2), (7, 4), (7, 9), (7, 11)]) (C' := [(7, 0), (7, 1), (7, 3), (7, 5), (7, 6), (7, 7), (7, 8)]) (S' := (some h0)) Fr_108 (by decide) (fun _ h => absurd h List.not_mem_nil) (Or.inr rfl)) (gF.mo (F' := [(7, 2), (7, 4), (7, 9), (7, 11)]) (C' := [(7, 0), (7, 1), (7, 3), (7, 5), (7, 6), (7, 7), (7, 8)]) (S' := (some h0)) Fr_120 (by decide) (by decide) (Or.inr rfl)))))))), hG, by rw [ht9]; exact hP, hD⟩⟩, hS.F ht9⟩) hS.2.2 dX8_copyFrom_125
                  · refine lv_aload_n hx hb dX8_copyFrom_91 rfl (lv_at hl 0 rfl) ?_
                    refine lv_aload_n hx hb dX8_copyFrom_92 rfl (lv_at hl 1 rfl) ?_
                    refine va_get (D := gD g) (ci := 7) (v := .ref r5_2) (C := RX8) (T := TX8) (N := 15) hx hb hts inX8 hown hK hP k_2 hk_128 rfl 5 (by decide) (hts _ kw_1466) (fun _ h9 => h9) rfl dX8_copyFrom_93 ?_
                    refine lv_iload_n hx hb dX8_copyFrom_96 rfl (lv_at hl 2 rfl) ?_
                    obtain ⟨k_131, f_131, hk_131⟩ := gI_of a_r5_2
                    refine va_iald hx hb hK hP k_131 1 hk_131 rfl (i_in2 (by first | (have e0 : (0 : Int32).toInt = 0 := (by decide); have q_f7_2 := Hide.out f7_2; have q_f23_2 := Hide.out f23_2; have q_f24_2 := Hide.out f24_2; have q_f25_2 := Hide.out f25_2; have q_f27_2 := Hide.out f27_2; have q_f29_2 := Hide.out f29_2; have q_f_18 := Hide.out f_18; have q_f_58 := Hide.out f_58; have q_f_103 := Hide.out f_103; have q_iv_117 := Hide.out iv_117; have q_c_129 := i_nle c_129; have g_c9_2 := i_rg c9_2; have g_v2_116 := i_rg v2_116; omega) | (have e0 : (0 : Int32).toInt = 0 := (by decide); have q_f7_2 := Hide.out f7_2; have q_f23_2 := Hide.out f23_2; have q_f24_2 := Hide.out f24_2; have q_f25_2 := Hide.out f25_2; have q_f27_2 := Hide.out f27_2; have q_f29_2 := Hide.out f29_2; have q_f_18 := Hide.out f_18; have q_f_58 := Hide.out f_58; have q_f_103 := Hide.out f_103; have q_iv_117 := Hide.out iv_117; have q_c_129 := i_nle c_129; have q_f9_2 := Hide.out f9_2; have q_f11_2 := Hide.out f11_2; have q_f13_2 := Hide.out f13_2; have q_f26_2 := Hide.out f26_2; have g_c9_2 := i_rg c9_2; have g_v2_116 := i_rg v2_116; omega))) dX8_copyFrom_97 ?_
                    refine lv_topi (fun z_132 ez_132 => ?_)
                    refine lv_aload_n hx hb dX8_copyFrom_98 rfl (lv_at hl 1 rfl) ?_
                    refine va_get (D := gD g) (ci := 7) (v := .ref r6_2) (C := RX8) (T := TX8) (N := 15) hx hb hts inX8 hown hK hP k_2 hk_128 rfl 6 (by decide) (hts _ kw_1467) (fun _ h9 => h9) rfl dX8_copyFrom_99 ?_
                    refine lv_iload_n hx hb dX8_copyFrom_102 rfl (lv_at hl 2 rfl) ?_
                    obtain ⟨k_133, f_133, hk_133⟩ := gI_of a_r6_2
                    refine va_iald hx hb hK hP k_133 1 hk_133 rfl (i_in2 (by first | (have e0 : (0 : Int32).toInt = 0 := (by decide); have q_f9_2 := Hide.out f9_2; have q_f23_2 := Hide.out f23_2; have q_f_18 := Hide.out f_18; have q_f_58 := Hide.out f_58; have q_f_103 := Hide.out f_103; have q_iv_117 := Hide.out iv_117; have q_c_129 := i_nle c_129; have g_c9_2 := i_rg c9_2; have g_v2_116 := i_rg v2_116; omega) | (have e0 : (0 : Int32).toInt = 0 := (by decide); have q_f9_2 := Hide.out f9_2; have q_f23_2 := Hide.out f23_2; have q_f_18 := Hide.out f_18; have q_f_58 := Hide.out f_58; have q_f_103 := Hide.out f_103; have q_iv_117 := Hide.out iv_117; have q_c_129 := i_nle c_129; have q_f7_2 := Hide.out f7_2; have q_f24_2 := Hide.out f24_2; have q_f25_2 := Hide.out f25_2; have q_f26_2 := Hide.out f26_2; have q_f27_2 := Hide.out f27_2; have q_f29_2 := Hide.out f29_2; have g_c9_2 := i_rg c9_2; have g_v2_116 := i_rg v2_116; omega) | (have e0 : (0 : Int32).toInt = 0 := (by decide); have q_f9_2 := Hide.out f9_2; have q_f23_2 := Hide.out f23_2; have q_f_18 := Hide.out f_18; have q_f_58 := Hide.out f_58; have q_f_103 := Hide.out f_103; have q_iv_117 := Hide.out iv_117; have q_c_129 := i_nle c_129; have q_f7_2 := Hide.out f7_2; have q_f24_2 := Hide.out f24_2; have q_f25_2 := Hide.out f25_2; have q_f26_2 := Hide.out f26_2; have q_f27_2 := Hide.out f27_2; have q_f29_2 := Hide.out f29_2; have q_f11_2 := Hide.out f11_2; have q_f13_2 := Hide.out f13_2; have g_c9_2 := i_rg c9_2; have g_v2_116 := i_rg v2_116; omega))) dX8_copyFrom_103 ?_
                    refine lv_topi (fun z_134 ez_134 => ?_)
                    refine lv_aload_n hx hb dX8_copyFrom_104 rfl (lv_at hl 1 rfl) ?_
                    refine va_get (D := gD g) (ci := 7) (v := .ref r7_2) (C := RX8) (T := TX8) (N := 15) hx hb hts inX8 hown hK hP k_2 hk_128 rfl 7 (by decide) (hts _ kw_1468) (fun _ h9 => h9) rfl dX8_copyFrom_105 ?_
                    refine lv_iload_n hx hb dX8_copyFrom_108 rfl (lv_at hl 2 rfl) ?_
                    obtain ⟨k_135, f_135, hk_135⟩ := gI_of a_r7_2
                    refine va_iald hx hb hK hP k_135 1 hk_135 rfl (i_in2 (by first | (have e0 : (0 : Int32).toInt = 0 := (by decide); have q_f11_2 := Hide.out f11_2; have q_f24_2 := Hide.out f24_2; have q_f_18 := Hide.out f_18; have q_f_58 := Hide.out f_58; have q_f_103 := Hide.out f_103; have q_iv_117 := Hide.out iv_117; have q_c_129 := i_nle c_129; have g_c9_2 := i_rg c9_2; have g_v2_116 := i_rg v2_116; omega) | (have e0 : (0 : Int32).toInt = 0 := (by decide); have q_f11_2 := Hide.out f11_2; have q_f24_2 := Hide.out f24_2; have q_f_18 := Hide.out f_18; have q_f_58 := Hide.out f_58; have q_f_103 := Hide.out f_103; have q_iv_117 := Hide.out iv_117; have q_c_129 := i_nle c_129; have q_f7_2 := Hide.out f7_2; have q_f23_2 := Hide.out f23_2; have q_f25_2 := Hide.out f25_2; have q_f26_2 := Hide.out f26_2; have q_f27_2 := Hide.out f27_2; have q_f29_2 := Hide.out f29_2; have g_c9_2 := i_rg c9_2; have g_v2_116 := i_rg v2_116; omega) | (have e0 : (0 : Int32).toInt = 0 := (by decide); have q_f11_2 := Hide.out f11_2; have q_f24_2 := Hide.out f24_2; have q_f_18 := Hide.out f_18; have q_f_58 := Hide.out f_58; have q_f_103 := Hide.out f_103; have q_iv_117 := Hide.out iv_117; have q_c_129 := i_nle c_129; have q_f7_2 := Hide.out f7_2; have q_f23_2 := Hide.out f23_2; have q_f25_2 := Hide.out f25_2; have q_f26_2 := Hide.out f26_2; have q_f27_2 := Hide.out f27_2; have q_f29_2 := Hide.out f29_2; have q_f9_2 := Hide.out f9_2; have q_f13_2 := Hide.out f13_2; have g_c9_2 := i_rg c9_2; have g_v2_116 := i_rg v2_116; omega))) dX8_copyFrom_109 ?_
                    refine lv_topi (fun z_136 ez_136 => ?_)
                    refine lv_aload_n hx hb dX8_copyFrom_110 rfl (lv_at hl 1 rfl) ?_
                    refine va_get (D := gD g) (ci := 7) (v := .ref r8_2) (C := RX8) (T := TX8) (N := 15) hx hb hts inX8 hown hK hP k_2 hk_128 rfl 8 (by decide) (hts _ kw_1469) (fun _ h9 => h9) rfl dX8_copyFrom_111 ?_
                    refine lv_iload_n hx hb dX8_copyFrom_114 rfl (lv_at hl 2 rfl) ?_
                    obtain ⟨k_137, f_137, hk_137⟩ := gI_of a_r8_2
                    refine va_iald hx hb hK hP k_137 1 hk_137 rfl (i_in2 (by first | (have e0 : (0 : Int32).toInt = 0 := (by decide); have q_f13_2 := Hide.out f13_2; have q_f25_2 := Hide.out f25_2; have q_f_18 := Hide.out f_18; have q_f_58 := Hide.out f_58; have q_f_103 := Hide.out f_103; have q_iv_117 := Hide.out iv_117; have q_c_129 := i_nle c_129; have g_c9_2 := i_rg c9_2; have g_v2_116 := i_rg v2_116; omega) | (have e0 : (0 : Int32).toInt = 0 := (by decide); have q_f13_2 := Hide.out f13_2; have q_f25_2 := Hide.out f25_2; have q_f_18 := Hide.out f_18; have q_f_58 := Hide.out f_58; have q_f_103 := Hide.out f_103; have q_iv_117 := Hide.out iv_117; have q_c_129 := i_nle c_129; have q_f7_2 := Hide.out f7_2; have q_f23_2 := Hide.out f23_2; have q_f24_2 := Hide.out f24_2; have q_f26_2 := Hide.out f26_2; have q_f27_2 := Hide.out f27_2; have q_f29_2 := Hide.out f29_2; have g_c9_2 := i_rg c9_2; have g_v2_116 := i_rg v2_116; omega) | (have e0 : (0 : Int32).toInt = 0 := (by decide); have q_f13_2 := Hide.out f13_2; have q_f25_2 := Hide.out f25_2; have q_f_18 := Hide.out f_18; have q_f_58 := Hide.out f_58; have q_f_103 := Hide.out f_103; have q_iv_117 := Hide.out iv_117; have q_c_129 := i_nle c_129; have q_f7_2 := Hide.out f7_2; have q_f23_2 := Hide.out f23_2; have q_f24_2 := Hide.out f24_2; have q_f26_2 := Hide.out f26_2; have q_f27_2 := Hide.out f27_2; have q_f29_2 := Hide.out f29_2; have q_f9_2 := Hide.out f9_2; have q_f11_2 := Hide.out f11_2; have g_c9_2 := i_rg c9_2; have g_v2_116 := i_rg v2_116; omega))) dX8_copyFrom_115 ?_
                    refine lv_topi (fun z_138 ez_138 => ?_)
                    have hFc := gfree hD hS hA
                    obtain ⟨k_139, fs_139, hk_139⟩ := gC_of o_h0
                    refine va_callv (va_runV (As := [.int z_132, .int z_134, .int z_136, .int z_138]) (rest := []) ⟨hx, hb, hml, hown, hts⟩ (m_X8_addCatch l g H.size ws_118 h0 (z_132) (z_134) (z_136) (z_138) hG o_h0) (cwV 4 hts (gd_V kw_1491 kw_1463 kw_1464 kw_782 kw_1462) rfl rfl rfl (by decide +kernel) ⟨Nat.le_of_ble_eq_true rfl, Nat.le_of_ble_eq_true rfl⟩) ⟨gblind, va_recv hK hP (ci := 7) (q0 := k_139) rfl hk_139, fun U hU hW9 => gmk hU hW9 hP hK hD hex hE hS hFc⟩ rfl rfl hl.1 rfl (lv_room (Nat.le_of_ble_eq_true rfl)) dX8_copyFrom_116 ⟨Nat.le_of_ble_eq_true rfl, Nat.le_of_ble_eq_true rfl⟩) hS (fun q _ h => hFc q h) hFc (fun  ws_140 t9 H1 locs ht9 hvm9 hw9 hB9 hz9 hk9 hS => ?_)
                    obtain ⟨E_141, Fr_142, hG, hP1, hD1⟩ := hB9
                    have hP : va_P (gD g) cl0 ws_140 H1 := by rw [← ht9]; exact hP1
                    have hD : va_D A ws_140 := hD1.weaken (fun _ _ _ h => hFc _ h)
                    clear hP1 hD1 hz9 hk9 hvm9 ht9 hw9
                    generalize H1 = H at hP hS ⊢
                    have aa_145 := a_r0_2
                    have aa_146 := a_r1_2
                    have aa_147 := a_r3_2
                    have aa_148 := a_r5_2
                    have aa_149 := a_r6_2
                    have aa_150 := a_r7_2
                    have aa_151 := a_r8_2
                    have o_h0 := E_141.1 _ _ o_h0
                    have o_b1 := E_141.1 _ _ o_b1
                    obtain ⟨z_152, ez_152⟩ : ∃ z : Int32, v2_116 + Int32.ofInt 1 = z := ⟨_, rfl⟩
                    refine lv_iinc (v := z_152) (lv' := [(2, .int z_152), (0, .ref h0), (1, .ref b1)]) hx hb dX8_copyFrom_119 hl (k := 2) rfl ez_152 (by decide) rfl (fun ls hl => ?_)
                    refine lv_goto (tgt := 83) hx hb dX8_copyFrom_122 (by decide) ?_
                    exact ih_83 _ (by first | (have e0 : (0 : Int32).toInt = 0 := (by decide); have q_f_18 := Hide.out f_18; have q_f_58 := Hide.out f_58; have q_f_103 := Hide.out f_103; obtain ⟨u_z_152, q_z_152⟩ := i_iz ez_152 (by decide) (by decide); have g_v2_116 := i_rg v2_116; have g_z_152 := i_rg z_152; omega) | (have e0 : (0 : Int32).toInt = 0 := (by decide); have q_f_18 := Hide.out f_18; have q_f_58 := Hide.out f_58; have q_f_103 := Hide.out f_103; obtain ⟨u_z_152, q_z_152⟩ := i_iz ez_152 (by decide) (by decide); have q_iv_117 := Hide.out iv_117; have q_c_129 := i_nle c_129; have g_c9_2 := i_rg c9_2; have g_v2_116 := i_rg v2_116; have g_z_152 := i_rg z_152; omega) | (have e0 : (0 : Int32).toInt = 0 := (by decide); have q_f_18 := Hide.out f_18; have q_f_58 := Hide.out f_58; have q_f_103 := Hide.out f_103; obtain ⟨u_z_152, q_z_152⟩ := i_iz ez_152 (by decide) (by decide); have q_iv_117 := Hide.out iv_117; have q_c_129 := i_nle c_129; have q_f26_2 := Hide.out f26_2; have q_f27_2 := Hide.out f27_2; have g_c9_2 := i_rg c9_2; have g_v2_116 := i_rg v2_116; have g_z_152 := i_rg z_152; omega) | (have e0 : (0 : Int32).toInt = 0 := (by decide); have q_f_18 := Hide.out f_18; have q_f_58 := Hide.out f_58; have q_f_103 := Hide.out f_103; obtain ⟨u_z_152, q_z_152⟩ := i_iz ez_152 (by decide) (by decide); have q_iv_117 := Hide.out iv_117; have q_c_129 := i_nle c_129; have q_f26_2 := Hide.out f26_2; have q_f27_2 := Hide.out f27_2; have q_f7_2 := Hide.out f7_2; have q_f23_2 := Hide.out f23_2; have q_f24_2 := Hide.out f24_2; have q_f25_2 := Hide.out f25_2; have q_f29_2 := Hide.out f29_2; have g_c9_2 := i_rg c9_2; have g_v2_116 := i_rg v2_116; have g_z_152 := i_rg z_152; omega)) (z_152) ws_140 H locs ls rfl (by first | (have e0 : (0 : Int32).toInt = 0 := (by decide); have q_f_18 := Hide.out f_18; have q_f_58 := Hide.out f_58; have q_f_103 := Hide.out f_103; obtain ⟨u_z_152, q_z_152⟩ := i_iz ez_152 (by decide) (by decide); have g_v2_116 := i_rg v2_116; have g_z_152 := i_rg z_152; omega) | (have e0 : (0 : Int32).toInt = 0 := (by decide); have q_f_18 := Hide.out f_18; have q_f_58 := Hide.out f_58; have q_f_103 := Hide.out f_103; obtain ⟨u_z_152, q_z_152⟩ := i_iz ez_152 (by decide) (by decide); have q_iv_117 := Hide.out iv_117; have q_c_129 := i_nle c_129; have g_c9_2 := i_rg c9_2; have g_v2_116 := i_rg v2_116; have g_z_152 := i_rg z_152; omega) | (have e0 : (0 : Int32).toInt = 0 := (by decide); have q_f_18 := Hide.out f_18; have q_f_58 := Hide.out f_58; have q_f_103 := Hide.out f_103; obtain ⟨u_z_152, q_z_152⟩ := i_iz ez_152 (by decide) (by decide); have q_iv_117 := Hide.out iv_117; have q_c_129 := i_nle c_129; have q_f26_2 := Hide.out f26_2; have q_f27_2 := Hide.out f27_2; have g_c9_2 := i_rg c9_2; have g_v2_116 := i_rg v2_116; have g_z_152 := i_rg z_152; omega) | (have e0 : (0 : Int32).toInt = 0 := (by decide); have q_f_18 := Hide.out f_18; have q_f_58 := Hide.out f_58; have q_f_103 := Hide.out f_103; obtain ⟨u_z_152, q_z_152⟩ := i_iz ez_152 (by decide) (by decide); have q_iv_117 := Hide.out iv_117; have q_c_129 := i_nle c_129; have q_f26_2 := Hide.out f26_2; have q_f27_2 := Hide.out f27_2; have q_f7_2 := Hide.out f7_2; have q_f23_2 := Hide.out f23_2; have q_f24_2 := Hide.out f24_2; have q_f25_2 := Hide.out f25_2; have q_f29_2 := Hide.out f29_2; have g_c9_2 := i_rg c9_2; have g_v2_116 := i_rg v2_116; have g_z_152 := i_rg z_152; omega)) ((E_119.tr E_141)) ((gF.tr Fr_120 Fr_142)) hG hP hD hS (lv_sub hl [1, 2, 0] rfl)
              exact J_83 _ (0) ws_106 H locs ls rfl (by have e0 : (0 : Int32).toInt = 0 := (by decide); have q_f_18 := Hide.out f_18; have q_f_58 := Hide.out f_58; have q_f_103 := Hide.out f_103; omega) (gE.rf) (gF.rf) hG hP hD hS (lv_sub hl [1, 2, 0] rfl)
            · refine lv_aload_n hx hb dX8_copyFrom_60 rfl (lv_at hl 0 rfl) ?_
              refine lv_aload_n hx hb dX8_copyFrom_61 rfl (lv_at hl 1 rfl) ?_
              refine va_get (D := gD g) (ci := 7) (v := .ref r3_2) (C := RX8) (T := TX8) (N := 15) hx hb hts inX8 hown hK hP k_2 hk_93 rfl 3 (by decide) (hts _ kw_1474) (fun _ h9 => h9) rfl dX8_copyFrom_62 ?_
              refine lv_iload_n hx hb dX8_copyFrom_65 rfl (lv_at hl 2 rfl) ?_
              obtain ⟨fs9, hk_153, hq_153⟩ := ((gF.a (F' := [(7, 4)]) Fr_78 (fun _ h => h))) _ _ _ hk_57
              refine opn_X8 hG hk_153 (fun r0_153 n0_153 r1_153 n1_153 c2_153 r3_153 n3_153 c4_153 r5_153 n5_153 r6_153 n6_153 r7_153 n7_153 r8_153 n8_153 c9_153 c10_153 c11_153 v12_153 v13_153 v14_153 hf9 a_r0_153 f1_153 a_r1_153 f3_153 a_r3_153 f5_153 a_r5_153 f7_153 a_r6_153 f9_153 a_r7_153 f11_153 a_r8_153 f13_153 o_v12_153 o_v13_153 o_v14_153 f17_153 f18_153 f19_153 f20_153 f21_153 f22_153 f23_153 f24_153 f25_153 f26_153 f27_153 f28_153 f29_153 => ?_)
              subst hf9
              obtain rfl := fe_r (hq_153 0 (by decide))
              have hn9 := gI_n hD ((E_77).1 _ _ aa_79) a_r0_153
              subst hn9
              have a_r0_1 := a_r0_153
              obtain rfl := fe_r (hq_153 1 (by decide))
              have hn9 := gI_n hD ((E_77).1 _ _ aa_80) a_r1_153
              subst hn9
              have a_r1_1 := a_r1_153
              obtain rfl := fe_i (hq_153 2 (by decide))
              obtain rfl := fe_r (hq_153 3 (by decide))
              have hn9 := gI_n hD ((E_77).1 _ _ aa_81) a_r3_153
              subst hn9
              have a_r3_1 := a_r3_153
              obtain rfl := fe_r (hq_153 5 (by decide))
              have hn9 := gI_n hD ((E_77).1 _ _ aa_82) a_r5_153
              subst hn9
              have a_r5_1 := a_r5_153
              obtain rfl := fe_r (hq_153 6 (by decide))
              have hn9 := gI_n hD ((E_77).1 _ _ aa_83) a_r6_153
              subst hn9
              have a_r6_1 := a_r6_153
              obtain rfl := fe_r (hq_153 7 (by decide))
              have hn9 := gI_n hD ((E_77).1 _ _ aa_84) a_r7_153
              subst hn9
              have a_r7_1 := a_r7_153
              obtain rfl := fe_r (hq_153 8 (by decide))
              have hn9 := gI_n hD ((E_77).1 _ _ aa_85) a_r8_153
              subst hn9
              have a_r8_1 := a_r8_153
              obtain rfl := fe_i (hq_153 9 (by decide))
              obtain rfl := fe_i (hq_153 11 (by decide))
              obtain ⟨k_154, f_154, hk_154⟩ := gI_of a_r0_1
              obtain ⟨k_155, f_155, hk_155⟩ := gJ_of a_r1_1
              obtain ⟨k_156, f_156, hk_156⟩ := gI_of a_r3_1
              have cc_157 := (rowC_at hD hk_153 rfl rfl rfl rfl rfl hk_154 hk_155 hk_156 jx_52_0).2.1
              replace cc_157 := hide cc_157
              refine va_iald hx hb hK hP k_96 1 hk_96 rfl (i_in2 (by first | (have e0 : (0 : Int32).toInt = 0 := (by decide); have q_f5_2 := Hide.out f5_2; have q_f22_2 := Hide.out f22_2; have q_f28_2 := Hide.out f28_2; have q_f_18 := Hide.out f_18; have q_f_58 := Hide.out f_58; have q_iv_74 := Hide.out iv_74; have q_iv_75 := Hide.out iv_75; have q_c_100 := i_nle c_100; have q_cc_157 := Hide.out cc_157; have g_c4_153 := i_rg c4_153; have g_c4_2 := i_rg c4_2; have g_v2_73 := i_rg v2_73; omega) | (have e0 : (0 : Int32).toInt = 0 := (by decide); have q_f5_2 := Hide.out f5_2; have q_f22_2 := Hide.out f22_2; have q_f28_2 := Hide.out f28_2; have q_f_18 := Hide.out f_18; have q_f_58 := Hide.out f_58; have q_iv_74 := Hide.out iv_74; have q_iv_75 := Hide.out iv_75; have q_c_100 := i_nle c_100; have q_cc_157 := Hide.out cc_157; have q_f21_2 := Hide.out f21_2; have q_rn_55 := Hide.out rn_55; have q_rn_99 := Hide.out rn_99; have q_f21_153 := Hide.out f21_153; have q_f22_153 := Hide.out f22_153; have g_c2_2 := i_rg c2_2; have g_c4_153 := i_rg c4_153; have g_c4_2 := i_rg c4_2; have g_v2_73 := i_rg v2_73; omega) | (have e0 : (0 : Int32).toInt = 0 := (by decide); have q_f5_2 := Hide.out f5_2; have q_f22_2 := Hide.out f22_2; have q_f28_2 := Hide.out f28_2; have q_f_18 := Hide.out f_18; have q_f_58 := Hide.out f_58; have q_iv_74 := Hide.out iv_74; have q_iv_75 := Hide.out iv_75; have q_c_100 := i_nle c_100; have q_cc_157 := Hide.out cc_157; have q_f21_2 := Hide.out f21_2; have q_rn_55 := Hide.out rn_55; have q_rn_99 := Hide.out rn_99; have q_f21_153 := Hide.out f21_153; have q_f22_153 := Hide.out f22_153; have q_f5_1 := Hide.out f5_1; have q_f22_1 := Hide.out f22_1; have q_f28_1 := Hide.out f28_1; have q_fq_k := Hide.out fq_k; have q_f19_2 := Hide.out f19_2; have q_f20_2 := Hide.out f20_2; have q_iv_31 := Hide.out iv_31; have q_c_56 := i_le c_56; have q_f_59 := Hide.out f_59; have g_c2_2 := i_rg c2_2; have g_c4_1 := i_rg c4_1; have g_c4_153 := i_rg c4_153; have g_c4_2 := i_rg c4_2; have g_v2_28 := i_rg v2_28; have g_v2_73 := i_rg v2_73; omega) | (have e0 : (0 : Int32).toInt = 0 := (by decide); have q_f5_2 := Hide.out f5_2; have q_f22_2 := Hide.out f22_2; have q_f28_2 := Hide.out f28_2; have q_f_18 := Hide.out f_18; have q_f_58 := Hide.out f_58; have q_iv_74 := Hide.out iv_74; have q_iv_75 := Hide.out iv_75; have q_c_100 := i_nle c_100; have q_cc_157 := Hide.out cc_157; have q_f21_2 := Hide.out f21_2; have q_rn_55 := Hide.out rn_55; have q_rn_99 := Hide.out rn_99; have q_f21_153 := Hide.out f21_153; have q_f22_153 := Hide.out f22_153; have q_f5_1 := Hide.out f5_1; have q_f22_1 := Hide.out f22_1; have q_f28_1 := Hide.out f28_1; have q_fq_k := Hide.out fq_k; have q_f19_2 := Hide.out f19_2; have q_f20_2 := Hide.out f20_2; have q_iv_31 := Hide.out iv_31; have q_c_56 := i_le c_56; have q_f_59 := Hide.out f_59; have q_f1_1 := Hide.out f1_1; have q_f17_1 := Hide.out f17_1; have q_f18_1 := Hide.out f18_1; have q_f20_1 := Hide.out f20_1; have q_f21_1 := Hide.out f21_1; have q_f1_2 := Hide.out f1_2; have q_f17_2 := Hide.out f17_2; have q_f18_2 := Hide.out f18_2; have q_f_19 := Hide.out f_19; have q_iv_29 := Hide.out iv_29; have q_f20_57 := Hide.out f20_57; have g_c2_1 := i_rg c2_1; have g_c2_2 := i_rg c2_2; have g_c2_57 := i_rg c2_57; have g_c4_1 := i_rg c4_1; have g_c4_153 := i_rg c4_153; have g_c4_2 := i_rg c4_2; have g_v2_28 := i_rg v2_28; have g_v2_73 := i_rg v2_73; omega))) dX8_copyFrom_66 ?_
              refine lv_topi (fun z_158 ez_158 => ?_)
              have hFc := gfree hD hS hA
              refine va_callv (va_runV (As := [.int z_158]) (rest := []) ⟨hx, hb, hml, hown, hts⟩ (m_X8_addToTable_y l g H.size ws_76 h0 (z_158) (c4_153) (CT fS9 aS9 tS9 cS9 v2_73.toInt) hG o_h0 (gP_of hD hk_153 (fun q90 e90 => by cases e90; exact (by first | (have e0 : (0 : Int32).toInt = 0 := (by decide); have q_f_18 := Hide.out f_18; have q_f_58 := Hide.out f_58; have q_f21_153 := Hide.out f21_153; have q_f22_153 := Hide.out f22_153; have q_cc_157 := Hide.out cc_157; have g_c4_153 := i_rg c4_153; have g_v2_73 := i_rg v2_73; omega) | (have e0 : (0 : Int32).toInt = 0 := (by decide); have q_f_18 := Hide.out f_18; have q_f_58 := Hide.out f_58; have q_f21_153 := Hide.out f21_153; have q_f22_153 := Hide.out f22_153; have q_cc_157 := Hide.out cc_157; have q_f5_1 := Hide.out f5_1; have q_f22_1 := Hide.out f22_1; have q_f28_1 := Hide.out f28_1; have q_fq_k := Hide.out fq_k; have q_f_59 := Hide.out f_59; have q_iv_74 := Hide.out iv_74; have q_iv_75 := Hide.out iv_75; have q_c_100 := i_nle c_100; have g_c4_1 := i_rg c4_1; have g_c4_153 := i_rg c4_153; have g_c4_2 := i_rg c4_2; have g_v2_73 := i_rg v2_73; omega) | (have e0 : (0 : Int32).toInt = 0 := (by decide); have q_f_18 := Hide.out f_18; have q_f_58 := Hide.out f_58; have q_f21_153 := Hide.out f21_153; have q_f22_153 := Hide.out f22_153; have q_cc_157 := Hide.out cc_157; have q_f5_1 := Hide.out f5_1; have q_f22_1 := Hide.out f22_1; have q_f28_1 := Hide.out f28_1; have q_fq_k := Hide.out fq_k; have q_f_59 := Hide.out f_59; have q_iv_74 := Hide.out iv_74; have q_iv_75 := Hide.out iv_75; have q_c_100 := i_nle c_100; have q_f1_1 := Hide.out f1_1; have q_f17_1 := Hide.out f17_1; have q_f18_1 := Hide.out f18_1; have q_f20_1 := Hide.out f20_1; have q_f21_1 := Hide.out f21_1; have q_f21_2 := Hide.out f21_2; have q_f22_2 := Hide.out f22_2; have q_f_19 := Hide.out f_19; have q_rn_55 := Hide.out rn_55; have q_f20_57 := Hide.out f20_57; have q_rn_99 := Hide.out rn_99; have g_c2_1 := i_rg c2_1; have g_c2_2 := i_rg c2_2; have g_c2_57 := i_rg c2_57; have g_c4_1 := i_rg c4_1; have g_c4_153 := i_rg c4_153; have g_c4_2 := i_rg c4_2; have g_v2_73 := i_rg v2_73; omega) | (have e0 : (0 : Int32).toInt = 0 := (by decide); have q_f_18 := Hide.out f_18; have q_f_58 := Hide.out f_58; have q_f21_153 := Hide.out f21_153; have q_f22_153 := Hide.out f22_153; have q_cc_157 := Hide.out cc_157; have q_f5_1 := Hide.out f5_1; have q_f22_1 := Hide.out f22_1; have q_f28_1 := Hide.out f28_1; have q_fq_k := Hide.out fq_k; have q_f_59 := Hide.out f_59; have q_iv_74 := Hide.out iv_74; have q_iv_75 := Hide.out iv_75; have q_c_100 := i_nle c_100; have q_f1_1 := Hide.out f1_1; have q_f17_1 := Hide.out f17_1; have q_f18_1 := Hide.out f18_1; have q_f20_1 := Hide.out f20_1; have q_f21_1 := Hide.out f21_1; have q_f21_2 := Hide.out f21_2; have q_f22_2 := Hide.out f22_2; have q_f_19 := Hide.out f_19; have q_rn_55 := Hide.out rn_55; have q_f20_57 := Hide.out f20_57; have q_rn_99 := Hide.out rn_99; have q_f3_1 := Hide.out f3_1; have q_f19_1 := Hide.out f19_1; have q_f5_2 := Hide.out f5_2; have q_f19_2 := Hide.out f19_2; have q_f20_2 := Hide.out f20_2; have q_f28_2 := Hide.out f28_2; have q_iv_31 := Hide.out iv_31; have q_c_56 := i_le c_56; have q_f19_57 := Hide.out f19_57; have g_c2_1 := i_rg c2_1; have g_c2_2 := i_rg c2_2; have g_c2_57 := i_rg c2_57; have g_c4_1 := i_rg c4_1; have g_c4_153 := i_rg c4_153; have g_c4_2 := i_rg c4_2; have g_v2_28 := i_rg v2_28; have g_v2_73 := i_rg v2_73; omega)))) jx_52_0) (cwV 1 hts (gd_V kw_1490 kw_1471 kw_1472 kw_782 kw_1470) rfl rfl rfl (by decide +kernel) ⟨Nat.le_of_ble_eq_true rfl, Nat.le_of_ble_eq_true rfl⟩) ⟨gblind, va_recv hK hP (ci := 7) (q0 := k_1) rfl hk_153, fun U hU hW9 => gmk hU hW9 hP hK hD hex hE hS hFc⟩ rfl rfl hl.1 rfl (lv_room (Nat.le_of_ble_eq_true rfl)) dX8_copyFrom_67 ⟨Nat.le_of_ble_eq_true rfl, Nat.le_of_ble_eq_true rfl⟩) hS (fun q _ h => hFc q h) hFc (fun  ws_159 t9 H1 locs ht9 hvm9 hw9 hB9 hz9 hk9 hS => ?_)
              obtain ⟨E_160, Fr_161, hG, hP1, hD1⟩ := hB9
              have hP : va_P (gD g) cl0 ws_159 H1 := by rw [← ht9]; exact hP1
              have hD : va_D A ws_159 := hD1.weaken (fun _ _ _ h => hFc _ h)
              obtain ⟨hw9, xp_164⟩ := hw9
              have kf_165 := hw9
              clear hP1 hD1 hz9 hk9 hvm9 ht9 hw9
              generalize H1 = H at hP hS ⊢
              have aa_166 := a_r0_2
              have aa_167 := a_r1_2
              have aa_168 := a_r3_2
              have aa_169 := a_r5_2
              have aa_170 := a_r6_2
              have aa_171 := a_r7_2
              have aa_172 := a_r8_2
              have aa_173 := a_r0_1
              have aa_174 := a_r1_1
              have aa_175 := a_r3_1
              have aa_176 := a_r5_1
              have aa_177 := a_r6_1
              have aa_178 := a_r7_1
              have aa_179 := a_r8_1
              have o_h0 := E_160.1 _ _ o_h0
              have o_b1 := E_160.1 _ _ o_b1
              obtain ⟨fs9, hk_180, hq_180⟩ := ((gF.a (F' := [(7, 4)]) Fr_161 (fun _ h => h))) _ _ _ hk_153
              refine opn_X8 hG hk_180 (fun r0_180 n0_180 r1_180 n1_180 c2_180 r3_180 n3_180 c4_180 r5_180 n5_180 r6_180 n6_180 r7_180 n7_180 r8_180 n8_180 c9_180 c10_180 c11_180 v12_180 v13_180 v14_180 hf9 a_r0_180 f1_180 a_r1_180 f3_180 a_r3_180 f5_180 a_r5_180 f7_180 a_r6_180 f9_180 a_r7_180 f11_180 a_r8_180 f13_180 o_v12_180 o_v13_180 o_v14_180 f17_180 f18_180 f19_180 f20_180 f21_180 f22_180 f23_180 f24_180 f25_180 f26_180 f27_180 f28_180 f29_180 => ?_)
              subst hf9
              obtain rfl := fe_r (hq_180 0 (by decide))
              have hn9 := gI_n hD ((E_160).1 _ _ aa_173) a_r0_180
              subst hn9
              have a_r0_1 := a_r0_180
              obtain rfl := fe_r (hq_180 1 (by decide))
              have hn9 := gI_n hD ((E_160).1 _ _ aa_174) a_r1_180
              subst hn9
              have a_r1_1 := a_r1_180
              obtain rfl := fe_i (hq_180 2 (by decide))
              obtain rfl := fe_r (hq_180 3 (by decide))
              have hn9 := gI_n hD ((E_160).1 _ _ aa_175) a_r3_180
              subst hn9
              have a_r3_1 := a_r3_180
              obtain rfl := fe_r (hq_180 5 (by decide))
              have hn9 := gI_n hD ((E_160).1 _ _ aa_176) a_r5_180
              subst hn9
              have a_r5_1 := a_r5_180
              obtain rfl := fe_r (hq_180 6 (by decide))
              have hn9 := gI_n hD ((E_160).1 _ _ aa_177) a_r6_180
              subst hn9
              have a_r6_1 := a_r6_180
              obtain rfl := fe_r (hq_180 7 (by decide))
              have hn9 := gI_n hD ((E_160).1 _ _ aa_178) a_r7_180
              subst hn9
              have a_r7_1 := a_r7_180
              obtain rfl := fe_r (hq_180 8 (by decide))
              have hn9 := gI_n hD ((E_160).1 _ _ aa_179) a_r8_180
              subst hn9
              have a_r8_1 := a_r8_180
              obtain rfl := fe_i (hq_180 9 (by decide))
              obtain rfl := fe_i (hq_180 11 (by decide))
              have kq_181 := kf_165 _ _ _ hk_180 _ rfl _ _ rfl a_r3_1
              replace kq_181 := hide kq_181
              obtain ⟨z_182, ez_182⟩ : ∃ z : Int32, v2_73 + Int32.ofInt 1 = z := ⟨_, rfl⟩
              refine lv_iinc (v := z_182) (lv' := [(2, .int z_182), (0, .ref h0), (1, .ref b1)]) hx hb dX8_copyFrom_70 hl (k := 2) rfl ez_182 (by decide) rfl (fun ls hl => ?_)
              obtain ⟨k_183, f_183, hk_183⟩ := gI_of a_r0_1
              obtain ⟨k_184, f_184, hk_184⟩ := gJ_of a_r1_1
              obtain ⟨k_185, f_185, hk_185⟩ := gI_of a_r3_1
              have hc9 : rowC ws_159 h0 (fun _ _ _ _ t9 => t9 = c4_180.toInt) := rowC_of hk_180 rfl rfl rfl rfl rfl hk_183 hk_184 hk_185 rfl
              have tq_186 : rowC ws_159 h0 (CT fS9 aS9 tS9 cS9 z_182.toInt) := rowC_im (rowC_and hD xp_164 hc9) (fun _ _ _ _ _ w => ct_at w.1 (by have w9 := w.2; have w8 : c4_180.toInt = v2_73.toInt + 1 := (by first | (have e0 : (0 : Int32).toInt = 0 := (by decide); have q_f5_1 := Hide.out f5_1; have q_f22_1 := Hide.out f22_1; have q_f28_1 := Hide.out f28_1; have q_fq_k := Hide.out fq_k; have q_f_18 := Hide.out f_18; have q_f_58 := Hide.out f_58; have q_f_59 := Hide.out f_59; have q_iv_74 := Hide.out iv_74; have q_iv_75 := Hide.out iv_75; have q_c_100 := i_nle c_100; have q_f21_153 := Hide.out f21_153; have q_f22_153 := Hide.out f22_153; have q_cc_157 := Hide.out cc_157; have q_f21_180 := Hide.out f21_180; have q_f22_180 := Hide.out f22_180; have q_kq_181 := Hide.out kq_181; obtain ⟨u_z_182, q_z_182⟩ := i_iz ez_182 (by decide) (by decide); have g_c4_1 := i_rg c4_1; have g_c4_153 := i_rg c4_153; have g_c4_180 := i_rg c4_180; have g_c4_2 := i_rg c4_2; have g_v2_73 := i_rg v2_73; have g_z_182 := i_rg z_182; omega) | (have e0 : (0 : Int32).toInt = 0 := (by decide); have q_f5_1 := Hide.out f5_1; have q_f22_1 := Hide.out f22_1; have q_f28_1 := Hide.out f28_1; have q_fq_k := Hide.out fq_k; have q_f_18 := Hide.out f_18; have q_f_58 := Hide.out f_58; have q_f_59 := Hide.out f_59; have q_iv_74 := Hide.out iv_74; have q_iv_75 := Hide.out iv_75; have q_c_100 := i_nle c_100; have q_f21_153 := Hide.out f21_153; have q_f22_153 := Hide.out f22_153; have q_cc_157 := Hide.out cc_157; have q_f21_180 := Hide.out f21_180; have q_f22_180 := Hide.out f22_180; have q_kq_181 := Hide.out kq_181; obtain ⟨u_z_182, q_z_182⟩ := i_iz ez_182 (by decide) (by decide); have q_f1_1 := Hide.out f1_1; have q_f17_1 := Hide.out f17_1; have q_f18_1 := Hide.out f18_1; have q_f20_1 := Hide.out f20_1; have q_f21_1 := Hide.out f21_1; have q_f21_2 := Hide.out f21_2; have q_f22_2 := Hide.out f22_2; have q_f_19 := Hide.out f_19; have q_rn_55 := Hide.out rn_55; have q_f20_57 := Hide.out f20_57; have q_rn_99 := Hide.out rn_99; have g_c2_1 := i_rg c2_1; have g_c2_2 := i_rg c2_2; have g_c2_57 := i_rg c2_57; have g_c4_1 := i_rg c4_1; have g_c4_153 := i_rg c4_153; have g_c4_180 := i_rg c4_180; have g_c4_2 := i_rg c4_2; have g_v2_73 := i_rg v2_73; have g_z_182 := i_rg z_182; omega) | (have e0 : (0 : Int32).toInt = 0 := (by decide); have q_f5_1 := Hide.out f5_1; have q_f22_1 := Hide.out f22_1; have q_f28_1 := Hide.out f28_1; have q_fq_k := Hide.out fq_k; have q_f_18 := Hide.out f_18; have q_f_58 := Hide.out f_58; have q_f_59 := Hide.out f_59; have q_iv_74 := Hide.out iv_74; have q_iv_75 := Hide.out iv_75; have q_c_100 := i_nle c_100; have q_f21_153 := Hide.out f21_153; have q_f22_153 := Hide.out f22_153; have q_cc_157 := Hide.out cc_157; have q_f21_180 := Hide.out f21_180; have q_f22_180 := Hide.out f22_180; have q_kq_181 := Hide.out kq_181; obtain ⟨u_z_182, q_z_182⟩ := i_iz ez_182 (by decide) (by decide); have q_f1_1 := Hide.out f1_1; have q_f17_1 := Hide.out f17_1; have q_f18_1 := Hide.out f18_1; have q_f20_1 := Hide.out f20_1; have q_f21_1 := Hide.out f21_1; have q_f21_2 := Hide.out f21_2; have q_f22_2 := Hide.out f22_2; have q_f_19 := Hide.out f_19; have q_rn_55 := Hide.out rn_55; have q_f20_57 := Hide.out f20_57; have q_rn_99 := Hide.out rn_99; have q_f3_1 := Hide.out f3_1; have q_f19_1 := Hide.out f19_1; have q_f5_2 := Hide.out f5_2; have q_f19_2 := Hide.out f19_2; have q_f20_2 := Hide.out f20_2; have q_f28_2 := Hide.out f28_2; have q_iv_31 := Hide.out iv_31; have q_c_56 := i_le c_56; have q_f19_57 := Hide.out f19_57; have g_c2_1 := i_rg c2_1; have g_c2_2 := i_rg c2_2; have g_c2_57 := i_rg c2_57; have g_c4_1 := i_rg c4_1; have g_c4_153 := i_rg c4_153; have g_c4_180 := i_rg c4_180; have g_c4_2 := i_rg c4_2; have g_v2_28 := i_rg v2_28; have g_v2_73 := i_rg v2_73; have g_z_182 := i_rg z_182; omega) | (have e0 : (0 : Int32).toInt = 0 := (by decide); have q_f5_1 := Hide.out f5_1; have q_f22_1 := Hide.out f22_1; have q_f28_1 := Hide.out f28_1; have q_fq_k := Hide.out fq_k; have q_f_18 := Hide.out f_18; have q_f_58 := Hide.out f_58; have q_f_59 := Hide.out f_59; have q_iv_74 := Hide.out iv_74; have q_iv_75 := Hide.out iv_75; have q_c_100 := i_nle c_100; have q_f21_153 := Hide.out f21_153; have q_f22_153 := Hide.out f22_153; have q_cc_157 := Hide.out cc_157; have q_f21_180 := Hide.out f21_180; have q_f22_180 := Hide.out f22_180; have q_kq_181 := Hide.out kq_181; obtain ⟨u_z_182, q_z_182⟩ := i_iz ez_182 (by decide) (by decide); have q_f1_1 := Hide.out f1_1; have q_f17_1 := Hide.out f17_1; have q_f18_1 := Hide.out f18_1; have q_f20_1 := Hide.out f20_1; have q_f21_1 := Hide.out f21_1; have q_f21_2 := Hide.out f21_2; have q_f22_2 := Hide.out f22_2; have q_f_19 := Hide.out f_19; have q_rn_55 := Hide.out rn_55; have q_f20_57 := Hide.out f20_57; have q_rn_99 := Hide.out rn_99; have q_f3_1 := Hide.out f3_1; have q_f19_1 := Hide.out f19_1; have q_f5_2 := Hide.out f5_2; have q_f19_2 := Hide.out f19_2; have q_f20_2 := Hide.out f20_2; have q_f28_2 := Hide.out f28_2; have q_iv_31 := Hide.out iv_31; have q_c_56 := i_le c_56; have q_f19_57 := Hide.out f19_57; have q_f1_2 := Hide.out f1_2; have q_f17_2 := Hide.out f17_2; have q_f18_2 := Hide.out f18_2; have q_iv_29 := Hide.out iv_29; have g_c2_1 := i_rg c2_1; have g_c2_2 := i_rg c2_2; have g_c2_57 := i_rg c2_57; have g_c4_1 := i_rg c4_1; have g_c4_153 := i_rg c4_153; have g_c4_180 := i_rg c4_180; have g_c4_2 := i_rg c4_2; have g_v2_28 := i_rg v2_28; have g_v2_73 := i_rg v2_73; have g_z_182 := i_rg z_182; omega)); omega) (by first | (have e0 : (0 : Int32).toInt = 0 := (by decide); have q_f_18 := Hide.out f_18; have q_f_58 := Hide.out f_58; have q_iv_74 := Hide.out iv_74; have q_iv_75 := Hide.out iv_75; have q_c_100 := i_nle c_100; have q_cc_157 := Hide.out cc_157; obtain ⟨u_z_182, q_z_182⟩ := i_iz ez_182 (by decide) (by decide); have g_c4_153 := i_rg c4_153; have g_c4_2 := i_rg c4_2; have g_v2_73 := i_rg v2_73; have g_z_182 := i_rg z_182; omega) | (have e0 : (0 : Int32).toInt = 0 := (by decide); have q_f_18 := Hide.out f_18; have q_f_58 := Hide.out f_58; have q_iv_74 := Hide.out iv_74; have q_iv_75 := Hide.out iv_75; have q_c_100 := i_nle c_100; have q_cc_157 := Hide.out cc_157; obtain ⟨u_z_182, q_z_182⟩ := i_iz ez_182 (by decide) (by decide); have q_f21_2 := Hide.out f21_2; have q_f22_2 := Hide.out f22_2; have q_rn_55 := Hide.out rn_55; have q_rn_99 := Hide.out rn_99; have q_f21_153 := Hide.out f21_153; have q_f22_153 := Hide.out f22_153; have q_kq_181 := Hide.out kq_181; have g_c2_2 := i_rg c2_2; have g_c4_153 := i_rg c4_153; have g_c4_180 := i_rg c4_180; have g_c4_2 := i_rg c4_2; have g_v2_73 := i_rg v2_73; have g_z_182 := i_rg z_182; omega) | (have e0 : (0 : Int32).toInt = 0 := (by decide); have q_f_18 := Hide.out f_18; have q_f_58 := Hide.out f_58; have q_iv_74 := Hide.out iv_74; have q_iv_75 := Hide.out iv_75; have q_c_100 := i_nle c_100; have q_cc_157 := Hide.out cc_157; obtain ⟨u_z_182, q_z_182⟩ := i_iz ez_182 (by decide) (by decide); have q_f21_2 := Hide.out f21_2; have q_f22_2 := Hide.out f22_2; have q_rn_55 := Hide.out rn_55; have q_rn_99 := Hide.out rn_99; have q_f21_153 := Hide.out f21_153; have q_f22_153 := Hide.out f22_153; have q_kq_181 := Hide.out kq_181; have q_f5_1 := Hide.out f5_1; have q_f22_1 := Hide.out f22_1; have q_f28_1 := Hide.out f28_1; have q_fq_k := Hide.out fq_k; have q_f5_2 := Hide.out f5_2; have q_f19_2 := Hide.out f19_2; have q_f20_2 := Hide.out f20_2; have q_f28_2 := Hide.out f28_2; have q_iv_31 := Hide.out iv_31; have q_c_56 := i_le c_56; have q_f_59 := Hide.out f_59; have q_f21_180 := Hide.out f21_180; have q_f22_180 := Hide.out f22_180; have g_c2_2 := i_rg c2_2; have g_c4_1 := i_rg c4_1; have g_c4_153 := i_rg c4_153; have g_c4_180 := i_rg c4_180; have g_c4_2 := i_rg c4_2; have g_v2_28 := i_rg v2_28; have g_v2_73 := i_rg v2_73; have g_z_182 := i_rg z_182; omega) | (have e0 : (0 : Int32).toInt = 0 := (by decide); have q_f_18 := Hide.out f_18; have q_f_58 := Hide.out f_58; have q_iv_74 := Hide.out iv_74; have q_iv_75 := Hide.out iv_75; have q_c_100 := i_nle c_100; have q_cc_157 := Hide.out cc_157; obtain ⟨u_z_182, q_z_182⟩ := i_iz ez_182 (by decide) (by decide); have q_f21_2 := Hide.out f21_2; have q_f22_2 := Hide.out f22_2; have q_rn_55 := Hide.out rn_55; have q_rn_99 := Hide.out rn_99; have q_f21_153 := Hide.out f21_153; have q_f22_153 := Hide.out f22_153; have q_kq_181 := Hide.out kq_181; have q_f5_1 := Hide.out f5_1; have q_f22_1 := Hide.out f22_1; have q_f28_1 := Hide.out f28_1; have q_fq_k := Hide.out fq_k; have q_f5_2 := Hide.out f5_2; have q_f19_2 := Hide.out f19_2; have q_f20_2 := Hide.out f20_2; have q_f28_2 := Hide.out f28_2; have q_iv_31 := Hide.out iv_31; have q_c_56 := i_le c_56; have q_f_59 := Hide.out f_59; have q_f21_180 := Hide.out f21_180; have q_f22_180 := Hide.out f22_180; have q_f1_1 := Hide.out f1_1; have q_f17_1 := Hide.out f17_1; have q_f18_1 := Hide.out f18_1; have q_f20_1 := Hide.out f20_1; have q_f21_1 := Hide.out f21_1; have q_f1_2 := Hide.out f1_2; have q_f17_2 := Hide.out f17_2; have q_f18_2 := Hide.out f18_2; have q_f_19 := Hide.out f_19; have q_iv_29 := Hide.out iv_29; have q_f20_57 := Hide.out f20_57; have g_c2_1 := i_rg c2_1; have g_c2_2 := i_rg c2_2; have g_c2_57 := i_rg c2_57; have g_c4_1 := i_rg c4_1; have g_c4_153 := i_rg c4_153; have g_c4_180 := i_rg c4_180; have g_c4_2 := i_rg c4_2; have g_v2_28 := i_rg v2_28; have g_v2_73 := i_rg v2_73; have g_z_182 := i_rg z_182; omega)) (by first | (have e0 : (0 : Int32).toInt = 0 := (by decide); have q_f_18 := Hide.out f_18; have q_f_58 := Hide.out f_58; have q_iv_74 := Hide.out iv_74; have q_iv_75 := Hide.out iv_75; have q_c_100 := i_nle c_100; have q_cc_157 := Hide.out cc_157; obtain ⟨u_z_182, q_z_182⟩ := i_iz ez_182 (by decide) (by decide); have g_c4_153 := i_rg c4_153; have g_c4_2 := i_rg c4_2; have g_v2_73 := i_rg v2_73; have g_z_182 := i_rg z_182; omega) | (have e0 : (0 : Int32).toInt = 0 := (by decide); have q_f_18 := Hide.out f_18; have q_f_58 := Hide.out f_58; have q_iv_74 := Hide.out iv_74; have q_iv_75 := Hide.out iv_75; have q_c_100 := i_nle c_100; have q_cc_157 := Hide.out cc_157; obtain ⟨u_z_182, q_z_182⟩ := i_iz ez_182 (by decide) (by decide); have q_f21_2 := Hide.out f21_2; have q_f22_2 := Hide.out f22_2; have q_rn_55 := Hide.out rn_55; have q_rn_99 := Hide.out rn_99; have q_f21_153 := Hide.out f21_153; have q_f22_153 := Hide.out f22_153; have q_kq_181 := Hide.out kq_181; have g_c2_2 := i_rg c2_2; have g_c4_153 := i_rg c4_153; have g_c4_180 := i_rg c4_180; have g_c4_2 := i_rg c4_2; have g_v2_73 := i_rg v2_73; have g_z_182 := i_rg z_182; omega) | (have e0 : (0 : Int32).toInt = 0 := (by decide); have q_f_18 := Hide.out f_18; have q_f_58 := Hide.out f_58; have q_iv_74 := Hide.out iv_74; have q_iv_75 := Hide.out iv_75; have q_c_100 := i_nle c_100; have q_cc_157 := Hide.out cc_157; obtain ⟨u_z_182, q_z_182⟩ := i_iz ez_182 (by decide) (by decide); have q_f21_2 := Hide.out f21_2; have q_f22_2 := Hide.out f22_2; have q_rn_55 := Hide.out rn_55; have q_rn_99 := Hide.out rn_99; have q_f21_153 := Hide.out f21_153; have q_f22_153 := Hide.out f22_153; have q_kq_181 := Hide.out kq_181; have q_f5_1 := Hide.out f5_1; have q_f22_1 := Hide.out f22_1; have q_f28_1 := Hide.out f28_1; have q_fq_k := Hide.out fq_k; have q_f5_2 := Hide.out f5_2; have q_f19_2 := Hide.out f19_2; have q_f20_2 := Hide.out f20_2; have q_f28_2 := Hide.out f28_2; have q_iv_31 := Hide.out iv_31; have q_c_56 := i_le c_56; have q_f_59 := Hide.out f_59; have q_f21_180 := Hide.out f21_180; have q_f22_180 := Hide.out f22_180; have g_c2_2 := i_rg c2_2; have g_c4_1 := i_rg c4_1; have g_c4_153 := i_rg c4_153; have g_c4_180 := i_rg c4_180; have g_c4_2 := i_rg c4_2; have g_v2_28 := i_rg v2_28; have g_v2_73 := i_rg v2_73; have g_z_182 := i_rg z_182; omega) | (have e0 : (0 : Int32).toInt = 0 := (by decide); have q_f_18 := Hide.out f_18; have q_f_58 := Hide.out f_58; have q_iv_74 := Hide.out iv_74; have q_iv_75 := Hide.out iv_75; have q_c_100 := i_nle c_100; have q_cc_157 := Hide.out cc_157; obtain ⟨u_z_182, q_z_182⟩ := i_iz ez_182 (by decide) (by decide); have q_f21_2 := Hide.out f21_2; have q_f22_2 := Hide.out f22_2; have q_rn_55 := Hide.out rn_55; have q_rn_99 := Hide.out rn_99; have q_f21_153 := Hide.out f21_153; have q_f22_153 := Hide.out f22_153; have q_kq_181 := Hide.out kq_181; have q_f5_1 := Hide.out f5_1; have q_f22_1 := Hide.out f22_1; have q_f28_1 := Hide.out f28_1; have q_fq_k := Hide.out fq_k; have q_f5_2 := Hide.out f5_2; have q_f19_2 := Hide.out f19_2; have q_f20_2 := Hide.out f20_2; have q_f28_2 := Hide.out f28_2; have q_iv_31 := Hide.out iv_31; have q_c_56 := i_le c_56; have q_f_59 := Hide.out f_59; have q_f21_180 := Hide.out f21_180; have q_f22_180 := Hide.out f22_180; have q_f1_1 := Hide.out f1_1; have q_f17_1 := Hide.out f17_1; have q_f18_1 := Hide.out f18_1; have q_f20_1 := Hide.out f20_1; have q_f21_1 := Hide.out f21_1; have q_f1_2 := Hide.out f1_2; have q_f17_2 := Hide.out f17_2; have q_f18_2 := Hide.out f18_2; have q_f_19 := Hide.out f_19; have q_iv_29 := Hide.out iv_29; have q_f20_57 := Hide.out f20_57; have g_c2_1 := i_rg c2_1; have g_c2_2 := i_rg c2_2; have g_c2_57 := i_rg c2_57; have g_c4_1 := i_rg c4_1; have g_c4_153 := i_rg c4_153; have g_c4_180 := i_rg c4_180; have g_c4_2 := i_rg c4_2; have g_v2_28 := i_rg v2_28; have g_v2_73 := i_rg v2_73; have g_z_182 := i_rg z_182; omega)) (by rw [← rq_97.2.2.1, ← cN]; exact ez_158.symm))
              refine lv_goto (tgt := 52) hx hb dX8_copyFrom_73 (by decide) ?_
              exact ih_52 _ (by first | (have e0 : (0 : Int32).toInt = 0 := (by decide); have q_f_18 := Hide.out f_18; have q_f_58 := Hide.out f_58; obtain ⟨u_z_182, q_z_182⟩ := i_iz ez_182 (by decide) (by decide); have g_v2_73 := i_rg v2_73; have g_z_182 := i_rg z_182; omega) | (have e0 : (0 : Int32).toInt = 0 := (by decide); have q_f_18 := Hide.out f_18; have q_f_58 := Hide.out f_58; obtain ⟨u_z_182, q_z_182⟩ := i_iz ez_182 (by decide) (by decide); have q_iv_74 := Hide.out iv_74; have q_iv_75 := Hide.out iv_75; have q_c_100 := i_nle c_100; have q_cc_157 := Hide.out cc_157; have g_c4_153 := i_rg c4_153; have g_c4_2 := i_rg c4_2; have g_v2_73 := i_rg v2_73; have g_z_182 := i_rg z_182; omega) | (have e0 : (0 : Int32).toInt = 0 := (by decide); have q_f_18 := Hide.out f_18; have q_f_58 := Hide.out f_58; obtain ⟨u_z_182, q_z_182⟩ := i_iz ez_182 (by decide) (by decide); have q_iv_74 := Hide.out iv_74; have q_iv_75 := Hide.out iv_75; have q_c_100 := i_nle c_100; have q_cc_157 := Hide.out cc_157; have q_f21_2 := Hide.out f21_2; have q_f22_2 := Hide.out f22_2; have q_rn_55 := Hide.out rn_55; have q_rn_99 := Hide.out rn_99; have q_f21_153 := Hide.out f21_153; have q_f22_153 := Hide.out f22_153; have q_kq_181 := Hide.out kq_181; have g_c2_2 := i_rg c2_2; have g_c4_153 := i_rg c4_153; have g_c4_180 := i_rg c4_180; have g_c4_2 := i_rg c4_2; have g_v2_73 := i_rg v2_73; have g_z_182 := i_rg z_182; omega) | (have e0 : (0 : Int32).toInt = 0 := (by decide); have q_f_18 := Hide.out f_18; have q_f_58 := Hide.out f_58; obtain ⟨u_z_182, q_z_182⟩ := i_iz ez_182 (by decide) (by decide); have q_iv_74 := Hide.out iv_74; have q_iv_75 := Hide.out iv_75; have q_c_100 := i_nle c_100; have q_cc_157 := Hide.out cc_157; have q_f21_2 := Hide.out f21_2; have q_f22_2 := Hide.out f22_2; have q_rn_55 := Hide.out rn_55; have q_rn_99 := Hide.out rn_99; have q_f21_153 := Hide.out f21_153; have q_f22_153 := Hide.out f22_153; have q_kq_181 := Hide.out kq_181; have q_f5_1 := Hide.out f5_1; have q_f22_1 := Hide.out f22_1; have q_f28_1 := Hide.out f28_1; have q_fq_k := Hide.out fq_k; have q_f5_2 := Hide.out f5_2; have q_f19_2 := Hide.out f19_2; have q_f20_2 := Hide.out f20_2; have q_f28_2 := Hide.out f28_2; have q_iv_31 := Hide.out iv_31; have q_c_56 := i_le c_56; have q_f_59 := Hide.out f_59; have q_f21_180 := Hide.out f21_180; have q_f22_180 := Hide.out f22_180; have g_c2_2 := i_rg c2_2; have g_c4_1 := i_rg c4_1; have g_c4_153 := i_rg c4_153; have g_c4_180 := i_rg c4_180; have g_c4_2 := i_rg c4_2; have g_v2_28 := i_rg v2_28; have g_v2_73 := i_rg v2_73; have g_z_182 := i_rg z_182; omega)) (z_182) ws_159 H locs ls rfl (by first | (have e0 : (0 : Int32).toInt = 0 := (by decide); have q_f_18 := Hide.out f_18; have q_f_58 := Hide.out f_58; obtain ⟨u_z_182, q_z_182⟩ := i_iz ez_182 (by decide) (by decide); have g_v2_73 := i_rg v2_73; have g_z_182 := i_rg z_182; omega) | (have e0 : (0 : Int32).toInt = 0 := (by decide); have q_f_18 := Hide.out f_18; have q_f_58 := Hide.out f_58; obtain ⟨u_z_182, q_z_182⟩ := i_iz ez_182 (by decide) (by decide); have q_iv_74 := Hide.out iv_74; have q_iv_75 := Hide.out iv_75; have q_c_100 := i_nle c_100; have q_cc_157 := Hide.out cc_157; have g_c4_153 := i_rg c4_153; have g_c4_2 := i_rg c4_2; have g_v2_73 := i_rg v2_73; have g_z_182 := i_rg z_182; omega) | (have e0 : (0 : Int32).toInt = 0 := (by decide); have q_f_18 := Hide.out f_18; have q_f_58 := Hide.out f_58; obtain ⟨u_z_182, q_z_182⟩ := i_iz ez_182 (by decide) (by decide); have q_iv_74 := Hide.out iv_74; have q_iv_75 := Hide.out iv_75; have q_c_100 := i_nle c_100; have q_cc_157 := Hide.out cc_157; have q_f21_2 := Hide.out f21_2; have q_f22_2 := Hide.out f22_2; have q_rn_55 := Hide.out rn_55; have q_rn_99 := Hide.out rn_99; have q_f21_153 := Hide.out f21_153; have q_f22_153 := Hide.out f22_153; have q_kq_181 := Hide.out kq_181; have g_c2_2 := i_rg c2_2; have g_c4_153 := i_rg c4_153; have g_c4_180 := i_rg c4_180; have g_c4_2 := i_rg c4_2; have g_v2_73 := i_rg v2_73; have g_z_182 := i_rg z_182; omega) | (have e0 : (0 : Int32).toInt = 0 := (by decide); have q_f_18 := Hide.out f_18; have q_f_58 := Hide.out f_58; obtain ⟨u_z_182, q_z_182⟩ := i_iz ez_182 (by decide) (by decide); have q_iv_74 := Hide.out iv_74; have q_iv_75 := Hide.out iv_75; have q_c_100 := i_nle c_100; have q_cc_157 := Hide.out cc_157; have q_f21_2 := Hide.out f21_2; have q_f22_2 := Hide.out f22_2; have q_rn_55 := Hide.out rn_55; have q_rn_99 := Hide.out rn_99; have q_f21_153 := Hide.out f21_153; have q_f22_153 := Hide.out f22_153; have q_kq_181 := Hide.out kq_181; have q_f5_1 := Hide.out f5_1; have q_f22_1 := Hide.out f22_1; have q_f28_1 := Hide.out f28_1; have q_fq_k := Hide.out fq_k; have q_f5_2 := Hide.out f5_2; have q_f19_2 := Hide.out f19_2; have q_f20_2 := Hide.out f20_2; have q_f28_2 := Hide.out f28_2; have q_iv_31 := Hide.out iv_31; have q_c_56 := i_le c_56; have q_f_59 := Hide.out f_59; have q_f21_180 := Hide.out f21_180; have q_f22_180 := Hide.out f22_180; have g_c2_2 := i_rg c2_2; have g_c4_1 := i_rg c4_1; have g_c4_153 := i_rg c4_153; have g_c4_180 := i_rg c4_180; have g_c4_2 := i_rg c4_2; have g_v2_28 := i_rg v2_28; have g_v2_73 := i_rg v2_73; have g_z_182 := i_rg z_182; omega)) (by first | (have e0 : (0 : Int32).toInt = 0 := (by decide); have q_f21_2 := Hide.out f21_2; have q_f22_2 := Hide.out f22_2; have q_f_18 := Hide.out f_18; have q_rn_55 := Hide.out rn_55; have q_f_58 := Hide.out f_58; have q_iv_75 := Hide.out iv_75; have q_rn_99 := Hide.out rn_99; have q_c_100 := i_nle c_100; obtain ⟨u_z_182, q_z_182⟩ := i_iz ez_182 (by decide) (by decide); have g_c2_2 := i_rg c2_2; have g_c4_2 := i_rg c4_2; have g_v2_73 := i_rg v2_73; have g_z_182 := i_rg z_182; omega) | (have e0 : (0 : Int32).toInt = 0 := (by decide); have q_f21_2 := Hide.out f21_2; have q_f22_2 := Hide.out f22_2; have q_f_18 := Hide.out f_18; have q_rn_55 := Hide.out rn_55; have q_f_58 := Hide.out f_58; have q_iv_75 := Hide.out iv_75; have q_rn_99 := Hide.out rn_99; have q_c_100 := i_nle c_100; obtain ⟨u_z_182, q_z_182⟩ := i_iz ez_182 (by decide) (by decide); have q_f5_2 := Hide.out f5_2; have q_f19_2 := Hide.out f19_2; have q_f20_2 := Hide.out f20_2; have q_f28_2 := Hide.out f28_2; have q_iv_31 := Hide.out iv_31; have q_c_56 := i_le c_56; have q_iv_74 := Hide.out iv_74; have q_cc_157 := Hide.out cc_157; have g_c2_2 := i_rg c2_2; have g_c4_153 := i_rg c4_153; have g_c4_2 := i_rg c4_2; have g_v2_28 := i_rg v2_28; have g_v2_73 := i_rg v2_73; have g_z_182 := i_rg z_182; omega) | (have e0 : (0 : Int32).toInt = 0 := (by decide); have q_f21_2 := Hide.out f21_2; have q_f22_2 := Hide.out f22_2; have q_f_18 := Hide.out f_18; have q_rn_55 := Hide.out rn_55; have q_f_58 := Hide.out f_58; have q_iv_75 := Hide.out iv_75; have q_rn_99 := Hide.out rn_99; have q_c_100 := i_nle c_100; obtain ⟨u_z_182, q_z_182⟩ := i_iz ez_182 (by decide) (by decide); have q_f5_2 := Hide.out f5_2; have q_f19_2 := Hide.out f19_2; have q_f20_2 := Hide.out f20_2; have q_f28_2 := Hide.out f28_2; have q_iv_31 := Hide.out iv_31; have q_c_56 := i_le c_56; have q_iv_74 := Hide.out iv_74; have q_cc_157 := Hide.out cc_157; have q_f1_2 := Hide.out f1_2; have q_f17_2 := Hide.out f17_2; have q_f18_2 := Hide.out f18_2; have q_iv_29 := Hide.out iv_29; have q_f21_153 := Hide.out f21_153; have q_f22_153 := Hide.out f22_153; have q_kq_181 := Hide.out kq_181; have g_c2_2 := i_rg c2_2; have g_c4_153 := i_rg c4_153; have g_c4_180 := i_rg c4_180; have g_c4_2 := i_rg c4_2; have g_v2_28 := i_rg v2_28; have g_v2_73 := i_rg v2_73; have g_z_182 := i_rg z_182; omega) | (have e0 : (0 : Int32).toInt = 0 := (by decide); have q_f21_2 := Hide.out f21_2; have q_f22_2 := Hide.out f22_2; have q_f_18 := Hide.out f_18; have q_rn_55 := Hide.out rn_55; have q_f_58 := Hide.out f_58; have q_iv_75 := Hide.out iv_75; have q_rn_99 := Hide.out rn_99; have q_c_100 := i_nle c_100; obtain ⟨u_z_182, q_z_182⟩ := i_iz ez_182 (by decide) (by decide); have q_f5_2 := Hide.out f5_2; have q_f19_2 := Hide.out f19_2; have q_f20_2 := Hide.out f20_2; have q_f28_2 := Hide.out f28_2; have q_iv_31 := Hide.out iv_31; have q_c_56 := i_le c_56; have q_iv_74 := Hide.out iv_74; have q_cc_157 := Hide.out cc_157; have q_f1_2 := Hide.out f1_2; have q_f17_2 := Hide.out f17_2; have q_f18_2 := Hide.out f18_2; have q_iv_29 := Hide.out iv_29; have q_f21_153 := Hide.out f21_153; have q_f22_153 := Hide.out f22_153; have q_kq_181 := Hide.out kq_181; have q_f5_1 := Hide.out f5_1; have q_f22_1 := Hide.out f22_1; have q_f28_1 := Hide.out f28_1; have q_fq_k := Hide.out fq_k; have q_f3_2 := Hide.out f3_2; have q_f_59 := Hide.out f_59; have q_f21_180 := Hide.out f21_180; have q_f22_180 := Hide.out f22_180; have g_c2_2 := i_rg c2_2; have g_c4_1 := i_rg c4_1; have g_c4_153 := i_rg c4_153; have g_c4_180 := i_rg c4_180; have g_c4_2 := i_rg c4_2; have g_v2_28 := i_rg v2_28; have g_v2_73 := i_rg v2_73; have g_z_182 := i_rg z_182; omega)) ((E_77.tr E_160)) ((gF.tr Fr_78 Fr_161)) hG tq_186 hP hD hS (lv_sub hl [1, 2, 0] rfl)
        exact J_52 _ (0) ws_61 H locs ls rfl (by have e0 : (0 : Int32).toInt = 0 := (by decide); have q_f_18 := Hide.out f_18; have q_f_58 := Hide.out f_58; omega) (by first | (have e0 : (0 : Int32).toInt = 0 := (by decide); have q_f21_2 := Hide.out f21_2; have q_f22_2 := Hide.out f22_2; have q_f_18 := Hide.out f_18; have q_rn_55 := Hide.out rn_55; have q_f_58 := Hide.out f_58; have g_c2_2 := i_rg c2_2; have g_c4_2 := i_rg c4_2; omega) | (have e0 : (0 : Int32).toInt = 0 := (by decide); have q_f21_2 := Hide.out f21_2; have q_f22_2 := Hide.out f22_2; have q_f_18 := Hide.out f_18; have q_rn_55 := Hide.out rn_55; have q_f_58 := Hide.out f_58; have q_f5_2 := Hide.out f5_2; have q_f19_2 := Hide.out f19_2; have q_f20_2 := Hide.out f20_2; have q_f28_2 := Hide.out f28_2; have q_iv_31 := Hide.out iv_31; have q_c_56 := i_le c_56; have g_c2_2 := i_rg c2_2; have g_c4_2 := i_rg c4_2; have g_v2_28 := i_rg v2_28; omega) | (have e0 : (0 : Int32).toInt = 0 := (by decide); have q_f21_2 := Hide.out f21_2; have q_f22_2 := Hide.out f22_2; have q_f_18 := Hide.out f_18; have q_rn_55 := Hide.out rn_55; have q_f_58 := Hide.out f_58; have q_f5_2 := Hide.out f5_2; have q_f19_2 := Hide.out f19_2; have q_f20_2 := Hide.out f20_2; have q_f28_2 := Hide.out f28_2; have q_iv_31 := Hide.out iv_31; have q_c_56 := i_le c_56; have q_f1_2 := Hide.out f1_2; have q_f17_2 := Hide.out f17_2; have q_f18_2 := Hide.out f18_2; have q_iv_29 := Hide.out iv_29; have g_c2_2 := i_rg c2_2; have g_c4_2 := i_rg c4_2; have g_v2_28 := i_rg v2_28; omega) | (have e0 : (0 : Int32).toInt = 0 := (by decide); have q_f21_2 := Hide.out f21_2; have q_f22_2 := Hide.out f22_2; have q_f_18 := Hide.out f_18; have q_rn_55 := Hide.out rn_55; have q_f_58 := Hide.out f_58; have q_f5_2 := Hide.out f5_2; have q_f19_2 := Hide.out f19_2; have q_f20_2 := Hide.out f20_2; have q_f28_2 := Hide.out f28_2; have q_iv_31 := Hide.out iv_31; have q_c_56 := i_le c_56; have q_f1_2 := Hide.out f1_2; have q_f17_2 := Hide.out f17_2; have q_f18_2 := Hide.out f18_2; have q_iv_29 := Hide.out iv_29; have q_f3_2 := Hide.out f3_2; have g_c2_2 := i_rg c2_2; have g_c4_2 := i_rg c4_2; have g_v2_28 := i_rg v2_28; omega)) (gE.rf) (gF.rf) hG tq_72 hP hD hS (lv_sub hl [1, 2, 0] rfl)
      · refine lv_aload_n hx hb dX8_copyFrom_23 rfl (lv_at hl 0 rfl) ?_
        refine lv_aload_n hx hb dX8_copyFrom_24 rfl (lv_at hl 1 rfl) ?_
        refine va_get (D := gD g) (ci := 7) (v := .ref r0_2) (C := RX8) (T := TX8) (N := 15) hx hb hts inX8 hown hK hP k_2 hk_49 rfl 0 (by decide) (hts _ kw_1460) (fun _ h9 => h9) rfl dX8_copyFrom_25 ?_
        refine lv_iload_n hx hb dX8_copyFrom_28 rfl (lv_at hl 2 rfl) ?_
        refine va_iald hx hb hK hP k_50 1 hk_50 rfl (i_in2 (by first | (have e0 : (0 : Int32).toInt = 0 := (by decide); have q_f1_2 := Hide.out f1_2; have q_f17_2 := Hide.out f17_2; have q_f18_2 := Hide.out f18_2; have q_f20_2 := Hide.out f20_2; have q_f_18 := Hide.out f_18; have q_iv_29 := Hide.out iv_29; have q_iv_31 := Hide.out iv_31; have q_c_56 := i_nle c_56; have g_c2_2 := i_rg c2_2; have g_v2_28 := i_rg v2_28; omega) | (have e0 : (0 : Int32).toInt = 0 := (by decide); have q_f1_2 := Hide.out f1_2; have q_f17_2 := Hide.out f17_2; have q_f18_2 := Hide.out f18_2; have q_f20_2 := Hide.out f20_2; have q_f_18 := Hide.out f_18; have q_iv_29 := Hide.out iv_29; have q_iv_31 := Hide.out iv_31; have q_c_56 := i_nle c_56; have q_f3_2 := Hide.out f3_2; have q_f19_2 := Hide.out f19_2; have q_rn_55 := Hide.out rn_55; have g_c2_2 := i_rg c2_2; have g_c4_2 := i_rg c4_2; have g_v2_28 := i_rg v2_28; omega) | (have e0 : (0 : Int32).toInt = 0 := (by decide); have q_f1_2 := Hide.out f1_2; have q_f17_2 := Hide.out f17_2; have q_f18_2 := Hide.out f18_2; have q_f20_2 := Hide.out f20_2; have q_f_18 := Hide.out f_18; have q_iv_29 := Hide.out iv_29; have q_iv_31 := Hide.out iv_31; have q_c_56 := i_nle c_56; have q_f3_2 := Hide.out f3_2; have q_f19_2 := Hide.out f19_2; have q_rn_55 := Hide.out rn_55; have q_f21_2 := Hide.out f21_2; have q_f22_2 := Hide.out f22_2; have g_c2_2 := i_rg c2_2; have g_c4_2 := i_rg c4_2; have g_v2_28 := i_rg v2_28; omega) | (have e0 : (0 : Int32).toInt = 0 := (by decide); have q_f1_2 := Hide.out f1_2; have q_f17_2 := Hide.out f17_2; have q_f18_2 := Hide.out f18_2; have q_f20_2 := Hide.out f20_2; have q_f_18 := Hide.out f_18; have q_iv_29 := Hide.out iv_29; have q_iv_31 := Hide.out iv_31; have q_c_56 := i_nle c_56; have q_f3_2 := Hide.out f3_2; have q_f19_2 := Hide.out f19_2; have q_rn_55 := Hide.out rn_55; have q_f21_2 := Hide.out f21_2; have q_f22_2 := Hide.out f22_2; have q_f5_2 := Hide.out f5_2; have q_f28_2 := Hide.out f28_2; have g_c2_2 := i_rg c2_2; have g_c4_2 := i_rg c4_2; have g_v2_28 := i_rg v2_28; omega))) dX8_copyFrom_29 ?_
        refine lv_topi (fun z_187 ez_187 => ?_)
        refine lv_aload_n hx hb dX8_copyFrom_30 rfl (lv_at hl 1 rfl) ?_
        refine va_get (D := gD g) (ci := 7) (v := .ref r1_2) (C := RX8) (T := TX8) (N := 15) hx hb hts inX8 hown hK hP k_2 hk_49 rfl 1 (by decide) (hts _ kw_1478) (fun _ h9 => h9) rfl dX8_copyFrom_31 ?_
        refine lv_iload_n hx hb dX8_copyFrom_34 rfl (lv_at hl 2 rfl) ?_
        obtain ⟨fs9, hk_188, hq_188⟩ := ((gF.a (F' := [(7, 2)]) Fr_34 (fun _ h => h))) _ _ _ hk_1
        refine opn_X8 hG hk_188 (fun r0_188 n0_188 r1_188 n1_188 c2_188 r3_188 n3_188 c4_188 r5_188 n5_188 r6_188 n6_188 r7_188 n7_188 r8_188 n8_188 c9_188 c10_188 c11_188 v12_188 v13_188 v14_188 hf9 a_r0_188 f1_188 a_r1_188 f3_188 a_r3_188 f5_188 a_r5_188 f7_188 a_r6_188 f9_188 a_r7_188 f11_188 a_r8_188 f13_188 o_v12_188 o_v13_188 o_v14_188 f17_188 f18_188 f19_188 f20_188 f21_188 f22_188 f23_188 f24_188 f25_188 f26_188 f27_188 f28_188 f29_188 => ?_)
        subst hf9
        obtain rfl := fe_r (hq_188 0 (by decide))
        have hn9 := gI_n hD ((E_33).1 _ _ aa_35) a_r0_188
        subst hn9
        have a_r0_1 := a_r0_188
        obtain rfl := fe_r (hq_188 1 (by decide))
        have hn9 := gI_n hD ((E_33).1 _ _ aa_36) a_r1_188
        subst hn9
        have a_r1_1 := a_r1_188
        obtain rfl := fe_r (hq_188 3 (by decide))
        have hn9 := gI_n hD ((E_33).1 _ _ aa_37) a_r3_188
        subst hn9
        have a_r3_1 := a_r3_188
        obtain rfl := fe_i (hq_188 4 (by decide))
        obtain rfl := fe_r (hq_188 5 (by decide))
        have hn9 := gI_n hD ((E_33).1 _ _ aa_38) a_r5_188
        subst hn9
        have a_r5_1 := a_r5_188
        obtain rfl := fe_r (hq_188 6 (by decide))
        have hn9 := gI_n hD ((E_33).1 _ _ aa_39) a_r6_188
        subst hn9
        have a_r6_1 := a_r6_188
        obtain rfl := fe_r (hq_188 7 (by decide))
        have hn9 := gI_n hD ((E_33).1 _ _ aa_40) a_r7_188
        subst hn9
        have a_r7_1 := a_r7_188
        obtain rfl := fe_r (hq_188 8 (by decide))
        have hn9 := gI_n hD ((E_33).1 _ _ aa_41) a_r8_188
        subst hn9
        have a_r8_1 := a_r8_188
        obtain rfl := fe_i (hq_188 9 (by decide))
        obtain rfl := fe_i (hq_188 11 (by decide))
        obtain ⟨k_189, f_189, hk_189⟩ := gI_of a_r0_1
        obtain ⟨k_190, f_190, hk_190⟩ := gJ_of a_r1_1
        obtain ⟨k_191, f_191, hk_191⟩ := gI_of a_r3_1
        have cc_192 := (rowC_at hD hk_188 rfl rfl rfl rfl rfl hk_189 hk_190 hk_191 jx_15_0).1
        replace cc_192 := hide cc_192
        refine va_lald hx hb hK hP k_51 3 hk_51 rfl (i_in2 (by first | (have e0 : (0 : Int32).toInt = 0 := (by decide); have q_f3_2 := Hide.out f3_2; have q_f17_2 := Hide.out f17_2; have q_f_18 := Hide.out f_18; have q_iv_29 := Hide.out iv_29; have q_iv_31 := Hide.out iv_31; have q_c_56 := i_nle c_56; have q_cc_192 := Hide.out cc_192; have g_c2_188 := i_rg c2_188; have g_c2_2 := i_rg c2_2; have g_v2_28 := i_rg v2_28; omega) | (have e0 : (0 : Int32).toInt = 0 := (by decide); have q_f3_2 := Hide.out f3_2; have q_f17_2 := Hide.out f17_2; have q_f_18 := Hide.out f_18; have q_iv_29 := Hide.out iv_29; have q_iv_31 := Hide.out iv_31; have q_c_56 := i_nle c_56; have q_cc_192 := Hide.out cc_192; have q_f1_2 := Hide.out f1_2; have q_f18_2 := Hide.out f18_2; have q_f19_2 := Hide.out f19_2; have q_f20_2 := Hide.out f20_2; have q_rn_55 := Hide.out rn_55; have q_f19_188 := Hide.out f19_188; have q_f20_188 := Hide.out f20_188; have g_c2_188 := i_rg c2_188; have g_c2_2 := i_rg c2_2; have g_c4_2 := i_rg c4_2; have g_v2_28 := i_rg v2_28; omega) | (have e0 : (0 : Int32).toInt = 0 := (by decide); have q_f3_2 := Hide.out f3_2; have q_f17_2 := Hide.out f17_2; have q_f_18 := Hide.out f_18; have q_iv_29 := Hide.out iv_29; have q_iv_31 := Hide.out iv_31; have q_c_56 := i_nle c_56; have q_cc_192 := Hide.out cc_192; have q_f1_2 := Hide.out f1_2; have q_f18_2 := Hide.out f18_2; have q_f19_2 := Hide.out f19_2; have q_f20_2 := Hide.out f20_2; have q_rn_55 := Hide.out rn_55; have q_f19_188 := Hide.out f19_188; have q_f20_188 := Hide.out f20_188; have q_f1_1 := Hide.out f1_1; have q_f17_1 := Hide.out f17_1; have q_f18_1 := Hide.out f18_1; have q_f20_1 := Hide.out f20_1; have q_fq_k := Hide.out fq_k; have q_f21_2 := Hide.out f21_2; have q_f22_2 := Hide.out f22_2; have q_f_19 := Hide.out f_19; have g_c2_1 := i_rg c2_1; have g_c2_188 := i_rg c2_188; have g_c2_2 := i_rg c2_2; have g_c4_2 := i_rg c4_2; have g_v2_28 := i_rg v2_28; omega) | (have e0 : (0 : Int32).toInt = 0 := (by decide); have q_f3_2 := Hide.out f3_2; have q_f17_2 := Hide.out f17_2; have q_f_18 := Hide.out f_18; have q_iv_29 := Hide.out iv_29; have q_iv_31 := Hide.out iv_31; have q_c_56 := i_nle c_56; have q_cc_192 := Hide.out cc_192; have q_f1_2 := Hide.out f1_2; have q_f18_2 := Hide.out f18_2; have q_f19_2 := Hide.out f19_2; have q_f20_2 := Hide.out f20_2; have q_rn_55 := Hide.out rn_55; have q_f19_188 := Hide.out f19_188; have q_f20_188 := Hide.out f20_188; have q_f1_1 := Hide.out f1_1; have q_f17_1 := Hide.out f17_1; have q_f18_1 := Hide.out f18_1; have q_f20_1 := Hide.out f20_1; have q_fq_k := Hide.out fq_k; have q_f21_2 := Hide.out f21_2; have q_f22_2 := Hide.out f22_2; have q_f_19 := Hide.out f_19; have q_f3_1 := Hide.out f3_1; have q_f5_1 := Hide.out f5_1; have q_f19_1 := Hide.out f19_1; have q_f22_1 := Hide.out f22_1; have q_f28_1 := Hide.out f28_1; have q_f5_2 := Hide.out f5_2; have q_f28_2 := Hide.out f28_2; have g_c2_1 := i_rg c2_1; have g_c2_188 := i_rg c2_188; have g_c2_2 := i_rg c2_2; have g_c4_1 := i_rg c4_1; have g_c4_2 := i_rg c4_2; have g_v2_28 := i_rg v2_28; omega))) dX8_copyFrom_35 ?_
        refine lv_topl (fun z_193 ez_193 => ?_)
        have hFc := gfree hD hS hA
        refine va_callv (va_runV (As := [.int z_187, .long z_193]) (rest := []) ⟨hx, hb, hml, hown, hts⟩ (m_X8_add_y l g H.size ws_32 h0 (z_187) (z_193) (c2_188) (CP fS9 aS9 v2_28.toInt) hG o_h0 (gP_of hD hk_188 (fun q90 e90 => by cases e90; exact (by first | (have e0 : (0 : Int32).toInt = 0 := (by decide); have q_f_18 := Hide.out f_18; have q_f19_188 := Hide.out f19_188; have q_f20_188 := Hide.out f20_188; have q_cc_192 := Hide.out cc_192; have g_c2_188 := i_rg c2_188; have g_v2_28 := i_rg v2_28; omega) | (have e0 : (0 : Int32).toInt = 0 := (by decide); have q_f_18 := Hide.out f_18; have q_f19_188 := Hide.out f19_188; have q_f20_188 := Hide.out f20_188; have q_cc_192 := Hide.out cc_192; have q_f1_1 := Hide.out f1_1; have q_f17_1 := Hide.out f17_1; have q_f18_1 := Hide.out f18_1; have q_f20_1 := Hide.out f20_1; have q_fq_k := Hide.out fq_k; have q_f_19 := Hide.out f_19; have q_iv_29 := Hide.out iv_29; have q_iv_31 := Hide.out iv_31; have q_c_56 := i_nle c_56; have g_c2_1 := i_rg c2_1; have g_c2_188 := i_rg c2_188; have g_c2_2 := i_rg c2_2; have g_v2_28 := i_rg v2_28; omega) | (have e0 : (0 : Int32).toInt = 0 := (by decide); have q_f_18 := Hide.out f_18; have q_f19_188 := Hide.out f19_188; have q_f20_188 := Hide.out f20_188; have q_cc_192 := Hide.out cc_192; have q_f1_1 := Hide.out f1_1; have q_f17_1 := Hide.out f17_1; have q_f18_1 := Hide.out f18_1; have q_f20_1 := Hide.out f20_1; have q_fq_k := Hide.out fq_k; have q_f_19 := Hide.out f_19; have q_iv_29 := Hide.out iv_29; have q_iv_31 := Hide.out iv_31; have q_c_56 := i_nle c_56; have q_f3_1 := Hide.out f3_1; have q_f5_1 := Hide.out f5_1; have q_f19_1 := Hide.out f19_1; have q_f22_1 := Hide.out f22_1; have q_f28_1 := Hide.out f28_1; have q_f19_2 := Hide.out f19_2; have q_f20_2 := Hide.out f20_2; have q_rn_55 := Hide.out rn_55; have g_c2_1 := i_rg c2_1; have g_c2_188 := i_rg c2_188; have g_c2_2 := i_rg c2_2; have g_c4_1 := i_rg c4_1; have g_c4_2 := i_rg c4_2; have g_v2_28 := i_rg v2_28; omega) | (have e0 : (0 : Int32).toInt = 0 := (by decide); have q_f_18 := Hide.out f_18; have q_f19_188 := Hide.out f19_188; have q_f20_188 := Hide.out f20_188; have q_cc_192 := Hide.out cc_192; have q_f1_1 := Hide.out f1_1; have q_f17_1 := Hide.out f17_1; have q_f18_1 := Hide.out f18_1; have q_f20_1 := Hide.out f20_1; have q_fq_k := Hide.out fq_k; have q_f_19 := Hide.out f_19; have q_iv_29 := Hide.out iv_29; have q_iv_31 := Hide.out iv_31; have q_c_56 := i_nle c_56; have q_f3_1 := Hide.out f3_1; have q_f5_1 := Hide.out f5_1; have q_f19_1 := Hide.out f19_1; have q_f22_1 := Hide.out f22_1; have q_f28_1 := Hide.out f28_1; have q_f19_2 := Hide.out f19_2; have q_f20_2 := Hide.out f20_2; have q_rn_55 := Hide.out rn_55; have q_f21_1 := Hide.out f21_1; have q_f1_2 := Hide.out f1_2; have q_f17_2 := Hide.out f17_2; have q_f18_2 := Hide.out f18_2; have q_f21_2 := Hide.out f21_2; have q_f22_2 := Hide.out f22_2; have g_c2_1 := i_rg c2_1; have g_c2_188 := i_rg c2_188; have g_c2_2 := i_rg c2_2; have g_c4_1 := i_rg c4_1; have g_c4_2 := i_rg c4_2; have g_v2_28 := i_rg v2_28; omega)))) jx_15_0) (cwV 2 hts (gd_V kw_1489 kw_1457 kw_1458 kw_782 kw_1456) rfl rfl rfl (by decide +kernel) ⟨Nat.le_of_ble_eq_true rfl, Nat.le_of_ble_eq_true rfl⟩) ⟨gblind, va_recv hK hP (ci := 7) (q0 := k_1) rfl hk_188, fun U hU hW9 => gmk hU hW9 hP hK hD hex hE hS hFc⟩ rfl rfl hl.1 rfl (lv_room (Nat.le_of_ble_eq_true rfl)) dX8_copyFrom_36 ⟨Nat.le_of_ble_eq_true rfl, Nat.le_of_ble_eq_true rfl⟩) hS (fun q _ h => hFc q h) hFc (fun  ws_194 t9 H1 locs ht9 hvm9 hw9 hB9 hz9 hk9 hS => ?_)
        obtain ⟨E_195, Fr_196, hG, hP1, hD1⟩ := hB9
        have hP : va_P (gD g) cl0 ws_194 H1 := by rw [← ht9]; exact hP1
        have hD : va_D A ws_194 := hD1.weaken (fun _ _ _ h => hFc _ h)
        obtain ⟨hw9, xp_199⟩ := hw9
        have kf_200 := hw9
        clear hP1 hD1 hz9 hk9 hvm9 ht9 hw9
        generalize H1 = H at hP hS ⊢
        have aa_201 := a_r0_2
        have aa_202 := a_r1_2
        have aa_203 := a_r3_2
        have aa_204 := a_r5_2
        have aa_205 := a_r6_2
        have aa_206 := a_r7_2
        have aa_207 := a_r8_2
        have aa_208 := a_r0_1
        have aa_209 := a_r1_1
        have aa_210 := a_r3_1
        have aa_211 := a_r5_1
        have aa_212 := a_r6_1
        have aa_213 := a_r7_1
        have aa_214 := a_r8_1
        have o_h0 := E_195.1 _ _ o_h0
        have o_b1 := E_195.1 _ _ o_b1
        obtain ⟨fs9, hk_215, hq_215⟩ := ((gF.a (F' := [(7, 2)]) Fr_196 (fun _ h => h))) _ _ _ hk_188
        refine opn_X8 hG hk_215 (fun r0_215 n0_215 r1_215 n1_215 c2_215 r3_215 n3_215 c4_215 r5_215 n5_215 r6_215 n6_215 r7_215 n7_215 r8_215 n8_215 c9_215 c10_215 c11_215 v12_215 v13_215 v14_215 hf9 a_r0_215 f1_215 a_r1_215 f3_215 a_r3_215 f5_215 a_r5_215 f7_215 a_r6_215 f9_215 a_r7_215 f11_215 a_r8_215 f13_215 o_v12_215 o_v13_215 o_v14_215 f17_215 f18_215 f19_215 f20_215 f21_215 f22_215 f23_215 f24_215 f25_215 f26_215 f27_215 f28_215 f29_215 => ?_)
        subst hf9
        obtain rfl := fe_r (hq_215 0 (by decide))
        have hn9 := gI_n hD ((E_195).1 _ _ aa_208) a_r0_215
        subst hn9
        have a_r0_1 := a_r0_215
        obtain rfl := fe_r (hq_215 1 (by decide))
        have hn9 := gI_n hD ((E_195).1 _ _ aa_209) a_r1_215
        subst hn9
        have a_r1_1 := a_r1_215
        obtain rfl := fe_r (hq_215 3 (by decide))
        have hn9 := gI_n hD ((E_195).1 _ _ aa_210) a_r3_215
        subst hn9
        have a_r3_1 := a_r3_215
        obtain rfl := fe_i (hq_215 4 (by decide))
        obtain rfl := fe_r (hq_215 5 (by decide))
        have hn9 := gI_n hD ((E_195).1 _ _ aa_211) a_r5_215
        subst hn9
        have a_r5_1 := a_r5_215
        obtain rfl := fe_r (hq_215 6 (by decide))
        have hn9 := gI_n hD ((E_195).1 _ _ aa_212) a_r6_215
        subst hn9
        have a_r6_1 := a_r6_215
        obtain rfl := fe_r (hq_215 7 (by decide))
        have hn9 := gI_n hD ((E_195).1 _ _ aa_213) a_r7_215
        subst hn9
        have a_r7_1 := a_r7_215
        obtain rfl := fe_r (hq_215 8 (by decide))
        have hn9 := gI_n hD ((E_195).1 _ _ aa_214) a_r8_215
        subst hn9
        have a_r8_1 := a_r8_215
        obtain rfl := fe_i (hq_215 9 (by decide))
        obtain rfl := fe_i (hq_215 11 (by decide))
        have kq_216 := kf_200 _ _ _ hk_215 _ rfl _ _ rfl a_r0_1
        replace kq_216 := hide kq_216
        obtain ⟨z_217, ez_217⟩ : ∃ z : Int32, v2_28 + Int32.ofInt 1 = z := ⟨_, rfl⟩
        refine lv_iinc (v := z_217) (lv' := [(2, .int z_217), (0, .ref h0), (1, .ref b1)]) hx hb dX8_copyFrom_39 hl (k := 2) rfl ez_217 (by decide) rfl (fun ls hl => ?_)
        obtain ⟨k_218, f_218, hk_218⟩ := gI_of a_r0_1
        obtain ⟨k_219, f_219, hk_219⟩ := gJ_of a_r1_1
        obtain ⟨k_220, f_220, hk_220⟩ := gI_of a_r3_1
        have hc9 : rowC ws_194 h0 (fun _ _ _ c9 _ => c9 = c2_215.toInt) := rowC_of hk_215 rfl rfl rfl rfl rfl hk_218 hk_219 hk_220 rfl
        have tq_221 : rowC ws_194 h0 (CP fS9 aS9 z_217.toInt) := rowC_im (rowC_and hD xp_199 hc9) (fun _ _ _ _ _ w => cp_ad w.1 (by have w9 := w.2; have w8 : c2_215.toInt = v2_28.toInt + 1 := (by first | (have e0 : (0 : Int32).toInt = 0 := (by decide); have q_f1_1 := Hide.out f1_1; have q_f17_1 := Hide.out f17_1; have q_f18_1 := Hide.out f18_1; have q_f20_1 := Hide.out f20_1; have q_fq_k := Hide.out fq_k; have q_f_18 := Hide.out f_18; have q_f_19 := Hide.out f_19; have q_iv_29 := Hide.out iv_29; have q_iv_31 := Hide.out iv_31; have q_c_56 := i_nle c_56; have q_f19_188 := Hide.out f19_188; have q_f20_188 := Hide.out f20_188; have q_cc_192 := Hide.out cc_192; have q_f19_215 := Hide.out f19_215; have q_f20_215 := Hide.out f20_215; have q_kq_216 := Hide.out kq_216; obtain ⟨u_z_217, q_z_217⟩ := i_iz ez_217 (by decide) (by decide); have g_c2_1 := i_rg c2_1; have g_c2_188 := i_rg c2_188; have g_c2_2 := i_rg c2_2; have g_c2_215 := i_rg c2_215; have g_v2_28 := i_rg v2_28; have g_z_217 := i_rg z_217; omega) | (have e0 : (0 : Int32).toInt = 0 := (by decide); have q_f1_1 := Hide.out f1_1; have q_f17_1 := Hide.out f17_1; have q_f18_1 := Hide.out f18_1; have q_f20_1 := Hide.out f20_1; have q_fq_k := Hide.out fq_k; have q_f_18 := Hide.out f_18; have q_f_19 := Hide.out f_19; have q_iv_29 := Hide.out iv_29; have q_iv_31 := Hide.out iv_31; have q_c_56 := i_nle c_56; have q_f19_188 := Hide.out f19_188; have q_f20_188 := Hide.out f20_188; have q_cc_192 := Hide.out cc_192; have q_f19_215 := Hide.out f19_215; have q_f20_215 := Hide.out f20_215; have q_kq_216 := Hide.out kq_216; obtain ⟨u_z_217, q_z_217⟩ := i_iz ez_217 (by decide) (by decide); have q_f3_1 := Hide.out f3_1; have q_f5_1 := Hide.out f5_1; have q_f19_1 := Hide.out f19_1; have q_f22_1 := Hide.out f22_1; have q_f28_1 := Hide.out f28_1; have q_f19_2 := Hide.out f19_2; have q_f20_2 := Hide.out f20_2; have q_rn_55 := Hide.out rn_55; have g_c2_1 := i_rg c2_1; have g_c2_188 := i_rg c2_188; have g_c2_2 := i_rg c2_2; have g_c2_215 := i_rg c2_215; have g_c4_1 := i_rg c4_1; have g_c4_2 := i_rg c4_2; have g_v2_28 := i_rg v2_28; have g_z_217 := i_rg z_217; omega) | (have e0 : (0 : Int32).toInt = 0 := (by decide); have q_f1_1 := Hide.out f1_1; have q_f17_1 := Hide.out f17_1; have q_f18_1 := Hide.out f18_1; have q_f20_1 := Hide.out f20_1; have q_fq_k := Hide.out fq_k; have q_f_18 := Hide.out f_18; have q_f_19 := Hide.out f_19; have q_iv_29 := Hide.out iv_29; have q_iv_31 := Hide.out iv_31; have q_c_56 := i_nle c_56; have q_f19_188 := Hide.out f19_188; have q_f20_188 := Hide.out f20_188; have q_cc_192 := Hide.out cc_192; have q_f19_215 := Hide.out f19_215; have q_f20_215 := Hide.out f20_215; have q_kq_216 := Hide.out kq_216; obtain ⟨u_z_217, q_z_217⟩ := i_iz ez_217 (by decide) (by decide); have q_f3_1 := Hide.out f3_1; have q_f5_1 := Hide.out f5_1; have q_f19_1 := Hide.out f19_1; have q_f22_1 := Hide.out f22_1; have q_f28_1 := Hide.out f28_1; have q_f19_2 := Hide.out f19_2; have q_f20_2 := Hide.out f20_2; have q_rn_55 := Hide.out rn_55; have q_f21_1 := Hide.out f21_1; have q_f1_2 := Hide.out f1_2; have q_f17_2 := Hide.out f17_2; have q_f18_2 := Hide.out f18_2; have q_f21_2 := Hide.out f21_2; have q_f22_2 := Hide.out f22_2; have g_c2_1 := i_rg c2_1; have g_c2_188 := i_rg c2_188; have g_c2_2 := i_rg c2_2; have g_c2_215 := i_rg c2_215; have g_c4_1 := i_rg c4_1; have g_c4_2 := i_rg c4_2; have g_v2_28 := i_rg v2_28; have g_z_217 := i_rg z_217; omega) | (have e0 : (0 : Int32).toInt = 0 := (by decide); have q_f1_1 := Hide.out f1_1; have q_f17_1 := Hide.out f17_1; have q_f18_1 := Hide.out f18_1; have q_f20_1 := Hide.out f20_1; have q_fq_k := Hide.out fq_k; have q_f_18 := Hide.out f_18; have q_f_19 := Hide.out f_19; have q_iv_29 := Hide.out iv_29; have q_iv_31 := Hide.out iv_31; have q_c_56 := i_nle c_56; have q_f19_188 := Hide.out f19_188; have q_f20_188 := Hide.out f20_188; have q_cc_192 := Hide.out cc_192; have q_f19_215 := Hide.out f19_215; have q_f20_215 := Hide.out f20_215; have q_kq_216 := Hide.out kq_216; obtain ⟨u_z_217, q_z_217⟩ := i_iz ez_217 (by decide) (by decide); have q_f3_1 := Hide.out f3_1; have q_f5_1 := Hide.out f5_1; have q_f19_1 := Hide.out f19_1; have q_f22_1 := Hide.out f22_1; have q_f28_1 := Hide.out f28_1; have q_f19_2 := Hide.out f19_2; have q_f20_2 := Hide.out f20_2; have q_rn_55 := Hide.out rn_55; have q_f21_1 := Hide.out f21_1; have q_f1_2 := Hide.out f1_2; have q_f17_2 := Hide.out f17_2; have q_f18_2 := Hide.out f18_2; have q_f21_2 := Hide.out f21_2; have q_f22_2 := Hide.out f22_2; have q_f3_2 := Hide.out f3_2; have q_f5_2 := Hide.out f5_2; have q_f28_2 := Hide.out f28_2; have g_c2_1 := i_rg c2_1; have g_c2_188 := i_rg c2_188; have g_c2_2 := i_rg c2_2; have g_c2_215 := i_rg c2_215; have g_c4_1 := i_rg c4_1; have g_c4_2 := i_rg c4_2; have g_v2_28 := i_rg v2_28; have g_z_217 := i_rg z_217; omega)); omega) (by first | (have e0 : (0 : Int32).toInt = 0 := (by decide); have q_f_18 := Hide.out f_18; have q_iv_29 := Hide.out iv_29; have q_iv_31 := Hide.out iv_31; have q_c_56 := i_nle c_56; have q_cc_192 := Hide.out cc_192; obtain ⟨u_z_217, q_z_217⟩ := i_iz ez_217 (by decide) (by decide); have g_c2_188 := i_rg c2_188; have g_c2_2 := i_rg c2_2; have g_v2_28 := i_rg v2_28; have g_z_217 := i_rg z_217; omega) | (have e0 : (0 : Int32).toInt = 0 := (by decide); have q_f_18 := Hide.out f_18; have q_iv_29 := Hide.out iv_29; have q_iv_31 := Hide.out iv_31; have q_c_56 := i_nle c_56; have q_cc_192 := Hide.out cc_192; obtain ⟨u_z_217, q_z_217⟩ := i_iz ez_217 (by decide) (by decide); have q_f19_2 := Hide.out f19_2; have q_f20_2 := Hide.out f20_2; have q_rn_55 := Hide.out rn_55; have q_f19_188 := Hide.out f19_188; have q_f20_188 := Hide.out f20_188; have q_kq_216 := Hide.out kq_216; have g_c2_188 := i_rg c2_188; have g_c2_2 := i_rg c2_2; have g_c2_215 := i_rg c2_215; have g_c4_2 := i_rg c4_2; have g_v2_28 := i_rg v2_28; have g_z_217 := i_rg z_217; omega) | (have e0 : (0 : Int32).toInt = 0 := (by decide); have q_f_18 := Hide.out f_18; have q_iv_29 := Hide.out iv_29; have q_iv_31 := Hide.out iv_31; have q_c_56 := i_nle c_56; have q_cc_192 := Hide.out cc_192; obtain ⟨u_z_217, q_z_217⟩ := i_iz ez_217 (by decide) (by decide); have q_f19_2 := Hide.out f19_2; have q_f20_2 := Hide.out f20_2; have q_rn_55 := Hide.out rn_55; have q_f19_188 := Hide.out f19_188; have q_f20_188 := Hide.out f20_188; have q_kq_216 := Hide.out kq_216; have q_f1_1 := Hide.out f1_1; have q_f17_1 := Hide.out f17_1; have q_f18_1 := Hide.out f18_1; have q_f20_1 := Hide.out f20_1; have q_fq_k := Hide.out fq_k; have q_f1_2 := Hide.out f1_2; have q_f17_2 := Hide.out f17_2; have q_f18_2 := Hide.out f18_2; have q_f21_2 := Hide.out f21_2; have q_f22_2 := Hide.out f22_2; have q_f_19 := Hide.out f_19; have q_f19_215 := Hide.out f19_215; have q_f20_215 := Hide.out f20_215; have g_c2_1 := i_rg c2_1; have g_c2_188 := i_rg c2_188; have g_c2_2 := i_rg c2_2; have g_c2_215 := i_rg c2_215; have g_c4_2 := i_rg c4_2; have g_v2_28 := i_rg v2_28; have g_z_217 := i_rg z_217; omega) | (have e0 : (0 : Int32).toInt = 0 := (by decide); have q_f_18 := Hide.out f_18; have q_iv_29 := Hide.out iv_29; have q_iv_31 := Hide.out iv_31; have q_c_56 := i_nle c_56; have q_cc_192 := Hide.out cc_192; obtain ⟨u_z_217, q_z_217⟩ := i_iz ez_217 (by decide) (by decide); have q_f19_2 := Hide.out f19_2; have q_f20_2 := Hide.out f20_2; have q_rn_55 := Hide.out rn_55; have q_f19_188 := Hide.out f19_188; have q_f20_188 := Hide.out f20_188; have q_kq_216 := Hide.out kq_216; have q_f1_1 := Hide.out f1_1; have q_f17_1 := Hide.out f17_1; have q_f18_1 := Hide.out f18_1; have q_f20_1 := Hide.out f20_1; have q_fq_k := Hide.out fq_k; have q_f1_2 := Hide.out f1_2; have q_f17_2 := Hide.out f17_2; have q_f18_2 := Hide.out f18_2; have q_f21_2 := Hide.out f21_2; have q_f22_2 := Hide.out f22_2; have q_f_19 := Hide.out f_19; have q_f19_215 := Hide.out f19_215; have q_f20_215 := Hide.out f20_215; have q_f3_1 := Hide.out f3_1; have q_f5_1 := Hide.out f5_1; have q_f19_1 := Hide.out f19_1; have q_f22_1 := Hide.out f22_1; have q_f28_1 := Hide.out f28_1; have q_f3_2 := Hide.out f3_2; have q_f5_2 := Hide.out f5_2; have q_f28_2 := Hide.out f28_2; have g_c2_1 := i_rg c2_1; have g_c2_188 := i_rg c2_188; have g_c2_2 := i_rg c2_2; have g_c2_215 := i_rg c2_215; have g_c4_1 := i_rg c4_1; have g_c4_2 := i_rg c4_2; have g_v2_28 := i_rg v2_28; have g_z_217 := i_rg z_217; omega)) (by first | (have e0 : (0 : Int32).toInt = 0 := (by decide); have q_f_18 := Hide.out f_18; have q_iv_29 := Hide.out iv_29; have q_iv_31 := Hide.out iv_31; have q_c_56 := i_nle c_56; have q_cc_192 := Hide.out cc_192; obtain ⟨u_z_217, q_z_217⟩ := i_iz ez_217 (by decide) (by decide); have g_c2_188 := i_rg c2_188; have g_c2_2 := i_rg c2_2; have g_v2_28 := i_rg v2_28; have g_z_217 := i_rg z_217; omega) | (have e0 : (0 : Int32).toInt = 0 := (by decide); have q_f_18 := Hide.out f_18; have q_iv_29 := Hide.out iv_29; have q_iv_31 := Hide.out iv_31; have q_c_56 := i_nle c_56; have q_cc_192 := Hide.out cc_192; obtain ⟨u_z_217, q_z_217⟩ := i_iz ez_217 (by decide) (by decide); have q_f19_2 := Hide.out f19_2; have q_f20_2 := Hide.out f20_2; have q_rn_55 := Hide.out rn_55; have q_f19_188 := Hide.out f19_188; have q_f20_188 := Hide.out f20_188; have q_kq_216 := Hide.out kq_216; have g_c2_188 := i_rg c2_188; have g_c2_2 := i_rg c2_2; have g_c2_215 := i_rg c2_215; have g_c4_2 := i_rg c4_2; have g_v2_28 := i_rg v2_28; have g_z_217 := i_rg z_217; omega) | (have e0 : (0 : Int32).toInt = 0 := (by decide); have q_f_18 := Hide.out f_18; have q_iv_29 := Hide.out iv_29; have q_iv_31 := Hide.out iv_31; have q_c_56 := i_nle c_56; have q_cc_192 := Hide.out cc_192; obtain ⟨u_z_217, q_z_217⟩ := i_iz ez_217 (by decide) (by decide); have q_f19_2 := Hide.out f19_2; have q_f20_2 := Hide.out f20_2; have q_rn_55 := Hide.out rn_55; have q_f19_188 := Hide.out f19_188; have q_f20_188 := Hide.out f20_188; have q_kq_216 := Hide.out kq_216; have q_f1_1 := Hide.out f1_1; have q_f17_1 := Hide.out f17_1; have q_f18_1 := Hide.out f18_1; have q_f20_1 := Hide.out f20_1; have q_fq_k := Hide.out fq_k; have q_f1_2 := Hide.out f1_2; have q_f17_2 := Hide.out f17_2; have q_f18_2 := Hide.out f18_2; have q_f21_2 := Hide.out f21_2; have q_f22_2 := Hide.out f22_2; have q_f_19 := Hide.out f_19; have q_f19_215 := Hide.out f19_215; have q_f20_215 := Hide.out f20_215; have g_c2_1 := i_rg c2_1; have g_c2_188 := i_rg c2_188; have g_c2_2 := i_rg c2_2; have g_c2_215 := i_rg c2_215; have g_c4_2 := i_rg c4_2; have g_v2_28 := i_rg v2_28; have g_z_217 := i_rg z_217; omega) | (have e0 : (0 : Int32).toInt = 0 := (by decide); have q_f_18 := Hide.out f_18; have q_iv_29 := Hide.out iv_29; have q_iv_31 := Hide.out iv_31; have q_c_56 := i_nle c_56; have q_cc_192 := Hide.out cc_192; obtain ⟨u_z_217, q_z_217⟩ := i_iz ez_217 (by decide) (by decide); have q_f19_2 := Hide.out f19_2; have q_f20_2 := Hide.out f20_2; have q_rn_55 := Hide.out rn_55; have q_f19_188 := Hide.out f19_188; have q_f20_188 := Hide.out f20_188; have q_kq_216 := Hide.out kq_216; have q_f1_1 := Hide.out f1_1; have q_f17_1 := Hide.out f17_1; have q_f18_1 := Hide.out f18_1; have q_f20_1 := Hide.out f20_1; have q_fq_k := Hide.out fq_k; have q_f1_2 := Hide.out f1_2; have q_f17_2 := Hide.out f17_2; have q_f18_2 := Hide.out f18_2; have q_f21_2 := Hide.out f21_2; have q_f22_2 := Hide.out f22_2; have q_f_19 := Hide.out f_19; have q_f19_215 := Hide.out f19_215; have q_f20_215 := Hide.out f20_215; have q_f3_1 := Hide.out f3_1; have q_f5_1 := Hide.out f5_1; have q_f19_1 := Hide.out f19_1; have q_f22_1 := Hide.out f22_1; have q_f28_1 := Hide.out f28_1; have q_f3_2 := Hide.out f3_2; have q_f5_2 := Hide.out f5_2; have q_f28_2 := Hide.out f28_2; have g_c2_1 := i_rg c2_1; have g_c2_188 := i_rg c2_188; have g_c2_2 := i_rg c2_2; have g_c2_215 := i_rg c2_215; have g_c4_1 := i_rg c4_1; have g_c4_2 := i_rg c4_2; have g_v2_28 := i_rg v2_28; have g_z_217 := i_rg z_217; omega)) (by rw [← rq_53.1, ← cN]; exact ez_187.symm) (by rw [← rq_53.2.1, ← cN]; exact ez_193.symm))
        refine lv_goto (tgt := 15) hx hb dX8_copyFrom_42 (by decide) ?_
        exact ih_15 _ (by first | (have e0 : (0 : Int32).toInt = 0 := (by decide); have q_f_18 := Hide.out f_18; obtain ⟨u_z_217, q_z_217⟩ := i_iz ez_217 (by decide) (by decide); have g_v2_28 := i_rg v2_28; have g_z_217 := i_rg z_217; omega) | (have e0 : (0 : Int32).toInt = 0 := (by decide); have q_f_18 := Hide.out f_18; obtain ⟨u_z_217, q_z_217⟩ := i_iz ez_217 (by decide) (by decide); have q_iv_29 := Hide.out iv_29; have q_iv_31 := Hide.out iv_31; have q_c_56 := i_nle c_56; have q_cc_192 := Hide.out cc_192; have g_c2_188 := i_rg c2_188; have g_c2_2 := i_rg c2_2; have g_v2_28 := i_rg v2_28; have g_z_217 := i_rg z_217; omega) | (have e0 : (0 : Int32).toInt = 0 := (by decide); have q_f_18 := Hide.out f_18; obtain ⟨u_z_217, q_z_217⟩ := i_iz ez_217 (by decide) (by decide); have q_iv_29 := Hide.out iv_29; have q_iv_31 := Hide.out iv_31; have q_c_56 := i_nle c_56; have q_cc_192 := Hide.out cc_192; have q_f19_2 := Hide.out f19_2; have q_f20_2 := Hide.out f20_2; have q_rn_55 := Hide.out rn_55; have q_f19_188 := Hide.out f19_188; have q_f20_188 := Hide.out f20_188; have q_kq_216 := Hide.out kq_216; have g_c2_188 := i_rg c2_188; have g_c2_2 := i_rg c2_2; have g_c2_215 := i_rg c2_215; have g_c4_2 := i_rg c4_2; have g_v2_28 := i_rg v2_28; have g_z_217 := i_rg z_217; omega) | (have e0 : (0 : Int32).toInt = 0 := (by decide); have q_f_18 := Hide.out f_18; obtain ⟨u_z_217, q_z_217⟩ := i_iz ez_217 (by decide) (by decide); have q_iv_29 := Hide.out iv_29; have q_iv_31 := Hide.out iv_31; have q_c_56 := i_nle c_56; have q_cc_192 := Hide.out cc_192; have q_f19_2 := Hide.out f19_2; have q_f20_2 := Hide.out f20_2; have q_rn_55 := Hide.out rn_55; have q_f19_188 := Hide.out f19_188; have q_f20_188 := Hide.out f20_188; have q_kq_216 := Hide.out kq_216; have q_f1_1 := Hide.out f1_1; have q_f17_1 := Hide.out f17_1; have q_f18_1 := Hide.out f18_1; have q_f20_1 := Hide.out f20_1; have q_fq_k := Hide.out fq_k; have q_f1_2 := Hide.out f1_2; have q_f17_2 := Hide.out f17_2; have q_f18_2 := Hide.out f18_2; have q_f21_2 := Hide.out f21_2; have q_f22_2 := Hide.out f22_2; have q_f_19 := Hide.out f_19; have q_f19_215 := Hide.out f19_215; have q_f20_215 := Hide.out f20_215; have g_c2_1 := i_rg c2_1; have g_c2_188 := i_rg c2_188; have g_c2_2 := i_rg c2_2; have g_c2_215 := i_rg c2_215; have g_c4_2 := i_rg c4_2; have g_v2_28 := i_rg v2_28; have g_z_217 := i_rg z_217; omega)) (z_217) ws_194 H locs ls rfl (by first | (have e0 : (0 : Int32).toInt = 0 := (by decide); have q_f_18 := Hide.out f_18; obtain ⟨u_z_217, q_z_217⟩ := i_iz ez_217 (by decide) (by decide); have g_v2_28 := i_rg v2_28; have g_z_217 := i_rg z_217; omega) | (have e0 : (0 : Int32).toInt = 0 := (by decide); have q_f_18 := Hide.out f_18; obtain ⟨u_z_217, q_z_217⟩ := i_iz ez_217 (by decide) (by decide); have q_iv_29 := Hide.out iv_29; have q_iv_31 := Hide.out iv_31; have q_c_56 := i_nle c_56; have q_cc_192 := Hide.out cc_192; have g_c2_188 := i_rg c2_188; have g_c2_2 := i_rg c2_2; have g_v2_28 := i_rg v2_28; have g_z_217 := i_rg z_217; omega) | (have e0 : (0 : Int32).toInt = 0 := (by decide); have q_f_18 := Hide.out f_18; obtain ⟨u_z_217, q_z_217⟩ := i_iz ez_217 (by decide) (by decide); have q_iv_29 := Hide.out iv_29; have q_iv_31 := Hide.out iv_31; have q_c_56 := i_nle c_56; have q_cc_192 := Hide.out cc_192; have q_f19_2 := Hide.out f19_2; have q_f20_2 := Hide.out f20_2; have q_rn_55 := Hide.out rn_55; have q_f19_188 := Hide.out f19_188; have q_f20_188 := Hide.out f20_188; have q_kq_216 := Hide.out kq_216; have g_c2_188 := i_rg c2_188; have g_c2_2 := i_rg c2_2; have g_c2_215 := i_rg c2_215; have g_c4_2 := i_rg c4_2; have g_v2_28 := i_rg v2_28; have g_z_217 := i_rg z_217; omega) | (have e0 : (0 : Int32).toInt = 0 := (by decide); have q_f_18 := Hide.out f_18; obtain ⟨u_z_217, q_z_217⟩ := i_iz ez_217 (by decide) (by decide); have q_iv_29 := Hide.out iv_29; have q_iv_31 := Hide.out iv_31; have q_c_56 := i_nle c_56; have q_cc_192 := Hide.out cc_192; have q_f19_2 := Hide.out f19_2; have q_f20_2 := Hide.out f20_2; have q_rn_55 := Hide.out rn_55; have q_f19_188 := Hide.out f19_188; have q_f20_188 := Hide.out f20_188; have q_kq_216 := Hide.out kq_216; have q_f1_1 := Hide.out f1_1; have q_f17_1 := Hide.out f17_1; have q_f18_1 := Hide.out f18_1; have q_f20_1 := Hide.out f20_1; have q_fq_k := Hide.out fq_k; have q_f1_2 := Hide.out f1_2; have q_f17_2 := Hide.out f17_2; have q_f18_2 := Hide.out f18_2; have q_f21_2 := Hide.out f21_2; have q_f22_2 := Hide.out f22_2; have q_f_19 := Hide.out f_19; have q_f19_215 := Hide.out f19_215; have q_f20_215 := Hide.out f20_215; have g_c2_1 := i_rg c2_1; have g_c2_188 := i_rg c2_188; have g_c2_2 := i_rg c2_2; have g_c2_215 := i_rg c2_215; have g_c4_2 := i_rg c4_2; have g_v2_28 := i_rg v2_28; have g_z_217 := i_rg z_217; omega)) (by first | (have e0 : (0 : Int32).toInt = 0 := (by decide); have q_f19_2 := Hide.out f19_2; have q_f20_2 := Hide.out f20_2; have q_f_18 := Hide.out f_18; have q_iv_31 := Hide.out iv_31; have q_rn_55 := Hide.out rn_55; have q_c_56 := i_nle c_56; obtain ⟨u_z_217, q_z_217⟩ := i_iz ez_217 (by decide) (by decide); have g_c2_2 := i_rg c2_2; have g_c4_2 := i_rg c4_2; have g_v2_28 := i_rg v2_28; have g_z_217 := i_rg z_217; omega) | (have e0 : (0 : Int32).toInt = 0 := (by decide); have q_f19_2 := Hide.out f19_2; have q_f20_2 := Hide.out f20_2; have q_f_18 := Hide.out f_18; have q_iv_31 := Hide.out iv_31; have q_rn_55 := Hide.out rn_55; have q_c_56 := i_nle c_56; obtain ⟨u_z_217, q_z_217⟩ := i_iz ez_217 (by decide) (by decide); have q_f1_2 := Hide.out f1_2; have q_f17_2 := Hide.out f17_2; have q_f18_2 := Hide.out f18_2; have q_f21_2 := Hide.out f21_2; have q_f22_2 := Hide.out f22_2; have q_iv_29 := Hide.out iv_29; have q_cc_192 := Hide.out cc_192; have g_c2_188 := i_rg c2_188; have g_c2_2 := i_rg c2_2; have g_c4_2 := i_rg c4_2; have g_v2_28 := i_rg v2_28; have g_z_217 := i_rg z_217; omega) | (have e0 : (0 : Int32).toInt = 0 := (by decide); have q_f19_2 := Hide.out f19_2; have q_f20_2 := Hide.out f20_2; have q_f_18 := Hide.out f_18; have q_iv_31 := Hide.out iv_31; have q_rn_55 := Hide.out rn_55; have q_c_56 := i_nle c_56; obtain ⟨u_z_217, q_z_217⟩ := i_iz ez_217 (by decide) (by decide); have q_f1_2 := Hide.out f1_2; have q_f17_2 := Hide.out f17_2; have q_f18_2 := Hide.out f18_2; have q_f21_2 := Hide.out f21_2; have q_f22_2 := Hide.out f22_2; have q_iv_29 := Hide.out iv_29; have q_cc_192 := Hide.out cc_192; have q_f3_2 := Hide.out f3_2; have q_f5_2 := Hide.out f5_2; have q_f28_2 := Hide.out f28_2; have q_f19_188 := Hide.out f19_188; have q_f20_188 := Hide.out f20_188; have q_kq_216 := Hide.out kq_216; have g_c2_188 := i_rg c2_188; have g_c2_2 := i_rg c2_2; have g_c2_215 := i_rg c2_215; have g_c4_2 := i_rg c4_2; have g_v2_28 := i_rg v2_28; have g_z_217 := i_rg z_217; omega) | (have e0 : (0 : Int32).toInt = 0 := (by decide); have q_f19_2 := Hide.out f19_2; have q_f20_2 := Hide.out f20_2; have q_f_18 := Hide.out f_18; have q_iv_31 := Hide.out iv_31; have q_rn_55 := Hide.out rn_55; have q_c_56 := i_nle c_56; obtain ⟨u_z_217, q_z_217⟩ := i_iz ez_217 (by decide) (by decide); have q_f1_2 := Hide.out f1_2; have q_f17_2 := Hide.out f17_2; have q_f18_2 := Hide.out f18_2; have q_f21_2 := Hide.out f21_2; have q_f22_2 := Hide.out f22_2; have q_iv_29 := Hide.out iv_29; have q_cc_192 := Hide.out cc_192; have q_f3_2 := Hide.out f3_2; have q_f5_2 := Hide.out f5_2; have q_f28_2 := Hide.out f28_2; have q_f19_188 := Hide.out f19_188; have q_f20_188 := Hide.out f20_188; have q_kq_216 := Hide.out kq_216; have q_f1_1 := Hide.out f1_1; have q_f17_1 := Hide.out f17_1; have q_f18_1 := Hide.out f18_1; have q_f20_1 := Hide.out f20_1; have q_fq_k := Hide.out fq_k; have q_f_19 := Hide.out f_19; have q_f19_215 := Hide.out f19_215; have q_f20_215 := Hide.out f20_215; have g_c2_1 := i_rg c2_1; have g_c2_188 := i_rg c2_188; have g_c2_2 := i_rg c2_2; have g_c2_215 := i_rg c2_215; have g_c4_2 := i_rg c4_2; have g_v2_28 := i_rg v2_28; have g_z_217 := i_rg z_217; omega)) ((E_33.tr E_195)) ((gF.tr Fr_34 Fr_196)) hG tq_221 hP hD hS (lv_sub hl [1, 2, 0] rfl)
  exact J_15 _ (0) ws_21 H locs ls rfl (by have e0 : (0 : Int32).toInt = 0 := (by decide); have q_f_18 := Hide.out f_18; omega) (by first | (have e0 : (0 : Int32).toInt = 0 := (by decide); have q_f19_2 := Hide.out f19_2; have q_f20_2 := Hide.out f20_2; have q_f_18 := Hide.out f_18; have g_c2_2 := i_rg c2_2; omega) | (have e0 : (0 : Int32).toInt = 0 := (by decide); have q_f19_2 := Hide.out f19_2; have q_f20_2 := Hide.out f20_2; have q_f_18 := Hide.out f_18; have q_f1_2 := Hide.out f1_2; have q_f17_2 := Hide.out f17_2; have q_f18_2 := Hide.out f18_2; have g_c2_2 := i_rg c2_2; omega) | (have e0 : (0 : Int32).toInt = 0 := (by decide); have q_f19_2 := Hide.out f19_2; have q_f20_2 := Hide.out f20_2; have q_f_18 := Hide.out f_18; have q_f1_2 := Hide.out f1_2; have q_f17_2 := Hide.out f17_2; have q_f18_2 := Hide.out f18_2; have q_f3_2 := Hide.out f3_2; have g_c2_2 := i_rg c2_2; omega)) (gE.rf) (gF.rf) hG tq_27 hP hD hS (lv_sub hl [1, 2, 0] rfl)
