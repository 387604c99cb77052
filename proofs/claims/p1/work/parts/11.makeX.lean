set_option maxHeartbeats 4000000 in
set_option maxRecDepth 100000 in
theorem m_X12_init (l : Launch) (dC : Nat → ClassId) (dI : Nat → Nat → Nat) (sz : Nat) (h0 : Nat)  : Met l yX12_init (wt yX12_init cX12_init 1 none) ({ frames := 3, cells := 79, slots := 3727, locals := 55 }) (va_Pc [.ref h0] (st_U dC dI sz [(h0, .inr (10, dfX12))] [])) (va_Qv (fun _ : Unit => True) (fun (_ : Unit) (t : State) => ∃ (fx : List Value), ∃ (ht : Nat), ∃ (ft : List Value), ∃ (htd : Nat), ∃ (cB : ClassId), ∃ (hw : Nat), ∃ (fw : List Value), ∃ (hc : Nat), ∃ (fc : List Value), ∃ (hr : Nat), ∃ (fr : List Value), ∃ (hm : Nat), ∃ (fm : List Value), ∃ (hma : Nat), ∃ (cJ : ClassId), ∃ (hs : Nat), ∃ (fq : List Value), ∃ (hsa : Nat), ∃ (cI : ClassId), (fx.length = 18) ∧ (fx[0]? = some (.ref ht)) ∧ (fx[1]? = some (.ref hw)) ∧ (fx[4]? = some (.ref hc)) ∧ (fx[7]? = some (.ref hm)) ∧ (fx[9]? = some (.ref hs)) ∧ (fx[10]? = some (.int 0)) ∧ (fx[11]? = some (.int 0)) ∧ (fx[12]? = some (.int 0)) ∧ (fx[13]? = some (.int 0)) ∧ (fx[14]? = some (.int (-1))) ∧ (fx[15]? = some (.int (-1))) ∧ (fx[16]? = some (.int (-1))) ∧ (ft.length = 2) ∧ (ft[0]? = some (.ref htd)) ∧ (ft[1]? = some (.int 0)) ∧ (fw.length = 2) ∧ (fw[1]? = some (.int 0)) ∧ (fc.length = 12) ∧ (fc[0]? = some (.ref hr)) ∧ (fr.length = 17) ∧ (fm.length = 20) ∧ (fm[0]? = some (.null)) ∧ (fm[5]? = some (.int 0)) ∧ (fm[6]? = some (.ref hma)) ∧ (fm[7]? = some (.int 0)) ∧ (fm[16]? = some (.long 0)) ∧ (fm[17]? = some (.int (-1))) ∧ (fm[18]? = some (.int 0)) ∧ (fm[19]? = some (.int 0)) ∧ (fq.length = 6) ∧ (fq[1]? = some (.ref hsa)) ∧ va_P (dC, dI) cl0 [(h0, .inr (10, fx)), (ht, .inr (0, ft)), (htd, .inl (cB, 64, .inl (fun _ => 0))), (hw, .inr (0, fw)), (hc, .inr (2, fc)), (hr, .inr (6, fr)), (hm, .inr (5, fm)), (hma, .inl (cJ, 8, .inr (.inl (fun _ => 0)))), (hs, .inr (8, fq)), (hsa, .inl (cI, 12, .inl (fun _ => 0)))] t.heap ∧ va_K (dC, dI) cl0 [(cB, .byte), (cJ, .long), (cI, .int)] t ∧ va_D (va_A [(h0, .inr (10, dfX12))] sz) [(h0, .inr (10, fx)), (ht, .inr (0, ft)), (htd, .inl (cB, 64, .inl (fun _ => 0))), (hw, .inr (0, fw)), (hc, .inr (2, fc)), (hr, .inr (6, fr)), (hm, .inr (5, fm)), (hma, .inl (cJ, 8, .inr (.inl (fun _ => 0)))), (hs, .inr (8, fq)), (hsa, .inl (cI, 12, .inl (fun _ => 0)))]) (va_A [(h0, .inr (10, dfX12))] sz)) 79 3727 (va_A [(h0, .inr (10, dfX12))] sz) := by
  refine Met.ofW (cc := cX12_init) (maxL := 1) (ret := none) (by decide) rfl ?_
  intro p e s m args below meth c s₁ B hml hv
  obtain ⟨rfl, hsz, hP, hK, hD0, hex⟩ := hv
  have hx := B.exec
  have hb := B.bytes
  have hr := B.returns
  have hts0 := atoms_spec (ws := wt yX12_init cX12_init 1 none) B.pre
  have hts : ∀ w ∈ tb, w.before _ s = true := fun w h => hts0 w (List.mem_cons_of_mem _ h)
  have hown : s.vm.findClass RX12 = some m.cls := findClass_of_methodNamed B.named
  have hlocks := B.notSynchronized
  have hin : meth.name = "<init>" := (name_of_methodNamed B.named B.method).1
  subst hsz
  have hD := hD0.self (sz := s.heap.size)
  generalize hAe : va_A [(h0, .inr (10, dfX12))] s.heap.size = A at hD ⊢
  have hA : ∀ q : Nat, s.heap.size ≤ q → A q := fun q h => by rw [← hAe]; exact Or.inr h
  have hS : va_S A s.heap s.heap [] := va_S.rf
  have hl := lv_entry ([.ref h0]) (n := 1) (Nat.le_of_ble_eq_true rfl)
  rw [lg_entry_eq]
  generalize (lg_sl ([.ref h0]) ++ List.replicate (1 - (lg_sl ([.ref h0])).length) Slot.unset).toArray = ls at hl ⊢
  have hl : lv_has ls 1 [(0, .ref h0)] := hl
  refine lv_aload_n hx hb dX12_init_0 rfl (lv_at hl 0 rfl) ?_
  refine W.objInit hx hb hown (hts _ kw_101) (hts _ kw_1) (hts _ kw_2) rfl (by rw [hml]; exact hl.1) rfl dX12_init_1 (Nat.le_of_ble_eq_true rfl) (Nat.le_of_ble_eq_true rfl) ?_
  refine W.eq (g2 := F0 m 4 ls []) rfl ?_
  refine lv_aload_n hx hb dX12_init_4 rfl (lv_at hl 0 rfl) ?_
  refine va_new (ci := 0) (fs := dfX0) (C := RX0) (T := TX0) (N := 2) hx hb hts inX0 tyX0 tyX0_ok hown (hts _ kw_102) (hts _ kw_48) (hts _ kw_49) hK hP hD hS hA rfl dfX0_ok (Nat.le_of_ble_eq_true rfl) (Nat.le_of_ble_eq_true rfl) dX12_init_5 (fun q_1 H hP hD hS => ?_)
  have hP : va_P (dC, dI) cl0 [(h0, .inr (10, dfX12)), (q_1, .inr (0, dfX0))] H := hP
  have hD : va_D A [(h0, .inr (10, dfX12)), (q_1, .inr (0, dfX0))] := hD
  refine W.widen (k := 1) (n := 2) (Nat.le_of_ble_eq_true rfl) (Nat.le_of_ble_eq_true rfl) ?_
  refine lv_dup hx hb dX12_init_8 rfl ?_
  have hPc := hP.sub (ws' := [(q_1, .inr (0, dfX0))]) [1] rfl
  have hDc := hD.sub (ws' := [(q_1, .inr (0, dfX0))]) [1] (by decide) rfl
  have hKc := hK.sub (tys' := []) [] rfl
  have hFc := va_free (wc := [(q_1, .inr (0, dfX0))]) hD hS hA [1] rfl
  refine va_callv (va_runIN (As := []) (rest := [.ref q_1, .ref h0]) ⟨hx, hb, hml, hown, hts⟩ (m_X0_init l dC dI H.size q_1 ) ⟨va_cnB 0 hts (gd_I kw_50) rfl rfl rfl (nw_of (by exact nn_X12_9) hex) (hts _ kw_49) (by decide +kernel) ⟨Nat.le_of_ble_eq_true rfl, Nat.le_of_ble_eq_true rfl⟩, rfl, hts _ kw_51⟩ ⟨st_blind, fun U hU hW9 => st_mk hU hW9 hPc hKc hDc hex⟩ rfl rfl hl.1 rfl (lv_room (Nat.le_of_ble_eq_true rfl)) dX12_init_9 ⟨Nat.le_of_ble_eq_true rfl, Nat.le_of_ble_eq_true rfl⟩) hS (fun q _ h => hFc q h) hFc (fun  u9 t9 H1 locs ht9 hvm9 hw9 hB9 hz9 hk9 hS => ?_)
  obtain ⟨fs1_2, hd_3, cB_4, L_fs1_2, g_fs1_2_0, g_fs1_2_1, hP1, hK1, hD1⟩ := hB9
  rw [ht9] at hP1
  have hK1 := va_K.moved hvm9.symm hK1
  obtain ⟨hP, hD⟩ := va_join (wr := [(h0, .inr (10, dfX12))]) (w1 := [(q_1, .inr (0, fs1_2)), (hd_3, .inl (cB_4, 64, .inl (fun _ => 0)))]) hP hD [1] [0] rfl rfl (by decide) (by decide) hk9 hFc hP1 hD1
  have hK := (hK.sub (tys' := []) [] rfl).app hK1
  generalize H1 = H at hP hS ⊢
  have hP : va_P (dC, dI) cl0 [(h0, .inr (10, dfX12)), (q_1, .inr (0, fs1_2)), (hd_3, .inl (cB_4, 64, .inl (fun _ => 0)))] H := hP
  have hD : va_D A [(h0, .inr (10, dfX12)), (q_1, .inr (0, fs1_2)), (hd_3, .inl (cB_4, 64, .inl (fun _ => 0)))] := hD
  have hK : va_K (dC, dI) cl0 [(cB_4, .byte)] s := hK
  refine W.widen (k := 2) (n := 66) (by omega) (by omega) ?_
  refine va_putF (D := (dC, dI)) (ci := 10) (v := .ref q_1) (ty := (.object "CodeFoundry$Bytes")) (C := RX12) (T := TX12) (N := 18) hx hb hts inX12 tyX12 tyX12_ok nmX12 hown hK hP hD hS 0 rfl rfl 0 (by decide) (hts _ kw_103) (fun _ h9 => h9) rfl hin rfl (by decide +kernel) rfl rfl (by rw [L_dfX12]; decide) dX12_init_12 (fun H locs hP hD hS => ?_)
  obtain ⟨dfX12_5, e_dfX12_5⟩ : ∃ z, z = dfX12.set 0 (.ref q_1) := ⟨_, rfl⟩
  have hP : va_P (dC, dI) cl0 [(h0, .inr (10, dfX12_5)), (q_1, .inr (0, fs1_2)), (hd_3, .inl (cB_4, 64, .inl (fun _ => 0)))] H := by rw [e_dfX12_5]; exact hP
  have hD : va_D A [(h0, .inr (10, dfX12_5)), (q_1, .inr (0, fs1_2)), (hd_3, .inl (cB_4, 64, .inl (fun _ => 0)))] := by rw [e_dfX12_5]; exact hD
  have L_dfX12_5 : dfX12_5.length = 18 := fx_len e_dfX12_5 L_dfX12
  have g_dfX12_5_10 := fx_ne (j := 10) e_dfX12_5 g_dfX12_10 (by decide)
  have g_dfX12_5_11 := fx_ne (j := 11) e_dfX12_5 g_dfX12_11 (by decide)
  have g_dfX12_5_12 := fx_ne (j := 12) e_dfX12_5 g_dfX12_12 (by decide)
  have g_dfX12_5_13 := fx_ne (j := 13) e_dfX12_5 g_dfX12_13 (by decide)
  have g_dfX12_5_0 := fx_self e_dfX12_5 (by rw [L_dfX12]; decide)
  refine lv_aload_n hx hb dX12_init_15 rfl (lv_at hl 0 rfl) ?_
  refine va_new (ci := 0) (fs := dfX0) (C := RX0) (T := TX0) (N := 2) hx hb hts inX0 tyX0 tyX0_ok hown (hts _ kw_102) (hts _ kw_48) (hts _ kw_49) hK hP hD hS hA rfl dfX0_ok (Nat.le_of_ble_eq_true rfl) (Nat.le_of_ble_eq_true rfl) dX12_init_16 (fun q_6 H hP hD hS => ?_)
  have hP : va_P (dC, dI) cl0 [(h0, .inr (10, dfX12_5)), (q_1, .inr (0, fs1_2)), (hd_3, .inl (cB_4, 64, .inl (fun _ => 0))), (q_6, .inr (0, dfX0))] H := hP
  have hD : va_D A [(h0, .inr (10, dfX12_5)), (q_1, .inr (0, fs1_2)), (hd_3, .inl (cB_4, 64, .inl (fun _ => 0))), (q_6, .inr (0, dfX0))] := hD
  refine W.widen (k := 3) (n := 68) (Nat.le_of_ble_eq_true rfl) (Nat.le_of_ble_eq_true rfl) ?_
  refine lv_dup hx hb dX12_init_19 rfl ?_
  have hPc := hP.sub (ws' := [(q_6, .inr (0, dfX0))]) [3] rfl
  have hDc := hD.sub (ws' := [(q_6, .inr (0, dfX0))]) [3] (by decide) rfl
  have hKc := hK.sub (tys' := []) [] rfl
  have hFc := va_free (wc := [(q_6, .inr (0, dfX0))]) hD hS hA [3] rfl
  refine va_callv (va_runIN (As := []) (rest := [.ref q_6, .ref h0]) ⟨hx, hb, hml, hown, hts⟩ (m_X0_init l dC dI H.size q_6 ) ⟨va_cnB 0 hts (gd_I kw_50) rfl rfl rfl (nw_of (by exact nn_X12_9) hex) (hts _ kw_49) (by decide +kernel) ⟨Nat.le_of_ble_eq_true rfl, Nat.le_of_ble_eq_true rfl⟩, rfl, hts _ kw_51⟩ ⟨st_blind, fun U hU hW9 => st_mk hU hW9 hPc hKc hDc hex⟩ rfl rfl hl.1 rfl (lv_room (Nat.le_of_ble_eq_true rfl)) dX12_init_20 ⟨Nat.le_of_ble_eq_true rfl, Nat.le_of_ble_eq_true rfl⟩) hS (fun q _ h => hFc q h) hFc (fun  u9 t9 H1 locs ht9 hvm9 hw9 hB9 hz9 hk9 hS => ?_)
  obtain ⟨fs1_7, hd_8, cB_9, L_fs1_7, g_fs1_7_0, g_fs1_7_1, hP1, hK1, hD1⟩ := hB9
  rw [ht9] at hP1
  have hK1 := va_K.moved hvm9.symm hK1
  obtain ⟨hP, hD⟩ := va_join (wr := [(h0, .inr (10, dfX12_5)), (q_1, .inr (0, fs1_2)), (hd_3, .inl (cB_4, 64, .inl (fun _ => 0)))]) (w1 := [(q_6, .inr (0, fs1_7)), (hd_8, .inl (cB_9, 64, .inl (fun _ => 0)))]) hP hD [3] [0, 1, 2] rfl rfl (by decide) (by decide) hk9 hFc hP1 hD1
  have hK := (hK.sub (tys' := [(cB_4, .byte)]) [0] rfl).app hK1
  generalize H1 = H at hP hS ⊢
  have hP : va_P (dC, dI) cl0 [(h0, .inr (10, dfX12_5)), (q_1, .inr (0, fs1_2)), (hd_3, .inl (cB_4, 64, .inl (fun _ => 0))), (q_6, .inr (0, fs1_7)), (hd_8, .inl (cB_9, 64, .inl (fun _ => 0)))] H := hP
  have hD : va_D A [(h0, .inr (10, dfX12_5)), (q_1, .inr (0, fs1_2)), (hd_3, .inl (cB_4, 64, .inl (fun _ => 0))), (q_6, .inr (0, fs1_7)), (hd_8, .inl (cB_9, 64, .inl (fun _ => 0)))] := hD
  have hK : va_K (dC, dI) cl0 [(cB_4, .byte), (cB_9, .byte)] s := hK
  refine W.widen (k := 4) (n := 132) (by omega) (by omega) ?_
  refine va_putF (D := (dC, dI)) (ci := 10) (v := .ref q_6) (ty := (.object "CodeFoundry$Bytes")) (C := RX12) (T := TX12) (N := 18) hx hb hts inX12 tyX12 tyX12_ok nmX12 hown hK hP hD hS 0 rfl rfl 1 (by decide) (hts _ kw_104) (fun _ h9 => h9) rfl hin rfl (by decide +kernel) rfl rfl (by rw [L_dfX12_5]; decide) dX12_init_23 (fun H locs hP hD hS => ?_)
  obtain ⟨dfX12_10, e_dfX12_10⟩ : ∃ z, z = dfX12_5.set 1 (.ref q_6) := ⟨_, rfl⟩
  have hP : va_P (dC, dI) cl0 [(h0, .inr (10, dfX12_10)), (q_1, .inr (0, fs1_2)), (hd_3, .inl (cB_4, 64, .inl (fun _ => 0))), (q_6, .inr (0, fs1_7)), (hd_8, .inl (cB_9, 64, .inl (fun _ => 0)))] H := by rw [e_dfX12_10]; exact hP
  have hD : va_D A [(h0, .inr (10, dfX12_10)), (q_1, .inr (0, fs1_2)), (hd_3, .inl (cB_4, 64, .inl (fun _ => 0))), (q_6, .inr (0, fs1_7)), (hd_8, .inl (cB_9, 64, .inl (fun _ => 0)))] := by rw [e_dfX12_10]; exact hD
  have L_dfX12_10 : dfX12_10.length = 18 := fx_len e_dfX12_10 L_dfX12_5
  have g_dfX12_10_10 := fx_ne (j := 10) e_dfX12_10 g_dfX12_5_10 (by decide)
  have g_dfX12_10_11 := fx_ne (j := 11) e_dfX12_10 g_dfX12_5_11 (by decide)
  have g_dfX12_10_12 := fx_ne (j := 12) e_dfX12_10 g_dfX12_5_12 (by decide)
  have g_dfX12_10_13 := fx_ne (j := 13) e_dfX12_10 g_dfX12_5_13 (by decide)
  have g_dfX12_10_0 := fx_ne (j := 0) e_dfX12_10 g_dfX12_5_0 (by decide)
  have g_dfX12_10_1 := fx_self e_dfX12_10 (by rw [L_dfX12_5]; decide)
  refine lv_aload_n hx hb dX12_init_26 rfl (lv_at hl 0 rfl) ?_
  refine va_new (ci := 0) (fs := dfX0) (C := RX0) (T := TX0) (N := 2) hx hb hts inX0 tyX0 tyX0_ok hown (hts _ kw_102) (hts _ kw_48) (hts _ kw_49) hK hP hD hS hA rfl dfX0_ok (Nat.le_of_ble_eq_true rfl) (Nat.le_of_ble_eq_true rfl) dX12_init_27 (fun q_11 H hP hD hS => ?_)
  have hP : va_P (dC, dI) cl0 [(h0, .inr (10, dfX12_10)), (q_1, .inr (0, fs1_2)), (hd_3, .inl (cB_4, 64, .inl (fun _ => 0))), (q_6, .inr (0, fs1_7)), (hd_8, .inl (cB_9, 64, .inl (fun _ => 0))), (q_11, .inr (0, dfX0))] H := hP
  have hD : va_D A [(h0, .inr (10, dfX12_10)), (q_1, .inr (0, fs1_2)), (hd_3, .inl (cB_4, 64, .inl (fun _ => 0))), (q_6, .inr (0, fs1_7)), (hd_8, .inl (cB_9, 64, .inl (fun _ => 0))), (q_11, .inr (0, dfX0))] := hD
  refine W.widen (k := 5) (n := 134) (Nat.le_of_ble_eq_true rfl) (Nat.le_of_ble_eq_true rfl) ?_
  refine lv_dup hx hb dX12_init_30 rfl ?_
  have hPc := hP.sub (ws' := [(q_11, .inr (0, dfX0))]) [5] rfl
  have hDc := hD.sub (ws' := [(q_11, .inr (0, dfX0))]) [5] (by decide) rfl
  have hKc := hK.sub (tys' := []) [] rfl
  have hFc := va_free (wc := [(q_11, .inr (0, dfX0))]) hD hS hA [5] rfl
  refine va_callv (va_runIN (As := []) (rest := [.ref q_11, .ref h0]) ⟨hx, hb, hml, hown, hts⟩ (m_X0_init l dC dI H.size q_11 ) ⟨va_cnB 0 hts (gd_I kw_50) rfl rfl rfl (nw_of (by exact nn_X12_9) hex) (hts _ kw_49) (by decide +kernel) ⟨Nat.le_of_ble_eq_true rfl, Nat.le_of_ble_eq_true rfl⟩, rfl, hts _ kw_51⟩ ⟨st_blind, fun U hU hW9 => st_mk hU hW9 hPc hKc hDc hex⟩ rfl rfl hl.1 rfl (lv_room (Nat.le_of_ble_eq_true rfl)) dX12_init_31 ⟨Nat.le_of_ble_eq_true rfl, Nat.le_of_ble_eq_true rfl⟩) hS (fun q _ h => hFc q h) hFc (fun  u9 t9 H1 locs ht9 hvm9 hw9 hB9 hz9 hk9 hS => ?_)
  obtain ⟨fs1_12, hd_13, cB_14, L_fs1_12, g_fs1_12_0, g_fs1_12_1, hP1, hK1, hD1⟩ := hB9
  rw [ht9] at hP1
  have hK1 := va_K.moved hvm9.symm hK1
  obtain ⟨hP, hD⟩ := va_join (wr := [(h0, .inr (10, dfX12_10)), (q_1, .inr (0, fs1_2)), (hd_3, .inl (cB_4, 64, .inl (fun _ => 0))), (q_6, .inr (0, fs1_7)), (hd_8, .inl (cB_9, 64, .inl (fun _ => 0)))]) (w1 := [(q_11, .inr (0, fs1_12)), (hd_13, .inl (cB_14, 64, .inl (fun _ => 0)))]) hP hD [5] [0, 1, 2, 3, 4] rfl rfl (by decide) (by decide) hk9 hFc hP1 hD1
  have hK := (hK.sub (tys' := [(cB_4, .byte), (cB_9, .byte)]) [0, 1] rfl).app hK1
  generalize H1 = H at hP hS ⊢
  have hP : va_P (dC, dI) cl0 [(h0, .inr (10, dfX12_10)), (q_1, .inr (0, fs1_2)), (hd_3, .inl (cB_4, 64, .inl (fun _ => 0))), (q_6, .inr (0, fs1_7)), (hd_8, .inl (cB_9, 64, .inl (fun _ => 0))), (q_11, .inr (0, fs1_12)), (hd_13, .inl (cB_14, 64, .inl (fun _ => 0)))] H := hP
  have hD : va_D A [(h0, .inr (10, dfX12_10)), (q_1, .inr (0, fs1_2)), (hd_3, .inl (cB_4, 64, .inl (fun _ => 0))), (q_6, .inr (0, fs1_7)), (hd_8, .inl (cB_9, 64, .inl (fun _ => 0))), (q_11, .inr (0, fs1_12)), (hd_13, .inl (cB_14, 64, .inl (fun _ => 0)))] := hD
  have hK : va_K (dC, dI) cl0 [(cB_4, .byte), (cB_9, .byte), (cB_14, .byte)] s := hK
  refine W.widen (k := 6) (n := 198) (by omega) (by omega) ?_
  refine va_putF (D := (dC, dI)) (ci := 10) (v := .ref q_11) (ty := (.object "CodeFoundry$Bytes")) (C := RX12) (T := TX12) (N := 18) hx hb hts inX12 tyX12 tyX12_ok nmX12 hown hK hP hD hS 0 rfl rfl 2 (by decide) (hts _ kw_105) (fun _ h9 => h9) rfl hin rfl (by decide +kernel) rfl rfl (by rw [L_dfX12_10]; decide) dX12_init_34 (fun H locs hP hD hS => ?_)
  obtain ⟨dfX12_15, e_dfX12_15⟩ : ∃ z, z = dfX12_10.set 2 (.ref q_11) := ⟨_, rfl⟩
  have hP : va_P (dC, dI) cl0 [(h0, .inr (10, dfX12_15)), (q_1, .inr (0, fs1_2)), (hd_3, .inl (cB_4, 64, .inl (fun _ => 0))), (q_6, .inr (0, fs1_7)), (hd_8, .inl (cB_9, 64, .inl (fun _ => 0))), (q_11, .inr (0, fs1_12)), (hd_13, .inl (cB_14, 64, .inl (fun _ => 0)))] H := by rw [e_dfX12_15]; exact hP
  have hD : va_D A [(h0, .inr (10, dfX12_15)), (q_1, .inr (0, fs1_2)), (hd_3, .inl (cB_4, 64, .inl (fun _ => 0))), (q_6, .inr (0, fs1_7)), (hd_8, .inl (cB_9, 64, .inl (fun _ => 0))), (q_11, .inr (0, fs1_12)), (hd_13, .inl (cB_14, 64, .inl (fun _ => 0)))] := by rw [e_dfX12_15]; exact hD
  have L_dfX12_15 : dfX12_15.length = 18 := fx_len e_dfX12_15 L_dfX12_10
  have g_dfX12_15_10 := fx_ne (j := 10) e_dfX12_15 g_dfX12_10_10 (by decide)
  have g_dfX12_15_11 := fx_ne (j := 11) e_dfX12_15 g_dfX12_10_11 (by decide)
  have g_dfX12_15_12 := fx_ne (j := 12) e_dfX12_15 g_dfX12_10_12 (by decide)
  have g_dfX12_15_13 := fx_ne (j := 13) e_dfX12_15 g_dfX12_10_13 (by decide)
  have g_dfX12_15_0 := fx_ne (j := 0) e_dfX12_15 g_dfX12_10_0 (by decide)
  have g_dfX12_15_1 := fx_ne (j := 1) e_dfX12_15 g_dfX12_10_1 (by decide)
  refine lv_aload_n hx hb dX12_init_37 rfl (lv_at hl 0 rfl) ?_
  refine lv_bipush (v := 12) hx hb dX12_init_38 (by decide) ?_
  refine va_newq (C := "CodeFoundry$Unit") (N' := 12) hx hb hown (hts _ kw_106) (ao_of (by exact ao_CodeFoundry_Unit) hex) hK hP hD hS hA (by decide) (by decide) (by decide) (Nat.le_of_ble_eq_true rfl) (Nat.le_of_ble_eq_true rfl) dX12_init_40 (fun q_16 cA_17 H hK hP hD hS => ?_)
  have hP := hP.sub (ws' := [(h0, .inr (10, dfX12_15)), (q_1, .inr (0, fs1_2)), (hd_3, .inl (cB_4, 64, .inl (fun _ => 0))), (q_6, .inr (0, fs1_7)), (hd_8, .inl (cB_9, 64, .inl (fun _ => 0))), (q_11, .inr (0, fs1_12)), (hd_13, .inl (cB_14, 64, .inl (fun _ => 0)))]) [0, 1, 2, 3, 4, 5, 6] rfl
  have hD := hD.sub (ws' := [(h0, .inr (10, dfX12_15)), (q_1, .inr (0, fs1_2)), (hd_3, .inl (cB_4, 64, .inl (fun _ => 0))), (q_6, .inr (0, fs1_7)), (hd_8, .inl (cB_9, 64, .inl (fun _ => 0))), (q_11, .inr (0, fs1_12)), (hd_13, .inl (cB_14, 64, .inl (fun _ => 0)))]) [0, 1, 2, 3, 4, 5, 6] (by decide) rfl
  have hK := hK.sub (tys' := [(cB_4, .byte), (cB_9, .byte), (cB_14, .byte)]) [0, 1, 2] rfl
  refine W.widen (k := 7) (n := 210) (Nat.le_of_ble_eq_true rfl) (Nat.le_of_ble_eq_true rfl) ?_
  refine va_putF (D := (dC, dI)) (ci := 10) (v := .ref q_16) (ty := (.array (.object "CodeFoundry$Unit"))) (C := RX12) (T := TX12) (N := 18) hx hb hts inX12 tyX12 tyX12_ok nmX12 hown hK hP hD hS 0 rfl rfl 3 (by decide) (hts _ kw_107) (fun _ h9 => h9) rfl hin rfl (by decide +kernel) rfl rfl (by rw [L_dfX12_15]; decide) dX12_init_43 (fun H locs hP hD hS => ?_)
  obtain ⟨dfX12_18, e_dfX12_18⟩ : ∃ z, z = dfX12_15.set 3 (.ref q_16) := ⟨_, rfl⟩
  have hP : va_P (dC, dI) cl0 [(h0, .inr (10, dfX12_18)), (q_1, .inr (0, fs1_2)), (hd_3, .inl (cB_4, 64, .inl (fun _ => 0))), (q_6, .inr (0, fs1_7)), (hd_8, .inl (cB_9, 64, .inl (fun _ => 0))), (q_11, .inr (0, fs1_12)), (hd_13, .inl (cB_14, 64, .inl (fun _ => 0)))] H := by rw [e_dfX12_18]; exact hP
  have hD : va_D A [(h0, .inr (10, dfX12_18)), (q_1, .inr (0, fs1_2)), (hd_3, .inl (cB_4, 64, .inl (fun _ => 0))), (q_6, .inr (0, fs1_7)), (hd_8, .inl (cB_9, 64, .inl (fun _ => 0))), (q_11, .inr (0, fs1_12)), (hd_13, .inl (cB_14, 64, .inl (fun _ => 0)))] := by rw [e_dfX12_18]; exact hD
  have L_dfX12_18 : dfX12_18.length = 18 := fx_len e_dfX12_18 L_dfX12_15
  have g_dfX12_18_10 := fx_ne (j := 10) e_dfX12_18 g_dfX12_15_10 (by decide)
  have g_dfX12_18_11 := fx_ne (j := 11) e_dfX12_18 g_dfX12_15_11 (by decide)
  have g_dfX12_18_12 := fx_ne (j := 12) e_dfX12_18 g_dfX12_15_12 (by decide)
  have g_dfX12_18_13 := fx_ne (j := 13) e_dfX12_18 g_dfX12_15_13 (by decide)
  have g_dfX12_18_0 := fx_ne (j := 0) e_dfX12_18 g_dfX12_15_0 (by decide)
  have g_dfX12_18_1 := fx_ne (j := 1) e_dfX12_18 g_dfX12_15_1 (by decide)
  refine lv_aload_n hx hb dX12_init_46 rfl (lv_at hl 0 rfl) ?_
  refine va_new (ci := 2) (fs := dfX2) (C := RX2) (T := TX2) (N := 12) hx hb hts inX2 tyX2 tyX2_ok hown (hts _ kw_108) (hts _ kw_109) (hts _ kw_110) hK hP hD hS hA rfl dfX2_ok (Nat.le_of_ble_eq_true rfl) (Nat.le_of_ble_eq_true rfl) dX12_init_47 (fun q_19 H hP hD hS => ?_)
  have hP : va_P (dC, dI) cl0 [(h0, .inr (10, dfX12_18)), (q_1, .inr (0, fs1_2)), (hd_3, .inl (cB_4, 64, .inl (fun _ => 0))), (q_6, .inr (0, fs1_7)), (hd_8, .inl (cB_9, 64, .inl (fun _ => 0))), (q_11, .inr (0, fs1_12)), (hd_13, .inl (cB_14, 64, .inl (fun _ => 0))), (q_19, .inr (2, dfX2))] H := hP
  have hD : va_D A [(h0, .inr (10, dfX12_18)), (q_1, .inr (0, fs1_2)), (hd_3, .inl (cB_4, 64, .inl (fun _ => 0))), (q_6, .inr (0, fs1_7)), (hd_8, .inl (cB_9, 64, .inl (fun _ => 0))), (q_11, .inr (0, fs1_12)), (hd_13, .inl (cB_14, 64, .inl (fun _ => 0))), (q_19, .inr (2, dfX2))] := hD
  refine W.widen (k := 8) (n := 222) (Nat.le_of_ble_eq_true rfl) (Nat.le_of_ble_eq_true rfl) ?_
  refine lv_dup hx hb dX12_init_50 rfl ?_
  have hPc := hP.sub (ws' := [(q_19, .inr (2, dfX2))]) [7] rfl
  have hDc := hD.sub (ws' := [(q_19, .inr (2, dfX2))]) [7] (by decide) rfl
  have hKc := hK.sub (tys' := []) [] rfl
  have hFc := va_free (wc := [(q_19, .inr (2, dfX2))]) hD hS hA [7] rfl
  refine va_callv (va_runIN (As := []) (rest := [.ref q_19, .ref h0]) ⟨hx, hb, hml, hown, hts⟩ (m_X2_init l dC dI H.size q_19 ) ⟨va_cnB 0 hts (gd_I kw_111) rfl rfl rfl (nw_of (by exact nn_X12_30) hex) (hts _ kw_110) (by decide +kernel) ⟨Nat.le_of_ble_eq_true rfl, Nat.le_of_ble_eq_true rfl⟩, rfl, hts _ kw_112⟩ ⟨st_blind, fun U hU hW9 => st_mk hU hW9 hPc hKc hDc hex⟩ rfl rfl hl.1 rfl (lv_room (Nat.le_of_ble_eq_true rfl)) dX12_init_51 ⟨Nat.le_of_ble_eq_true rfl, Nat.le_of_ble_eq_true rfl⟩) hS (fun q _ h => hFc q h) hFc (fun  u9 t9 H1 locs ht9 hvm9 hw9 hB9 hz9 hk9 hS => ?_)
  obtain ⟨fs1_20, hr_21, fs2_22, L_fs1_20, g_fs1_20_0, L_fs2_22, hP1, hK1, hD1⟩ := hB9
  rw [ht9] at hP1
  have hK1 := va_K.moved hvm9.symm hK1
  obtain ⟨hP, hD⟩ := va_join (wr := [(h0, .inr (10, dfX12_18)), (q_1, .inr (0, fs1_2)), (hd_3, .inl (cB_4, 64, .inl (fun _ => 0))), (q_6, .inr (0, fs1_7)), (hd_8, .inl (cB_9, 64, .inl (fun _ => 0))), (q_11, .inr (0, fs1_12)), (hd_13, .inl (cB_14, 64, .inl (fun _ => 0)))]) (w1 := [(q_19, .inr (2, fs1_20)), (hr_21, .inr (6, fs2_22))]) hP hD [7] [0, 1, 2, 3, 4, 5, 6] rfl rfl (by decide) (by decide) hk9 hFc hP1 hD1
  have hK := (hK.sub (tys' := [(cB_4, .byte), (cB_9, .byte), (cB_14, .byte)]) [0, 1, 2] rfl).app hK1
  generalize H1 = H at hP hS ⊢
  have hP : va_P (dC, dI) cl0 [(h0, .inr (10, dfX12_18)), (q_1, .inr (0, fs1_2)), (hd_3, .inl (cB_4, 64, .inl (fun _ => 0))), (q_6, .inr (0, fs1_7)), (hd_8, .inl (cB_9, 64, .inl (fun _ => 0))), (q_11, .inr (0, fs1_12)), (hd_13, .inl (cB_14, 64, .inl (fun _ => 0))), (q_19, .inr (2, fs1_20)), (hr_21, .inr (6, fs2_22))] H := hP
  have hD : va_D A [(h0, .inr (10, dfX12_18)), (q_1, .inr (0, fs1_2)), (hd_3, .inl (cB_4, 64, .inl (fun _ => 0))), (q_6, .inr (0, fs1_7)), (hd_8, .inl (cB_9, 64, .inl (fun _ => 0))), (q_11, .inr (0, fs1_12)), (hd_13, .inl (cB_14, 64, .inl (fun _ => 0))), (q_19, .inr (2, fs1_20)), (hr_21, .inr (6, fs2_22))] := hD
  have hK : va_K (dC, dI) cl0 [(cB_4, .byte), (cB_9, .byte), (cB_14, .byte)] s := hK
  refine W.widen (k := 15) (n := 2036) (by omega) (by omega) ?_
  refine va_putF (D := (dC, dI)) (ci := 10) (v := .ref q_19) (ty := (.object "CodeFoundry$CodeReader")) (C := RX12) (T := TX12) (N := 18) hx hb hts inX12 tyX12 tyX12_ok nmX12 hown hK hP hD hS 0 rfl rfl 4 (by decide) (hts _ kw_113) (fun _ h9 => h9) rfl hin rfl (by decide +kernel) rfl rfl (by rw [L_dfX12_18]; decide) dX12_init_54 (fun H locs hP hD hS => ?_)
  obtain ⟨dfX12_23, e_dfX12_23⟩ : ∃ z, z = dfX12_18.set 4 (.ref q_19) := ⟨_, rfl⟩
  have hP : va_P (dC, dI) cl0 [(h0, .inr (10, dfX12_23)), (q_1, .inr (0, fs1_2)), (hd_3, .inl (cB_4, 64, .inl (fun _ => 0))), (q_6, .inr (0, fs1_7)), (hd_8, .inl (cB_9, 64, .inl (fun _ => 0))), (q_11, .inr (0, fs1_12)), (hd_13, .inl (cB_14, 64, .inl (fun _ => 0))), (q_19, .inr (2, fs1_20)), (hr_21, .inr (6, fs2_22))] H := by rw [e_dfX12_23]; exact hP
  have hD : va_D A [(h0, .inr (10, dfX12_23)), (q_1, .inr (0, fs1_2)), (hd_3, .inl (cB_4, 64, .inl (fun _ => 0))), (q_6, .inr (0, fs1_7)), (hd_8, .inl (cB_9, 64, .inl (fun _ => 0))), (q_11, .inr (0, fs1_12)), (hd_13, .inl (cB_14, 64, .inl (fun _ => 0))), (q_19, .inr (2, fs1_20)), (hr_21, .inr (6, fs2_22))] := by rw [e_dfX12_23]; exact hD
  have L_dfX12_23 : dfX12_23.length = 18 := fx_len e_dfX12_23 L_dfX12_18
  have g_dfX12_23_10 := fx_ne (j := 10) e_dfX12_23 g_dfX12_18_10 (by decide)
  have g_dfX12_23_11 := fx_ne (j := 11) e_dfX12_23 g_dfX12_18_11 (by decide)
  have g_dfX12_23_12 := fx_ne (j := 12) e_dfX12_23 g_dfX12_18_12 (by decide)
  have g_dfX12_23_13 := fx_ne (j := 13) e_dfX12_23 g_dfX12_18_13 (by decide)
  have g_dfX12_23_0 := fx_ne (j := 0) e_dfX12_23 g_dfX12_18_0 (by decide)
  have g_dfX12_23_1 := fx_ne (j := 1) e_dfX12_23 g_dfX12_18_1 (by decide)
  have g_dfX12_23_4 := fx_self e_dfX12_23 (by rw [L_dfX12_18]; decide)
  refine lv_aload_n hx hb dX12_init_57 rfl (lv_at hl 0 rfl) ?_
  refine va_new (ci := 1) (fs := dfX1) (C := RX1) (T := TX1) (N := 10) hx hb hts inX1 tyX1 tyX1_ok hown (hts _ kw_114) (hts _ kw_115) (hts _ kw_116) hK hP hD hS hA rfl dfX1_ok (Nat.le_of_ble_eq_true rfl) (Nat.le_of_ble_eq_true rfl) dX12_init_58 (fun q_24 H hP hD hS => ?_)
  have hP : va_P (dC, dI) cl0 [(h0, .inr (10, dfX12_23)), (q_1, .inr (0, fs1_2)), (hd_3, .inl (cB_4, 64, .inl (fun _ => 0))), (q_6, .inr (0, fs1_7)), (hd_8, .inl (cB_9, 64, .inl (fun _ => 0))), (q_11, .inr (0, fs1_12)), (hd_13, .inl (cB_14, 64, .inl (fun _ => 0))), (q_19, .inr (2, fs1_20)), (hr_21, .inr (6, fs2_22)), (q_24, .inr (1, dfX1))] H := hP
  have hD : va_D A [(h0, .inr (10, dfX12_23)), (q_1, .inr (0, fs1_2)), (hd_3, .inl (cB_4, 64, .inl (fun _ => 0))), (q_6, .inr (0, fs1_7)), (hd_8, .inl (cB_9, 64, .inl (fun _ => 0))), (q_11, .inr (0, fs1_12)), (hd_13, .inl (cB_14, 64, .inl (fun _ => 0))), (q_19, .inr (2, fs1_20)), (hr_21, .inr (6, fs2_22)), (q_24, .inr (1, dfX1))] := hD
  refine W.widen (k := 16) (n := 2046) (Nat.le_of_ble_eq_true rfl) (Nat.le_of_ble_eq_true rfl) ?_
  refine lv_dup hx hb dX12_init_61 rfl ?_
  have hPc := hP.sub (ws' := [(q_24, .inr (1, dfX1))]) [9] rfl
  have hDc := hD.sub (ws' := [(q_24, .inr (1, dfX1))]) [9] (by decide) rfl
  have hKc := hK.sub (tys' := []) [] rfl
  have hFc := va_free (wc := [(q_24, .inr (1, dfX1))]) hD hS hA [9] rfl
  refine va_callv (va_runIN (As := []) (rest := [.ref q_24, .ref h0]) ⟨hx, hb, hml, hown, hts⟩ (m_X1_init l dC dI H.size q_24 ) ⟨va_cnB 0 hts (gd_I kw_117) rfl rfl rfl (nw_of (by exact nn_X12_37) hex) (hts _ kw_116) (by decide +kernel) ⟨Nat.le_of_ble_eq_true rfl, Nat.le_of_ble_eq_true rfl⟩, rfl, hts _ kw_118⟩ ⟨st_blind, fun U hU hW9 => st_mk hU hW9 hPc hKc hDc hex⟩ rfl rfl hl.1 rfl (lv_room (Nat.le_of_ble_eq_true rfl)) dX12_init_62 ⟨Nat.le_of_ble_eq_true rfl, Nat.le_of_ble_eq_true rfl⟩) hS (fun q _ h => hFc q h) hFc (fun  u9 t9 H1 locs ht9 hvm9 hw9 hB9 hz9 hk9 hS => ?_)
  have hP1 : va_P (dC, dI) cl0 [] H1 := fun k q h => by simp at h
  have hD1 : va_D (va_A [(q_24, .inr (1, dfX1))] H.size) [] := ⟨fun i j p q h => by simp at h, fun k q h => by simp at h⟩
  obtain ⟨hP, hD⟩ := va_join (wr := [(h0, .inr (10, dfX12_23)), (q_1, .inr (0, fs1_2)), (hd_3, .inl (cB_4, 64, .inl (fun _ => 0))), (q_6, .inr (0, fs1_7)), (hd_8, .inl (cB_9, 64, .inl (fun _ => 0))), (q_11, .inr (0, fs1_12)), (hd_13, .inl (cB_14, 64, .inl (fun _ => 0))), (q_19, .inr (2, fs1_20)), (hr_21, .inr (6, fs2_22))]) (w1 := []) hP hD [9] [0, 1, 2, 3, 4, 5, 6, 7, 8] rfl rfl (by decide) (by decide) hk9 hFc hP1 hD1
  generalize H1 = H at hP hS ⊢
  have hP : va_P (dC, dI) cl0 [(h0, .inr (10, dfX12_23)), (q_1, .inr (0, fs1_2)), (hd_3, .inl (cB_4, 64, .inl (fun _ => 0))), (q_6, .inr (0, fs1_7)), (hd_8, .inl (cB_9, 64, .inl (fun _ => 0))), (q_11, .inr (0, fs1_12)), (hd_13, .inl (cB_14, 64, .inl (fun _ => 0))), (q_19, .inr (2, fs1_20)), (hr_21, .inr (6, fs2_22))] H := hP
  have hD : va_D A [(h0, .inr (10, dfX12_23)), (q_1, .inr (0, fs1_2)), (hd_3, .inl (cB_4, 64, .inl (fun _ => 0))), (q_6, .inr (0, fs1_7)), (hd_8, .inl (cB_9, 64, .inl (fun _ => 0))), (q_11, .inr (0, fs1_12)), (hd_13, .inl (cB_14, 64, .inl (fun _ => 0))), (q_19, .inr (2, fs1_20)), (hr_21, .inr (6, fs2_22))] := hD
  refine W.widen (k := 24) (n := 2102) (by omega) (by omega) ?_
  refine va_putF (D := (dC, dI)) (ci := 10) (v := .ref q_24) (ty := (.object "CodeFoundry$Checker")) (C := RX12) (T := TX12) (N := 18) hx hb hts inX12 tyX12 tyX12_ok nmX12 hown hK hP hD hS 0 rfl rfl 5 (by decide) (hts _ kw_119) (fun _ h9 => h9) rfl hin rfl (by decide +kernel) rfl rfl (by rw [L_dfX12_23]; decide) dX12_init_65 (fun H locs hP hD hS => ?_)
  obtain ⟨dfX12_25, e_dfX12_25⟩ : ∃ z, z = dfX12_23.set 5 (.ref q_24) := ⟨_, rfl⟩
  have hP : va_P (dC, dI) cl0 [(h0, .inr (10, dfX12_25)), (q_1, .inr (0, fs1_2)), (hd_3, .inl (cB_4, 64, .inl (fun _ => 0))), (q_6, .inr (0, fs1_7)), (hd_8, .inl (cB_9, 64, .inl (fun _ => 0))), (q_11, .inr (0, fs1_12)), (hd_13, .inl (cB_14, 64, .inl (fun _ => 0))), (q_19, .inr (2, fs1_20)), (hr_21, .inr (6, fs2_22))] H := by rw [e_dfX12_25]; exact hP
  have hD : va_D A [(h0, .inr (10, dfX12_25)), (q_1, .inr (0, fs1_2)), (hd_3, .inl (cB_4, 64, .inl (fun _ => 0))), (q_6, .inr (0, fs1_7)), (hd_8, .inl (cB_9, 64, .inl (fun _ => 0))), (q_11, .inr (0, fs1_12)), (hd_13, .inl (cB_14, 64, .inl (fun _ => 0))), (q_19, .inr (2, fs1_20)), (hr_21, .inr (6, fs2_22))] := by rw [e_dfX12_25]; exact hD
  have L_dfX12_25 : dfX12_25.length = 18 := fx_len e_dfX12_25 L_dfX12_23
  have g_dfX12_25_10 := fx_ne (j := 10) e_dfX12_25 g_dfX12_23_10 (by decide)
  have g_dfX12_25_11 := fx_ne (j := 11) e_dfX12_25 g_dfX12_23_11 (by decide)
  have g_dfX12_25_12 := fx_ne (j := 12) e_dfX12_25 g_dfX12_23_12 (by decide)
  have g_dfX12_25_13 := fx_ne (j := 13) e_dfX12_25 g_dfX12_23_13 (by decide)
  have g_dfX12_25_0 := fx_ne (j := 0) e_dfX12_25 g_dfX12_23_0 (by decide)
  have g_dfX12_25_1 := fx_ne (j := 1) e_dfX12_25 g_dfX12_23_1 (by decide)
  have g_dfX12_25_4 := fx_ne (j := 4) e_dfX12_25 g_dfX12_23_4 (by decide)
  refine lv_aload_n hx hb dX12_init_68 rfl (lv_at hl 0 rfl) ?_
  refine va_new (ci := 9) (fs := dfX11) (C := RX11) (T := TX11) (N := 18) hx hb hts inX11 tyX11 tyX11_ok hown (hts _ kw_120) (hts _ kw_121) (hts _ kw_122) hK hP hD hS hA rfl dfX11_ok (Nat.le_of_ble_eq_true rfl) (Nat.le_of_ble_eq_true rfl) dX12_init_69 (fun q_26 H hP hD hS => ?_)
  have hP : va_P (dC, dI) cl0 [(h0, .inr (10, dfX12_25)), (q_1, .inr (0, fs1_2)), (hd_3, .inl (cB_4, 64, .inl (fun _ => 0))), (q_6, .inr (0, fs1_7)), (hd_8, .inl (cB_9, 64, .inl (fun _ => 0))), (q_11, .inr (0, fs1_12)), (hd_13, .inl (cB_14, 64, .inl (fun _ => 0))), (q_19, .inr (2, fs1_20)), (hr_21, .inr (6, fs2_22)), (q_26, .inr (9, dfX11))] H := hP
  have hD : va_D A [(h0, .inr (10, dfX12_25)), (q_1, .inr (0, fs1_2)), (hd_3, .inl (cB_4, 64, .inl (fun _ => 0))), (q_6, .inr (0, fs1_7)), (hd_8, .inl (cB_9, 64, .inl (fun _ => 0))), (q_11, .inr (0, fs1_12)), (hd_13, .inl (cB_14, 64, .inl (fun _ => 0))), (q_19, .inr (2, fs1_20)), (hr_21, .inr (6, fs2_22)), (q_26, .inr (9, dfX11))] := hD
  refine W.widen (k := 25) (n := 2120) (Nat.le_of_ble_eq_true rfl) (Nat.le_of_ble_eq_true rfl) ?_
  refine lv_dup hx hb dX12_init_72 rfl ?_
  have hPc := hP.sub (ws' := [(q_26, .inr (9, dfX11))]) [9] rfl
  have hDc := hD.sub (ws' := [(q_26, .inr (9, dfX11))]) [9] (by decide) rfl
  have hKc := hK.sub (tys' := []) [] rfl
  have hFc := va_free (wc := [(q_26, .inr (9, dfX11))]) hD hS hA [9] rfl
  refine va_callv (va_runIN (As := []) (rest := [.ref q_26, .ref h0]) ⟨hx, hb, hml, hown, hts⟩ (m_X11_init l dC dI H.size q_26 ) ⟨va_cnB 0 hts (gd_I kw_123) rfl rfl rfl (nw_of (by exact nn_X12_44) hex) (hts _ kw_122) (by decide +kernel) ⟨Nat.le_of_ble_eq_true rfl, Nat.le_of_ble_eq_true rfl⟩, rfl, hts _ kw_124⟩ ⟨st_blind, fun U hU hW9 => st_mk hU hW9 hPc hKc hDc hex⟩ rfl rfl hl.1 rfl (lv_room (Nat.le_of_ble_eq_true rfl)) dX12_init_73 ⟨Nat.le_of_ble_eq_true rfl, Nat.le_of_ble_eq_true rfl⟩) hS (fun q _ h => hFc q h) hFc (fun  u9 t9 H1 locs ht9 hvm9 hw9 hB9 hz9 hk9 hS => ?_)
  have hP1 : va_P (dC, dI) cl0 [] H1 := fun k q h => by simp at h
  have hD1 : va_D (va_A [(q_26, .inr (9, dfX11))] H.size) [] := ⟨fun i j p q h => by simp at h, fun k q h => by simp at h⟩
  obtain ⟨hP, hD⟩ := va_join (wr := [(h0, .inr (10, dfX12_25)), (q_1, .inr (0, fs1_2)), (hd_3, .inl (cB_4, 64, .inl (fun _ => 0))), (q_6, .inr (0, fs1_7)), (hd_8, .inl (cB_9, 64, .inl (fun _ => 0))), (q_11, .inr (0, fs1_12)), (hd_13, .inl (cB_14, 64, .inl (fun _ => 0))), (q_19, .inr (2, fs1_20)), (hr_21, .inr (6, fs2_22))]) (w1 := []) hP hD [9] [0, 1, 2, 3, 4, 5, 6, 7, 8] rfl rfl (by decide) (by decide) hk9 hFc hP1 hD1
  generalize H1 = H at hP hS ⊢
  have hP : va_P (dC, dI) cl0 [(h0, .inr (10, dfX12_25)), (q_1, .inr (0, fs1_2)), (hd_3, .inl (cB_4, 64, .inl (fun _ => 0))), (q_6, .inr (0, fs1_7)), (hd_8, .inl (cB_9, 64, .inl (fun _ => 0))), (q_11, .inr (0, fs1_12)), (hd_13, .inl (cB_14, 64, .inl (fun _ => 0))), (q_19, .inr (2, fs1_20)), (hr_21, .inr (6, fs2_22))] H := hP
  have hD : va_D A [(h0, .inr (10, dfX12_25)), (q_1, .inr (0, fs1_2)), (hd_3, .inl (cB_4, 64, .inl (fun _ => 0))), (q_6, .inr (0, fs1_7)), (hd_8, .inl (cB_9, 64, .inl (fun _ => 0))), (q_11, .inr (0, fs1_12)), (hd_13, .inl (cB_14, 64, .inl (fun _ => 0))), (q_19, .inr (2, fs1_20)), (hr_21, .inr (6, fs2_22))] := hD
  refine W.widen (k := 43) (n := 3422) (by omega) (by omega) ?_
  refine va_putF (D := (dC, dI)) (ci := 10) (v := .ref q_26) (ty := (.object "CodeFoundry$Writer")) (C := RX12) (T := TX12) (N := 18) hx hb hts inX12 tyX12 tyX12_ok nmX12 hown hK hP hD hS 0 rfl rfl 6 (by decide) (hts _ kw_125) (fun _ h9 => h9) rfl hin rfl (by decide +kernel) rfl rfl (by rw [L_dfX12_25]; decide) dX12_init_76 (fun H locs hP hD hS => ?_)
  obtain ⟨dfX12_27, e_dfX12_27⟩ : ∃ z, z = dfX12_25.set 6 (.ref q_26) := ⟨_, rfl⟩
  have hP : va_P (dC, dI) cl0 [(h0, .inr (10, dfX12_27)), (q_1, .inr (0, fs1_2)), (hd_3, .inl (cB_4, 64, .inl (fun _ => 0))), (q_6, .inr (0, fs1_7)), (hd_8, .inl (cB_9, 64, .inl (fun _ => 0))), (q_11, .inr (0, fs1_12)), (hd_13, .inl (cB_14, 64, .inl (fun _ => 0))), (q_19, .inr (2, fs1_20)), (hr_21, .inr (6, fs2_22))] H := by rw [e_dfX12_27]; exact hP
  have hD : va_D A [(h0, .inr (10, dfX12_27)), (q_1, .inr (0, fs1_2)), (hd_3, .inl (cB_4, 64, .inl (fun _ => 0))), (q_6, .inr (0, fs1_7)), (hd_8, .inl (cB_9, 64, .inl (fun _ => 0))), (q_11, .inr (0, fs1_12)), (hd_13, .inl (cB_14, 64, .inl (fun _ => 0))), (q_19, .inr (2, fs1_20)), (hr_21, .inr (6, fs2_22))] := by rw [e_dfX12_27]; exact hD
  have L_dfX12_27 : dfX12_27.length = 18 := fx_len e_dfX12_27 L_dfX12_25
  have g_dfX12_27_10 := fx_ne (j := 10) e_dfX12_27 g_dfX12_25_10 (by decide)
  have g_dfX12_27_11 := fx_ne (j := 11) e_dfX12_27 g_dfX12_25_11 (by decide)
  have g_dfX12_27_12 := fx_ne (j := 12) e_dfX12_27 g_dfX12_25_12 (by decide)
  have g_dfX12_27_13 := fx_ne (j := 13) e_dfX12_27 g_dfX12_25_13 (by decide)
  have g_dfX12_27_0 := fx_ne (j := 0) e_dfX12_27 g_dfX12_25_0 (by decide)
  have g_dfX12_27_1 := fx_ne (j := 1) e_dfX12_27 g_dfX12_25_1 (by decide)
  have g_dfX12_27_4 := fx_ne (j := 4) e_dfX12_27 g_dfX12_25_4 (by decide)
  refine lv_aload_n hx hb dX12_init_79 rfl (lv_at hl 0 rfl) ?_
  refine va_new (ci := 5) (fs := dfX5) (C := RX5) (T := TX5) (N := 20) hx hb hts inX5 tyX5 tyX5_ok hown (hts _ kw_126) (hts _ kw_127) (hts _ kw_128) hK hP hD hS hA rfl dfX5_ok (Nat.le_of_ble_eq_true rfl) (Nat.le_of_ble_eq_true rfl) dX12_init_80 (fun q_28 H hP hD hS => ?_)
  have hP : va_P (dC, dI) cl0 [(h0, .inr (10, dfX12_27)), (q_1, .inr (0, fs1_2)), (hd_3, .inl (cB_4, 64, .inl (fun _ => 0))), (q_6, .inr (0, fs1_7)), (hd_8, .inl (cB_9, 64, .inl (fun _ => 0))), (q_11, .inr (0, fs1_12)), (hd_13, .inl (cB_14, 64, .inl (fun _ => 0))), (q_19, .inr (2, fs1_20)), (hr_21, .inr (6, fs2_22)), (q_28, .inr (5, dfX5))] H := hP
  have hD : va_D A [(h0, .inr (10, dfX12_27)), (q_1, .inr (0, fs1_2)), (hd_3, .inl (cB_4, 64, .inl (fun _ => 0))), (q_6, .inr (0, fs1_7)), (hd_8, .inl (cB_9, 64, .inl (fun _ => 0))), (q_11, .inr (0, fs1_12)), (hd_13, .inl (cB_14, 64, .inl (fun _ => 0))), (q_19, .inr (2, fs1_20)), (hr_21, .inr (6, fs2_22)), (q_28, .inr (5, dfX5))] := hD
  refine W.widen (k := 44) (n := 3442) (Nat.le_of_ble_eq_true rfl) (Nat.le_of_ble_eq_true rfl) ?_
  refine lv_dup hx hb dX12_init_83 rfl ?_
  have hPc := hP.sub (ws' := [(q_28, .inr (5, dfX5))]) [9] rfl
  have hDc := hD.sub (ws' := [(q_28, .inr (5, dfX5))]) [9] (by decide) rfl
  have hKc := hK.sub (tys' := []) [] rfl
  have hFc := va_free (wc := [(q_28, .inr (5, dfX5))]) hD hS hA [9] rfl
  refine va_callv (va_runIN (As := []) (rest := [.ref q_28, .ref h0]) ⟨hx, hb, hml, hown, hts⟩ (m_X5_init l dC dI H.size q_28 ) ⟨va_cnB 0 hts (gd_I kw_129) rfl rfl rfl (nw_of (by exact nn_X12_51) hex) (hts _ kw_128) (by decide +kernel) ⟨Nat.le_of_ble_eq_true rfl, Nat.le_of_ble_eq_true rfl⟩, rfl, hts _ kw_130⟩ ⟨st_blind, fun U hU hW9 => st_mk hU hW9 hPc hKc hDc hex⟩ rfl rfl hl.1 rfl (lv_room (Nat.le_of_ble_eq_true rfl)) dX12_init_84 ⟨Nat.le_of_ble_eq_true rfl, Nat.le_of_ble_eq_true rfl⟩) hS (fun q _ h => hFc q h) hFc (fun  u9 t9 H1 locs ht9 hvm9 hw9 hB9 hz9 hk9 hS => ?_)
  obtain ⟨fs1_29, ha_30, cJ_31, L_fs1_29, g_fs1_29_0, g_fs1_29_5, g_fs1_29_6, g_fs1_29_7, g_fs1_29_16, g_fs1_29_17, g_fs1_29_18, g_fs1_29_19, hP1, hK1, hD1⟩ := hB9
  rw [ht9] at hP1
  have hK1 := va_K.moved hvm9.symm hK1
  obtain ⟨hP, hD⟩ := va_join (wr := [(h0, .inr (10, dfX12_27)), (q_1, .inr (0, fs1_2)), (hd_3, .inl (cB_4, 64, .inl (fun _ => 0))), (q_6, .inr (0, fs1_7)), (hd_8, .inl (cB_9, 64, .inl (fun _ => 0))), (q_11, .inr (0, fs1_12)), (hd_13, .inl (cB_14, 64, .inl (fun _ => 0))), (q_19, .inr (2, fs1_20)), (hr_21, .inr (6, fs2_22))]) (w1 := [(q_28, .inr (5, fs1_29)), (ha_30, .inl (cJ_31, 8, .inr (.inl (fun _ => 0))))]) hP hD [9] [0, 1, 2, 3, 4, 5, 6, 7, 8] rfl rfl (by decide) (by decide) hk9 hFc hP1 hD1
  have hK := (hK.sub (tys' := [(cB_4, .byte), (cB_9, .byte), (cB_14, .byte)]) [0, 1, 2] rfl).app hK1
  generalize H1 = H at hP hS ⊢
  have hP : va_P (dC, dI) cl0 [(h0, .inr (10, dfX12_27)), (q_1, .inr (0, fs1_2)), (hd_3, .inl (cB_4, 64, .inl (fun _ => 0))), (q_6, .inr (0, fs1_7)), (hd_8, .inl (cB_9, 64, .inl (fun _ => 0))), (q_11, .inr (0, fs1_12)), (hd_13, .inl (cB_14, 64, .inl (fun _ => 0))), (q_19, .inr (2, fs1_20)), (hr_21, .inr (6, fs2_22)), (q_28, .inr (5, fs1_29)), (ha_30, .inl (cJ_31, 8, .inr (.inl (fun _ => 0))))] H := hP
  have hD : va_D A [(h0, .inr (10, dfX12_27)), (q_1, .inr (0, fs1_2)), (hd_3, .inl (cB_4, 64, .inl (fun _ => 0))), (q_6, .inr (0, fs1_7)), (hd_8, .inl (cB_9, 64, .inl (fun _ => 0))), (q_11, .inr (0, fs1_12)), (hd_13, .inl (cB_14, 64, .inl (fun _ => 0))), (q_19, .inr (2, fs1_20)), (hr_21, .inr (6, fs2_22)), (q_28, .inr (5, fs1_29)), (ha_30, .inl (cJ_31, 8, .inr (.inl (fun _ => 0))))] := hD
  have hK : va_K (dC, dI) cl0 [(cB_4, .byte), (cB_9, .byte), (cB_14, .byte), (cJ_31, .long)] s := hK
  refine W.widen (k := 51) (n := 3662) (by omega) (by omega) ?_
  refine va_putF (D := (dC, dI)) (ci := 10) (v := .ref q_28) (ty := (.object "CodeFoundry$Machine")) (C := RX12) (T := TX12) (N := 18) hx hb hts inX12 tyX12 tyX12_ok nmX12 hown hK hP hD hS 0 rfl rfl 7 (by decide) (hts _ kw_131) (fun _ h9 => h9) rfl hin rfl (by decide +kernel) rfl rfl (by rw [L_dfX12_27]; decide) dX12_init_87 (fun H locs hP hD hS => ?_)
  obtain ⟨dfX12_32, e_dfX12_32⟩ : ∃ z, z = dfX12_27.set 7 (.ref q_28) := ⟨_, rfl⟩
  have hP : va_P (dC, dI) cl0 [(h0, .inr (10, dfX12_32)), (q_1, .inr (0, fs1_2)), (hd_3, .inl (cB_4, 64, .inl (fun _ => 0))), (q_6, .inr (0, fs1_7)), (hd_8, .inl (cB_9, 64, .inl (fun _ => 0))), (q_11, .inr (0, fs1_12)), (hd_13, .inl (cB_14, 64, .inl (fun _ => 0))), (q_19, .inr (2, fs1_20)), (hr_21, .inr (6, fs2_22)), (q_28, .inr (5, fs1_29)), (ha_30, .inl (cJ_31, 8, .inr (.inl (fun _ => 0))))] H := by rw [e_dfX12_32]; exact hP
  have hD : va_D A [(h0, .inr (10, dfX12_32)), (q_1, .inr (0, fs1_2)), (hd_3, .inl (cB_4, 64, .inl (fun _ => 0))), (q_6, .inr (0, fs1_7)), (hd_8, .inl (cB_9, 64, .inl (fun _ => 0))), (q_11, .inr (0, fs1_12)), (hd_13, .inl (cB_14, 64, .inl (fun _ => 0))), (q_19, .inr (2, fs1_20)), (hr_21, .inr (6, fs2_22)), (q_28, .inr (5, fs1_29)), (ha_30, .inl (cJ_31, 8, .inr (.inl (fun _ => 0))))] := by rw [e_dfX12_32]; exact hD
  have L_dfX12_32 : dfX12_32.length = 18 := fx_len e_dfX12_32 L_dfX12_27
  have g_dfX12_32_10 := fx_ne (j := 10) e_dfX12_32 g_dfX12_27_10 (by decide)
  have g_dfX12_32_11 := fx_ne (j := 11) e_dfX12_32 g_dfX12_27_11 (by decide)
  have g_dfX12_32_12 := fx_ne (j := 12) e_dfX12_32 g_dfX12_27_12 (by decide)
  have g_dfX12_32_13 := fx_ne (j := 13) e_dfX12_32 g_dfX12_27_13 (by decide)
  have g_dfX12_32_0 := fx_ne (j := 0) e_dfX12_32 g_dfX12_27_0 (by decide)
  have g_dfX12_32_1 := fx_ne (j := 1) e_dfX12_32 g_dfX12_27_1 (by decide)
  have g_dfX12_32_4 := fx_ne (j := 4) e_dfX12_32 g_dfX12_27_4 (by decide)
  have g_dfX12_32_7 := fx_self e_dfX12_32 (by rw [L_dfX12_27]; decide)
  refine lv_aload_n hx hb dX12_init_90 rfl (lv_at hl 0 rfl) ?_
  refine va_new (ci := 3) (fs := dfX3) (C := RX3) (T := TX3) (N := 16) hx hb hts inX3 tyX3 tyX3_ok hown (hts _ kw_132) (hts _ kw_133) (hts _ kw_134) hK hP hD hS hA rfl dfX3_ok (Nat.le_of_ble_eq_true rfl) (Nat.le_of_ble_eq_true rfl) dX12_init_91 (fun q_33 H hP hD hS => ?_)
  have hP : va_P (dC, dI) cl0 [(h0, .inr (10, dfX12_32)), (q_1, .inr (0, fs1_2)), (hd_3, .inl (cB_4, 64, .inl (fun _ => 0))), (q_6, .inr (0, fs1_7)), (hd_8, .inl (cB_9, 64, .inl (fun _ => 0))), (q_11, .inr (0, fs1_12)), (hd_13, .inl (cB_14, 64, .inl (fun _ => 0))), (q_19, .inr (2, fs1_20)), (hr_21, .inr (6, fs2_22)), (q_28, .inr (5, fs1_29)), (ha_30, .inl (cJ_31, 8, .inr (.inl (fun _ => 0)))), (q_33, .inr (3, dfX3))] H := hP
  have hD : va_D A [(h0, .inr (10, dfX12_32)), (q_1, .inr (0, fs1_2)), (hd_3, .inl (cB_4, 64, .inl (fun _ => 0))), (q_6, .inr (0, fs1_7)), (hd_8, .inl (cB_9, 64, .inl (fun _ => 0))), (q_11, .inr (0, fs1_12)), (hd_13, .inl (cB_14, 64, .inl (fun _ => 0))), (q_19, .inr (2, fs1_20)), (hr_21, .inr (6, fs2_22)), (q_28, .inr (5, fs1_29)), (ha_30, .inl (cJ_31, 8, .inr (.inl (fun _ => 0)))), (q_33, .inr (3, dfX3))] := hD
  refine W.widen (k := 52) (n := 3678) (Nat.le_of_ble_eq_true rfl) (Nat.le_of_ble_eq_true rfl) ?_
  refine lv_dup hx hb dX12_init_94 rfl ?_
  have hPc := hP.sub (ws' := [(q_33, .inr (3, dfX3))]) [11] rfl
  have hDc := hD.sub (ws' := [(q_33, .inr (3, dfX3))]) [11] (by decide) rfl
  have hKc := hK.sub (tys' := []) [] rfl
  have hFc := va_free (wc := [(q_33, .inr (3, dfX3))]) hD hS hA [11] rfl
  refine va_callv (va_runIN (As := []) (rest := [.ref q_33, .ref h0]) ⟨hx, hb, hml, hown, hts⟩ (m_X3_init l dC dI H.size q_33 ) ⟨va_cnB 0 hts (gd_I kw_135) rfl rfl rfl (nw_of (by exact nn_X12_58) hex) (hts _ kw_134) (by decide +kernel) ⟨Nat.le_of_ble_eq_true rfl, Nat.le_of_ble_eq_true rfl⟩, rfl, hts _ kw_136⟩ ⟨st_blind, fun U hU hW9 => st_mk hU hW9 hPc hKc hDc hex⟩ rfl rfl hl.1 rfl (lv_room (Nat.le_of_ble_eq_true rfl)) dX12_init_95 ⟨Nat.le_of_ble_eq_true rfl, Nat.le_of_ble_eq_true rfl⟩) hS (fun q _ h => hFc q h) hFc (fun  u9 t9 H1 locs ht9 hvm9 hw9 hB9 hz9 hk9 hS => ?_)
  have hP1 : va_P (dC, dI) cl0 [] H1 := fun k q h => by simp at h
  have hD1 : va_D (va_A [(q_33, .inr (3, dfX3))] H.size) [] := ⟨fun i j p q h => by simp at h, fun k q h => by simp at h⟩
  obtain ⟨hP, hD⟩ := va_join (wr := [(h0, .inr (10, dfX12_32)), (q_1, .inr (0, fs1_2)), (hd_3, .inl (cB_4, 64, .inl (fun _ => 0))), (q_6, .inr (0, fs1_7)), (hd_8, .inl (cB_9, 64, .inl (fun _ => 0))), (q_11, .inr (0, fs1_12)), (hd_13, .inl (cB_14, 64, .inl (fun _ => 0))), (q_19, .inr (2, fs1_20)), (hr_21, .inr (6, fs2_22)), (q_28, .inr (5, fs1_29)), (ha_30, .inl (cJ_31, 8, .inr (.inl (fun _ => 0))))]) (w1 := []) hP hD [11] [0, 1, 2, 3, 4, 5, 6, 7, 8, 9, 10] rfl rfl (by decide) (by decide) hk9 hFc hP1 hD1
  generalize H1 = H at hP hS ⊢
  have hP : va_P (dC, dI) cl0 [(h0, .inr (10, dfX12_32)), (q_1, .inr (0, fs1_2)), (hd_3, .inl (cB_4, 64, .inl (fun _ => 0))), (q_6, .inr (0, fs1_7)), (hd_8, .inl (cB_9, 64, .inl (fun _ => 0))), (q_11, .inr (0, fs1_12)), (hd_13, .inl (cB_14, 64, .inl (fun _ => 0))), (q_19, .inr (2, fs1_20)), (hr_21, .inr (6, fs2_22)), (q_28, .inr (5, fs1_29)), (ha_30, .inl (cJ_31, 8, .inr (.inl (fun _ => 0))))] H := hP
  have hD : va_D A [(h0, .inr (10, dfX12_32)), (q_1, .inr (0, fs1_2)), (hd_3, .inl (cB_4, 64, .inl (fun _ => 0))), (q_6, .inr (0, fs1_7)), (hd_8, .inl (cB_9, 64, .inl (fun _ => 0))), (q_11, .inr (0, fs1_12)), (hd_13, .inl (cB_14, 64, .inl (fun _ => 0))), (q_19, .inr (2, fs1_20)), (hr_21, .inr (6, fs2_22)), (q_28, .inr (5, fs1_29)), (ha_30, .inl (cJ_31, 8, .inr (.inl (fun _ => 0))))] := hD
  refine W.widen (k := 65) (n := 3694) (by omega) (by omega) ?_
  refine va_putF (D := (dC, dI)) (ci := 10) (v := .ref q_33) (ty := (.object "CodeFoundry$Graph")) (C := RX12) (T := TX12) (N := 18) hx hb hts inX12 tyX12 tyX12_ok nmX12 hown hK hP hD hS 0 rfl rfl 8 (by decide) (hts _ kw_137) (fun _ h9 => h9) rfl hin rfl (by decide +kernel) rfl rfl (by rw [L_dfX12_32]; decide) dX12_init_98 (fun H locs hP hD hS => ?_)
  obtain ⟨dfX12_34, e_dfX12_34⟩ : ∃ z, z = dfX12_32.set 8 (.ref q_33) := ⟨_, rfl⟩
  have hP : va_P (dC, dI) cl0 [(h0, .inr (10, dfX12_34)), (q_1, .inr (0, fs1_2)), (hd_3, .inl (cB_4, 64, .inl (fun _ => 0))), (q_6, .inr (0, fs1_7)), (hd_8, .inl (cB_9, 64, .inl (fun _ => 0))), (q_11, .inr (0, fs1_12)), (hd_13, .inl (cB_14, 64, .inl (fun _ => 0))), (q_19, .inr (2, fs1_20)), (hr_21, .inr (6, fs2_22)), (q_28, .inr (5, fs1_29)), (ha_30, .inl (cJ_31, 8, .inr (.inl (fun _ => 0))))] H := by rw [e_dfX12_34]; exact hP
  have hD : va_D A [(h0, .inr (10, dfX12_34)), (q_1, .inr (0, fs1_2)), (hd_3, .inl (cB_4, 64, .inl (fun _ => 0))), (q_6, .inr (0, fs1_7)), (hd_8, .inl (cB_9, 64, .inl (fun _ => 0))), (q_11, .inr (0, fs1_12)), (hd_13, .inl (cB_14, 64, .inl (fun _ => 0))), (q_19, .inr (2, fs1_20)), (hr_21, .inr (6, fs2_22)), (q_28, .inr (5, fs1_29)), (ha_30, .inl (cJ_31, 8, .inr (.inl (fun _ => 0))))] := by rw [e_dfX12_34]; exact hD
  have L_dfX12_34 : dfX12_34.length = 18 := fx_len e_dfX12_34 L_dfX12_32
  have g_dfX12_34_10 := fx_ne (j := 10) e_dfX12_34 g_dfX12_32_10 (by decide)
  have g_dfX12_34_11 := fx_ne (j := 11) e_dfX12_34 g_dfX12_32_11 (by decide)
  have g_dfX12_34_12 := fx_ne (j := 12) e_dfX12_34 g_dfX12_32_12 (by decide)
  have g_dfX12_34_13 := fx_ne (j := 13) e_dfX12_34 g_dfX12_32_13 (by decide)
  have g_dfX12_34_0 := fx_ne (j := 0) e_dfX12_34 g_dfX12_32_0 (by decide)
  have g_dfX12_34_1 := fx_ne (j := 1) e_dfX12_34 g_dfX12_32_1 (by decide)
  have g_dfX12_34_4 := fx_ne (j := 4) e_dfX12_34 g_dfX12_32_4 (by decide)
  have g_dfX12_34_7 := fx_ne (j := 7) e_dfX12_34 g_dfX12_32_7 (by decide)
  refine lv_aload_n hx hb dX12_init_101 rfl (lv_at hl 0 rfl) ?_
  refine va_new (ci := 8) (fs := dfX9) (C := RX9) (T := TX9) (N := 6) hx hb hts inX9 tyX9 tyX9_ok hown (hts _ kw_138) (hts _ kw_139) (hts _ kw_140) hK hP hD hS hA rfl dfX9_ok (Nat.le_of_ble_eq_true rfl) (Nat.le_of_ble_eq_true rfl) dX12_init_102 (fun q_35 H hP hD hS => ?_)
  have hP : va_P (dC, dI) cl0 [(h0, .inr (10, dfX12_34)), (q_1, .inr (0, fs1_2)), (hd_3, .inl (cB_4, 64, .inl (fun _ => 0))), (q_6, .inr (0, fs1_7)), (hd_8, .inl (cB_9, 64, .inl (fun _ => 0))), (q_11, .inr (0, fs1_12)), (hd_13, .inl (cB_14, 64, .inl (fun _ => 0))), (q_19, .inr (2, fs1_20)), (hr_21, .inr (6, fs2_22)), (q_28, .inr (5, fs1_29)), (ha_30, .inl (cJ_31, 8, .inr (.inl (fun _ => 0)))), (q_35, .inr (8, dfX9))] H := hP
  have hD : va_D A [(h0, .inr (10, dfX12_34)), (q_1, .inr (0, fs1_2)), (hd_3, .inl (cB_4, 64, .inl (fun _ => 0))), (q_6, .inr (0, fs1_7)), (hd_8, .inl (cB_9, 64, .inl (fun _ => 0))), (q_11, .inr (0, fs1_12)), (hd_13, .inl (cB_14, 64, .inl (fun _ => 0))), (q_19, .inr (2, fs1_20)), (hr_21, .inr (6, fs2_22)), (q_28, .inr (5, fs1_29)), (ha_30, .inl (cJ_31, 8, .inr (.inl (fun _ => 0)))), (q_35, .inr (8, dfX9))] := hD
  refine W.widen (k := 66) (n := 3700) (Nat.le_of_ble_eq_true rfl) (Nat.le_of_ble_eq_true rfl) ?_
  refine lv_dup hx hb dX12_init_105 rfl ?_
  have hPc := hP.sub (ws' := [(q_35, .inr (8, dfX9))]) [11] rfl
  have hDc := hD.sub (ws' := [(q_35, .inr (8, dfX9))]) [11] (by decide) rfl
  have hKc := hK.sub (tys' := []) [] rfl
  have hFc := va_free (wc := [(q_35, .inr (8, dfX9))]) hD hS hA [11] rfl
  refine va_callv (va_runIN (As := []) (rest := [.ref q_35, .ref h0]) ⟨hx, hb, hml, hown, hts⟩ (m_X9_init l dC dI H.size q_35 ) ⟨va_cnB 0 hts (gd_I kw_141) rfl rfl rfl (nw_of (by exact nn_X12_65) hex) (hts _ kw_140) (by decide +kernel) ⟨Nat.le_of_ble_eq_true rfl, Nat.le_of_ble_eq_true rfl⟩, rfl, hts _ kw_142⟩ ⟨st_blind, fun U hU hW9 => st_mk hU hW9 hPc hKc hDc hex⟩ rfl rfl hl.1 rfl (lv_room (Nat.le_of_ble_eq_true rfl)) dX12_init_106 ⟨Nat.le_of_ble_eq_true rfl, Nat.le_of_ble_eq_true rfl⟩) hS (fun q _ h => hFc q h) hFc (fun  u9 t9 H1 locs ht9 hvm9 hw9 hB9 hz9 hk9 hS => ?_)
  obtain ⟨fs1_36, ha_37, cI_38, L_fs1_36, g_fs1_36_1, hP1, hK1, hD1⟩ := hB9
  rw [ht9] at hP1
  have hK1 := va_K.moved hvm9.symm hK1
  obtain ⟨hP, hD⟩ := va_join (wr := [(h0, .inr (10, dfX12_34)), (q_1, .inr (0, fs1_2)), (hd_3, .inl (cB_4, 64, .inl (fun _ => 0))), (q_6, .inr (0, fs1_7)), (hd_8, .inl (cB_9, 64, .inl (fun _ => 0))), (q_11, .inr (0, fs1_12)), (hd_13, .inl (cB_14, 64, .inl (fun _ => 0))), (q_19, .inr (2, fs1_20)), (hr_21, .inr (6, fs2_22)), (q_28, .inr (5, fs1_29)), (ha_30, .inl (cJ_31, 8, .inr (.inl (fun _ => 0))))]) (w1 := [(q_35, .inr (8, fs1_36)), (ha_37, .inl (cI_38, 12, .inl (fun _ => 0)))]) hP hD [11] [0, 1, 2, 3, 4, 5, 6, 7, 8, 9, 10] rfl rfl (by decide) (by decide) hk9 hFc hP1 hD1
  have hK := (hK.sub (tys' := [(cB_4, .byte), (cB_9, .byte), (cB_14, .byte), (cJ_31, .long)]) [0, 1, 2, 3] rfl).app hK1
  generalize H1 = H at hP hS ⊢
  have hP : va_P (dC, dI) cl0 [(h0, .inr (10, dfX12_34)), (q_1, .inr (0, fs1_2)), (hd_3, .inl (cB_4, 64, .inl (fun _ => 0))), (q_6, .inr (0, fs1_7)), (hd_8, .inl (cB_9, 64, .inl (fun _ => 0))), (q_11, .inr (0, fs1_12)), (hd_13, .inl (cB_14, 64, .inl (fun _ => 0))), (q_19, .inr (2, fs1_20)), (hr_21, .inr (6, fs2_22)), (q_28, .inr (5, fs1_29)), (ha_30, .inl (cJ_31, 8, .inr (.inl (fun _ => 0)))), (q_35, .inr (8, fs1_36)), (ha_37, .inl (cI_38, 12, .inl (fun _ => 0)))] H := hP
  have hD : va_D A [(h0, .inr (10, dfX12_34)), (q_1, .inr (0, fs1_2)), (hd_3, .inl (cB_4, 64, .inl (fun _ => 0))), (q_6, .inr (0, fs1_7)), (hd_8, .inl (cB_9, 64, .inl (fun _ => 0))), (q_11, .inr (0, fs1_12)), (hd_13, .inl (cB_14, 64, .inl (fun _ => 0))), (q_19, .inr (2, fs1_20)), (hr_21, .inr (6, fs2_22)), (q_28, .inr (5, fs1_29)), (ha_30, .inl (cJ_31, 8, .inr (.inl (fun _ => 0)))), (q_35, .inr (8, fs1_36)), (ha_37, .inl (cI_38, 12, .inl (fun _ => 0)))] := hD
  have hK : va_K (dC, dI) cl0 [(cB_4, .byte), (cB_9, .byte), (cB_14, .byte), (cJ_31, .long), (cI_38, .int)] s := hK
  refine W.widen (k := 79) (n := 3727) (by omega) (by omega) ?_
  refine va_putF (D := (dC, dI)) (ci := 10) (v := .ref q_35) (ty := (.object "CodeFoundry$Smith")) (C := RX12) (T := TX12) (N := 18) hx hb hts inX12 tyX12 tyX12_ok nmX12 hown hK hP hD hS 0 rfl rfl 9 (by decide) (hts _ kw_143) (fun _ h9 => h9) rfl hin rfl (by decide +kernel) rfl rfl (by rw [L_dfX12_34]; decide) dX12_init_109 (fun H locs hP hD hS => ?_)
  obtain ⟨dfX12_39, e_dfX12_39⟩ : ∃ z, z = dfX12_34.set 9 (.ref q_35) := ⟨_, rfl⟩
  have hP : va_P (dC, dI) cl0 [(h0, .inr (10, dfX12_39)), (q_1, .inr (0, fs1_2)), (hd_3, .inl (cB_4, 64, .inl (fun _ => 0))), (q_6, .inr (0, fs1_7)), (hd_8, .inl (cB_9, 64, .inl (fun _ => 0))), (q_11, .inr (0, fs1_12)), (hd_13, .inl (cB_14, 64, .inl (fun _ => 0))), (q_19, .inr (2, fs1_20)), (hr_21, .inr (6, fs2_22)), (q_28, .inr (5, fs1_29)), (ha_30, .inl (cJ_31, 8, .inr (.inl (fun _ => 0)))), (q_35, .inr (8, fs1_36)), (ha_37, .inl (cI_38, 12, .inl (fun _ => 0)))] H := by rw [e_dfX12_39]; exact hP
  have hD : va_D A [(h0, .inr (10, dfX12_39)), (q_1, .inr (0, fs1_2)), (hd_3, .inl (cB_4, 64, .inl (fun _ => 0))), (q_6, .inr (0, fs1_7)), (hd_8, .inl (cB_9, 64, .inl (fun _ => 0))), (q_11, .inr (0, fs1_12)), (hd_13, .inl (cB_14, 64, .inl (fun _ => 0))), (q_19, .inr (2, fs1_20)), (hr_21, .inr (6, fs2_22)), (q_28, .inr (5, fs1_29)), (ha_30, .inl (cJ_31, 8, .inr (.inl (fun _ => 0)))), (q_35, .inr (8, fs1_36)), (ha_37, .inl (cI_38, 12, .inl (fun _ => 0)))] := by rw [e_dfX12_39]; exact hD
  have L_dfX12_39 : dfX12_39.length = 18 := fx_len e_dfX12_39 L_dfX12_34
  have g_dfX12_39_10 := fx_ne (j := 10) e_dfX12_39 g_dfX12_34_10 (by decide)
  have g_dfX12_39_11 := fx_ne (j := 11) e_dfX12_39 g_dfX12_34_11 (by decide)
  have g_dfX12_39_12 := fx_ne (j := 12) e_dfX12_39 g_dfX12_34_12 (by decide)
  have g_dfX12_39_13 := fx_ne (j := 13) e_dfX12_39 g_dfX12_34_13 (by decide)
  have g_dfX12_39_0 := fx_ne (j := 0) e_dfX12_39 g_dfX12_34_0 (by decide)
  have g_dfX12_39_1 := fx_ne (j := 1) e_dfX12_39 g_dfX12_34_1 (by decide)
  have g_dfX12_39_4 := fx_ne (j := 4) e_dfX12_39 g_dfX12_34_4 (by decide)
  have g_dfX12_39_7 := fx_ne (j := 7) e_dfX12_39 g_dfX12_34_7 (by decide)
  have g_dfX12_39_9 := fx_self e_dfX12_39 (by rw [L_dfX12_34]; decide)
  refine lv_aload_n hx hb dX12_init_112 rfl (lv_at hl 0 rfl) ?_
  refine lv_iconst (v := (-1)) hx hb dX12_init_113 (by decide) ?_
  refine va_put (D := (dC, dI)) (ci := 10) (v := .int (-1)) (ty := .int) (C := RX12) (T := TX12) (N := 18) hx hb hts inX12 tyX12 tyX12_ok nmX12 hown hK hP hD hS 0 rfl rfl 14 (by decide) (hts _ kw_144) (fun _ h9 => h9) rfl (by decide +kernel) rfl rfl (by rw [L_dfX12_39]; decide) dX12_init_114 (fun H locs hP hD hS => ?_)
  obtain ⟨dfX12_40, e_dfX12_40⟩ : ∃ z, z = dfX12_39.set 14 (.int (-1)) := ⟨_, rfl⟩
  have hP : va_P (dC, dI) cl0 [(h0, .inr (10, dfX12_40)), (q_1, .inr (0, fs1_2)), (hd_3, .inl (cB_4, 64, .inl (fun _ => 0))), (q_6, .inr (0, fs1_7)), (hd_8, .inl (cB_9, 64, .inl (fun _ => 0))), (q_11, .inr (0, fs1_12)), (hd_13, .inl (cB_14, 64, .inl (fun _ => 0))), (q_19, .inr (2, fs1_20)), (hr_21, .inr (6, fs2_22)), (q_28, .inr (5, fs1_29)), (ha_30, .inl (cJ_31, 8, .inr (.inl (fun _ => 0)))), (q_35, .inr (8, fs1_36)), (ha_37, .inl (cI_38, 12, .inl (fun _ => 0)))] H := by rw [e_dfX12_40]; exact hP
  have hD : va_D A [(h0, .inr (10, dfX12_40)), (q_1, .inr (0, fs1_2)), (hd_3, .inl (cB_4, 64, .inl (fun _ => 0))), (q_6, .inr (0, fs1_7)), (hd_8, .inl (cB_9, 64, .inl (fun _ => 0))), (q_11, .inr (0, fs1_12)), (hd_13, .inl (cB_14, 64, .inl (fun _ => 0))), (q_19, .inr (2, fs1_20)), (hr_21, .inr (6, fs2_22)), (q_28, .inr (5, fs1_29)), (ha_30, .inl (cJ_31, 8, .inr (.inl (fun _ => 0)))), (q_35, .inr (8, fs1_36)), (ha_37, .inl (cI_38, 12, .inl (fun _ => 0)))] := by rw [e_dfX12_40]; exact hD
  have L_dfX12_40 : dfX12_40.length = 18 := fx_len e_dfX12_40 L_dfX12_39
  have g_dfX12_40_10 := fx_ne (j := 10) e_dfX12_40 g_dfX12_39_10 (by decide)
  have g_dfX12_40_11 := fx_ne (j := 11) e_dfX12_40 g_dfX12_39_11 (by decide)
  have g_dfX12_40_12 := fx_ne (j := 12) e_dfX12_40 g_dfX12_39_12 (by decide)
  have g_dfX12_40_13 := fx_ne (j := 13) e_dfX12_40 g_dfX12_39_13 (by decide)
  have g_dfX12_40_0 := fx_ne (j := 0) e_dfX12_40 g_dfX12_39_0 (by decide)
  have g_dfX12_40_1 := fx_ne (j := 1) e_dfX12_40 g_dfX12_39_1 (by decide)
  have g_dfX12_40_4 := fx_ne (j := 4) e_dfX12_40 g_dfX12_39_4 (by decide)
  have g_dfX12_40_7 := fx_ne (j := 7) e_dfX12_40 g_dfX12_39_7 (by decide)
  have g_dfX12_40_9 := fx_ne (j := 9) e_dfX12_40 g_dfX12_39_9 (by decide)
  have g_dfX12_40_14 := fx_self e_dfX12_40 (by rw [L_dfX12_39]; decide)
  refine lv_aload_n hx hb dX12_init_117 rfl (lv_at hl 0 rfl) ?_
  refine lv_iconst (v := (-1)) hx hb dX12_init_118 (by decide) ?_
  refine va_put (D := (dC, dI)) (ci := 10) (v := .int (-1)) (ty := .int) (C := RX12) (T := TX12) (N := 18) hx hb hts inX12 tyX12 tyX12_ok nmX12 hown hK hP hD hS 0 rfl rfl 15 (by decide) (hts _ kw_145) (fun _ h9 => h9) rfl (by decide +kernel) rfl rfl (by rw [L_dfX12_40]; decide) dX12_init_119 (fun H locs hP hD hS => ?_)
  obtain ⟨dfX12_41, e_dfX12_41⟩ : ∃ z, z = dfX12_40.set 15 (.int (-1)) := ⟨_, rfl⟩
  have hP : va_P (dC, dI) cl0 [(h0, .inr (10, dfX12_41)), (q_1, .inr (0, fs1_2)), (hd_3, .inl (cB_4, 64, .inl (fun _ => 0))), (q_6, .inr (0, fs1_7)), (hd_8, .inl (cB_9, 64, .inl (fun _ => 0))), (q_11, .inr (0, fs1_12)), (hd_13, .inl (cB_14, 64, .inl (fun _ => 0))), (q_19, .inr (2, fs1_20)), (hr_21, .inr (6, fs2_22)), (q_28, .inr (5, fs1_29)), (ha_30, .inl (cJ_31, 8, .inr (.inl (fun _ => 0)))), (q_35, .inr (8, fs1_36)), (ha_37, .inl (cI_38, 12, .inl (fun _ => 0)))] H := by rw [e_dfX12_41]; exact hP
  have hD : va_D A [(h0, .inr (10, dfX12_41)), (q_1, .inr (0, fs1_2)), (hd_3, .inl (cB_4, 64, .inl (fun _ => 0))), (q_6, .inr (0, fs1_7)), (hd_8, .inl (cB_9, 64, .inl (fun _ => 0))), (q_11, .inr (0, fs1_12)), (hd_13, .inl (cB_14, 64, .inl (fun _ => 0))), (q_19, .inr (2, fs1_20)), (hr_21, .inr (6, fs2_22)), (q_28, .inr (5, fs1_29)), (ha_30, .inl (cJ_31, 8, .inr (.inl (fun _ => 0)))), (q_35, .inr (8, fs1_36)), (ha_37, .inl (cI_38, 12, .inl (fun _ => 0)))] := by rw [e_dfX12_41]; exact hD
  have L_dfX12_41 : dfX12_41.length = 18 := fx_len e_dfX12_41 L_dfX12_40
  have g_dfX12_41_10 := fx_ne (j := 10) e_dfX12_41 g_dfX12_40_10 (by decide)
  have g_dfX12_41_11 := fx_ne (j := 11) e_dfX12_41 g_dfX12_40_11 (by decide)
  have g_dfX12_41_12 := fx_ne (j := 12) e_dfX12_41 g_dfX12_40_12 (by decide)
  have g_dfX12_41_13 := fx_ne (j := 13) e_dfX12_41 g_dfX12_40_13 (by decide)
  have g_dfX12_41_0 := fx_ne (j := 0) e_dfX12_41 g_dfX12_40_0 (by decide)
  have g_dfX12_41_1 := fx_ne (j := 1) e_dfX12_41 g_dfX12_40_1 (by decide)
  have g_dfX12_41_4 := fx_ne (j := 4) e_dfX12_41 g_dfX12_40_4 (by decide)
  have g_dfX12_41_7 := fx_ne (j := 7) e_dfX12_41 g_dfX12_40_7 (by decide)
  have g_dfX12_41_9 := fx_ne (j := 9) e_dfX12_41 g_dfX12_40_9 (by decide)
  have g_dfX12_41_14 := fx_ne (j := 14) e_dfX12_41 g_dfX12_40_14 (by decide)
  have g_dfX12_41_15 := fx_self e_dfX12_41 (by rw [L_dfX12_40]; decide)
  refine lv_aload_n hx hb dX12_init_122 rfl (lv_at hl 0 rfl) ?_
  refine lv_iconst (v := (-1)) hx hb dX12_init_123 (by decide) ?_
  refine va_put (D := (dC, dI)) (ci := 10) (v := .int (-1)) (ty := .int) (C := RX12) (T := TX12) (N := 18) hx hb hts inX12 tyX12 tyX12_ok nmX12 hown hK hP hD hS 0 rfl rfl 16 (by decide) (hts _ kw_146) (fun _ h9 => h9) rfl (by decide +kernel) rfl rfl (by rw [L_dfX12_41]; decide) dX12_init_124 (fun H locs hP hD hS => ?_)
  obtain ⟨dfX12_42, e_dfX12_42⟩ : ∃ z, z = dfX12_41.set 16 (.int (-1)) := ⟨_, rfl⟩
  have hP : va_P (dC, dI) cl0 [(h0, .inr (10, dfX12_42)), (q_1, .inr (0, fs1_2)), (hd_3, .inl (cB_4, 64, .inl (fun _ => 0))), (q_6, .inr (0, fs1_7)), (hd_8, .inl (cB_9, 64, .inl (fun _ => 0))), (q_11, .inr (0, fs1_12)), (hd_13, .inl (cB_14, 64, .inl (fun _ => 0))), (q_19, .inr (2, fs1_20)), (hr_21, .inr (6, fs2_22)), (q_28, .inr (5, fs1_29)), (ha_30, .inl (cJ_31, 8, .inr (.inl (fun _ => 0)))), (q_35, .inr (8, fs1_36)), (ha_37, .inl (cI_38, 12, .inl (fun _ => 0)))] H := by rw [e_dfX12_42]; exact hP
  have hD : va_D A [(h0, .inr (10, dfX12_42)), (q_1, .inr (0, fs1_2)), (hd_3, .inl (cB_4, 64, .inl (fun _ => 0))), (q_6, .inr (0, fs1_7)), (hd_8, .inl (cB_9, 64, .inl (fun _ => 0))), (q_11, .inr (0, fs1_12)), (hd_13, .inl (cB_14, 64, .inl (fun _ => 0))), (q_19, .inr (2, fs1_20)), (hr_21, .inr (6, fs2_22)), (q_28, .inr (5, fs1_29)), (ha_30, .inl (cJ_31, 8, .inr (.inl (fun _ => 0)))), (q_35, .inr (8, fs1_36)), (ha_37, .inl (cI_38, 12, .inl (fun _ => 0)))] := by rw [e_dfX12_42]; exact hD
  have L_dfX12_42 : dfX12_42.length = 18 := fx_len e_dfX12_42 L_dfX12_41
  have g_dfX12_42_10 := fx_ne (j := 10) e_dfX12_42 g_dfX12_41_10 (by decide)
  have g_dfX12_42_11 := fx_ne (j := 11) e_dfX12_42 g_dfX12_41_11 (by decide)
  have g_dfX12_42_12 := fx_ne (j := 12) e_dfX12_42 g_dfX12_41_12 (by decide)
  have g_dfX12_42_13 := fx_ne (j := 13) e_dfX12_42 g_dfX12_41_13 (by decide)
  have g_dfX12_42_0 := fx_ne (j := 0) e_dfX12_42 g_dfX12_41_0 (by decide)
  have g_dfX12_42_1 := fx_ne (j := 1) e_dfX12_42 g_dfX12_41_1 (by decide)
  have g_dfX12_42_4 := fx_ne (j := 4) e_dfX12_42 g_dfX12_41_4 (by decide)
  have g_dfX12_42_7 := fx_ne (j := 7) e_dfX12_42 g_dfX12_41_7 (by decide)
  have g_dfX12_42_9 := fx_ne (j := 9) e_dfX12_42 g_dfX12_41_9 (by decide)
  have g_dfX12_42_14 := fx_ne (j := 14) e_dfX12_42 g_dfX12_41_14 (by decide)
  have g_dfX12_42_15 := fx_ne (j := 15) e_dfX12_42 g_dfX12_41_15 (by decide)
  have g_dfX12_42_16 := fx_self e_dfX12_42 (by rw [L_dfX12_41]; decide)
  refine lv_aload_n hx hb dX12_init_127 rfl (lv_at hl 0 rfl) ?_
  refine lv_iconst (v := (-1)) hx hb dX12_init_128 (by decide) ?_
  refine va_put (D := (dC, dI)) (ci := 10) (v := .int (-1)) (ty := .int) (C := RX12) (T := TX12) (N := 18) hx hb hts inX12 tyX12 tyX12_ok nmX12 hown hK hP hD hS 0 rfl rfl 17 (by decide) (hts _ kw_147) (fun _ h9 => h9) rfl (by decide +kernel) rfl rfl (by rw [L_dfX12_42]; decide) dX12_init_129 (fun H locs hP hD hS => ?_)
  obtain ⟨dfX12_43, e_dfX12_43⟩ : ∃ z, z = dfX12_42.set 17 (.int (-1)) := ⟨_, rfl⟩
  have hP : va_P (dC, dI) cl0 [(h0, .inr (10, dfX12_43)), (q_1, .inr (0, fs1_2)), (hd_3, .inl (cB_4, 64, .inl (fun _ => 0))), (q_6, .inr (0, fs1_7)), (hd_8, .inl (cB_9, 64, .inl (fun _ => 0))), (q_11, .inr (0, fs1_12)), (hd_13, .inl (cB_14, 64, .inl (fun _ => 0))), (q_19, .inr (2, fs1_20)), (hr_21, .inr (6, fs2_22)), (q_28, .inr (5, fs1_29)), (ha_30, .inl (cJ_31, 8, .inr (.inl (fun _ => 0)))), (q_35, .inr (8, fs1_36)), (ha_37, .inl (cI_38, 12, .inl (fun _ => 0)))] H := by rw [e_dfX12_43]; exact hP
  have hD : va_D A [(h0, .inr (10, dfX12_43)), (q_1, .inr (0, fs1_2)), (hd_3, .inl (cB_4, 64, .inl (fun _ => 0))), (q_6, .inr (0, fs1_7)), (hd_8, .inl (cB_9, 64, .inl (fun _ => 0))), (q_11, .inr (0, fs1_12)), (hd_13, .inl (cB_14, 64, .inl (fun _ => 0))), (q_19, .inr (2, fs1_20)), (hr_21, .inr (6, fs2_22)), (q_28, .inr (5, fs1_29)), (ha_30, .inl (cJ_31, 8, .inr (.inl (fun _ => 0)))), (q_35, .inr (8, fs1_36)), (ha_37, .inl (cI_38, 12, .inl (fun _ => 0)))] := by rw [e_dfX12_43]; exact hD
  have L_dfX12_43 : dfX12_43.length = 18 := fx_len e_dfX12_43 L_dfX12_42
  have g_dfX12_43_10 := fx_ne (j := 10) e_dfX12_43 g_dfX12_42_10 (by decide)
  have g_dfX12_43_11 := fx_ne (j := 11) e_dfX12_43 g_dfX12_42_11 (by decide)
  have g_dfX12_43_12 := fx_ne (j := 12) e_dfX12_43 g_dfX12_42_12 (by decide)
  have g_dfX12_43_13 := fx_ne (j := 13) e_dfX12_43 g_dfX12_42_13 (by decide)
  have g_dfX12_43_0 := fx_ne (j := 0) e_dfX12_43 g_dfX12_42_0 (by decide)
  have g_dfX12_43_1 := fx_ne (j := 1) e_dfX12_43 g_dfX12_42_1 (by decide)
  have g_dfX12_43_4 := fx_ne (j := 4) e_dfX12_43 g_dfX12_42_4 (by decide)
  have g_dfX12_43_7 := fx_ne (j := 7) e_dfX12_43 g_dfX12_42_7 (by decide)
  have g_dfX12_43_9 := fx_ne (j := 9) e_dfX12_43 g_dfX12_42_9 (by decide)
  have g_dfX12_43_14 := fx_ne (j := 14) e_dfX12_43 g_dfX12_42_14 (by decide)
  have g_dfX12_43_15 := fx_ne (j := 15) e_dfX12_43 g_dfX12_42_15 (by decide)
  have g_dfX12_43_16 := fx_ne (j := 16) e_dfX12_43 g_dfX12_42_16 (by decide)
  refine W.widen (k := 79) (n := 3727) (Nat.le_of_ble_eq_true rfl) (Nat.le_of_ble_eq_true rfl) ?_
  have hP9 := hP.sub (ws' := [(h0, .inr (10, dfX12_43)), (q_1, .inr (0, fs1_2)), (hd_3, .inl (cB_4, 64, .inl (fun _ => 0))), (q_6, .inr (0, fs1_7)), (q_19, .inr (2, fs1_20)), (hr_21, .inr (6, fs2_22)), (q_28, .inr (5, fs1_29)), (ha_30, .inl (cJ_31, 8, .inr (.inl (fun _ => 0)))), (q_35, .inr (8, fs1_36)), (ha_37, .inl (cI_38, 12, .inl (fun _ => 0)))]) [0, 1, 2, 3, 7, 8, 9, 10, 11, 12] rfl
  have hD9 := hD.sub (ws' := [(h0, .inr (10, dfX12_43)), (q_1, .inr (0, fs1_2)), (hd_3, .inl (cB_4, 64, .inl (fun _ => 0))), (q_6, .inr (0, fs1_7)), (q_19, .inr (2, fs1_20)), (hr_21, .inr (6, fs2_22)), (q_28, .inr (5, fs1_29)), (ha_30, .inl (cJ_31, 8, .inr (.inl (fun _ => 0)))), (q_35, .inr (8, fs1_36)), (ha_37, .inl (cI_38, 12, .inl (fun _ => 0)))]) [0, 1, 2, 3, 7, 8, 9, 10, 11, 12] (by decide) rfl
  have hK9 := hK.sub (tys' := [(cB_4, .byte), (cJ_31, .long), (cI_38, .int)]) [0, 3, 4] rfl
  exact W.vret hx hb hr (fun t9 ht9 hW9 => ⟨⟨(), rfl, trivial, dfX12_43, q_1, fs1_2, hd_3, cB_4, q_6, fs1_7, q_19, fs1_20, hr_21, fs2_22, q_28, fs1_29, ha_30, cJ_31, q_35, fs1_36, ha_37, cI_38, L_dfX12_43, g_dfX12_43_0, g_dfX12_43_1, g_dfX12_43_4, g_dfX12_43_7, g_dfX12_43_9, g_dfX12_43_10, g_dfX12_43_11, g_dfX12_43_12, g_dfX12_43_13, g_dfX12_43_14, g_dfX12_43_15, g_dfX12_43_16, L_fs1_2, g_fs1_2_0, g_fs1_2_1, L_fs1_7, g_fs1_7_1, L_fs1_20, g_fs1_20_0, L_fs2_22, L_fs1_29, g_fs1_29_0, g_fs1_29_5, g_fs1_29_6, g_fs1_29_7, g_fs1_29_16, g_fs1_29_17, g_fs1_29_18, g_fs1_29_19, L_fs1_36, g_fs1_36_1, by rw [ht9]; exact hP9, va_K.moved hW9.alike hK9, hD9⟩, hS.F ht9⟩) hS.2.2 dX12_init_132
