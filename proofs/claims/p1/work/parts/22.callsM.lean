set_option maxHeartbeats 4000000 in
set_option maxRecDepth 100000 in
theorem m_X14_word (l : Launch) (dC : Nat → ClassId) (dI : Nat → Nat → Nat) (sz : Nat) (h0 : Nat) (fy : List Value) (ht : Nat) (cB : ClassId) (f : Nat → Int32) (n : Int32) (w : Int32) (b : Int32) (L_fy : fy.length = 143) (g_fy_3 : fy[3]? = some (.ref ht)) (g_fy_4 : fy[4]? = some (.int n)) (g_fy_5 : fy[5]? = some (.int w)) (hn : wk n = true) (hn1 : wk (n + 1) = true) (hn2 : wk ((n + 1) + 1) = true) (hn3 : wk (((n + 1) + 1) + 1) = true) : Met l yX14_word (wt yX14_word cX14_word 3 none) ({ frames := 0, cells := 0, slots := 0, locals := 0 }) (va_Pc [.ref h0, .int b] (st_U dC dI sz [(h0, .inr (12, fy)), (ht, .inl (cB, 16000, .inl f))] [(cB, .byte)])) (va_Qv (fun _ : Unit => True) (fun (_ : Unit) (t : State) => ∃ (fy1 : List Value), ∃ (f1 : Nat → Int32), (fy1.length = 143) ∧ (fy1[3]? = some (.ref ht)) ∧ (fy1[4]? = some (.int ((((n + 1) + 1) + 1) + 1))) ∧ (fy1[5]? = some (.int w)) ∧ va_P (dC, dI) cl0 [(h0, .inr (12, fy1)), (ht, .inl (cB, 16000, .inl f1))] t.heap ∧ va_K (dC, dI) cl0 [(cB, .byte)] t ∧ va_D (va_A [(h0, .inr (12, fy)), (ht, .inl (cB, 16000, .inl f))] sz) [(h0, .inr (12, fy1)), (ht, .inl (cB, 16000, .inl f1))]) (va_A [(h0, .inr (12, fy)), (ht, .inl (cB, 16000, .inl f))] sz)) 0 0 (va_A [(h0, .inr (12, fy)), (ht, .inl (cB, 16000, .inl f))] sz) := by
  refine Met.ofW (cc := cX14_word) (maxL := 3) (ret := none) (by decide) rfl ?_
  intro p e s m args below meth c s₁ B hml hv
  obtain ⟨rfl, hsz, hP, hK, hD0, hex⟩ := hv
  have hx := B.exec
  have hb := B.bytes
  have hr := B.returns
  have hts0 := atoms_spec (ws := wt yX14_word cX14_word 3 none) B.pre
  have hts : ∀ w ∈ tb, w.before _ s = true := fun w h => hts0 w (List.mem_cons_of_mem _ h)
  have hown : s.vm.findClass RX14 = some m.cls := findClass_of_methodNamed B.named
  have hlocks := B.notSynchronized
  subst hsz
  have hD := hD0.self (sz := s.heap.size)
  generalize hAe : va_A [(h0, .inr (12, fy)), (ht, .inl (cB, 16000, .inl f))] s.heap.size = A at hD ⊢
  have hA : ∀ q : Nat, s.heap.size ≤ q → A q := fun q h => by rw [← hAe]; exact Or.inr h
  have hS : va_S A s.heap s.heap [] := va_S.rf
  have hl := lv_entry ([.ref h0, .int b]) (n := 3) (Nat.le_of_ble_eq_true rfl)
  rw [lg_entry_eq]
  generalize (lg_sl ([.ref h0, .int b]) ++ List.replicate (3 - (lg_sl ([.ref h0, .int b])).length) Slot.unset).toArray = ls at hl ⊢
  have hl : lv_has ls 3 [(0, .ref h0), (1, .int b)] := hl
  refine lv_iconst (v := 0) hx hb dX14_word_0 (by decide) ?_
  refine lv_istore_n (lv' := [(2, .int 0), (0, .ref h0), (1, .int b)]) hx hb dX14_word_1 rfl hl (by decide) rfl (fun ls hl => ?_)
  refine lv_iload_n hx hb dX14_word_2 rfl (lv_at hl 0 rfl) ?_
  refine lv_iconst (v := 4) hx hb dX14_word_3 (by decide) ?_
  refine lv_icmp_ge (tgt := 42) hx hb dX14_word_4 (by decide) (fun c9 => absurd c9 (by decide)) (fun _ => ?_)
  refine lv_aload_n hx hb dX14_word_7 rfl (lv_at hl 1 rfl) ?_
  refine va_get (D := (dC, dI)) (ci := 12) (v := .ref ht) (C := RX14) (T := TX14) (N := 143) hx hb hts inX14 hown hK hP 0 rfl rfl 3 (by decide) (hts _ kw_270) (fun _ h9 => h9) g_fy_3 dX14_word_8 ?_
  refine lv_aload_n hx hb dX14_word_11 rfl (lv_at hl 1 rfl) ?_
  refine va_get (D := (dC, dI)) (ci := 12) (v := .int n) (C := RX14) (T := TX14) (N := 143) hx hb hts inX14 hown hK hP 0 rfl rfl 4 (by decide) (hts _ kw_368) (fun _ h9 => h9) g_fy_4 dX14_word_12 ?_
  refine lv_iload_n hx hb dX14_word_15 rfl (lv_at hl 2 rfl) ?_
  refine lv_bipush (v := 24) hx hb dX14_word_16 (by decide) ?_
  refine lv_bipush (v := 8) hx hb dX14_word_18 (by decide) ?_
  refine lv_iload_n hx hb dX14_word_20 rfl (lv_at hl 0 rfl) ?_
  refine lv_imul hx hb dX14_word_21 ?_
  refine lv_topi (fun z_1 ez_1 => ?_)
  obtain rfl : z_1 = 0 := ez_1.trans (by decide)
  refine lv_isub hx hb dX14_word_22 ?_
  refine lv_topi (fun z_2 ez_2 => ?_)
  obtain rfl : z_2 = 24 := ez_2.trans (by decide)
  refine lv_ishr hx hb dX14_word_23 ?_
  refine lv_topi (fun z_3 ez_3 => ?_)
  obtain ⟨z_4, ez_4⟩ : ∃ y : Int32, z_3.toInt8.toInt32 = y := ⟨_, rfl⟩
  refine lv_i2b (v := z_4) hx hb dX14_word_24 ez_4 ?_
  refine va_bast hx hb hK hP hD hS 1 0 rfl rfl (wk2 hn) dX14_word_25 (fun H locs hP hD hS => ?_)
  obtain ⟨f_5, e_f_5⟩ : ∃ z, z = upd f (n : Int32).toNatClampNeg (vp_nar .byte z_4) := ⟨_, rfl⟩
  have hP : va_P (dC, dI) cl0 [(h0, .inr (12, fy)), (ht, .inl (cB, 16000, .inl f_5))] H := by rw [e_f_5]; exact hP
  have hD : va_D A [(h0, .inr (12, fy)), (ht, .inl (cB, 16000, .inl f_5))] := by rw [e_f_5]; exact hD
  refine lv_aload_n hx hb dX14_word_26 rfl (lv_at hl 1 rfl) ?_
  refine lv_dup hx hb dX14_word_27 rfl ?_
  refine va_get (D := (dC, dI)) (ci := 12) (v := .int n) (C := RX14) (T := TX14) (N := 143) hx hb hts inX14 hown hK hP 0 rfl rfl 4 (by decide) (hts _ kw_368) (fun _ h9 => h9) g_fy_4 dX14_word_28 ?_
  refine lv_iconst (v := 1) hx hb dX14_word_31 (by decide) ?_
  refine lv_iadd hx hb dX14_word_32 ?_
  refine va_put (D := (dC, dI)) (ci := 12) (v := .int (n + 1)) (ty := .int) (C := RX14) (T := TX14) (N := 143) hx hb hts inX14 tyX14 tyX14_ok nmX14 hown hK hP hD hS 0 rfl rfl 4 (by decide) (hts _ kw_368) (fun _ h9 => h9) rfl (by decide +kernel) rfl rfl (by rw [L_fy]; decide) dX14_word_33 (fun H locs hP hD hS => ?_)
  obtain ⟨fy_6, e_fy_6⟩ : ∃ z, z = fy.set 4 (.int (n + 1)) := ⟨_, rfl⟩
  have hP : va_P (dC, dI) cl0 [(h0, .inr (12, fy_6)), (ht, .inl (cB, 16000, .inl f_5))] H := by rw [e_fy_6]; exact hP
  have hD : va_D A [(h0, .inr (12, fy_6)), (ht, .inl (cB, 16000, .inl f_5))] := by rw [e_fy_6]; exact hD
  have L_fy_6 : fy_6.length = 143 := fx_len e_fy_6 L_fy
  have g_fy_6_3 := fx_ne (j := 3) e_fy_6 g_fy_3 (by decide)
  have g_fy_6_5 := fx_ne (j := 5) e_fy_6 g_fy_5 (by decide)
  have g_fy_6_4 := fx_self e_fy_6 (by rw [L_fy]; decide)
  refine lv_iinc (v := 1) (lv' := [(2, .int 1), (0, .ref h0), (1, .int b)]) hx hb dX14_word_36 hl (k := 0) rfl (by decide) (by decide) rfl (fun ls hl => ?_)
  refine lv_goto (tgt := 2) hx hb dX14_word_39 (by decide) ?_
  refine lv_iload_n hx hb dX14_word_2 rfl (lv_at hl 0 rfl) ?_
  refine lv_iconst (v := 4) hx hb dX14_word_3 (by decide) ?_
  refine lv_icmp_ge (tgt := 42) hx hb dX14_word_4 (by decide) (fun c9 => absurd c9 (by decide)) (fun _ => ?_)
  refine lv_aload_n hx hb dX14_word_7 rfl (lv_at hl 1 rfl) ?_
  refine va_get (D := (dC, dI)) (ci := 12) (v := .ref ht) (C := RX14) (T := TX14) (N := 143) hx hb hts inX14 hown hK hP 0 rfl rfl 3 (by decide) (hts _ kw_270) (fun _ h9 => h9) g_fy_6_3 dX14_word_8 ?_
  refine lv_aload_n hx hb dX14_word_11 rfl (lv_at hl 1 rfl) ?_
  refine va_get (D := (dC, dI)) (ci := 12) (v := .int (n + 1)) (C := RX14) (T := TX14) (N := 143) hx hb hts inX14 hown hK hP 0 rfl rfl 4 (by decide) (hts _ kw_368) (fun _ h9 => h9) g_fy_6_4 dX14_word_12 ?_
  refine lv_iload_n hx hb dX14_word_15 rfl (lv_at hl 2 rfl) ?_
  refine lv_bipush (v := 24) hx hb dX14_word_16 (by decide) ?_
  refine lv_bipush (v := 8) hx hb dX14_word_18 (by decide) ?_
  refine lv_iload_n hx hb dX14_word_20 rfl (lv_at hl 0 rfl) ?_
  refine lv_imul hx hb dX14_word_21 ?_
  refine lv_topi (fun z_7 ez_7 => ?_)
  obtain rfl : z_7 = 8 := ez_7.trans (by decide)
  refine lv_isub hx hb dX14_word_22 ?_
  refine lv_topi (fun z_8 ez_8 => ?_)
  obtain rfl : z_8 = 16 := ez_8.trans (by decide)
  refine lv_ishr hx hb dX14_word_23 ?_
  refine lv_topi (fun z_9 ez_9 => ?_)
  obtain ⟨z_10, ez_10⟩ : ∃ y : Int32, z_9.toInt8.toInt32 = y := ⟨_, rfl⟩
  refine lv_i2b (v := z_10) hx hb dX14_word_24 ez_10 ?_
  refine va_bast hx hb hK hP hD hS 1 0 rfl rfl (wk2 hn1) dX14_word_25 (fun H locs hP hD hS => ?_)
  obtain ⟨f_11, e_f_11⟩ : ∃ z, z = upd f_5 ((n + 1) : Int32).toNatClampNeg (vp_nar .byte z_10) := ⟨_, rfl⟩
  have hP : va_P (dC, dI) cl0 [(h0, .inr (12, fy_6)), (ht, .inl (cB, 16000, .inl f_11))] H := by rw [e_f_11]; exact hP
  have hD : va_D A [(h0, .inr (12, fy_6)), (ht, .inl (cB, 16000, .inl f_11))] := by rw [e_f_11]; exact hD
  refine lv_aload_n hx hb dX14_word_26 rfl (lv_at hl 1 rfl) ?_
  refine lv_dup hx hb dX14_word_27 rfl ?_
  refine va_get (D := (dC, dI)) (ci := 12) (v := .int (n + 1)) (C := RX14) (T := TX14) (N := 143) hx hb hts inX14 hown hK hP 0 rfl rfl 4 (by decide) (hts _ kw_368) (fun _ h9 => h9) g_fy_6_4 dX14_word_28 ?_
  refine lv_iconst (v := 1) hx hb dX14_word_31 (by decide) ?_
  refine lv_iadd hx hb dX14_word_32 ?_
  refine va_put (D := (dC, dI)) (ci := 12) (v := .int ((n + 1) + 1)) (ty := .int) (C := RX14) (T := TX14) (N := 143) hx hb hts inX14 tyX14 tyX14_ok nmX14 hown hK hP hD hS 0 rfl rfl 4 (by decide) (hts _ kw_368) (fun _ h9 => h9) rfl (by decide +kernel) rfl rfl (by rw [L_fy_6]; decide) dX14_word_33 (fun H locs hP hD hS => ?_)
  obtain ⟨fy_12, e_fy_12⟩ : ∃ z, z = fy_6.set 4 (.int ((n + 1) + 1)) := ⟨_, rfl⟩
  have hP : va_P (dC, dI) cl0 [(h0, .inr (12, fy_12)), (ht, .inl (cB, 16000, .inl f_11))] H := by rw [e_fy_12]; exact hP
  have hD : va_D A [(h0, .inr (12, fy_12)), (ht, .inl (cB, 16000, .inl f_11))] := by rw [e_fy_12]; exact hD
  have L_fy_12 : fy_12.length = 143 := fx_len e_fy_12 L_fy_6
  have g_fy_12_3 := fx_ne (j := 3) e_fy_12 g_fy_6_3 (by decide)
  have g_fy_12_5 := fx_ne (j := 5) e_fy_12 g_fy_6_5 (by decide)
  have g_fy_12_4 := fx_self e_fy_12 (by rw [L_fy_6]; decide)
  refine lv_iinc (v := 2) (lv' := [(2, .int 2), (0, .ref h0), (1, .int b)]) hx hb dX14_word_36 hl (k := 0) rfl (by decide) (by decide) rfl (fun ls hl => ?_)
  refine lv_goto (tgt := 2) hx hb dX14_word_39 (by decide) ?_
  refine lv_iload_n hx hb dX14_word_2 rfl (lv_at hl 0 rfl) ?_
  refine lv_iconst (v := 4) hx hb dX14_word_3 (by decide) ?_
  refine lv_icmp_ge (tgt := 42) hx hb dX14_word_4 (by decide) (fun c9 => absurd c9 (by decide)) (fun _ => ?_)
  refine lv_aload_n hx hb dX14_word_7 rfl (lv_at hl 1 rfl) ?_
  refine va_get (D := (dC, dI)) (ci := 12) (v := .ref ht) (C := RX14) (T := TX14) (N := 143) hx hb hts inX14 hown hK hP 0 rfl rfl 3 (by decide) (hts _ kw_270) (fun _ h9 => h9) g_fy_12_3 dX14_word_8 ?_
  refine lv_aload_n hx hb dX14_word_11 rfl (lv_at hl 1 rfl) ?_
  refine va_get (D := (dC, dI)) (ci := 12) (v := .int ((n + 1) + 1)) (C := RX14) (T := TX14) (N := 143) hx hb hts inX14 hown hK hP 0 rfl rfl 4 (by decide) (hts _ kw_368) (fun _ h9 => h9) g_fy_12_4 dX14_word_12 ?_
  refine lv_iload_n hx hb dX14_word_15 rfl (lv_at hl 2 rfl) ?_
  refine lv_bipush (v := 24) hx hb dX14_word_16 (by decide) ?_
  refine lv_bipush (v := 8) hx hb dX14_word_18 (by decide) ?_
  refine lv_iload_n hx hb dX14_word_20 rfl (lv_at hl 0 rfl) ?_
  refine lv_imul hx hb dX14_word_21 ?_
  refine lv_topi (fun z_13 ez_13 => ?_)
  obtain rfl : z_13 = 16 := ez_13.trans (by decide)
  refine lv_isub hx hb dX14_word_22 ?_
  refine lv_topi (fun z_14 ez_14 => ?_)
  obtain rfl : z_14 = 8 := ez_14.trans (by decide)
  refine lv_ishr hx hb dX14_word_23 ?_
  refine lv_topi (fun z_15 ez_15 => ?_)
  obtain ⟨z_16, ez_16⟩ : ∃ y : Int32, z_15.toInt8.toInt32 = y := ⟨_, rfl⟩
  refine lv_i2b (v := z_16) hx hb dX14_word_24 ez_16 ?_
  refine va_bast hx hb hK hP hD hS 1 0 rfl rfl (wk2 hn2) dX14_word_25 (fun H locs hP hD hS => ?_)
  obtain ⟨f_17, e_f_17⟩ : ∃ z, z = upd f_11 (((n + 1) + 1) : Int32).toNatClampNeg (vp_nar .byte z_16) := ⟨_, rfl⟩
  have hP : va_P (dC, dI) cl0 [(h0, .inr (12, fy_12)), (ht, .inl (cB, 16000, .inl f_17))] H := by rw [e_f_17]; exact hP
  have hD : va_D A [(h0, .inr (12, fy_12)), (ht, .inl (cB, 16000, .inl f_17))] := by rw [e_f_17]; exact hD
  refine lv_aload_n hx hb dX14_word_26 rfl (lv_at hl 1 rfl) ?_
  refine lv_dup hx hb dX14_word_27 rfl ?_
  refine va_get (D := (dC, dI)) (ci := 12) (v := .int ((n + 1) + 1)) (C := RX14) (T := TX14) (N := 143) hx hb hts inX14 hown hK hP 0 rfl rfl 4 (by decide) (hts _ kw_368) (fun _ h9 => h9) g_fy_12_4 dX14_word_28 ?_
  refine lv_iconst (v := 1) hx hb dX14_word_31 (by decide) ?_
  refine lv_iadd hx hb dX14_word_32 ?_
  refine va_put (D := (dC, dI)) (ci := 12) (v := .int (((n + 1) + 1) + 1)) (ty := .int) (C := RX14) (T := TX14) (N := 143) hx hb hts inX14 tyX14 tyX14_ok nmX14 hown hK hP hD hS 0 rfl rfl 4 (by decide) (hts _ kw_368) (fun _ h9 => h9) rfl (by decide +kernel) rfl rfl (by rw [L_fy_12]; decide) dX14_word_33 (fun H locs hP hD hS => ?_)
  obtain ⟨fy_18, e_fy_18⟩ : ∃ z, z = fy_12.set 4 (.int (((n + 1) + 1) + 1)) := ⟨_, rfl⟩
  have hP : va_P (dC, dI) cl0 [(h0, .inr (12, fy_18)), (ht, .inl (cB, 16000, .inl f_17))] H := by rw [e_fy_18]; exact hP
  have hD : va_D A [(h0, .inr (12, fy_18)), (ht, .inl (cB, 16000, .inl f_17))] := by rw [e_fy_18]; exact hD
  have L_fy_18 : fy_18.length = 143 := fx_len e_fy_18 L_fy_12
  have g_fy_18_3 := fx_ne (j := 3) e_fy_18 g_fy_12_3 (by decide)
  have g_fy_18_5 := fx_ne (j := 5) e_fy_18 g_fy_12_5 (by decide)
  have g_fy_18_4 := fx_self e_fy_18 (by rw [L_fy_12]; decide)
  refine lv_iinc (v := 3) (lv' := [(2, .int 3), (0, .ref h0), (1, .int b)]) hx hb dX14_word_36 hl (k := 0) rfl (by decide) (by decide) rfl (fun ls hl => ?_)
  refine lv_goto (tgt := 2) hx hb dX14_word_39 (by decide) ?_
  refine lv_iload_n hx hb dX14_word_2 rfl (lv_at hl 0 rfl) ?_
  refine lv_iconst (v := 4) hx hb dX14_word_3 (by decide) ?_
  refine lv_icmp_ge (tgt := 42) hx hb dX14_word_4 (by decide) (fun c9 => absurd c9 (by decide)) (fun _ => ?_)
  refine lv_aload_n hx hb dX14_word_7 rfl (lv_at hl 1 rfl) ?_
  refine va_get (D := (dC, dI)) (ci := 12) (v := .ref ht) (C := RX14) (T := TX14) (N := 143) hx hb hts inX14 hown hK hP 0 rfl rfl 3 (by decide) (hts _ kw_270) (fun _ h9 => h9) g_fy_18_3 dX14_word_8 ?_
  refine lv_aload_n hx hb dX14_word_11 rfl (lv_at hl 1 rfl) ?_
  refine va_get (D := (dC, dI)) (ci := 12) (v := .int (((n + 1) + 1) + 1)) (C := RX14) (T := TX14) (N := 143) hx hb hts inX14 hown hK hP 0 rfl rfl 4 (by decide) (hts _ kw_368) (fun _ h9 => h9) g_fy_18_4 dX14_word_12 ?_
  refine lv_iload_n hx hb dX14_word_15 rfl (lv_at hl 2 rfl) ?_
  refine lv_bipush (v := 24) hx hb dX14_word_16 (by decide) ?_
  refine lv_bipush (v := 8) hx hb dX14_word_18 (by decide) ?_
  refine lv_iload_n hx hb dX14_word_20 rfl (lv_at hl 0 rfl) ?_
  refine lv_imul hx hb dX14_word_21 ?_
  refine lv_topi (fun z_19 ez_19 => ?_)
  obtain rfl : z_19 = 24 := ez_19.trans (by decide)
  refine lv_isub hx hb dX14_word_22 ?_
  refine lv_topi (fun z_20 ez_20 => ?_)
  obtain rfl : z_20 = 0 := ez_20.trans (by decide)
  refine lv_ishr hx hb dX14_word_23 ?_
  refine lv_topi (fun z_21 ez_21 => ?_)
  obtain ⟨z_22, ez_22⟩ : ∃ y : Int32, z_21.toInt8.toInt32 = y := ⟨_, rfl⟩
  refine lv_i2b (v := z_22) hx hb dX14_word_24 ez_22 ?_
  refine va_bast hx hb hK hP hD hS 1 0 rfl rfl (wk2 hn3) dX14_word_25 (fun H locs hP hD hS => ?_)
  obtain ⟨f_23, e_f_23⟩ : ∃ z, z = upd f_17 ((((n + 1) + 1) + 1) : Int32).toNatClampNeg (vp_nar .byte z_22) := ⟨_, rfl⟩
  have hP : va_P (dC, dI) cl0 [(h0, .inr (12, fy_18)), (ht, .inl (cB, 16000, .inl f_23))] H := by rw [e_f_23]; exact hP
  have hD : va_D A [(h0, .inr (12, fy_18)), (ht, .inl (cB, 16000, .inl f_23))] := by rw [e_f_23]; exact hD
  refine lv_aload_n hx hb dX14_word_26 rfl (lv_at hl 1 rfl) ?_
  refine lv_dup hx hb dX14_word_27 rfl ?_
  refine va_get (D := (dC, dI)) (ci := 12) (v := .int (((n + 1) + 1) + 1)) (C := RX14) (T := TX14) (N := 143) hx hb hts inX14 hown hK hP 0 rfl rfl 4 (by decide) (hts _ kw_368) (fun _ h9 => h9) g_fy_18_4 dX14_word_28 ?_
  refine lv_iconst (v := 1) hx hb dX14_word_31 (by decide) ?_
  refine lv_iadd hx hb dX14_word_32 ?_
  refine va_put (D := (dC, dI)) (ci := 12) (v := .int ((((n + 1) + 1) + 1) + 1)) (ty := .int) (C := RX14) (T := TX14) (N := 143) hx hb hts inX14 tyX14 tyX14_ok nmX14 hown hK hP hD hS 0 rfl rfl 4 (by decide) (hts _ kw_368) (fun _ h9 => h9) rfl (by decide +kernel) rfl rfl (by rw [L_fy_18]; decide) dX14_word_33 (fun H locs hP hD hS => ?_)
  obtain ⟨fy_24, e_fy_24⟩ : ∃ z, z = fy_18.set 4 (.int ((((n + 1) + 1) + 1) + 1)) := ⟨_, rfl⟩
  have hP : va_P (dC, dI) cl0 [(h0, .inr (12, fy_24)), (ht, .inl (cB, 16000, .inl f_23))] H := by rw [e_fy_24]; exact hP
  have hD : va_D A [(h0, .inr (12, fy_24)), (ht, .inl (cB, 16000, .inl f_23))] := by rw [e_fy_24]; exact hD
  have L_fy_24 : fy_24.length = 143 := fx_len e_fy_24 L_fy_18
  have g_fy_24_3 := fx_ne (j := 3) e_fy_24 g_fy_18_3 (by decide)
  have g_fy_24_5 := fx_ne (j := 5) e_fy_24 g_fy_18_5 (by decide)
  have g_fy_24_4 := fx_self e_fy_24 (by rw [L_fy_18]; decide)
  refine lv_iinc (v := 4) (lv' := [(2, .int 4), (0, .ref h0), (1, .int b)]) hx hb dX14_word_36 hl (k := 0) rfl (by decide) (by decide) rfl (fun ls hl => ?_)
  refine lv_goto (tgt := 2) hx hb dX14_word_39 (by decide) ?_
  refine lv_iload_n hx hb dX14_word_2 rfl (lv_at hl 0 rfl) ?_
  refine lv_iconst (v := 4) hx hb dX14_word_3 (by decide) ?_
  refine lv_icmp_ge (tgt := 42) hx hb dX14_word_4 (by decide) (fun _ => ?_) (fun c9 => absurd (by decide) c9)
  refine W.widen (k := 0) (n := 0) (Nat.le_of_ble_eq_true rfl) (Nat.le_of_ble_eq_true rfl) ?_
  have hP9 := hP.sub (ws' := [(h0, .inr (12, fy_24)), (ht, .inl (cB, 16000, .inl f_23))]) [0, 1] rfl
  have hD9 := hD.sub (ws' := [(h0, .inr (12, fy_24)), (ht, .inl (cB, 16000, .inl f_23))]) [0, 1] (by decide) rfl
  have hK9 := hK.sub (tys' := [(cB, .byte)]) [0] rfl
  exact W.vret hx hb hr (fun t9 ht9 hW9 => ⟨⟨(), rfl, trivial, fy_24, f_23, L_fy_24, g_fy_24_3, g_fy_24_4, g_fy_24_5, by rw [ht9]; exact hP9, va_K.moved hW9.alike hK9, hD9⟩, hS.F ht9⟩) hS.2.2 dX14_word_42
set_option maxHeartbeats 4000000 in
set_option maxRecDepth 100000 in
theorem m_X14_feed (l : Launch) (dC : Nat → ClassId) (dI : Nat → Nat → Nat) (sz : Nat) (h0 : Nat) (fy : List Value) (ht : Nat) (cB : ClassId) (a : Int32) (b : Int32) (c0 : Int32) (d : Int32) (e0 : Int32) (L_fy : fy.length = 143) (g_fy_3 : fy[3]? = some (.ref ht)) (g_fy_4 : fy[4]? = some (.int 0)) (g_fy_5 : fy[5]? = some (.int 0)) : Met l yX14_feed (wt yX14_feed cX14_feed 6 (some .int)) ({ frames := 1, cells := 0, slots := 0, locals := 22 }) (va_Pc [.ref h0, .int a, .int b, .int c0, .int d, .int e0] (st_U dC dI sz [(h0, .inr (12, fy)), (ht, .inl (cB, 16000, .inl (fun _ => 0)))] [(cB, .byte)])) (va_Qi (fun (r : Int32) (_ : Unit) => r = 20) (fun (_ : Unit) (_ : State) => True) (va_A [(h0, .inr (12, fy)), (ht, .inl (cB, 16000, .inl (fun _ => 0)))] sz)) 0 0 (va_A [(h0, .inr (12, fy)), (ht, .inl (cB, 16000, .inl (fun _ => 0)))] sz) := by
  refine Met.ofW (cc := cX14_feed) (maxL := 6) (ret := (some .int)) (by decide) rfl ?_
  intro p e s m args below meth c s₁ B hml hv
  obtain ⟨rfl, hsz, hP, hK, hD0, hex⟩ := hv
  have hx := B.exec
  have hb := B.bytes
  have hr := B.returns
  have hts0 := atoms_spec (ws := wt yX14_feed cX14_feed 6 (some .int)) B.pre
  have hts : ∀ w ∈ tb, w.before _ s = true := fun w h => hts0 w (List.mem_cons_of_mem _ h)
  have hown : s.vm.findClass RX14 = some m.cls := findClass_of_methodNamed B.named
  have hlocks := B.notSynchronized
  subst hsz
  have hD := hD0.self (sz := s.heap.size)
  generalize hAe : va_A [(h0, .inr (12, fy)), (ht, .inl (cB, 16000, .inl (fun _ => 0)))] s.heap.size = A at hD ⊢
  have hA : ∀ q : Nat, s.heap.size ≤ q → A q := fun q h => by rw [← hAe]; exact Or.inr h
  have hS : va_S A s.heap s.heap [] := va_S.rf
  have hl := lv_entry ([.ref h0, .int a, .int b, .int c0, .int d, .int e0]) (n := 6) (Nat.le_of_ble_eq_true rfl)
  rw [lg_entry_eq]
  generalize (lg_sl ([.ref h0, .int a, .int b, .int c0, .int d, .int e0]) ++ List.replicate (6 - (lg_sl ([.ref h0, .int a, .int b, .int c0, .int d, .int e0])).length) Slot.unset).toArray = ls at hl ⊢
  have hl : lv_has ls 6 [(0, .ref h0), (1, .int a), (2, .int b), (3, .int c0), (4, .int d), (5, .int e0)] := hl
  refine lv_aload_n hx hb dX14_feed_0 rfl (lv_at hl 0 rfl) ?_
  refine va_get (D := (dC, dI)) (ci := 12) (v := .int 0) (C := RX14) (T := TX14) (N := 143) hx hb hts inX14 hown hK hP 0 rfl rfl 4 (by decide) (hts _ kw_368) (fun _ h9 => h9) g_fy_4 dX14_feed_1 ?_
  refine lv_bipush (v := 20) hx hb dX14_feed_4 (by decide) ?_
  refine lv_iadd hx hb dX14_feed_6 ?_
  refine lv_topi (fun z_1 ez_1 => ?_)
  obtain rfl : z_1 = 20 := ez_1.trans (by decide)
  refine lv_sipush (v := 16000) hx hb dX14_feed_7 (by decide) ?_
  refine lv_icmp_gt (tgt := 26) hx hb dX14_feed_10 (by decide) (fun c9 => absurd c9 (by decide)) (fun _ => ?_)
  refine lv_aload_n hx hb dX14_feed_13 rfl (lv_at hl 0 rfl) ?_
  refine va_get (D := (dC, dI)) (ci := 12) (v := .int 0) (C := RX14) (T := TX14) (N := 143) hx hb hts inX14 hown hK hP 0 rfl rfl 5 (by decide) (hts _ kw_369) (fun _ h9 => h9) g_fy_5 dX14_feed_14 ?_
  refine lv_bipush (v := 20) hx hb dX14_feed_17 (by decide) ?_
  refine lv_iadd hx hb dX14_feed_19 ?_
  refine lv_topi (fun z_2 ez_2 => ?_)
  obtain rfl : z_2 = 20 := ez_2.trans (by decide)
  refine lv_ldcw hx hb hown (hts _ kw_370) dX14_feed_20 ?_
  refine lv_icmp_le (tgt := 28) hx hb dX14_feed_23 (by decide) (fun _ => ?_) (fun c9 => absurd (by decide) c9)
  refine lv_aload_n hx hb dX14_feed_28 rfl (lv_at hl 0 rfl) ?_
  refine lv_iload_n hx hb dX14_feed_29 rfl (lv_at hl 1 rfl) ?_
  have hPc := hP.sub (ws' := [(h0, .inr (12, fy)), (ht, .inl (cB, 16000, .inl (fun _ => 0)))]) [0, 1] rfl
  have hDc := hD.sub (ws' := [(h0, .inr (12, fy)), (ht, .inl (cB, 16000, .inl (fun _ => 0)))]) [0, 1] (by decide) rfl
  have hKc := hK.sub (tys' := [(cB, .byte)]) [0] rfl
  have hFc := va_free (wc := [(h0, .inr (12, fy)), (ht, .inl (cB, 16000, .inl (fun _ => 0)))]) hD hS hA [0, 1] rfl
  refine va_callv (va_runV (As := [.int a]) (rest := []) ⟨hx, hb, hml, hown, hts⟩ (m_X14_word l dC dI s.heap.size h0 fy ht cB ((fun _ => 0)) 0 0 a L_fy g_fy_3 g_fy_4 g_fy_5 (by decide) (by decide) (by decide) (by decide)) (cwV 1 hts (gd_V kw_371 kw_372 kw_373 kw_374 kw_375) rfl rfl rfl (by decide +kernel) ⟨Nat.le_of_ble_eq_true rfl, Nat.le_of_ble_eq_true rfl⟩) ⟨st_blind, va_recv hKc hPc (ci := 12) (q0 := 0) rfl rfl, fun U hU hW9 => st_mk hU hW9 hPc hKc hDc hex⟩ rfl rfl hl.1 rfl (lv_room (Nat.le_of_ble_eq_true rfl)) dX14_feed_30 ⟨Nat.le_of_ble_eq_true rfl, Nat.le_of_ble_eq_true rfl⟩) hS (fun q _ h => hFc q h) hFc (fun  u9 t9 H1 locs ht9 hvm9 hw9 hB9 hz9 hk9 hS => ?_)
  obtain ⟨fy1_3, f1_4, L_fy1_3, g_fy1_3_3, g_fy1_3_4, g_fy1_3_5, hP1, hK1, hD1⟩ := hB9
  rw [ht9] at hP1
  have hK1 := va_K.moved hvm9.symm hK1
  obtain ⟨hP, hD⟩ := va_join (wr := []) (w1 := [(h0, .inr (12, fy1_3)), (ht, .inl (cB, 16000, .inl f1_4))]) hP hD [0, 1] [] rfl rfl (by decide) (by decide) hk9 hFc hP1 hD1
  have hK := (hK.sub (tys' := [(cB, .byte)]) [0] rfl).app hK1
  generalize H1 = H at hP hS ⊢
  have hP : va_P (dC, dI) cl0 [(h0, .inr (12, fy1_3)), (ht, .inl (cB, 16000, .inl f1_4))] H := hP
  have hD : va_D A [(h0, .inr (12, fy1_3)), (ht, .inl (cB, 16000, .inl f1_4))] := hD
  have hK : va_K (dC, dI) cl0 [(cB, .byte), (cB, .byte)] s := hK
  have hK := hK.sub (tys' := [(cB, .byte)]) [0] rfl
  refine lv_aload_n hx hb dX14_feed_33 rfl (lv_at hl 0 rfl) ?_
  refine lv_iload_n hx hb dX14_feed_34 rfl (lv_at hl 2 rfl) ?_
  have hPc := hP.sub (ws' := [(h0, .inr (12, fy1_3)), (ht, .inl (cB, 16000, .inl f1_4))]) [0, 1] rfl
  have hDc := hD.sub (ws' := [(h0, .inr (12, fy1_3)), (ht, .inl (cB, 16000, .inl f1_4))]) [0, 1] (by decide) rfl
  have hKc := hK.sub (tys' := [(cB, .byte)]) [0] rfl
  have hFc := va_free (wc := [(h0, .inr (12, fy1_3)), (ht, .inl (cB, 16000, .inl f1_4))]) hD hS hA [0, 1] rfl
  refine va_callv (va_runV (As := [.int b]) (rest := []) ⟨hx, hb, hml, hown, hts⟩ (m_X14_word l dC dI H.size h0 fy1_3 ht cB f1_4 (((((0 + 1) + 1) + 1) + 1)) 0 b L_fy1_3 g_fy1_3_3 g_fy1_3_4 g_fy1_3_5 (by decide) (by decide) (by decide) (by decide)) (cwV 1 hts (gd_V kw_371 kw_372 kw_373 kw_374 kw_375) rfl rfl rfl (by decide +kernel) ⟨Nat.le_of_ble_eq_true rfl, Nat.le_of_ble_eq_true rfl⟩) ⟨st_blind, va_recv hKc hPc (ci := 12) (q0 := 0) rfl rfl, fun U hU hW9 => st_mk hU hW9 hPc hKc hDc hex⟩ rfl rfl hl.1 rfl (lv_room (Nat.le_of_ble_eq_true rfl)) dX14_feed_35 ⟨Nat.le_of_ble_eq_true rfl, Nat.le_of_ble_eq_true rfl⟩) hS (fun q _ h => hFc q h) hFc (fun  u9 t9 H1 locs ht9 hvm9 hw9 hB9 hz9 hk9 hS => ?_)
  obtain ⟨fy1_5, f1_6, L_fy1_5, g_fy1_5_3, g_fy1_5_4, g_fy1_5_5, hP1, hK1, hD1⟩ := hB9
  rw [ht9] at hP1
  have hK1 := va_K.moved hvm9.symm hK1
  obtain ⟨hP, hD⟩ := va_join (wr := []) (w1 := [(h0, .inr (12, fy1_5)), (ht, .inl (cB, 16000, .inl f1_6))]) hP hD [0, 1] [] rfl rfl (by decide) (by decide) hk9 hFc hP1 hD1
  have hK := (hK.sub (tys' := [(cB, .byte)]) [0] rfl).app hK1
  generalize H1 = H at hP hS ⊢
  have hP : va_P (dC, dI) cl0 [(h0, .inr (12, fy1_5)), (ht, .inl (cB, 16000, .inl f1_6))] H := hP
  have hD : va_D A [(h0, .inr (12, fy1_5)), (ht, .inl (cB, 16000, .inl f1_6))] := hD
  have hK : va_K (dC, dI) cl0 [(cB, .byte), (cB, .byte)] s := hK
  have hK := hK.sub (tys' := [(cB, .byte)]) [0] rfl
  refine lv_aload_n hx hb dX14_feed_38 rfl (lv_at hl 0 rfl) ?_
  refine lv_iload_n hx hb dX14_feed_39 rfl (lv_at hl 3 rfl) ?_
  have hPc := hP.sub (ws' := [(h0, .inr (12, fy1_5)), (ht, .inl (cB, 16000, .inl f1_6))]) [0, 1] rfl
  have hDc := hD.sub (ws' := [(h0, .inr (12, fy1_5)), (ht, .inl (cB, 16000, .inl f1_6))]) [0, 1] (by decide) rfl
  have hKc := hK.sub (tys' := [(cB, .byte)]) [0] rfl
  have hFc := va_free (wc := [(h0, .inr (12, fy1_5)), (ht, .inl (cB, 16000, .inl f1_6))]) hD hS hA [0, 1] rfl
  refine va_callv (va_runV (As := [.int c0]) (rest := []) ⟨hx, hb, hml, hown, hts⟩ (m_X14_word l dC dI H.size h0 fy1_5 ht cB f1_6 (((((((((0 + 1) + 1) + 1) + 1) + 1) + 1) + 1) + 1)) 0 c0 L_fy1_5 g_fy1_5_3 g_fy1_5_4 g_fy1_5_5 (by decide) (by decide) (by decide) (by decide)) (cwV 1 hts (gd_V kw_371 kw_372 kw_373 kw_374 kw_375) rfl rfl rfl (by decide +kernel) ⟨Nat.le_of_ble_eq_true rfl, Nat.le_of_ble_eq_true rfl⟩) ⟨st_blind, va_recv hKc hPc (ci := 12) (q0 := 0) rfl rfl, fun U hU hW9 => st_mk hU hW9 hPc hKc hDc hex⟩ rfl rfl hl.1 rfl (lv_room (Nat.le_of_ble_eq_true rfl)) dX14_feed_40 ⟨Nat.le_of_ble_eq_true rfl, Nat.le_of_ble_eq_true rfl⟩) hS (fun q _ h => hFc q h) hFc (fun  u9 t9 H1 locs ht9 hvm9 hw9 hB9 hz9 hk9 hS => ?_)
  obtain ⟨fy1_7, f1_8, L_fy1_7, g_fy1_7_3, g_fy1_7_4, g_fy1_7_5, hP1, hK1, hD1⟩ := hB9
  rw [ht9] at hP1
  have hK1 := va_K.moved hvm9.symm hK1
  obtain ⟨hP, hD⟩ := va_join (wr := []) (w1 := [(h0, .inr (12, fy1_7)), (ht, .inl (cB, 16000, .inl f1_8))]) hP hD [0, 1] [] rfl rfl (by decide) (by decide) hk9 hFc hP1 hD1
  have hK := (hK.sub (tys' := [(cB, .byte)]) [0] rfl).app hK1
  generalize H1 = H at hP hS ⊢
  have hP : va_P (dC, dI) cl0 [(h0, .inr (12, fy1_7)), (ht, .inl (cB, 16000, .inl f1_8))] H := hP
  have hD : va_D A [(h0, .inr (12, fy1_7)), (ht, .inl (cB, 16000, .inl f1_8))] := hD
  have hK : va_K (dC, dI) cl0 [(cB, .byte), (cB, .byte)] s := hK
  have hK := hK.sub (tys' := [(cB, .byte)]) [0] rfl
  refine lv_aload_n hx hb dX14_feed_43 rfl (lv_at hl 0 rfl) ?_
  refine lv_iload hx hb dX14_feed_44 (lv_at hl 4 rfl) ?_
  have hPc := hP.sub (ws' := [(h0, .inr (12, fy1_7)), (ht, .inl (cB, 16000, .inl f1_8))]) [0, 1] rfl
  have hDc := hD.sub (ws' := [(h0, .inr (12, fy1_7)), (ht, .inl (cB, 16000, .inl f1_8))]) [0, 1] (by decide) rfl
  have hKc := hK.sub (tys' := [(cB, .byte)]) [0] rfl
  have hFc := va_free (wc := [(h0, .inr (12, fy1_7)), (ht, .inl (cB, 16000, .inl f1_8))]) hD hS hA [0, 1] rfl
  refine va_callv (va_runV (As := [.int d]) (rest := []) ⟨hx, hb, hml, hown, hts⟩ (m_X14_word l dC dI H.size h0 fy1_7 ht cB f1_8 (((((((((((((0 + 1) + 1) + 1) + 1) + 1) + 1) + 1) + 1) + 1) + 1) + 1) + 1)) 0 d L_fy1_7 g_fy1_7_3 g_fy1_7_4 g_fy1_7_5 (by decide) (by decide) (by decide) (by decide)) (cwV 1 hts (gd_V kw_371 kw_372 kw_373 kw_374 kw_375) rfl rfl rfl (by decide +kernel) ⟨Nat.le_of_ble_eq_true rfl, Nat.le_of_ble_eq_true rfl⟩) ⟨st_blind, va_recv hKc hPc (ci := 12) (q0 := 0) rfl rfl, fun U hU hW9 => st_mk hU hW9 hPc hKc hDc hex⟩ rfl rfl hl.1 rfl (lv_room (Nat.le_of_ble_eq_true rfl)) dX14_feed_46 ⟨Nat.le_of_ble_eq_true rfl, Nat.le_of_ble_eq_true rfl⟩) hS (fun q _ h => hFc q h) hFc (fun  u9 t9 H1 locs ht9 hvm9 hw9 hB9 hz9 hk9 hS => ?_)
  obtain ⟨fy1_9, f1_10, L_fy1_9, g_fy1_9_3, g_fy1_9_4, g_fy1_9_5, hP1, hK1, hD1⟩ := hB9
  rw [ht9] at hP1
  have hK1 := va_K.moved hvm9.symm hK1
  obtain ⟨hP, hD⟩ := va_join (wr := []) (w1 := [(h0, .inr (12, fy1_9)), (ht, .inl (cB, 16000, .inl f1_10))]) hP hD [0, 1] [] rfl rfl (by decide) (by decide) hk9 hFc hP1 hD1
  have hK := (hK.sub (tys' := [(cB, .byte)]) [0] rfl).app hK1
  generalize H1 = H at hP hS ⊢
  have hP : va_P (dC, dI) cl0 [(h0, .inr (12, fy1_9)), (ht, .inl (cB, 16000, .inl f1_10))] H := hP
  have hD : va_D A [(h0, .inr (12, fy1_9)), (ht, .inl (cB, 16000, .inl f1_10))] := hD
  have hK : va_K (dC, dI) cl0 [(cB, .byte), (cB, .byte)] s := hK
  have hK := hK.sub (tys' := [(cB, .byte)]) [0] rfl
  refine lv_aload_n hx hb dX14_feed_49 rfl (lv_at hl 0 rfl) ?_
  refine lv_iload hx hb dX14_feed_50 (lv_at hl 5 rfl) ?_
  have hPc := hP.sub (ws' := [(h0, .inr (12, fy1_9)), (ht, .inl (cB, 16000, .inl f1_10))]) [0, 1] rfl
  have hDc := hD.sub (ws' := [(h0, .inr (12, fy1_9)), (ht, .inl (cB, 16000, .inl f1_10))]) [0, 1] (by decide) rfl
  have hKc := hK.sub (tys' := [(cB, .byte)]) [0] rfl
  have hFc := va_free (wc := [(h0, .inr (12, fy1_9)), (ht, .inl (cB, 16000, .inl f1_10))]) hD hS hA [0, 1] rfl
  refine va_callv (va_runV (As := [.int e0]) (rest := []) ⟨hx, hb, hml, hown, hts⟩ (m_X14_word l dC dI H.size h0 fy1_9 ht cB f1_10 (((((((((((((((((0 + 1) + 1) + 1) + 1) + 1) + 1) + 1) + 1) + 1) + 1) + 1) + 1) + 1) + 1) + 1) + 1)) 0 e0 L_fy1_9 g_fy1_9_3 g_fy1_9_4 g_fy1_9_5 (by decide) (by decide) (by decide) (by decide)) (cwV 1 hts (gd_V kw_371 kw_372 kw_373 kw_374 kw_375) rfl rfl rfl (by decide +kernel) ⟨Nat.le_of_ble_eq_true rfl, Nat.le_of_ble_eq_true rfl⟩) ⟨st_blind, va_recv hKc hPc (ci := 12) (q0 := 0) rfl rfl, fun U hU hW9 => st_mk hU hW9 hPc hKc hDc hex⟩ rfl rfl hl.1 rfl (lv_room (Nat.le_of_ble_eq_true rfl)) dX14_feed_52 ⟨Nat.le_of_ble_eq_true rfl, Nat.le_of_ble_eq_true rfl⟩) hS (fun q _ h => hFc q h) hFc (fun  u9 t9 H1 locs ht9 hvm9 hw9 hB9 hz9 hk9 hS => ?_)
  obtain ⟨fy1_11, f1_12, L_fy1_11, g_fy1_11_3, g_fy1_11_4, g_fy1_11_5, hP1, hK1, hD1⟩ := hB9
  rw [ht9] at hP1
  have hK1 := va_K.moved hvm9.symm hK1
  obtain ⟨hP, hD⟩ := va_join (wr := []) (w1 := [(h0, .inr (12, fy1_11)), (ht, .inl (cB, 16000, .inl f1_12))]) hP hD [0, 1] [] rfl rfl (by decide) (by decide) hk9 hFc hP1 hD1
  have hK := (hK.sub (tys' := [(cB, .byte)]) [0] rfl).app hK1
  generalize H1 = H at hP hS ⊢
  have hP : va_P (dC, dI) cl0 [(h0, .inr (12, fy1_11)), (ht, .inl (cB, 16000, .inl f1_12))] H := hP
  have hD : va_D A [(h0, .inr (12, fy1_11)), (ht, .inl (cB, 16000, .inl f1_12))] := hD
  have hK : va_K (dC, dI) cl0 [(cB, .byte), (cB, .byte)] s := hK
  have hK := hK.sub (tys' := [(cB, .byte)]) [0] rfl
  refine lv_aload_n hx hb dX14_feed_55 rfl (lv_at hl 0 rfl) ?_
  refine lv_dup hx hb dX14_feed_56 rfl ?_
  refine va_get (D := (dC, dI)) (ci := 12) (v := .int 0) (C := RX14) (T := TX14) (N := 143) hx hb hts inX14 hown hK hP 0 rfl rfl 5 (by decide) (hts _ kw_369) (fun _ h9 => h9) g_fy1_11_5 dX14_feed_57 ?_
  refine lv_bipush (v := 20) hx hb dX14_feed_60 (by decide) ?_
  refine lv_iadd hx hb dX14_feed_62 ?_
  refine lv_topi (fun z_13 ez_13 => ?_)
  obtain rfl : z_13 = 20 := ez_13.trans (by decide)
  refine va_put (D := (dC, dI)) (ci := 12) (v := .int 20) (ty := .int) (C := RX14) (T := TX14) (N := 143) hx hb hts inX14 tyX14 tyX14_ok nmX14 hown hK hP hD hS 0 rfl rfl 5 (by decide) (hts _ kw_369) (fun _ h9 => h9) rfl (by decide +kernel) rfl rfl (by rw [L_fy1_11]; decide) dX14_feed_63 (fun H locs hP hD hS => ?_)
  obtain ⟨fy1_14, e_fy1_14⟩ : ∃ z, z = fy1_11.set 5 (.int 20) := ⟨_, rfl⟩
  have hP : va_P (dC, dI) cl0 [(h0, .inr (12, fy1_14)), (ht, .inl (cB, 16000, .inl f1_12))] H := by rw [e_fy1_14]; exact hP
  have hD : va_D A [(h0, .inr (12, fy1_14)), (ht, .inl (cB, 16000, .inl f1_12))] := by rw [e_fy1_14]; exact hD
  have L_fy1_14 : fy1_14.length = 143 := fx_len e_fy1_14 L_fy1_11
  have g_fy1_14_3 := fx_ne (j := 3) e_fy1_14 g_fy1_11_3 (by decide)
  have g_fy1_14_4 := fx_ne (j := 4) e_fy1_14 g_fy1_11_4 (by decide)
  have g_fy1_14_5 := fx_self e_fy1_14 (by rw [L_fy1_11]; decide)
  refine lv_aload_n hx hb dX14_feed_66 rfl (lv_at hl 0 rfl) ?_
  refine va_get (D := (dC, dI)) (ci := 12) (v := .int ((((((((((((((((((((0 + 1) + 1) + 1) + 1) + 1) + 1) + 1) + 1) + 1) + 1) + 1) + 1) + 1) + 1) + 1) + 1) + 1) + 1) + 1) + 1)) (C := RX14) (T := TX14) (N := 143) hx hb hts inX14 hown hK hP 0 rfl rfl 4 (by decide) (hts _ kw_368) (fun _ h9 => h9) g_fy1_14_4 dX14_feed_67 ?_
  refine W.widen (k := 0) (n := 0) (Nat.le_of_ble_eq_true rfl) (Nat.le_of_ble_eq_true rfl) ?_
  exact W.iret (v := ((((((((((((((((((((0 + 1) + 1) + 1) + 1) + 1) + 1) + 1) + 1) + 1) + 1) + 1) + 1) + 1) + 1) + 1) + 1) + 1) + 1) + 1) + 1)) hx hb hr (fun t9 ht9 hW9 => ⟨⟨_, (), rfl, (by decide), trivial⟩, hS.F ht9⟩) hS.2.2 dX14_feed_70
set_option maxHeartbeats 4000000 in
set_option maxRecDepth 100000 in
theorem m_X14_end (l : Launch) (dC : Nat → ClassId) (dI : Nat → Nat → Nat) (sz : Nat) (h0 : Nat) (fy : List Value) (n : Int32) (L_fy : fy.length = 143) (g_fy_4 : fy[4]? = some (.int 0)) : Met l yX14_end (wt yX14_end cX14_end 2 (some .boolean)) ({ frames := 0, cells := 0, slots := 0, locals := 0 }) (va_Pc [.ref h0, .int n] (st_U dC dI sz [(h0, .inr (12, fy))] [])) (va_Qi (fun (r : Int32) (_ : Unit) => r = (if n < 0 then (0 : Int32) else if n ≤ 0 then 1 else 0)) (fun (_ : Unit) (_ : State) => True) (va_A [(h0, .inr (12, fy))] sz)) 0 0 (va_A [(h0, .inr (12, fy))] sz) := by
  refine Met.ofW (cc := cX14_end) (maxL := 2) (ret := (some .boolean)) (by decide) rfl ?_
  intro p e s m args below meth c s₁ B hml hv
  obtain ⟨rfl, hsz, hP, hK, hD0, hex⟩ := hv
  have hx := B.exec
  have hb := B.bytes
  have hr := B.returns
  have hts0 := atoms_spec (ws := wt yX14_end cX14_end 2 (some .boolean)) B.pre
  have hts : ∀ w ∈ tb, w.before _ s = true := fun w h => hts0 w (List.mem_cons_of_mem _ h)
  have hown : s.vm.findClass RX14 = some m.cls := findClass_of_methodNamed B.named
  have hlocks := B.notSynchronized
  subst hsz
  have hD := hD0.self (sz := s.heap.size)
  generalize hAe : va_A [(h0, .inr (12, fy))] s.heap.size = A at hD ⊢
  have hA : ∀ q : Nat, s.heap.size ≤ q → A q := fun q h => by rw [← hAe]; exact Or.inr h
  have hS : va_S A s.heap s.heap [] := va_S.rf
  have hl := lv_entry ([.ref h0, .int n]) (n := 2) (Nat.le_of_ble_eq_true rfl)
  rw [lg_entry_eq]
  generalize (lg_sl ([.ref h0, .int n]) ++ List.replicate (2 - (lg_sl ([.ref h0, .int n])).length) Slot.unset).toArray = ls at hl ⊢
  have hl : lv_has ls 2 [(0, .ref h0), (1, .int n)] := hl
  refine lv_iload_n hx hb dX14_end_0 rfl (lv_at hl 1 rfl) ?_
  refine lv_if_lt (tgt := 12) hx hb dX14_end_1 (by decide) (fun c_1 => ?_) (fun c_1 => ?_)
  · refine lv_iconst (v := 0) hx hb dX14_end_12 (by decide) ?_
    refine W.widen (k := 0) (n := 0) (Nat.le_of_ble_eq_true rfl) (Nat.le_of_ble_eq_true rfl) ?_
    exact W.zret (v := 0) hx hb hr rfl (fun t9 ht9 hW9 => ⟨⟨_, (), rfl, (by rw [if_pos c_1]), trivial⟩, hS.F ht9⟩) hS.2.2 dX14_end_13
  · refine lv_iload_n hx hb dX14_end_4 rfl (lv_at hl 1 rfl) ?_
    refine lv_aload_n hx hb dX14_end_5 rfl (lv_at hl 0 rfl) ?_
    refine va_get (D := (dC, dI)) (ci := 12) (v := .int 0) (C := RX14) (T := TX14) (N := 143) hx hb hts inX14 hown hK hP 0 rfl rfl 4 (by decide) (hts _ kw_368) (fun _ h9 => h9) g_fy_4 dX14_end_6 ?_
    refine lv_icmp_le (tgt := 14) hx hb dX14_end_9 (by decide) (fun c_9 => ?_) (fun c_9 => ?_)
    · refine lv_aload_n hx hb dX14_end_14 rfl (lv_at hl 0 rfl) ?_
      refine lv_iload_n hx hb dX14_end_15 rfl (lv_at hl 1 rfl) ?_
      refine va_put (D := (dC, dI)) (ci := 12) (v := .int n) (ty := .int) (C := RX14) (T := TX14) (N := 143) hx hb hts inX14 tyX14 tyX14_ok nmX14 hown hK hP hD hS 0 rfl rfl 4 (by decide) (hts _ kw_368) (fun _ h9 => h9) rfl (by decide +kernel) rfl rfl (by rw [L_fy]; decide) dX14_end_16 (fun H locs hP hD hS => ?_)
      obtain ⟨fy_1, e_fy_1⟩ : ∃ z, z = fy.set 4 (.int n) := ⟨_, rfl⟩
      have hP : va_P (dC, dI) cl0 [(h0, .inr (12, fy_1))] H := by rw [e_fy_1]; exact hP
      have hD : va_D A [(h0, .inr (12, fy_1))] := by rw [e_fy_1]; exact hD
      have L_fy_1 : fy_1.length = 143 := fx_len e_fy_1 L_fy
      have g_fy_1_4 := fx_self e_fy_1 (by rw [L_fy]; decide)
      refine lv_iconst (v := 1) hx hb dX14_end_19 (by decide) ?_
      refine W.widen (k := 0) (n := 0) (Nat.le_of_ble_eq_true rfl) (Nat.le_of_ble_eq_true rfl) ?_
      exact W.zret (v := 1) hx hb hr rfl (fun t9 ht9 hW9 => ⟨⟨_, (), rfl, (by rw [if_neg c_1, if_pos c_9]), trivial⟩, hS.F ht9⟩) hS.2.2 dX14_end_20
    · refine lv_iconst (v := 0) hx hb dX14_end_12 (by decide) ?_
      refine W.widen (k := 0) (n := 0) (Nat.le_of_ble_eq_true rfl) (Nat.le_of_ble_eq_true rfl) ?_
      exact W.zret (v := 0) hx hb hr rfl (fun t9 ht9 hW9 => ⟨⟨_, (), rfl, (by rw [if_neg c_1, if_neg c_9]), trivial⟩, hS.F ht9⟩) hS.2.2 dX14_end_13
set_option maxHeartbeats 4000000 in
set_option maxRecDepth 100000 in
theorem m_X14_rule (l : Launch) (dC : Nat → ClassId) (dI : Nat → Nat → Nat) (sz : Nat) (h0 : Nat) (fy : List Value) (L_fy : fy.length = 143) (g_fy_9 : fy[9]? = some (.int 0)) : Met l yX14_rule (wt yX14_rule cX14_rule 1 (some .int)) ({ frames := 0, cells := 0, slots := 0, locals := 0 }) (va_Pc [.ref h0] (st_U dC dI sz [(h0, .inr (12, fy))] [])) (va_Qi (fun (r : Int32) (_ : Unit) => r = 0) (fun (_ : Unit) (_ : State) => True) (va_A [(h0, .inr (12, fy))] sz)) 0 0 (va_A [(h0, .inr (12, fy))] sz) := by
  refine Met.ofW (cc := cX14_rule) (maxL := 1) (ret := (some .int)) (by decide) rfl ?_
  intro p e s m args below meth c s₁ B hml hv
  obtain ⟨rfl, hsz, hP, hK, hD0, hex⟩ := hv
  have hx := B.exec
  have hb := B.bytes
  have hr := B.returns
  have hts0 := atoms_spec (ws := wt yX14_rule cX14_rule 1 (some .int)) B.pre
  have hts : ∀ w ∈ tb, w.before _ s = true := fun w h => hts0 w (List.mem_cons_of_mem _ h)
  have hown : s.vm.findClass RX14 = some m.cls := findClass_of_methodNamed B.named
  have hlocks := B.notSynchronized
  subst hsz
  have hD := hD0.self (sz := s.heap.size)
  generalize hAe : va_A [(h0, .inr (12, fy))] s.heap.size = A at hD ⊢
  have hA : ∀ q : Nat, s.heap.size ≤ q → A q := fun q h => by rw [← hAe]; exact Or.inr h
  have hS : va_S A s.heap s.heap [] := va_S.rf
  have hl := lv_entry ([.ref h0]) (n := 1) (Nat.le_of_ble_eq_true rfl)
  rw [lg_entry_eq]
  generalize (lg_sl ([.ref h0]) ++ List.replicate (1 - (lg_sl ([.ref h0])).length) Slot.unset).toArray = ls at hl ⊢
  have hl : lv_has ls 1 [(0, .ref h0)] := hl
  refine lv_aload_n hx hb dX14_rule_0 rfl (lv_at hl 0 rfl) ?_
  refine va_get (D := (dC, dI)) (ci := 12) (v := .int 0) (C := RX14) (T := TX14) (N := 143) hx hb hts inX14 hown hK hP 0 rfl rfl 9 (by decide) (hts _ kw_376) (fun _ h9 => h9) g_fy_9 dX14_rule_1 ?_
  refine W.widen (k := 0) (n := 0) (Nat.le_of_ble_eq_true rfl) (Nat.le_of_ble_eq_true rfl) ?_
  exact W.iret (v := 0) hx hb hr (fun t9 ht9 hW9 => ⟨⟨_, (), rfl, rfl, trivial⟩, hS.F ht9⟩) hS.2.2 dX14_rule_4
set_option maxHeartbeats 4000000 in
set_option maxRecDepth 100000 in
theorem m_X14_place (l : Launch) (dC : Nat → ClassId) (dI : Nat → Nat → Nat) (sz : Nat) (h0 : Nat) (fy : List Value) (L_fy : fy.length = 143) (g_fy_10 : fy[10]? = some (.int (-1))) : Met l yX14_place (wt yX14_place cX14_place 1 (some .int)) ({ frames := 0, cells := 0, slots := 0, locals := 0 }) (va_Pc [.ref h0] (st_U dC dI sz [(h0, .inr (12, fy))] [])) (va_Qi (fun (r : Int32) (_ : Unit) => r = (-1)) (fun (_ : Unit) (_ : State) => True) (va_A [(h0, .inr (12, fy))] sz)) 0 0 (va_A [(h0, .inr (12, fy))] sz) := by
  refine Met.ofW (cc := cX14_place) (maxL := 1) (ret := (some .int)) (by decide) rfl ?_
  intro p e s m args below meth c s₁ B hml hv
  obtain ⟨rfl, hsz, hP, hK, hD0, hex⟩ := hv
  have hx := B.exec
  have hb := B.bytes
  have hr := B.returns
  have hts0 := atoms_spec (ws := wt yX14_place cX14_place 1 (some .int)) B.pre
  have hts : ∀ w ∈ tb, w.before _ s = true := fun w h => hts0 w (List.mem_cons_of_mem _ h)
  have hown : s.vm.findClass RX14 = some m.cls := findClass_of_methodNamed B.named
  have hlocks := B.notSynchronized
  subst hsz
  have hD := hD0.self (sz := s.heap.size)
  generalize hAe : va_A [(h0, .inr (12, fy))] s.heap.size = A at hD ⊢
  have hA : ∀ q : Nat, s.heap.size ≤ q → A q := fun q h => by rw [← hAe]; exact Or.inr h
  have hS : va_S A s.heap s.heap [] := va_S.rf
  have hl := lv_entry ([.ref h0]) (n := 1) (Nat.le_of_ble_eq_true rfl)
  rw [lg_entry_eq]
  generalize (lg_sl ([.ref h0]) ++ List.replicate (1 - (lg_sl ([.ref h0])).length) Slot.unset).toArray = ls at hl ⊢
  have hl : lv_has ls 1 [(0, .ref h0)] := hl
  refine lv_aload_n hx hb dX14_place_0 rfl (lv_at hl 0 rfl) ?_
  refine va_get (D := (dC, dI)) (ci := 12) (v := .int (-1)) (C := RX14) (T := TX14) (N := 143) hx hb hts inX14 hown hK hP 0 rfl rfl 10 (by decide) (hts _ kw_274) (fun _ h9 => h9) g_fy_10 dX14_place_1 ?_
  refine W.widen (k := 0) (n := 0) (Nat.le_of_ble_eq_true rfl) (Nat.le_of_ble_eq_true rfl) ?_
  exact W.iret (v := (-1)) hx hb hr (fun t9 ht9 hW9 => ⟨⟨_, (), rfl, rfl, trivial⟩, hS.F ht9⟩) hS.2.2 dX14_place_4
set_option maxHeartbeats 4000000 in
set_option maxRecDepth 100000 in
theorem m_X14_method (l : Launch) (dC : Nat → ClassId) (dI : Nat → Nat → Nat) (sz : Nat) (h0 : Nat) (fy : List Value) (L_fy : fy.length = 143) (g_fy_64 : fy[64]? = some (.int (-1))) : Met l yX14_method (wt yX14_method cX14_method 1 (some .int)) ({ frames := 0, cells := 0, slots := 0, locals := 0 }) (va_Pc [.ref h0] (st_U dC dI sz [(h0, .inr (12, fy))] [])) (va_Qi (fun (r : Int32) (_ : Unit) => r = (-1)) (fun (_ : Unit) (_ : State) => True) (va_A [(h0, .inr (12, fy))] sz)) 0 0 (va_A [(h0, .inr (12, fy))] sz) := by
  refine Met.ofW (cc := cX14_method) (maxL := 1) (ret := (some .int)) (by decide) rfl ?_
  intro p e s m args below meth c s₁ B hml hv
  obtain ⟨rfl, hsz, hP, hK, hD0, hex⟩ := hv
  have hx := B.exec
  have hb := B.bytes
  have hr := B.returns
  have hts0 := atoms_spec (ws := wt yX14_method cX14_method 1 (some .int)) B.pre
  have hts : ∀ w ∈ tb, w.before _ s = true := fun w h => hts0 w (List.mem_cons_of_mem _ h)
  have hown : s.vm.findClass RX14 = some m.cls := findClass_of_methodNamed B.named
  have hlocks := B.notSynchronized
  subst hsz
  have hD := hD0.self (sz := s.heap.size)
  generalize hAe : va_A [(h0, .inr (12, fy))] s.heap.size = A at hD ⊢
  have hA : ∀ q : Nat, s.heap.size ≤ q → A q := fun q h => by rw [← hAe]; exact Or.inr h
  have hS : va_S A s.heap s.heap [] := va_S.rf
  have hl := lv_entry ([.ref h0]) (n := 1) (Nat.le_of_ble_eq_true rfl)
  rw [lg_entry_eq]
  generalize (lg_sl ([.ref h0]) ++ List.replicate (1 - (lg_sl ([.ref h0])).length) Slot.unset).toArray = ls at hl ⊢
  have hl : lv_has ls 1 [(0, .ref h0)] := hl
  refine lv_aload_n hx hb dX14_method_0 rfl (lv_at hl 0 rfl) ?_
  refine va_get (D := (dC, dI)) (ci := 12) (v := .int (-1)) (C := RX14) (T := TX14) (N := 143) hx hb hts inX14 hown hK hP 0 rfl rfl 64 (by decide) (hts _ kw_301) (fun _ h9 => h9) g_fy_64 dX14_method_1 ?_
  refine W.widen (k := 0) (n := 0) (Nat.le_of_ble_eq_true rfl) (Nat.le_of_ble_eq_true rfl) ?_
  exact W.iret (v := (-1)) hx hb hr (fun t9 ht9 hW9 => ⟨⟨_, (), rfl, rfl, trivial⟩, hS.F ht9⟩) hS.2.2 dX14_method_4
set_option maxHeartbeats 4000000 in
set_option maxRecDepth 100000 in
theorem m_X14_at (l : Launch) (dC : Nat → ClassId) (dI : Nat → Nat → Nat) (sz : Nat) (h0 : Nat) (fy : List Value) (L_fy : fy.length = 143) (g_fy_65 : fy[65]? = some (.int (-1))) : Met l yX14_at (wt yX14_at cX14_at 1 (some .int)) ({ frames := 0, cells := 0, slots := 0, locals := 0 }) (va_Pc [.ref h0] (st_U dC dI sz [(h0, .inr (12, fy))] [])) (va_Qi (fun (r : Int32) (_ : Unit) => r = (-1)) (fun (_ : Unit) (_ : State) => True) (va_A [(h0, .inr (12, fy))] sz)) 0 0 (va_A [(h0, .inr (12, fy))] sz) := by
  refine Met.ofW (cc := cX14_at) (maxL := 1) (ret := (some .int)) (by decide) rfl ?_
  intro p e s m args below meth c s₁ B hml hv
  obtain ⟨rfl, hsz, hP, hK, hD0, hex⟩ := hv
  have hx := B.exec
  have hb := B.bytes
  have hr := B.returns
  have hts0 := atoms_spec (ws := wt yX14_at cX14_at 1 (some .int)) B.pre
  have hts : ∀ w ∈ tb, w.before _ s = true := fun w h => hts0 w (List.mem_cons_of_mem _ h)
  have hown : s.vm.findClass RX14 = some m.cls := findClass_of_methodNamed B.named
  have hlocks := B.notSynchronized
  subst hsz
  have hD := hD0.self (sz := s.heap.size)
  generalize hAe : va_A [(h0, .inr (12, fy))] s.heap.size = A at hD ⊢
  have hA : ∀ q : Nat, s.heap.size ≤ q → A q := fun q h => by rw [← hAe]; exact Or.inr h
  have hS : va_S A s.heap s.heap [] := va_S.rf
  have hl := lv_entry ([.ref h0]) (n := 1) (Nat.le_of_ble_eq_true rfl)
  rw [lg_entry_eq]
  generalize (lg_sl ([.ref h0]) ++ List.replicate (1 - (lg_sl ([.ref h0])).length) Slot.unset).toArray = ls at hl ⊢
  have hl : lv_has ls 1 [(0, .ref h0)] := hl
  refine lv_aload_n hx hb dX14_at_0 rfl (lv_at hl 0 rfl) ?_
  refine va_get (D := (dC, dI)) (ci := 12) (v := .int (-1)) (C := RX14) (T := TX14) (N := 143) hx hb hts inX14 hown hK hP 0 rfl rfl 65 (by decide) (hts _ kw_302) (fun _ h9 => h9) g_fy_65 dX14_at_1 ?_
  refine W.widen (k := 0) (n := 0) (Nat.le_of_ble_eq_true rfl) (Nat.le_of_ble_eq_true rfl) ?_
  exact W.iret (v := (-1)) hx hb hr (fun t9 ht9 hW9 => ⟨⟨_, (), rfl, rfl, trivial⟩, hS.F ht9⟩) hS.2.2 dX14_at_4
set_option maxHeartbeats 4000000 in
set_option maxRecDepth 100000 in
theorem m_X14_error (l : Launch) (dC : Nat → ClassId) (dI : Nat → Nat → Nat) (sz : Nat) (h0 : Nat) (fy : List Value) (L_fy : fy.length = 143) (g_fy_102 : fy[102]? = some (.int (-1))) : Met l yX14_error (wt yX14_error cX14_error 1 (some .int)) ({ frames := 0, cells := 0, slots := 0, locals := 0 }) (va_Pc [.ref h0] (st_U dC dI sz [(h0, .inr (12, fy))] [])) (va_Qi (fun (r : Int32) (_ : Unit) => r = (-1)) (fun (_ : Unit) (_ : State) => True) (va_A [(h0, .inr (12, fy))] sz)) 0 0 (va_A [(h0, .inr (12, fy))] sz) := by
  refine Met.ofW (cc := cX14_error) (maxL := 1) (ret := (some .int)) (by decide) rfl ?_
  intro p e s m args below meth c s₁ B hml hv
  obtain ⟨rfl, hsz, hP, hK, hD0, hex⟩ := hv
  have hx := B.exec
  have hb := B.bytes
  have hr := B.returns
  have hts0 := atoms_spec (ws := wt yX14_error cX14_error 1 (some .int)) B.pre
  have hts : ∀ w ∈ tb, w.before _ s = true := fun w h => hts0 w (List.mem_cons_of_mem _ h)
  have hown : s.vm.findClass RX14 = some m.cls := findClass_of_methodNamed B.named
  have hlocks := B.notSynchronized
  subst hsz
  have hD := hD0.self (sz := s.heap.size)
  generalize hAe : va_A [(h0, .inr (12, fy))] s.heap.size = A at hD ⊢
  have hA : ∀ q : Nat, s.heap.size ≤ q → A q := fun q h => by rw [← hAe]; exact Or.inr h
  have hS : va_S A s.heap s.heap [] := va_S.rf
  have hl := lv_entry ([.ref h0]) (n := 1) (Nat.le_of_ble_eq_true rfl)
  rw [lg_entry_eq]
  generalize (lg_sl ([.ref h0]) ++ List.replicate (1 - (lg_sl ([.ref h0])).length) Slot.unset).toArray = ls at hl ⊢
  have hl : lv_has ls 1 [(0, .ref h0)] := hl
  refine lv_aload_n hx hb dX14_error_0 rfl (lv_at hl 0 rfl) ?_
  refine va_get (D := (dC, dI)) (ci := 12) (v := .int (-1)) (C := RX14) (T := TX14) (N := 143) hx hb hts inX14 hown hK hP 0 rfl rfl 102 (by decide) (hts _ kw_328) (fun _ h9 => h9) g_fy_102 dX14_error_1 ?_
  refine W.widen (k := 0) (n := 0) (Nat.le_of_ble_eq_true rfl) (Nat.le_of_ble_eq_true rfl) ?_
  exact W.iret (v := (-1)) hx hb hr (fun t9 ht9 hW9 => ⟨⟨_, (), rfl, rfl, trivial⟩, hS.F ht9⟩) hS.2.2 dX14_error_4
set_option maxHeartbeats 4000000 in
set_option maxRecDepth 100000 in
theorem m_X14_steps (l : Launch) (dC : Nat → ClassId) (dI : Nat → Nat → Nat) (sz : Nat) (h0 : Nat) (fy : List Value) (L_fy : fy.length = 143) (g_fy_100 : fy[100]? = some (.int 0)) : Met l yX14_steps (wt yX14_steps cX14_steps 1 (some .int)) ({ frames := 0, cells := 0, slots := 0, locals := 0 }) (va_Pc [.ref h0] (st_U dC dI sz [(h0, .inr (12, fy))] [])) (va_Qi (fun (r : Int32) (_ : Unit) => r = 0) (fun (_ : Unit) (_ : State) => True) (va_A [(h0, .inr (12, fy))] sz)) 0 0 (va_A [(h0, .inr (12, fy))] sz) := by
  refine Met.ofW (cc := cX14_steps) (maxL := 1) (ret := (some .int)) (by decide) rfl ?_
  intro p e s m args below meth c s₁ B hml hv
  obtain ⟨rfl, hsz, hP, hK, hD0, hex⟩ := hv
  have hx := B.exec
  have hb := B.bytes
  have hr := B.returns
  have hts0 := atoms_spec (ws := wt yX14_steps cX14_steps 1 (some .int)) B.pre
  have hts : ∀ w ∈ tb, w.before _ s = true := fun w h => hts0 w (List.mem_cons_of_mem _ h)
  have hown : s.vm.findClass RX14 = some m.cls := findClass_of_methodNamed B.named
  have hlocks := B.notSynchronized
  subst hsz
  have hD := hD0.self (sz := s.heap.size)
  generalize hAe : va_A [(h0, .inr (12, fy))] s.heap.size = A at hD ⊢
  have hA : ∀ q : Nat, s.heap.size ≤ q → A q := fun q h => by rw [← hAe]; exact Or.inr h
  have hS : va_S A s.heap s.heap [] := va_S.rf
  have hl := lv_entry ([.ref h0]) (n := 1) (Nat.le_of_ble_eq_true rfl)
  rw [lg_entry_eq]
  generalize (lg_sl ([.ref h0]) ++ List.replicate (1 - (lg_sl ([.ref h0])).length) Slot.unset).toArray = ls at hl ⊢
  have hl : lv_has ls 1 [(0, .ref h0)] := hl
  refine lv_aload_n hx hb dX14_steps_0 rfl (lv_at hl 0 rfl) ?_
  refine va_get (D := (dC, dI)) (ci := 12) (v := .int 0) (C := RX14) (T := TX14) (N := 143) hx hb hts inX14 hown hK hP 0 rfl rfl 100 (by decide) (hts _ kw_377) (fun _ h9 => h9) g_fy_100 dX14_steps_1 ?_
  refine W.widen (k := 0) (n := 0) (Nat.le_of_ble_eq_true rfl) (Nat.le_of_ble_eq_true rfl) ?_
  exact W.iret (v := 0) hx hb hr (fun t9 ht9 hW9 => ⟨⟨_, (), rfl, rfl, trivial⟩, hS.F ht9⟩) hS.2.2 dX14_steps_4
set_option maxHeartbeats 4000000 in
set_option maxRecDepth 100000 in
theorem m_X14_strays (l : Launch) (dC : Nat → ClassId) (dI : Nat → Nat → Nat) (sz : Nat) (h0 : Nat) (fy : List Value) (L_fy : fy.length = 143) (g_fy_96 : fy[96]? = some (.int 0)) : Met l yX14_strays (wt yX14_strays cX14_strays 1 (some .int)) ({ frames := 0, cells := 0, slots := 0, locals := 0 }) (va_Pc [.ref h0] (st_U dC dI sz [(h0, .inr (12, fy))] [])) (va_Qi (fun (r : Int32) (_ : Unit) => r = 0) (fun (_ : Unit) (_ : State) => True) (va_A [(h0, .inr (12, fy))] sz)) 0 0 (va_A [(h0, .inr (12, fy))] sz) := by
  refine Met.ofW (cc := cX14_strays) (maxL := 1) (ret := (some .int)) (by decide) rfl ?_
  intro p e s m args below meth c s₁ B hml hv
  obtain ⟨rfl, hsz, hP, hK, hD0, hex⟩ := hv
  have hx := B.exec
  have hb := B.bytes
  have hr := B.returns
  have hts0 := atoms_spec (ws := wt yX14_strays cX14_strays 1 (some .int)) B.pre
  have hts : ∀ w ∈ tb, w.before _ s = true := fun w h => hts0 w (List.mem_cons_of_mem _ h)
  have hown : s.vm.findClass RX14 = some m.cls := findClass_of_methodNamed B.named
  have hlocks := B.notSynchronized
  subst hsz
  have hD := hD0.self (sz := s.heap.size)
  generalize hAe : va_A [(h0, .inr (12, fy))] s.heap.size = A at hD ⊢
  have hA : ∀ q : Nat, s.heap.size ≤ q → A q := fun q h => by rw [← hAe]; exact Or.inr h
  have hS : va_S A s.heap s.heap [] := va_S.rf
  have hl := lv_entry ([.ref h0]) (n := 1) (Nat.le_of_ble_eq_true rfl)
  rw [lg_entry_eq]
  generalize (lg_sl ([.ref h0]) ++ List.replicate (1 - (lg_sl ([.ref h0])).length) Slot.unset).toArray = ls at hl ⊢
  have hl : lv_has ls 1 [(0, .ref h0)] := hl
  refine lv_aload_n hx hb dX14_strays_0 rfl (lv_at hl 0 rfl) ?_
  refine va_get (D := (dC, dI)) (ci := 12) (v := .int 0) (C := RX14) (T := TX14) (N := 143) hx hb hts inX14 hown hK hP 0 rfl rfl 96 (by decide) (hts _ kw_378) (fun _ h9 => h9) g_fy_96 dX14_strays_1 ?_
  refine W.widen (k := 0) (n := 0) (Nat.le_of_ble_eq_true rfl) (Nat.le_of_ble_eq_true rfl) ?_
  exact W.iret (v := 0) hx hb hr (fun t9 ht9 hW9 => ⟨⟨_, (), rfl, rfl, trivial⟩, hS.F ht9⟩) hS.2.2 dX14_strays_4
set_option maxHeartbeats 4000000 in
set_option maxRecDepth 100000 in
theorem m_X14_result (l : Launch) (dC : Nat → ClassId) (dI : Nat → Nat → Nat) (sz : Nat) (h0 : Nat) (fy : List Value) (L_fy : fy.length = 143) (g_fy_101 : fy[101]? = some (.long 0)) : Met l yX14_result (wt yX14_result cX14_result 1 (some .long)) ({ frames := 0, cells := 0, slots := 0, locals := 0 }) (va_Pc [.ref h0] (st_U dC dI sz [(h0, .inr (12, fy))] [])) (va_Ql (fun (r : Int64) (_ : Unit) => r = 0) (fun (_ : Unit) (_ : State) => True) (va_A [(h0, .inr (12, fy))] sz)) 0 0 (va_A [(h0, .inr (12, fy))] sz) := by
  refine Met.ofW (cc := cX14_result) (maxL := 1) (ret := (some .long)) (by decide) rfl ?_
  intro p e s m args below meth c s₁ B hml hv
  obtain ⟨rfl, hsz, hP, hK, hD0, hex⟩ := hv
  have hx := B.exec
  have hb := B.bytes
  have hr := B.returns
  have hts0 := atoms_spec (ws := wt yX14_result cX14_result 1 (some .long)) B.pre
  have hts : ∀ w ∈ tb, w.before _ s = true := fun w h => hts0 w (List.mem_cons_of_mem _ h)
  have hown : s.vm.findClass RX14 = some m.cls := findClass_of_methodNamed B.named
  have hlocks := B.notSynchronized
  subst hsz
  have hD := hD0.self (sz := s.heap.size)
  generalize hAe : va_A [(h0, .inr (12, fy))] s.heap.size = A at hD ⊢
  have hA : ∀ q : Nat, s.heap.size ≤ q → A q := fun q h => by rw [← hAe]; exact Or.inr h
  have hS : va_S A s.heap s.heap [] := va_S.rf
  have hl := lv_entry ([.ref h0]) (n := 1) (Nat.le_of_ble_eq_true rfl)
  rw [lg_entry_eq]
  generalize (lg_sl ([.ref h0]) ++ List.replicate (1 - (lg_sl ([.ref h0])).length) Slot.unset).toArray = ls at hl ⊢
  have hl : lv_has ls 1 [(0, .ref h0)] := hl
  refine lv_aload_n hx hb dX14_result_0 rfl (lv_at hl 0 rfl) ?_
  refine va_get (D := (dC, dI)) (ci := 12) (v := .long 0) (C := RX14) (T := TX14) (N := 143) hx hb hts inX14 hown hK hP 0 rfl rfl 101 (by decide) (hts _ kw_379) (fun _ h9 => h9) g_fy_101 dX14_result_1 ?_
  refine W.widen (k := 0) (n := 0) (Nat.le_of_ble_eq_true rfl) (Nat.le_of_ble_eq_true rfl) ?_
  exact W.lret (v := 0) hx hb hr (fun t9 ht9 hW9 => ⟨⟨_, (), rfl, rfl, trivial⟩, hS.F ht9⟩) hS.2.2 dX14_result_4
set_option maxHeartbeats 4000000 in
set_option maxRecDepth 100000 in
theorem m_X14_fileAt (l : Launch) (dC : Nat → ClassId) (dI : Nat → Nat → Nat) (sz : Nat) (h0 : Nat) (fy : List Value) (f0 : Int32) (L_fy : fy.length = 143) (g_fy_1 : fy[1]? = some (.int 0)) : Met l yX14_fileAt (wt yX14_fileAt cX14_fileAt 2 (some (.object "CodeFoundryModel$File"))) ({ frames := 0, cells := 0, slots := 0, locals := 0 }) (va_Pc [.ref h0, .int f0] (st_U dC dI sz [(h0, .inr (12, fy))] [])) (va_Qq (fun (r : Option Nat) (_ : Unit) => r = none) (fun (_ : Unit) (_ : State) => True) (va_A [(h0, .inr (12, fy))] sz)) 0 0 (va_A [(h0, .inr (12, fy))] sz) := by
  refine Met.ofW (cc := cX14_fileAt) (maxL := 2) (ret := (some (.object "CodeFoundryModel$File"))) (by decide) rfl ?_
  intro p e s m args below meth c s₁ B hml hv
  obtain ⟨rfl, hsz, hP, hK, hD0, hex⟩ := hv
  have hx := B.exec
  have hb := B.bytes
  have hr := B.returns
  have hts0 := atoms_spec (ws := wt yX14_fileAt cX14_fileAt 2 (some (.object "CodeFoundryModel$File"))) B.pre
  have hts : ∀ w ∈ tb, w.before _ s = true := fun w h => hts0 w (List.mem_cons_of_mem _ h)
  have hown : s.vm.findClass RX14 = some m.cls := findClass_of_methodNamed B.named
  have hlocks := B.notSynchronized
  subst hsz
  have hD := hD0.self (sz := s.heap.size)
  generalize hAe : va_A [(h0, .inr (12, fy))] s.heap.size = A at hD ⊢
  have hA : ∀ q : Nat, s.heap.size ≤ q → A q := fun q h => by rw [← hAe]; exact Or.inr h
  have hS : va_S A s.heap s.heap [] := va_S.rf
  have hl := lv_entry ([.ref h0, .int f0]) (n := 2) (Nat.le_of_ble_eq_true rfl)
  rw [lg_entry_eq]
  generalize (lg_sl ([.ref h0, .int f0]) ++ List.replicate (2 - (lg_sl ([.ref h0, .int f0])).length) Slot.unset).toArray = ls at hl ⊢
  have hl : lv_has ls 2 [(0, .ref h0), (1, .int f0)] := hl
  refine lv_iload_n hx hb dX14_fileAt_0 rfl (lv_at hl 1 rfl) ?_
  refine lv_if_lt (tgt := 21) hx hb dX14_fileAt_1 (by decide) (fun c_1 => ?_) (fun c_1 => ?_)
  · refine lv_null hx hb dX14_fileAt_21 ?_
    refine W.widen (k := 0) (n := 0) (Nat.le_of_ble_eq_true rfl) (Nat.le_of_ble_eq_true rfl) ?_
    exact W.aret (v := .null) hx hb hr (Or.inl ⟨_, rfl⟩) (Or.inl rfl) (fun t9 ht9 hW9 => ⟨⟨none, (), rfl, rfl, trivial⟩, hS.F ht9⟩) hS.2.2 dX14_fileAt_22
  · refine lv_iload_n hx hb dX14_fileAt_4 rfl (lv_at hl 1 rfl) ?_
    refine lv_aload_n hx hb dX14_fileAt_5 rfl (lv_at hl 0 rfl) ?_
    refine va_get (D := (dC, dI)) (ci := 12) (v := .int 0) (C := RX14) (T := TX14) (N := 143) hx hb hts inX14 hown hK hP 0 rfl rfl 1 (by decide) (hts _ kw_380) (fun _ h9 => h9) g_fy_1 dX14_fileAt_6 ?_
    refine lv_icmp_ge (tgt := 21) hx hb dX14_fileAt_9 (by decide) (fun c_9 => ?_) (fun c_9 => False.elim (k_ge c_1 c_9))
    refine lv_null hx hb dX14_fileAt_21 ?_
    refine W.widen (k := 0) (n := 0) (Nat.le_of_ble_eq_true rfl) (Nat.le_of_ble_eq_true rfl) ?_
    exact W.aret (v := .null) hx hb hr (Or.inl ⟨_, rfl⟩) (Or.inl rfl) (fun t9 ht9 hW9 => ⟨⟨none, (), rfl, rfl, trivial⟩, hS.F ht9⟩) hS.2.2 dX14_fileAt_22
set_option maxHeartbeats 4000000 in
set_option maxRecDepth 100000 in
theorem m_X14_isMethod (l : Launch) (dC : Nat → ClassId) (dI : Nat → Nat → Nat) (sz : Nat) (h0 : Nat) (fy : List Value) (f0 : Int32) (m0 : Int32) (L_fy : fy.length = 143) (g_fy_1 : fy[1]? = some (.int 0)) : Met l yX14_isMethod (wt yX14_isMethod cX14_isMethod 3 (some .boolean)) ({ frames := 1, cells := 0, slots := 0, locals := 21 }) (va_Pc [.ref h0, .int f0, .int m0] (st_U dC dI sz [(h0, .inr (12, fy))] [])) (va_Qi (fun (r : Int32) (_ : Unit) => r = 0) (fun (_ : Unit) (_ : State) => True) (va_A [(h0, .inr (12, fy))] sz)) 0 0 (va_A [(h0, .inr (12, fy))] sz) := by
  refine Met.ofW (cc := cX14_isMethod) (maxL := 3) (ret := (some .boolean)) (by decide) rfl ?_
  intro p e s m args below meth c s₁ B hml hv
  obtain ⟨rfl, hsz, hP, hK, hD0, hex⟩ := hv
  have hx := B.exec
  have hb := B.bytes
  have hr := B.returns
  have hts0 := atoms_spec (ws := wt yX14_isMethod cX14_isMethod 3 (some .boolean)) B.pre
  have hts : ∀ w ∈ tb, w.before _ s = true := fun w h => hts0 w (List.mem_cons_of_mem _ h)
  have hown : s.vm.findClass RX14 = some m.cls := findClass_of_methodNamed B.named
  have hlocks := B.notSynchronized
  subst hsz
  have hD := hD0.self (sz := s.heap.size)
  generalize hAe : va_A [(h0, .inr (12, fy))] s.heap.size = A at hD ⊢
  have hA : ∀ q : Nat, s.heap.size ≤ q → A q := fun q h => by rw [← hAe]; exact Or.inr h
  have hS : va_S A s.heap s.heap [] := va_S.rf
  have hl := lv_entry ([.ref h0, .int f0, .int m0]) (n := 3) (Nat.le_of_ble_eq_true rfl)
  rw [lg_entry_eq]
  generalize (lg_sl ([.ref h0, .int f0, .int m0]) ++ List.replicate (3 - (lg_sl ([.ref h0, .int f0, .int m0])).length) Slot.unset).toArray = ls at hl ⊢
  have hl : lv_has ls 3 [(0, .ref h0), (1, .int f0), (2, .int m0)] := hl
  refine lv_aload_n hx hb dX14_isMethod_0 rfl (lv_at hl 0 rfl) ?_
  refine lv_iload_n hx hb dX14_isMethod_1 rfl (lv_at hl 1 rfl) ?_
  have hPc := hP.sub (ws' := [(h0, .inr (12, fy))]) [0] rfl
  have hDc := hD.sub (ws' := [(h0, .inr (12, fy))]) [0] (by decide) rfl
  have hKc := hK.sub (tys' := []) [] rfl
  have hFc := va_free (wc := [(h0, .inr (12, fy))]) hD hS hA [0] rfl
  refine va_callq (va_runV (As := [.int f0]) (rest := []) ⟨hx, hb, hml, hown, hts⟩ (m_X14_fileAt l dC dI s.heap.size h0 fy f0 L_fy g_fy_1) (cwV 1 hts (gd_V kw_381 kw_382 kw_383 kw_374 kw_384) rfl rfl rfl (by decide +kernel) ⟨Nat.le_of_ble_eq_true rfl, Nat.le_of_ble_eq_true rfl⟩) ⟨st_blind, va_recv hKc hPc (ci := 12) (q0 := 0) rfl rfl, fun U hU hW9 => st_mk hU hW9 hPc hKc hDc hex⟩ rfl rfl hl.1 rfl (lv_room (Nat.le_of_ble_eq_true rfl)) dX14_isMethod_2 ⟨Nat.le_of_ble_eq_true rfl, Nat.le_of_ble_eq_true rfl⟩) hS (fun q _ h => hFc q h) hFc (fun r_1 u9 t9 H1 locs ht9 hvm9 hw9 hB9 hz9 hk9 hS => ?_)
  have hP1 : va_P (dC, dI) cl0 [] H1 := fun k q h => by simp at h
  have hD1 : va_D (va_A [(h0, .inr (12, fy))] s.heap.size) [] := ⟨fun i j p q h => by simp at h, fun k q h => by simp at h⟩
  obtain ⟨hP, hD⟩ := va_join (wr := []) (w1 := []) hP hD [0] [] rfl rfl (by decide) (by decide) hk9 hFc hP1 hD1
  generalize H1 = H at hP hS ⊢
  have hP : va_P (dC, dI) cl0 [] H := hP
  have hD : va_D A [] := hD
  have hw9 : r_1 = none := hw9
  subst hw9
  refine lv_ifnullN (tgt := 29) hx hb dX14_isMethod_5 (by decide) ?_
  refine lv_iconst (v := 0) hx hb dX14_isMethod_29 (by decide) ?_
  refine W.widen (k := 0) (n := 0) (Nat.le_of_ble_eq_true rfl) (Nat.le_of_ble_eq_true rfl) ?_
  exact W.zret (v := 0) hx hb hr rfl (fun t9 ht9 hW9 => ⟨⟨_, (), rfl, rfl, trivial⟩, hS.F ht9⟩) hS.2.2 dX14_isMethod_30
set_option maxHeartbeats 4000000 in
set_option maxRecDepth 100000 in
theorem m_X14_isRight (l : Launch) (dC : Nat → ClassId) (dI : Nat → Nat → Nat) (sz : Nat) (h0 : Nat) (fy : List Value) (f0 : Int32) (L_fy : fy.length = 143) (g_fy_1 : fy[1]? = some (.int 0)) : Met l yX14_isRight (wt yX14_isRight cX14_isRight 2 (some .boolean)) ({ frames := 1, cells := 0, slots := 0, locals := 21 }) (va_Pc [.ref h0, .int f0] (st_U dC dI sz [(h0, .inr (12, fy))] [])) (va_Qi (fun (r : Int32) (_ : Unit) => r = 0) (fun (_ : Unit) (_ : State) => True) (va_A [(h0, .inr (12, fy))] sz)) 0 0 (va_A [(h0, .inr (12, fy))] sz) := by
  refine Met.ofW (cc := cX14_isRight) (maxL := 2) (ret := (some .boolean)) (by decide) rfl ?_
  intro p e s m args below meth c s₁ B hml hv
  obtain ⟨rfl, hsz, hP, hK, hD0, hex⟩ := hv
  have hx := B.exec
  have hb := B.bytes
  have hr := B.returns
  have hts0 := atoms_spec (ws := wt yX14_isRight cX14_isRight 2 (some .boolean)) B.pre
  have hts : ∀ w ∈ tb, w.before _ s = true := fun w h => hts0 w (List.mem_cons_of_mem _ h)
  have hown : s.vm.findClass RX14 = some m.cls := findClass_of_methodNamed B.named
  have hlocks := B.notSynchronized
  subst hsz
  have hD := hD0.self (sz := s.heap.size)
  generalize hAe : va_A [(h0, .inr (12, fy))] s.heap.size = A at hD ⊢
  have hA : ∀ q : Nat, s.heap.size ≤ q → A q := fun q h => by rw [← hAe]; exact Or.inr h
  have hS : va_S A s.heap s.heap [] := va_S.rf
  have hl := lv_entry ([.ref h0, .int f0]) (n := 2) (Nat.le_of_ble_eq_true rfl)
  rw [lg_entry_eq]
  generalize (lg_sl ([.ref h0, .int f0]) ++ List.replicate (2 - (lg_sl ([.ref h0, .int f0])).length) Slot.unset).toArray = ls at hl ⊢
  have hl : lv_has ls 2 [(0, .ref h0), (1, .int f0)] := hl
  refine lv_aload_n hx hb dX14_isRight_0 rfl (lv_at hl 0 rfl) ?_
  refine lv_iload_n hx hb dX14_isRight_1 rfl (lv_at hl 1 rfl) ?_
  have hPc := hP.sub (ws' := [(h0, .inr (12, fy))]) [0] rfl
  have hDc := hD.sub (ws' := [(h0, .inr (12, fy))]) [0] (by decide) rfl
  have hKc := hK.sub (tys' := []) [] rfl
  have hFc := va_free (wc := [(h0, .inr (12, fy))]) hD hS hA [0] rfl
  refine va_callq (va_runV (As := [.int f0]) (rest := []) ⟨hx, hb, hml, hown, hts⟩ (m_X14_fileAt l dC dI s.heap.size h0 fy f0 L_fy g_fy_1) (cwV 1 hts (gd_V kw_381 kw_382 kw_383 kw_374 kw_384) rfl rfl rfl (by decide +kernel) ⟨Nat.le_of_ble_eq_true rfl, Nat.le_of_ble_eq_true rfl⟩) ⟨st_blind, va_recv hKc hPc (ci := 12) (q0 := 0) rfl rfl, fun U hU hW9 => st_mk hU hW9 hPc hKc hDc hex⟩ rfl rfl hl.1 rfl (lv_room (Nat.le_of_ble_eq_true rfl)) dX14_isRight_2 ⟨Nat.le_of_ble_eq_true rfl, Nat.le_of_ble_eq_true rfl⟩) hS (fun q _ h => hFc q h) hFc (fun r_1 u9 t9 H1 locs ht9 hvm9 hw9 hB9 hz9 hk9 hS => ?_)
  have hP1 : va_P (dC, dI) cl0 [] H1 := fun k q h => by simp at h
  have hD1 : va_D (va_A [(h0, .inr (12, fy))] s.heap.size) [] := ⟨fun i j p q h => by simp at h, fun k q h => by simp at h⟩
  obtain ⟨hP, hD⟩ := va_join (wr := []) (w1 := []) hP hD [0] [] rfl rfl (by decide) (by decide) hk9 hFc hP1 hD1
  generalize H1 = H at hP hS ⊢
  have hP : va_P (dC, dI) cl0 [] H := hP
  have hD : va_D A [] := hD
  have hw9 : r_1 = none := hw9
  subst hw9
  refine lv_ifnullN (tgt := 25) hx hb dX14_isRight_5 (by decide) ?_
  refine lv_iconst (v := 0) hx hb dX14_isRight_25 (by decide) ?_
  refine W.widen (k := 0) (n := 0) (Nat.le_of_ble_eq_true rfl) (Nat.le_of_ble_eq_true rfl) ?_
  exact W.zret (v := 0) hx hb hr rfl (fun t9 ht9 hW9 => ⟨⟨_, (), rfl, rfl, trivial⟩, hS.F ht9⟩) hS.2.2 dX14_isRight_26
set_option maxHeartbeats 4000000 in
set_option maxRecDepth 100000 in
theorem m_X14_stateAt (l : Launch) (dC : Nat → ClassId) (dI : Nat → Nat → Nat) (sz : Nat) (h0 : Nat) (fy : List Value) (f0 : Int32) (m0 : Int32) (i0 : Int32) (L_fy : fy.length = 143) (g_fy_1 : fy[1]? = some (.int 0)) : Met l yX14_stateAt (wt yX14_stateAt cX14_stateAt 4 (some .int)) ({ frames := 2, cells := 0, slots := 0, locals := 42 }) (va_Pc [.ref h0, .int f0, .int m0, .int i0] (st_U dC dI sz [(h0, .inr (12, fy))] [])) (va_Qi (fun (r : Int32) (_ : Unit) => r = (-1)) (fun (_ : Unit) (_ : State) => True) (va_A [(h0, .inr (12, fy))] sz)) 0 0 (va_A [(h0, .inr (12, fy))] sz) := by
  refine Met.ofW (cc := cX14_stateAt) (maxL := 4) (ret := (some .int)) (by decide) rfl ?_
  intro p e s m args below meth c s₁ B hml hv
  obtain ⟨rfl, hsz, hP, hK, hD0, hex⟩ := hv
  have hx := B.exec
  have hb := B.bytes
  have hr := B.returns
  have hts0 := atoms_spec (ws := wt yX14_stateAt cX14_stateAt 4 (some .int)) B.pre
  have hts : ∀ w ∈ tb, w.before _ s = true := fun w h => hts0 w (List.mem_cons_of_mem _ h)
  have hown : s.vm.findClass RX14 = some m.cls := findClass_of_methodNamed B.named
  have hlocks := B.notSynchronized
  subst hsz
  have hD := hD0.self (sz := s.heap.size)
  generalize hAe : va_A [(h0, .inr (12, fy))] s.heap.size = A at hD ⊢
  have hA : ∀ q : Nat, s.heap.size ≤ q → A q := fun q h => by rw [← hAe]; exact Or.inr h
  have hS : va_S A s.heap s.heap [] := va_S.rf
  have hl := lv_entry ([.ref h0, .int f0, .int m0, .int i0]) (n := 4) (Nat.le_of_ble_eq_true rfl)
  rw [lg_entry_eq]
  generalize (lg_sl ([.ref h0, .int f0, .int m0, .int i0]) ++ List.replicate (4 - (lg_sl ([.ref h0, .int f0, .int m0, .int i0])).length) Slot.unset).toArray = ls at hl ⊢
  have hl : lv_has ls 4 [(0, .ref h0), (1, .int f0), (2, .int m0), (3, .int i0)] := hl
  refine lv_aload_n hx hb dX14_stateAt_0 rfl (lv_at hl 0 rfl) ?_
  refine lv_iload_n hx hb dX14_stateAt_1 rfl (lv_at hl 1 rfl) ?_
  have hPc := hP.sub (ws' := [(h0, .inr (12, fy))]) [0] rfl
  have hDc := hD.sub (ws' := [(h0, .inr (12, fy))]) [0] (by decide) rfl
  have hKc := hK.sub (tys' := []) [] rfl
  have hFc := va_free (wc := [(h0, .inr (12, fy))]) hD hS hA [0] rfl
  refine va_calli (va_runV (As := [.int f0]) (rest := []) ⟨hx, hb, hml, hown, hts⟩ (m_X14_isRight l dC dI s.heap.size h0 fy f0 L_fy g_fy_1) (cwV 1 hts (gd_V kw_385 kw_386 kw_387 kw_374 kw_388) rfl rfl rfl (by decide +kernel) ⟨Nat.le_of_ble_eq_true rfl, Nat.le_of_ble_eq_true rfl⟩) ⟨st_blind, va_recv hKc hPc (ci := 12) (q0 := 0) rfl rfl, fun U hU hW9 => st_mk hU hW9 hPc hKc hDc hex⟩ rfl rfl hl.1 rfl (lv_room (Nat.le_of_ble_eq_true rfl)) dX14_stateAt_2 ⟨Nat.le_of_ble_eq_true rfl, Nat.le_of_ble_eq_true rfl⟩) hS (fun q _ h => hFc q h) hFc (fun r_1 u9 t9 H1 locs ht9 hvm9 hw9 hB9 hz9 hk9 hS => ?_)
  have hP1 : va_P (dC, dI) cl0 [] H1 := fun k q h => by simp at h
  have hD1 : va_D (va_A [(h0, .inr (12, fy))] s.heap.size) [] := ⟨fun i j p q h => by simp at h, fun k q h => by simp at h⟩
  obtain ⟨hP, hD⟩ := va_join (wr := []) (w1 := []) hP hD [0] [] rfl rfl (by decide) (by decide) hk9 hFc hP1 hD1
  generalize H1 = H at hP hS ⊢
  have hP : va_P (dC, dI) cl0 [] H := hP
  have hD : va_D A [] := hD
  have hw9 : r_1 = 0 := hw9
  subst hw9
  refine lv_if_eq (tgt := 54) hx hb dX14_stateAt_5 (by decide) (fun _ => ?_) (fun c9 => absurd (by decide) c9)
  refine lv_iconst (v := (-1)) hx hb dX14_stateAt_54 (by decide) ?_
  refine W.widen (k := 0) (n := 0) (Nat.le_of_ble_eq_true rfl) (Nat.le_of_ble_eq_true rfl) ?_
  exact W.iret (v := (-1)) hx hb hr (fun t9 ht9 hW9 => ⟨⟨_, (), rfl, rfl, trivial⟩, hS.F ht9⟩) hS.2.2 dX14_stateAt_55
set_option maxHeartbeats 4000000 in
set_option maxRecDepth 100000 in
theorem m_X14_size (l : Launch) (dC : Nat → ClassId) (dI : Nat → Nat → Nat) (sz : Nat) (h0 : Nat) (fy : List Value) (f0 : Int32) (w0 : Int32) (L_fy : fy.length = 143) (g_fy_1 : fy[1]? = some (.int 0)) : Met l yX14_size (wt yX14_size cX14_size 4 (some .int)) ({ frames := 1, cells := 0, slots := 0, locals := 21 }) (va_Pc [.ref h0, .int f0, .int w0] (st_U dC dI sz [(h0, .inr (12, fy))] [])) (va_Qi (fun (r : Int32) (_ : Unit) => r = (-1)) (fun (_ : Unit) (_ : State) => True) (va_A [(h0, .inr (12, fy))] sz)) 0 0 (va_A [(h0, .inr (12, fy))] sz) := by
  refine Met.ofW (cc := cX14_size) (maxL := 4) (ret := (some .int)) (by decide) rfl ?_
  intro p e s m args below meth c s₁ B hml hv
  obtain ⟨rfl, hsz, hP, hK, hD0, hex⟩ := hv
  have hx := B.exec
  have hb := B.bytes
  have hr := B.returns
  have hts0 := atoms_spec (ws := wt yX14_size cX14_size 4 (some .int)) B.pre
  have hts : ∀ w ∈ tb, w.before _ s = true := fun w h => hts0 w (List.mem_cons_of_mem _ h)
  have hown : s.vm.findClass RX14 = some m.cls := findClass_of_methodNamed B.named
  have hlocks := B.notSynchronized
  subst hsz
  have hD := hD0.self (sz := s.heap.size)
  generalize hAe : va_A [(h0, .inr (12, fy))] s.heap.size = A at hD ⊢
  have hA : ∀ q : Nat, s.heap.size ≤ q → A q := fun q h => by rw [← hAe]; exact Or.inr h
  have hS : va_S A s.heap s.heap [] := va_S.rf
  have hl := lv_entry ([.ref h0, .int f0, .int w0]) (n := 4) (Nat.le_of_ble_eq_true rfl)
  rw [lg_entry_eq]
  generalize (lg_sl ([.ref h0, .int f0, .int w0]) ++ List.replicate (4 - (lg_sl ([.ref h0, .int f0, .int w0])).length) Slot.unset).toArray = ls at hl ⊢
  have hl : lv_has ls 4 [(0, .ref h0), (1, .int f0), (2, .int w0)] := hl
  refine lv_aload_n hx hb dX14_size_0 rfl (lv_at hl 0 rfl) ?_
  refine lv_iload_n hx hb dX14_size_1 rfl (lv_at hl 1 rfl) ?_
  have hPc := hP.sub (ws' := [(h0, .inr (12, fy))]) [0] rfl
  have hDc := hD.sub (ws' := [(h0, .inr (12, fy))]) [0] (by decide) rfl
  have hKc := hK.sub (tys' := []) [] rfl
  have hFc := va_free (wc := [(h0, .inr (12, fy))]) hD hS hA [0] rfl
  refine va_callq (va_runV (As := [.int f0]) (rest := []) ⟨hx, hb, hml, hown, hts⟩ (m_X14_fileAt l dC dI s.heap.size h0 fy f0 L_fy g_fy_1) (cwV 1 hts (gd_V kw_381 kw_382 kw_383 kw_374 kw_384) rfl rfl rfl (by decide +kernel) ⟨Nat.le_of_ble_eq_true rfl, Nat.le_of_ble_eq_true rfl⟩) ⟨st_blind, va_recv hKc hPc (ci := 12) (q0 := 0) rfl rfl, fun U hU hW9 => st_mk hU hW9 hPc hKc hDc hex⟩ rfl rfl hl.1 rfl (lv_room (Nat.le_of_ble_eq_true rfl)) dX14_size_2 ⟨Nat.le_of_ble_eq_true rfl, Nat.le_of_ble_eq_true rfl⟩) hS (fun q _ h => hFc q h) hFc (fun r_1 u9 t9 H1 locs ht9 hvm9 hw9 hB9 hz9 hk9 hS => ?_)
  have hP1 : va_P (dC, dI) cl0 [] H1 := fun k q h => by simp at h
  have hD1 : va_D (va_A [(h0, .inr (12, fy))] s.heap.size) [] := ⟨fun i j p q h => by simp at h, fun k q h => by simp at h⟩
  obtain ⟨hP, hD⟩ := va_join (wr := []) (w1 := []) hP hD [0] [] rfl rfl (by decide) (by decide) hk9 hFc hP1 hD1
  generalize H1 = H at hP hS ⊢
  have hP : va_P (dC, dI) cl0 [] H := hP
  have hD : va_D A [] := hD
  have hw9 : r_1 = none := hw9
  subst hw9
  refine lv_astore_nN (lv' := [(3, .null), (0, .ref h0), (1, .int f0), (2, .int w0)]) hx hb dX14_size_5 rfl hl (by decide) rfl (fun ls hl => ?_)
  refine lv_aload_nN hx hb dX14_size_6 rfl (lv_at hl 0 rfl) ?_
  refine lv_ifnonnullN hx hb dX14_size_7 ?_
  refine lv_iconst (v := (-1)) hx hb dX14_size_10 (by decide) ?_
  refine W.widen (k := 0) (n := 0) (Nat.le_of_ble_eq_true rfl) (Nat.le_of_ble_eq_true rfl) ?_
  exact W.iret (v := (-1)) hx hb hr (fun t9 ht9 hW9 => ⟨⟨_, (), rfl, rfl, trivial⟩, hS.F ht9⟩) hS.2.2 dX14_size_11
set_option maxHeartbeats 4000000 in
set_option maxRecDepth 100000 in
theorem m_X14_length (l : Launch) (dC : Nat → ClassId) (dI : Nat → Nat → Nat) (sz : Nat) (h0 : Nat) (fy : List Value) (f0 : Int32) (m0 : Int32) (L_fy : fy.length = 143) (g_fy_1 : fy[1]? = some (.int 0)) : Met l yX14_length (wt yX14_length cX14_length 3 (some .int)) ({ frames := 2, cells := 0, slots := 0, locals := 43 }) (va_Pc [.ref h0, .int f0, .int m0] (st_U dC dI sz [(h0, .inr (12, fy))] [])) (va_Qi (fun (r : Int32) (_ : Unit) => r = (-1)) (fun (_ : Unit) (_ : State) => True) (va_A [(h0, .inr (12, fy))] sz)) 0 0 (va_A [(h0, .inr (12, fy))] sz) := by
  refine Met.ofW (cc := cX14_length) (maxL := 3) (ret := (some .int)) (by decide) rfl ?_
  intro p e s m args below meth c s₁ B hml hv
  obtain ⟨rfl, hsz, hP, hK, hD0, hex⟩ := hv
  have hx := B.exec
  have hb := B.bytes
  have hr := B.returns
  have hts0 := atoms_spec (ws := wt yX14_length cX14_length 3 (some .int)) B.pre
  have hts : ∀ w ∈ tb, w.before _ s = true := fun w h => hts0 w (List.mem_cons_of_mem _ h)
  have hown : s.vm.findClass RX14 = some m.cls := findClass_of_methodNamed B.named
  have hlocks := B.notSynchronized
  subst hsz
  have hD := hD0.self (sz := s.heap.size)
  generalize hAe : va_A [(h0, .inr (12, fy))] s.heap.size = A at hD ⊢
  have hA : ∀ q : Nat, s.heap.size ≤ q → A q := fun q h => by rw [← hAe]; exact Or.inr h
  have hS : va_S A s.heap s.heap [] := va_S.rf
  have hl := lv_entry ([.ref h0, .int f0, .int m0]) (n := 3) (Nat.le_of_ble_eq_true rfl)
  rw [lg_entry_eq]
  generalize (lg_sl ([.ref h0, .int f0, .int m0]) ++ List.replicate (3 - (lg_sl ([.ref h0, .int f0, .int m0])).length) Slot.unset).toArray = ls at hl ⊢
  have hl : lv_has ls 3 [(0, .ref h0), (1, .int f0), (2, .int m0)] := hl
  refine lv_aload_n hx hb dX14_length_0 rfl (lv_at hl 0 rfl) ?_
  refine lv_iload_n hx hb dX14_length_1 rfl (lv_at hl 1 rfl) ?_
  refine lv_iload_n hx hb dX14_length_2 rfl (lv_at hl 2 rfl) ?_
  have hPc := hP.sub (ws' := [(h0, .inr (12, fy))]) [0] rfl
  have hDc := hD.sub (ws' := [(h0, .inr (12, fy))]) [0] (by decide) rfl
  have hKc := hK.sub (tys' := []) [] rfl
  have hFc := va_free (wc := [(h0, .inr (12, fy))]) hD hS hA [0] rfl
  refine va_calli (va_runV (As := [.int f0, .int m0]) (rest := []) ⟨hx, hb, hml, hown, hts⟩ (m_X14_isMethod l dC dI s.heap.size h0 fy f0 m0 L_fy g_fy_1) (cwV 2 hts (gd_V kw_389 kw_390 kw_391 kw_374 kw_392) rfl rfl rfl (by decide +kernel) ⟨Nat.le_of_ble_eq_true rfl, Nat.le_of_ble_eq_true rfl⟩) ⟨st_blind, va_recv hKc hPc (ci := 12) (q0 := 0) rfl rfl, fun U hU hW9 => st_mk hU hW9 hPc hKc hDc hex⟩ rfl rfl hl.1 rfl (lv_room (Nat.le_of_ble_eq_true rfl)) dX14_length_3 ⟨Nat.le_of_ble_eq_true rfl, Nat.le_of_ble_eq_true rfl⟩) hS (fun q _ h => hFc q h) hFc (fun r_1 u9 t9 H1 locs ht9 hvm9 hw9 hB9 hz9 hk9 hS => ?_)
  have hP1 : va_P (dC, dI) cl0 [] H1 := fun k q h => by simp at h
  have hD1 : va_D (va_A [(h0, .inr (12, fy))] s.heap.size) [] := ⟨fun i j p q h => by simp at h, fun k q h => by simp at h⟩
  obtain ⟨hP, hD⟩ := va_join (wr := []) (w1 := []) hP hD [0] [] rfl rfl (by decide) (by decide) hk9 hFc hP1 hD1
  generalize H1 = H at hP hS ⊢
  have hP : va_P (dC, dI) cl0 [] H := hP
  have hD : va_D A [] := hD
  have hw9 : r_1 = 0 := hw9
  subst hw9
  refine lv_if_eq (tgt := 23) hx hb dX14_length_6 (by decide) (fun _ => ?_) (fun c9 => absurd (by decide) c9)
  refine lv_iconst (v := (-1)) hx hb dX14_length_23 (by decide) ?_
  refine W.widen (k := 0) (n := 0) (Nat.le_of_ble_eq_true rfl) (Nat.le_of_ble_eq_true rfl) ?_
  exact W.iret (v := (-1)) hx hb hr (fun t9 ht9 hW9 => ⟨⟨_, (), rfl, rfl, trivial⟩, hS.F ht9⟩) hS.2.2 dX14_length_24
set_option maxHeartbeats 4000000 in
set_option maxRecDepth 100000 in
theorem m_X14_verify (l : Launch) (dC : Nat → ClassId) (dI : Nat → Nat → Nat) (sz : Nat) (h0 : Nat) (fy : List Value) (f0 : Int32) (L_fy : fy.length = 143) (g_fy_1 : fy[1]? = some (.int 0)) : Met l yX14_verify (wt yX14_verify cX14_verify 6 (some .int)) ({ frames := 1, cells := 0, slots := 0, locals := 21 }) (va_Pc [.ref h0, .int f0] (st_U dC dI sz [(h0, .inr (12, fy))] [])) (va_Qi (fun (r : Int32) (_ : Unit) => r = (-1)) (fun (_ : Unit) (_ : State) => True) (va_A [(h0, .inr (12, fy))] sz)) 0 0 (va_A [(h0, .inr (12, fy))] sz) := by
  refine Met.ofW (cc := cX14_verify) (maxL := 6) (ret := (some .int)) (by decide) rfl ?_
  intro p e s m args below meth c s₁ B hml hv
  obtain ⟨rfl, hsz, hP, hK, hD0, hex⟩ := hv
  have hx := B.exec
  have hb := B.bytes
  have hr := B.returns
  have hts0 := atoms_spec (ws := wt yX14_verify cX14_verify 6 (some .int)) B.pre
  have hts : ∀ w ∈ tb, w.before _ s = true := fun w h => hts0 w (List.mem_cons_of_mem _ h)
  have hown : s.vm.findClass RX14 = some m.cls := findClass_of_methodNamed B.named
  have hlocks := B.notSynchronized
  subst hsz
  have hD := hD0.self (sz := s.heap.size)
  generalize hAe : va_A [(h0, .inr (12, fy))] s.heap.size = A at hD ⊢
  have hA : ∀ q : Nat, s.heap.size ≤ q → A q := fun q h => by rw [← hAe]; exact Or.inr h
  have hS : va_S A s.heap s.heap [] := va_S.rf
  have hl := lv_entry ([.ref h0, .int f0]) (n := 6) (Nat.le_of_ble_eq_true rfl)
  rw [lg_entry_eq]
  generalize (lg_sl ([.ref h0, .int f0]) ++ List.replicate (6 - (lg_sl ([.ref h0, .int f0])).length) Slot.unset).toArray = ls at hl ⊢
  have hl : lv_has ls 6 [(0, .ref h0), (1, .int f0)] := hl
  refine lv_aload_n hx hb dX14_verify_0 rfl (lv_at hl 0 rfl) ?_
  refine lv_iconst (v := (-1)) hx hb dX14_verify_1 (by decide) ?_
  refine va_put (D := (dC, dI)) (ci := 12) (v := .int (-1)) (ty := .int) (C := RX14) (T := TX14) (N := 143) hx hb hts inX14 tyX14 tyX14_ok nmX14 hown hK hP hD hS 0 rfl rfl 64 (by decide) (hts _ kw_301) (fun _ h9 => h9) rfl (by decide +kernel) rfl rfl (by rw [L_fy]; decide) dX14_verify_2 (fun H locs hP hD hS => ?_)
  obtain ⟨fy_1, e_fy_1⟩ : ∃ z, z = fy.set 64 (.int (-1)) := ⟨_, rfl⟩
  have hP : va_P (dC, dI) cl0 [(h0, .inr (12, fy_1))] H := by rw [e_fy_1]; exact hP
  have hD : va_D A [(h0, .inr (12, fy_1))] := by rw [e_fy_1]; exact hD
  have L_fy_1 : fy_1.length = 143 := fx_len e_fy_1 L_fy
  have g_fy_1_1 := fx_ne (j := 1) e_fy_1 g_fy_1 (by decide)
  have g_fy_1_64 := fx_self e_fy_1 (by rw [L_fy]; decide)
  refine lv_aload_n hx hb dX14_verify_5 rfl (lv_at hl 0 rfl) ?_
  refine lv_iconst (v := (-1)) hx hb dX14_verify_6 (by decide) ?_
  refine va_put (D := (dC, dI)) (ci := 12) (v := .int (-1)) (ty := .int) (C := RX14) (T := TX14) (N := 143) hx hb hts inX14 tyX14 tyX14_ok nmX14 hown hK hP hD hS 0 rfl rfl 65 (by decide) (hts _ kw_302) (fun _ h9 => h9) rfl (by decide +kernel) rfl rfl (by rw [L_fy_1]; decide) dX14_verify_7 (fun H locs hP hD hS => ?_)
  obtain ⟨fy_2, e_fy_2⟩ : ∃ z, z = fy_1.set 65 (.int (-1)) := ⟨_, rfl⟩
  have hP : va_P (dC, dI) cl0 [(h0, .inr (12, fy_2))] H := by rw [e_fy_2]; exact hP
  have hD : va_D A [(h0, .inr (12, fy_2))] := by rw [e_fy_2]; exact hD
  have L_fy_2 : fy_2.length = 143 := fx_len e_fy_2 L_fy_1
  have g_fy_2_1 := fx_ne (j := 1) e_fy_2 g_fy_1_1 (by decide)
  have g_fy_2_64 := fx_ne (j := 64) e_fy_2 g_fy_1_64 (by decide)
  have g_fy_2_65 := fx_self e_fy_2 (by rw [L_fy_1]; decide)
  refine lv_aload_n hx hb dX14_verify_10 rfl (lv_at hl 0 rfl) ?_
  refine lv_iload_n hx hb dX14_verify_11 rfl (lv_at hl 1 rfl) ?_
  have hPc := hP.sub (ws' := [(h0, .inr (12, fy_2))]) [0] rfl
  have hDc := hD.sub (ws' := [(h0, .inr (12, fy_2))]) [0] (by decide) rfl
  have hKc := hK.sub (tys' := []) [] rfl
  have hFc := va_free (wc := [(h0, .inr (12, fy_2))]) hD hS hA [0] rfl
  refine va_callq (va_runV (As := [.int f0]) (rest := []) ⟨hx, hb, hml, hown, hts⟩ (m_X14_fileAt l dC dI H.size h0 fy_2 f0 L_fy_2 g_fy_2_1) (cwV 1 hts (gd_V kw_381 kw_382 kw_383 kw_374 kw_384) rfl rfl rfl (by decide +kernel) ⟨Nat.le_of_ble_eq_true rfl, Nat.le_of_ble_eq_true rfl⟩) ⟨st_blind, va_recv hKc hPc (ci := 12) (q0 := 0) rfl rfl, fun U hU hW9 => st_mk hU hW9 hPc hKc hDc hex⟩ rfl rfl hl.1 rfl (lv_room (Nat.le_of_ble_eq_true rfl)) dX14_verify_12 ⟨Nat.le_of_ble_eq_true rfl, Nat.le_of_ble_eq_true rfl⟩) hS (fun q _ h => hFc q h) hFc (fun r_3 u9 t9 H1 locs ht9 hvm9 hw9 hB9 hz9 hk9 hS => ?_)
  have hP1 : va_P (dC, dI) cl0 [] H1 := fun k q h => by simp at h
  have hD1 : va_D (va_A [(h0, .inr (12, fy_2))] H.size) [] := ⟨fun i j p q h => by simp at h, fun k q h => by simp at h⟩
  obtain ⟨hP, hD⟩ := va_join (wr := []) (w1 := []) hP hD [0] [] rfl rfl (by decide) (by decide) hk9 hFc hP1 hD1
  generalize H1 = H at hP hS ⊢
  have hP : va_P (dC, dI) cl0 [] H := hP
  have hD : va_D A [] := hD
  have hw9 : r_3 = none := hw9
  subst hw9
  refine lv_astore_nN (lv' := [(2, .null), (0, .ref h0), (1, .int f0)]) hx hb dX14_verify_15 rfl hl (by decide) rfl (fun ls hl => ?_)
  refine lv_aload_nN hx hb dX14_verify_16 rfl (lv_at hl 0 rfl) ?_
  refine lv_ifnonnullN hx hb dX14_verify_17 ?_
  refine lv_iconst (v := (-1)) hx hb dX14_verify_20 (by decide) ?_
  refine W.widen (k := 0) (n := 0) (Nat.le_of_ble_eq_true rfl) (Nat.le_of_ble_eq_true rfl) ?_
  exact W.iret (v := (-1)) hx hb hr (fun t9 ht9 hW9 => ⟨⟨_, (), rfl, rfl, trivial⟩, hS.F ht9⟩) hS.2.2 dX14_verify_21
set_option maxHeartbeats 4000000 in
set_option maxRecDepth 100000 in
theorem m_X14_height (l : Launch) (dC : Nat → ClassId) (dI : Nat → Nat → Nat) (sz : Nat) (h0 : Nat) (fy : List Value) (f0 : Int32) (m0 : Int32) (i0 : Int32) (L_fy : fy.length = 143) (g_fy_1 : fy[1]? = some (.int 0)) : Met l yX14_height (wt yX14_height cX14_height 5 (some .int)) ({ frames := 3, cells := 0, slots := 0, locals := 65 }) (va_Pc [.ref h0, .int f0, .int m0, .int i0] (st_U dC dI sz [(h0, .inr (12, fy))] [])) (va_Qi (fun (r : Int32) (_ : Unit) => r = (-1)) (fun (_ : Unit) (_ : State) => True) (va_A [(h0, .inr (12, fy))] sz)) 0 0 (va_A [(h0, .inr (12, fy))] sz) := by
  refine Met.ofW (cc := cX14_height) (maxL := 5) (ret := (some .int)) (by decide) rfl ?_
  intro p e s m args below meth c s₁ B hml hv
  obtain ⟨rfl, hsz, hP, hK, hD0, hex⟩ := hv
  have hx := B.exec
  have hb := B.bytes
  have hr := B.returns
  have hts0 := atoms_spec (ws := wt yX14_height cX14_height 5 (some .int)) B.pre
  have hts : ∀ w ∈ tb, w.before _ s = true := fun w h => hts0 w (List.mem_cons_of_mem _ h)
  have hown : s.vm.findClass RX14 = some m.cls := findClass_of_methodNamed B.named
  have hlocks := B.notSynchronized
  subst hsz
  have hD := hD0.self (sz := s.heap.size)
  generalize hAe : va_A [(h0, .inr (12, fy))] s.heap.size = A at hD ⊢
  have hA : ∀ q : Nat, s.heap.size ≤ q → A q := fun q h => by rw [← hAe]; exact Or.inr h
  have hS : va_S A s.heap s.heap [] := va_S.rf
  have hl := lv_entry ([.ref h0, .int f0, .int m0, .int i0]) (n := 5) (Nat.le_of_ble_eq_true rfl)
  rw [lg_entry_eq]
  generalize (lg_sl ([.ref h0, .int f0, .int m0, .int i0]) ++ List.replicate (5 - (lg_sl ([.ref h0, .int f0, .int m0, .int i0])).length) Slot.unset).toArray = ls at hl ⊢
  have hl : lv_has ls 5 [(0, .ref h0), (1, .int f0), (2, .int m0), (3, .int i0)] := hl
  refine lv_aload_n hx hb dX14_height_0 rfl (lv_at hl 0 rfl) ?_
  refine lv_iload_n hx hb dX14_height_1 rfl (lv_at hl 1 rfl) ?_
  refine lv_iload_n hx hb dX14_height_2 rfl (lv_at hl 2 rfl) ?_
  refine lv_iload_n hx hb dX14_height_3 rfl (lv_at hl 3 rfl) ?_
  have hPc := hP.sub (ws' := [(h0, .inr (12, fy))]) [0] rfl
  have hDc := hD.sub (ws' := [(h0, .inr (12, fy))]) [0] (by decide) rfl
  have hKc := hK.sub (tys' := []) [] rfl
  have hFc := va_free (wc := [(h0, .inr (12, fy))]) hD hS hA [0] rfl
  refine va_calli (va_runV (As := [.int f0, .int m0, .int i0]) (rest := []) ⟨hx, hb, hml, hown, hts⟩ (m_X14_stateAt l dC dI s.heap.size h0 fy f0 m0 i0 L_fy g_fy_1) (cwV 3 hts (gd_V kw_393 kw_394 kw_395 kw_374 kw_396) rfl rfl rfl (by decide +kernel) ⟨Nat.le_of_ble_eq_true rfl, Nat.le_of_ble_eq_true rfl⟩) ⟨st_blind, va_recv hKc hPc (ci := 12) (q0 := 0) rfl rfl, fun U hU hW9 => st_mk hU hW9 hPc hKc hDc hex⟩ rfl rfl hl.1 rfl (lv_room (Nat.le_of_ble_eq_true rfl)) dX14_height_4 ⟨Nat.le_of_ble_eq_true rfl, Nat.le_of_ble_eq_true rfl⟩) hS (fun q _ h => hFc q h) hFc (fun r_1 u9 t9 H1 locs ht9 hvm9 hw9 hB9 hz9 hk9 hS => ?_)
  have hP1 : va_P (dC, dI) cl0 [] H1 := fun k q h => by simp at h
  have hD1 : va_D (va_A [(h0, .inr (12, fy))] s.heap.size) [] := ⟨fun i j p q h => by simp at h, fun k q h => by simp at h⟩
  obtain ⟨hP, hD⟩ := va_join (wr := []) (w1 := []) hP hD [0] [] rfl rfl (by decide) (by decide) hk9 hFc hP1 hD1
  generalize H1 = H at hP hS ⊢
  have hP : va_P (dC, dI) cl0 [] H := hP
  have hD : va_D A [] := hD
  have hw9 : r_1 = (-1) := hw9
  subst hw9
  refine lv_istore (lv' := [(4, .int (-1)), (0, .ref h0), (1, .int f0), (2, .int m0), (3, .int i0)]) hx hb dX14_height_7 hl (by decide) rfl (fun ls hl => ?_)
  refine lv_iload hx hb dX14_height_9 (lv_at hl 0 rfl) ?_
  refine lv_if_ge (tgt := 18) hx hb dX14_height_11 (by decide) (fun c9 => absurd c9 (by decide)) (fun _ => ?_)
  refine lv_iconst (v := (-1)) hx hb dX14_height_14 (by decide) ?_
  refine lv_goto (tgt := 30) hx hb dX14_height_15 (by decide) ?_
  refine W.widen (k := 0) (n := 0) (Nat.le_of_ble_eq_true rfl) (Nat.le_of_ble_eq_true rfl) ?_
  exact W.iret (v := (-1)) hx hb hr (fun t9 ht9 hW9 => ⟨⟨_, (), rfl, rfl, trivial⟩, hS.F ht9⟩) hS.2.2 dX14_height_30
set_option maxHeartbeats 4000000 in
set_option maxRecDepth 100000 in
theorem m_X14_local (l : Launch) (dC : Nat → ClassId) (dI : Nat → Nat → Nat) (sz : Nat) (h0 : Nat) (fy : List Value) (f0 : Int32) (m0 : Int32) (i0 : Int32) (k0 : Int32) (L_fy : fy.length = 143) (g_fy_1 : fy[1]? = some (.int 0)) : Met l yX14_local (wt yX14_local cX14_local 6 (some .int)) ({ frames := 3, cells := 0, slots := 0, locals := 65 }) (va_Pc [.ref h0, .int f0, .int m0, .int i0, .int k0] (st_U dC dI sz [(h0, .inr (12, fy))] [])) (va_Qi (fun (r : Int32) (_ : Unit) => r = (-1)) (fun (_ : Unit) (_ : State) => True) (va_A [(h0, .inr (12, fy))] sz)) 0 0 (va_A [(h0, .inr (12, fy))] sz) := by
  refine Met.ofW (cc := cX14_local) (maxL := 6) (ret := (some .int)) (by decide) rfl ?_
  intro p e s m args below meth c s₁ B hml hv
  obtain ⟨rfl, hsz, hP, hK, hD0, hex⟩ := hv
  have hx := B.exec
  have hb := B.bytes
  have hr := B.returns
  have hts0 := atoms_spec (ws := wt yX14_local cX14_local 6 (some .int)) B.pre
  have hts : ∀ w ∈ tb, w.before _ s = true := fun w h => hts0 w (List.mem_cons_of_mem _ h)
  have hown : s.vm.findClass RX14 = some m.cls := findClass_of_methodNamed B.named
  have hlocks := B.notSynchronized
  subst hsz
  have hD := hD0.self (sz := s.heap.size)
  generalize hAe : va_A [(h0, .inr (12, fy))] s.heap.size = A at hD ⊢
  have hA : ∀ q : Nat, s.heap.size ≤ q → A q := fun q h => by rw [← hAe]; exact Or.inr h
  have hS : va_S A s.heap s.heap [] := va_S.rf
  have hl := lv_entry ([.ref h0, .int f0, .int m0, .int i0, .int k0]) (n := 6) (Nat.le_of_ble_eq_true rfl)
  rw [lg_entry_eq]
  generalize (lg_sl ([.ref h0, .int f0, .int m0, .int i0, .int k0]) ++ List.replicate (6 - (lg_sl ([.ref h0, .int f0, .int m0, .int i0, .int k0])).length) Slot.unset).toArray = ls at hl ⊢
  have hl : lv_has ls 6 [(0, .ref h0), (1, .int f0), (2, .int m0), (3, .int i0), (4, .int k0)] := hl
  refine lv_aload_n hx hb dX14_local_0 rfl (lv_at hl 0 rfl) ?_
  refine lv_iload_n hx hb dX14_local_1 rfl (lv_at hl 1 rfl) ?_
  refine lv_iload_n hx hb dX14_local_2 rfl (lv_at hl 2 rfl) ?_
  refine lv_iload_n hx hb dX14_local_3 rfl (lv_at hl 3 rfl) ?_
  have hPc := hP.sub (ws' := [(h0, .inr (12, fy))]) [0] rfl
  have hDc := hD.sub (ws' := [(h0, .inr (12, fy))]) [0] (by decide) rfl
  have hKc := hK.sub (tys' := []) [] rfl
  have hFc := va_free (wc := [(h0, .inr (12, fy))]) hD hS hA [0] rfl
  refine va_calli (va_runV (As := [.int f0, .int m0, .int i0]) (rest := []) ⟨hx, hb, hml, hown, hts⟩ (m_X14_stateAt l dC dI s.heap.size h0 fy f0 m0 i0 L_fy g_fy_1) (cwV 3 hts (gd_V kw_393 kw_394 kw_395 kw_374 kw_396) rfl rfl rfl (by decide +kernel) ⟨Nat.le_of_ble_eq_true rfl, Nat.le_of_ble_eq_true rfl⟩) ⟨st_blind, va_recv hKc hPc (ci := 12) (q0 := 0) rfl rfl, fun U hU hW9 => st_mk hU hW9 hPc hKc hDc hex⟩ rfl rfl hl.1 rfl (lv_room (Nat.le_of_ble_eq_true rfl)) dX14_local_4 ⟨Nat.le_of_ble_eq_true rfl, Nat.le_of_ble_eq_true rfl⟩) hS (fun q _ h => hFc q h) hFc (fun r_1 u9 t9 H1 locs ht9 hvm9 hw9 hB9 hz9 hk9 hS => ?_)
  have hP1 : va_P (dC, dI) cl0 [] H1 := fun k q h => by simp at h
  have hD1 : va_D (va_A [(h0, .inr (12, fy))] s.heap.size) [] := ⟨fun i j p q h => by simp at h, fun k q h => by simp at h⟩
  obtain ⟨hP, hD⟩ := va_join (wr := []) (w1 := []) hP hD [0] [] rfl rfl (by decide) (by decide) hk9 hFc hP1 hD1
  generalize H1 = H at hP hS ⊢
  have hP : va_P (dC, dI) cl0 [] H := hP
  have hD : va_D A [] := hD
  have hw9 : r_1 = (-1) := hw9
  subst hw9
  refine lv_istore (lv' := [(5, .int (-1)), (0, .ref h0), (1, .int f0), (2, .int m0), (3, .int i0), (4, .int k0)]) hx hb dX14_local_7 hl (by decide) rfl (fun ls hl => ?_)
  refine lv_iload hx hb dX14_local_9 (lv_at hl 0 rfl) ?_
  refine lv_if_lt (tgt := 41) hx hb dX14_local_11 (by decide) (fun _ => ?_) (fun c9 => absurd (by decide) c9)
  refine lv_iconst (v := (-1)) hx hb dX14_local_41 (by decide) ?_
  refine W.widen (k := 0) (n := 0) (Nat.le_of_ble_eq_true rfl) (Nat.le_of_ble_eq_true rfl) ?_
  exact W.iret (v := (-1)) hx hb hr (fun t9 ht9 hW9 => ⟨⟨_, (), rfl, rfl, trivial⟩, hS.F ht9⟩) hS.2.2 dX14_local_42
set_option maxHeartbeats 4000000 in
set_option maxRecDepth 100000 in
theorem m_X14_write (l : Launch) (dC : Nat → ClassId) (dI : Nat → Nat → Nat) (sz : Nat) (h0 : Nat) (fy : List Value) (f0 : Int32) (L_fy : fy.length = 143) (g_fy_1 : fy[1]? = some (.int 0)) : Met l yX14_write (wt yX14_write cX14_write 3 (some .int)) ({ frames := 2, cells := 0, slots := 0, locals := 42 }) (va_Pc [.ref h0, .int f0] (st_U dC dI sz [(h0, .inr (12, fy))] [])) (va_Qi (fun (r : Int32) (_ : Unit) => r = (-1)) (fun (_ : Unit) (_ : State) => True) (va_A [(h0, .inr (12, fy))] sz)) 0 0 (va_A [(h0, .inr (12, fy))] sz) := by
  refine Met.ofW (cc := cX14_write) (maxL := 3) (ret := (some .int)) (by decide) rfl ?_
  intro p e s m args below meth c s₁ B hml hv
  obtain ⟨rfl, hsz, hP, hK, hD0, hex⟩ := hv
  have hx := B.exec
  have hb := B.bytes
  have hr := B.returns
  have hts0 := atoms_spec (ws := wt yX14_write cX14_write 3 (some .int)) B.pre
  have hts : ∀ w ∈ tb, w.before _ s = true := fun w h => hts0 w (List.mem_cons_of_mem _ h)
  have hown : s.vm.findClass RX14 = some m.cls := findClass_of_methodNamed B.named
  have hlocks := B.notSynchronized
  subst hsz
  have hD := hD0.self (sz := s.heap.size)
  generalize hAe : va_A [(h0, .inr (12, fy))] s.heap.size = A at hD ⊢
  have hA : ∀ q : Nat, s.heap.size ≤ q → A q := fun q h => by rw [← hAe]; exact Or.inr h
  have hS : va_S A s.heap s.heap [] := va_S.rf
  have hl := lv_entry ([.ref h0, .int f0]) (n := 3) (Nat.le_of_ble_eq_true rfl)
  rw [lg_entry_eq]
  generalize (lg_sl ([.ref h0, .int f0]) ++ List.replicate (3 - (lg_sl ([.ref h0, .int f0])).length) Slot.unset).toArray = ls at hl ⊢
  have hl : lv_has ls 3 [(0, .ref h0), (1, .int f0)] := hl
  refine lv_aload_n hx hb dX14_write_0 rfl (lv_at hl 0 rfl) ?_
  refine lv_iload_n hx hb dX14_write_1 rfl (lv_at hl 1 rfl) ?_
  have hPc := hP.sub (ws' := [(h0, .inr (12, fy))]) [0] rfl
  have hDc := hD.sub (ws' := [(h0, .inr (12, fy))]) [0] (by decide) rfl
  have hKc := hK.sub (tys' := []) [] rfl
  have hFc := va_free (wc := [(h0, .inr (12, fy))]) hD hS hA [0] rfl
  refine va_calli (va_runV (As := [.int f0]) (rest := []) ⟨hx, hb, hml, hown, hts⟩ (m_X14_isRight l dC dI s.heap.size h0 fy f0 L_fy g_fy_1) (cwV 1 hts (gd_V kw_385 kw_386 kw_387 kw_374 kw_388) rfl rfl rfl (by decide +kernel) ⟨Nat.le_of_ble_eq_true rfl, Nat.le_of_ble_eq_true rfl⟩) ⟨st_blind, va_recv hKc hPc (ci := 12) (q0 := 0) rfl rfl, fun U hU hW9 => st_mk hU hW9 hPc hKc hDc hex⟩ rfl rfl hl.1 rfl (lv_room (Nat.le_of_ble_eq_true rfl)) dX14_write_2 ⟨Nat.le_of_ble_eq_true rfl, Nat.le_of_ble_eq_true rfl⟩) hS (fun q _ h => hFc q h) hFc (fun r_1 u9 t9 H1 locs ht9 hvm9 hw9 hB9 hz9 hk9 hS => ?_)
  have hP1 : va_P (dC, dI) cl0 [] H1 := fun k q h => by simp at h
  have hD1 : va_D (va_A [(h0, .inr (12, fy))] s.heap.size) [] := ⟨fun i j p q h => by simp at h, fun k q h => by simp at h⟩
  obtain ⟨hP, hD⟩ := va_join (wr := []) (w1 := []) hP hD [0] [] rfl rfl (by decide) (by decide) hk9 hFc hP1 hD1
  generalize H1 = H at hP hS ⊢
  have hP : va_P (dC, dI) cl0 [] H := hP
  have hD : va_D A [] := hD
  have hw9 : r_1 = 0 := hw9
  subst hw9
  refine lv_if_ne (tgt := 10) hx hb dX14_write_5 (by decide) (fun c9 => absurd (by decide) c9) (fun _ => ?_)
  refine lv_iconst (v := (-1)) hx hb dX14_write_8 (by decide) ?_
  refine W.widen (k := 0) (n := 0) (Nat.le_of_ble_eq_true rfl) (Nat.le_of_ble_eq_true rfl) ?_
  exact W.iret (v := (-1)) hx hb hr (fun t9 ht9 hW9 => ⟨⟨_, (), rfl, rfl, trivial⟩, hS.F ht9⟩) hS.2.2 dX14_write_9
set_option maxHeartbeats 4000000 in
set_option maxRecDepth 100000 in
theorem m_X14_stage (l : Launch) (dC : Nat → ClassId) (dI : Nat → Nat → Nat) (sz : Nat) (h0 : Nat) (fy : List Value) (f0 : Int32) (L_fy : fy.length = 143) (g_fy_1 : fy[1]? = some (.int 0)) : Met l yX14_stage (wt yX14_stage cX14_stage 3 (some .boolean)) ({ frames := 2, cells := 0, slots := 0, locals := 42 }) (va_Pc [.ref h0, .int f0] (st_U dC dI sz [(h0, .inr (12, fy))] [])) (va_Qi (fun (r : Int32) (_ : Unit) => r = 0) (fun (_ : Unit) (_ : State) => True) (va_A [(h0, .inr (12, fy))] sz)) 0 0 (va_A [(h0, .inr (12, fy))] sz) := by
  refine Met.ofW (cc := cX14_stage) (maxL := 3) (ret := (some .boolean)) (by decide) rfl ?_
  intro p e s m args below meth c s₁ B hml hv
  obtain ⟨rfl, hsz, hP, hK, hD0, hex⟩ := hv
  have hx := B.exec
  have hb := B.bytes
  have hr := B.returns
  have hts0 := atoms_spec (ws := wt yX14_stage cX14_stage 3 (some .boolean)) B.pre
  have hts : ∀ w ∈ tb, w.before _ s = true := fun w h => hts0 w (List.mem_cons_of_mem _ h)
  have hown : s.vm.findClass RX14 = some m.cls := findClass_of_methodNamed B.named
  have hlocks := B.notSynchronized
  subst hsz
  have hD := hD0.self (sz := s.heap.size)
  generalize hAe : va_A [(h0, .inr (12, fy))] s.heap.size = A at hD ⊢
  have hA : ∀ q : Nat, s.heap.size ≤ q → A q := fun q h => by rw [← hAe]; exact Or.inr h
  have hS : va_S A s.heap s.heap [] := va_S.rf
  have hl := lv_entry ([.ref h0, .int f0]) (n := 3) (Nat.le_of_ble_eq_true rfl)
  rw [lg_entry_eq]
  generalize (lg_sl ([.ref h0, .int f0]) ++ List.replicate (3 - (lg_sl ([.ref h0, .int f0])).length) Slot.unset).toArray = ls at hl ⊢
  have hl : lv_has ls 3 [(0, .ref h0), (1, .int f0)] := hl
  refine lv_aload_n hx hb dX14_stage_0 rfl (lv_at hl 0 rfl) ?_
  refine lv_iload_n hx hb dX14_stage_1 rfl (lv_at hl 1 rfl) ?_
  have hPc := hP.sub (ws' := [(h0, .inr (12, fy))]) [0] rfl
  have hDc := hD.sub (ws' := [(h0, .inr (12, fy))]) [0] (by decide) rfl
  have hKc := hK.sub (tys' := []) [] rfl
  have hFc := va_free (wc := [(h0, .inr (12, fy))]) hD hS hA [0] rfl
  refine va_calli (va_runV (As := [.int f0]) (rest := []) ⟨hx, hb, hml, hown, hts⟩ (m_X14_isRight l dC dI s.heap.size h0 fy f0 L_fy g_fy_1) (cwV 1 hts (gd_V kw_385 kw_386 kw_387 kw_374 kw_388) rfl rfl rfl (by decide +kernel) ⟨Nat.le_of_ble_eq_true rfl, Nat.le_of_ble_eq_true rfl⟩) ⟨st_blind, va_recv hKc hPc (ci := 12) (q0 := 0) rfl rfl, fun U hU hW9 => st_mk hU hW9 hPc hKc hDc hex⟩ rfl rfl hl.1 rfl (lv_room (Nat.le_of_ble_eq_true rfl)) dX14_stage_2 ⟨Nat.le_of_ble_eq_true rfl, Nat.le_of_ble_eq_true rfl⟩) hS (fun q _ h => hFc q h) hFc (fun r_1 u9 t9 H1 locs ht9 hvm9 hw9 hB9 hz9 hk9 hS => ?_)
  have hP1 : va_P (dC, dI) cl0 [] H1 := fun k q h => by simp at h
  have hD1 : va_D (va_A [(h0, .inr (12, fy))] s.heap.size) [] := ⟨fun i j p q h => by simp at h, fun k q h => by simp at h⟩
  obtain ⟨hP, hD⟩ := va_join (wr := []) (w1 := []) hP hD [0] [] rfl rfl (by decide) (by decide) hk9 hFc hP1 hD1
  generalize H1 = H at hP hS ⊢
  have hP : va_P (dC, dI) cl0 [] H := hP
  have hD : va_D A [] := hD
  have hw9 : r_1 = 0 := hw9
  subst hw9
  refine lv_if_ne (tgt := 10) hx hb dX14_stage_5 (by decide) (fun c9 => absurd (by decide) c9) (fun _ => ?_)
  refine lv_iconst (v := 0) hx hb dX14_stage_8 (by decide) ?_
  refine W.widen (k := 0) (n := 0) (Nat.le_of_ble_eq_true rfl) (Nat.le_of_ble_eq_true rfl) ?_
  exact W.zret (v := 0) hx hb hr rfl (fun t9 ht9 hW9 => ⟨⟨_, (), rfl, rfl, trivial⟩, hS.F ht9⟩) hS.2.2 dX14_stage_9
set_option maxHeartbeats 4000000 in
set_option maxRecDepth 100000 in
theorem m_X14_blocks (l : Launch) (dC : Nat → ClassId) (dI : Nat → Nat → Nat) (sz : Nat) (h0 : Nat) (fy : List Value) (f0 : Int32) (m0 : Int32) (L_fy : fy.length = 143) (g_fy_1 : fy[1]? = some (.int 0)) : Met l yX14_blocks (wt yX14_blocks cX14_blocks 3 (some .int)) ({ frames := 2, cells := 0, slots := 0, locals := 43 }) (va_Pc [.ref h0, .int f0, .int m0] (st_U dC dI sz [(h0, .inr (12, fy))] [])) (va_Qi (fun (r : Int32) (_ : Unit) => r = (-1)) (fun (_ : Unit) (_ : State) => True) (va_A [(h0, .inr (12, fy))] sz)) 0 0 (va_A [(h0, .inr (12, fy))] sz) := by
  refine Met.ofW (cc := cX14_blocks) (maxL := 3) (ret := (some .int)) (by decide) rfl ?_
  intro p e s m args below meth c s₁ B hml hv
  obtain ⟨rfl, hsz, hP, hK, hD0, hex⟩ := hv
  have hx := B.exec
  have hb := B.bytes
  have hr := B.returns
  have hts0 := atoms_spec (ws := wt yX14_blocks cX14_blocks 3 (some .int)) B.pre
  have hts : ∀ w ∈ tb, w.before _ s = true := fun w h => hts0 w (List.mem_cons_of_mem _ h)
  have hown : s.vm.findClass RX14 = some m.cls := findClass_of_methodNamed B.named
  have hlocks := B.notSynchronized
  subst hsz
  have hD := hD0.self (sz := s.heap.size)
  generalize hAe : va_A [(h0, .inr (12, fy))] s.heap.size = A at hD ⊢
  have hA : ∀ q : Nat, s.heap.size ≤ q → A q := fun q h => by rw [← hAe]; exact Or.inr h
  have hS : va_S A s.heap s.heap [] := va_S.rf
  have hl := lv_entry ([.ref h0, .int f0, .int m0]) (n := 3) (Nat.le_of_ble_eq_true rfl)
  rw [lg_entry_eq]
  generalize (lg_sl ([.ref h0, .int f0, .int m0]) ++ List.replicate (3 - (lg_sl ([.ref h0, .int f0, .int m0])).length) Slot.unset).toArray = ls at hl ⊢
  have hl : lv_has ls 3 [(0, .ref h0), (1, .int f0), (2, .int m0)] := hl
  refine lv_aload_n hx hb dX14_blocks_0 rfl (lv_at hl 0 rfl) ?_
  refine lv_iload_n hx hb dX14_blocks_1 rfl (lv_at hl 1 rfl) ?_
  refine lv_iload_n hx hb dX14_blocks_2 rfl (lv_at hl 2 rfl) ?_
  have hPc := hP.sub (ws' := [(h0, .inr (12, fy))]) [0] rfl
  have hDc := hD.sub (ws' := [(h0, .inr (12, fy))]) [0] (by decide) rfl
  have hKc := hK.sub (tys' := []) [] rfl
  have hFc := va_free (wc := [(h0, .inr (12, fy))]) hD hS hA [0] rfl
  refine va_calli (va_runV (As := [.int f0, .int m0]) (rest := []) ⟨hx, hb, hml, hown, hts⟩ (m_X14_isMethod l dC dI s.heap.size h0 fy f0 m0 L_fy g_fy_1) (cwV 2 hts (gd_V kw_389 kw_390 kw_391 kw_374 kw_392) rfl rfl rfl (by decide +kernel) ⟨Nat.le_of_ble_eq_true rfl, Nat.le_of_ble_eq_true rfl⟩) ⟨st_blind, va_recv hKc hPc (ci := 12) (q0 := 0) rfl rfl, fun U hU hW9 => st_mk hU hW9 hPc hKc hDc hex⟩ rfl rfl hl.1 rfl (lv_room (Nat.le_of_ble_eq_true rfl)) dX14_blocks_3 ⟨Nat.le_of_ble_eq_true rfl, Nat.le_of_ble_eq_true rfl⟩) hS (fun q _ h => hFc q h) hFc (fun r_1 u9 t9 H1 locs ht9 hvm9 hw9 hB9 hz9 hk9 hS => ?_)
  have hP1 : va_P (dC, dI) cl0 [] H1 := fun k q h => by simp at h
  have hD1 : va_D (va_A [(h0, .inr (12, fy))] s.heap.size) [] := ⟨fun i j p q h => by simp at h, fun k q h => by simp at h⟩
  obtain ⟨hP, hD⟩ := va_join (wr := []) (w1 := []) hP hD [0] [] rfl rfl (by decide) (by decide) hk9 hFc hP1 hD1
  generalize H1 = H at hP hS ⊢
  have hP : va_P (dC, dI) cl0 [] H := hP
  have hD : va_D A [] := hD
  have hw9 : r_1 = 0 := hw9
  subst hw9
  refine lv_if_ne (tgt := 11) hx hb dX14_blocks_6 (by decide) (fun c9 => absurd (by decide) c9) (fun _ => ?_)
  refine lv_iconst (v := (-1)) hx hb dX14_blocks_9 (by decide) ?_
  refine W.widen (k := 0) (n := 0) (Nat.le_of_ble_eq_true rfl) (Nat.le_of_ble_eq_true rfl) ?_
  exact W.iret (v := (-1)) hx hb hr (fun t9 ht9 hW9 => ⟨⟨_, (), rfl, rfl, trivial⟩, hS.F ht9⟩) hS.2.2 dX14_blocks_10
set_option maxHeartbeats 4000000 in
set_option maxRecDepth 100000 in
theorem m_X14_block (l : Launch) (dC : Nat → ClassId) (dI : Nat → Nat → Nat) (sz : Nat) (h0 : Nat) (fy : List Value) (f0 : Int32) (m0 : Int32) (b0 : Int32) (w0 : Int32) (L_fy : fy.length = 143) (g_fy_1 : fy[1]? = some (.int 0)) : Met l yX14_block (wt yX14_block cX14_block 5 (some .int)) ({ frames := 2, cells := 0, slots := 0, locals := 43 }) (va_Pc [.ref h0, .int f0, .int m0, .int b0, .int w0] (st_U dC dI sz [(h0, .inr (12, fy))] [])) (va_Qi (fun (r : Int32) (_ : Unit) => r = (-1)) (fun (_ : Unit) (_ : State) => True) (va_A [(h0, .inr (12, fy))] sz)) 0 0 (va_A [(h0, .inr (12, fy))] sz) := by
  refine Met.ofW (cc := cX14_block) (maxL := 5) (ret := (some .int)) (by decide) rfl ?_
  intro p e s m args below meth c s₁ B hml hv
  obtain ⟨rfl, hsz, hP, hK, hD0, hex⟩ := hv
  have hx := B.exec
  have hb := B.bytes
  have hr := B.returns
  have hts0 := atoms_spec (ws := wt yX14_block cX14_block 5 (some .int)) B.pre
  have hts : ∀ w ∈ tb, w.before _ s = true := fun w h => hts0 w (List.mem_cons_of_mem _ h)
  have hown : s.vm.findClass RX14 = some m.cls := findClass_of_methodNamed B.named
  have hlocks := B.notSynchronized
  subst hsz
  have hD := hD0.self (sz := s.heap.size)
  generalize hAe : va_A [(h0, .inr (12, fy))] s.heap.size = A at hD ⊢
  have hA : ∀ q : Nat, s.heap.size ≤ q → A q := fun q h => by rw [← hAe]; exact Or.inr h
  have hS : va_S A s.heap s.heap [] := va_S.rf
  have hl := lv_entry ([.ref h0, .int f0, .int m0, .int b0, .int w0]) (n := 5) (Nat.le_of_ble_eq_true rfl)
  rw [lg_entry_eq]
  generalize (lg_sl ([.ref h0, .int f0, .int m0, .int b0, .int w0]) ++ List.replicate (5 - (lg_sl ([.ref h0, .int f0, .int m0, .int b0, .int w0])).length) Slot.unset).toArray = ls at hl ⊢
  have hl : lv_has ls 5 [(0, .ref h0), (1, .int f0), (2, .int m0), (3, .int b0), (4, .int w0)] := hl
  refine lv_aload_n hx hb dX14_block_0 rfl (lv_at hl 0 rfl) ?_
  refine lv_iload_n hx hb dX14_block_1 rfl (lv_at hl 1 rfl) ?_
  refine lv_iload_n hx hb dX14_block_2 rfl (lv_at hl 2 rfl) ?_
  have hPc := hP.sub (ws' := [(h0, .inr (12, fy))]) [0] rfl
  have hDc := hD.sub (ws' := [(h0, .inr (12, fy))]) [0] (by decide) rfl
  have hKc := hK.sub (tys' := []) [] rfl
  have hFc := va_free (wc := [(h0, .inr (12, fy))]) hD hS hA [0] rfl
  refine va_calli (va_runV (As := [.int f0, .int m0]) (rest := []) ⟨hx, hb, hml, hown, hts⟩ (m_X14_isMethod l dC dI s.heap.size h0 fy f0 m0 L_fy g_fy_1) (cwV 2 hts (gd_V kw_389 kw_390 kw_391 kw_374 kw_392) rfl rfl rfl (by decide +kernel) ⟨Nat.le_of_ble_eq_true rfl, Nat.le_of_ble_eq_true rfl⟩) ⟨st_blind, va_recv hKc hPc (ci := 12) (q0 := 0) rfl rfl, fun U hU hW9 => st_mk hU hW9 hPc hKc hDc hex⟩ rfl rfl hl.1 rfl (lv_room (Nat.le_of_ble_eq_true rfl)) dX14_block_3 ⟨Nat.le_of_ble_eq_true rfl, Nat.le_of_ble_eq_true rfl⟩) hS (fun q _ h => hFc q h) hFc (fun r_1 u9 t9 H1 locs ht9 hvm9 hw9 hB9 hz9 hk9 hS => ?_)
  have hP1 : va_P (dC, dI) cl0 [] H1 := fun k q h => by simp at h
  have hD1 : va_D (va_A [(h0, .inr (12, fy))] s.heap.size) [] := ⟨fun i j p q h => by simp at h, fun k q h => by simp at h⟩
  obtain ⟨hP, hD⟩ := va_join (wr := []) (w1 := []) hP hD [0] [] rfl rfl (by decide) (by decide) hk9 hFc hP1 hD1
  generalize H1 = H at hP hS ⊢
  have hP : va_P (dC, dI) cl0 [] H := hP
  have hD : va_D A [] := hD
  have hw9 : r_1 = 0 := hw9
  subst hw9
  refine lv_if_ne (tgt := 11) hx hb dX14_block_6 (by decide) (fun c9 => absurd (by decide) c9) (fun _ => ?_)
  refine lv_iconst (v := (-1)) hx hb dX14_block_9 (by decide) ?_
  refine W.widen (k := 0) (n := 0) (Nat.le_of_ble_eq_true rfl) (Nat.le_of_ble_eq_true rfl) ?_
  exact W.iret (v := (-1)) hx hb hr (fun t9 ht9 hW9 => ⟨⟨_, (), rfl, rfl, trivial⟩, hS.F ht9⟩) hS.2.2 dX14_block_10
set_option maxHeartbeats 4000000 in
set_option maxRecDepth 100000 in
theorem m_X14_edge (l : Launch) (dC : Nat → ClassId) (dI : Nat → Nat → Nat) (sz : Nat) (h0 : Nat) (fy : List Value) (f0 : Int32) (m0 : Int32) (a0 : Int32) (b0 : Int32) (L_fy : fy.length = 143) (g_fy_1 : fy[1]? = some (.int 0)) : Met l yX14_edge (wt yX14_edge cX14_edge 6 (some .boolean)) ({ frames := 2, cells := 0, slots := 0, locals := 43 }) (va_Pc [.ref h0, .int f0, .int m0, .int a0, .int b0] (st_U dC dI sz [(h0, .inr (12, fy))] [])) (va_Qi (fun (r : Int32) (_ : Unit) => r = 0) (fun (_ : Unit) (_ : State) => True) (va_A [(h0, .inr (12, fy))] sz)) 0 0 (va_A [(h0, .inr (12, fy))] sz) := by
  refine Met.ofW (cc := cX14_edge) (maxL := 6) (ret := (some .boolean)) (by decide) rfl ?_
  intro p e s m args below meth c s₁ B hml hv
  obtain ⟨rfl, hsz, hP, hK, hD0, hex⟩ := hv
  have hx := B.exec
  have hb := B.bytes
  have hr := B.returns
  have hts0 := atoms_spec (ws := wt yX14_edge cX14_edge 6 (some .boolean)) B.pre
  have hts : ∀ w ∈ tb, w.before _ s = true := fun w h => hts0 w (List.mem_cons_of_mem _ h)
  have hown : s.vm.findClass RX14 = some m.cls := findClass_of_methodNamed B.named
  have hlocks := B.notSynchronized
  subst hsz
  have hD := hD0.self (sz := s.heap.size)
  generalize hAe : va_A [(h0, .inr (12, fy))] s.heap.size = A at hD ⊢
  have hA : ∀ q : Nat, s.heap.size ≤ q → A q := fun q h => by rw [← hAe]; exact Or.inr h
  have hS : va_S A s.heap s.heap [] := va_S.rf
  have hl := lv_entry ([.ref h0, .int f0, .int m0, .int a0, .int b0]) (n := 6) (Nat.le_of_ble_eq_true rfl)
  rw [lg_entry_eq]
  generalize (lg_sl ([.ref h0, .int f0, .int m0, .int a0, .int b0]) ++ List.replicate (6 - (lg_sl ([.ref h0, .int f0, .int m0, .int a0, .int b0])).length) Slot.unset).toArray = ls at hl ⊢
  have hl : lv_has ls 6 [(0, .ref h0), (1, .int f0), (2, .int m0), (3, .int a0), (4, .int b0)] := hl
  refine lv_aload_n hx hb dX14_edge_0 rfl (lv_at hl 0 rfl) ?_
  refine lv_iload_n hx hb dX14_edge_1 rfl (lv_at hl 1 rfl) ?_
  refine lv_iload_n hx hb dX14_edge_2 rfl (lv_at hl 2 rfl) ?_
  have hPc := hP.sub (ws' := [(h0, .inr (12, fy))]) [0] rfl
  have hDc := hD.sub (ws' := [(h0, .inr (12, fy))]) [0] (by decide) rfl
  have hKc := hK.sub (tys' := []) [] rfl
  have hFc := va_free (wc := [(h0, .inr (12, fy))]) hD hS hA [0] rfl
  refine va_calli (va_runV (As := [.int f0, .int m0]) (rest := []) ⟨hx, hb, hml, hown, hts⟩ (m_X14_isMethod l dC dI s.heap.size h0 fy f0 m0 L_fy g_fy_1) (cwV 2 hts (gd_V kw_389 kw_390 kw_391 kw_374 kw_392) rfl rfl rfl (by decide +kernel) ⟨Nat.le_of_ble_eq_true rfl, Nat.le_of_ble_eq_true rfl⟩) ⟨st_blind, va_recv hKc hPc (ci := 12) (q0 := 0) rfl rfl, fun U hU hW9 => st_mk hU hW9 hPc hKc hDc hex⟩ rfl rfl hl.1 rfl (lv_room (Nat.le_of_ble_eq_true rfl)) dX14_edge_3 ⟨Nat.le_of_ble_eq_true rfl, Nat.le_of_ble_eq_true rfl⟩) hS (fun q _ h => hFc q h) hFc (fun r_1 u9 t9 H1 locs ht9 hvm9 hw9 hB9 hz9 hk9 hS => ?_)
  have hP1 : va_P (dC, dI) cl0 [] H1 := fun k q h => by simp at h
  have hD1 : va_D (va_A [(h0, .inr (12, fy))] s.heap.size) [] := ⟨fun i j p q h => by simp at h, fun k q h => by simp at h⟩
  obtain ⟨hP, hD⟩ := va_join (wr := []) (w1 := []) hP hD [0] [] rfl rfl (by decide) (by decide) hk9 hFc hP1 hD1
  generalize H1 = H at hP hS ⊢
  have hP : va_P (dC, dI) cl0 [] H := hP
  have hD : va_D A [] := hD
  have hw9 : r_1 = 0 := hw9
  subst hw9
  refine lv_if_ne (tgt := 11) hx hb dX14_edge_6 (by decide) (fun c9 => absurd (by decide) c9) (fun _ => ?_)
  refine lv_iconst (v := 0) hx hb dX14_edge_9 (by decide) ?_
  refine W.widen (k := 0) (n := 0) (Nat.le_of_ble_eq_true rfl) (Nat.le_of_ble_eq_true rfl) ?_
  exact W.zret (v := 0) hx hb hr rfl (fun t9 ht9 hW9 => ⟨⟨_, (), rfl, rfl, trivial⟩, hS.F ht9⟩) hS.2.2 dX14_edge_10
set_option maxHeartbeats 4000000 in
set_option maxRecDepth 100000 in
theorem m_X14_improve (l : Launch) (dC : Nat → ClassId) (dI : Nat → Nat → Nat) (sz : Nat) (h0 : Nat) (fy : List Value) (f0 : Int32) (u0 : Int32) (L_fy : fy.length = 143) (g_fy_1 : fy[1]? = some (.int 0)) : Met l yX14_improve (wt yX14_improve cX14_improve 5 (some .int)) ({ frames := 2, cells := 0, slots := 0, locals := 42 }) (va_Pc [.ref h0, .int f0, .int u0] (st_U dC dI sz [(h0, .inr (12, fy))] [])) (va_Qi (fun (r : Int32) (_ : Unit) => r = (-1)) (fun (_ : Unit) (_ : State) => True) (va_A [(h0, .inr (12, fy))] sz)) 0 0 (va_A [(h0, .inr (12, fy))] sz) := by
  refine Met.ofW (cc := cX14_improve) (maxL := 5) (ret := (some .int)) (by decide) rfl ?_
  intro p e s m args below meth c s₁ B hml hv
  obtain ⟨rfl, hsz, hP, hK, hD0, hex⟩ := hv
  have hx := B.exec
  have hb := B.bytes
  have hr := B.returns
  have hts0 := atoms_spec (ws := wt yX14_improve cX14_improve 5 (some .int)) B.pre
  have hts : ∀ w ∈ tb, w.before _ s = true := fun w h => hts0 w (List.mem_cons_of_mem _ h)
  have hown : s.vm.findClass RX14 = some m.cls := findClass_of_methodNamed B.named
  have hlocks := B.notSynchronized
  subst hsz
  have hD := hD0.self (sz := s.heap.size)
  generalize hAe : va_A [(h0, .inr (12, fy))] s.heap.size = A at hD ⊢
  have hA : ∀ q : Nat, s.heap.size ≤ q → A q := fun q h => by rw [← hAe]; exact Or.inr h
  have hS : va_S A s.heap s.heap [] := va_S.rf
  have hl := lv_entry ([.ref h0, .int f0, .int u0]) (n := 5) (Nat.le_of_ble_eq_true rfl)
  rw [lg_entry_eq]
  generalize (lg_sl ([.ref h0, .int f0, .int u0]) ++ List.replicate (5 - (lg_sl ([.ref h0, .int f0, .int u0])).length) Slot.unset).toArray = ls at hl ⊢
  have hl : lv_has ls 5 [(0, .ref h0), (1, .int f0), (2, .int u0)] := hl
  refine lv_aload_n hx hb dX14_improve_0 rfl (lv_at hl 0 rfl) ?_
  refine lv_iload_n hx hb dX14_improve_1 rfl (lv_at hl 1 rfl) ?_
  have hPc := hP.sub (ws' := [(h0, .inr (12, fy))]) [0] rfl
  have hDc := hD.sub (ws' := [(h0, .inr (12, fy))]) [0] (by decide) rfl
  have hKc := hK.sub (tys' := []) [] rfl
  have hFc := va_free (wc := [(h0, .inr (12, fy))]) hD hS hA [0] rfl
  refine va_calli (va_runV (As := [.int f0]) (rest := []) ⟨hx, hb, hml, hown, hts⟩ (m_X14_isRight l dC dI s.heap.size h0 fy f0 L_fy g_fy_1) (cwV 1 hts (gd_V kw_385 kw_386 kw_387 kw_374 kw_388) rfl rfl rfl (by decide +kernel) ⟨Nat.le_of_ble_eq_true rfl, Nat.le_of_ble_eq_true rfl⟩) ⟨st_blind, va_recv hKc hPc (ci := 12) (q0 := 0) rfl rfl, fun U hU hW9 => st_mk hU hW9 hPc hKc hDc hex⟩ rfl rfl hl.1 rfl (lv_room (Nat.le_of_ble_eq_true rfl)) dX14_improve_2 ⟨Nat.le_of_ble_eq_true rfl, Nat.le_of_ble_eq_true rfl⟩) hS (fun q _ h => hFc q h) hFc (fun r_1 u9 t9 H1 locs ht9 hvm9 hw9 hB9 hz9 hk9 hS => ?_)
  have hP1 : va_P (dC, dI) cl0 [] H1 := fun k q h => by simp at h
  have hD1 : va_D (va_A [(h0, .inr (12, fy))] s.heap.size) [] := ⟨fun i j p q h => by simp at h, fun k q h => by simp at h⟩
  obtain ⟨hP, hD⟩ := va_join (wr := []) (w1 := []) hP hD [0] [] rfl rfl (by decide) (by decide) hk9 hFc hP1 hD1
  generalize H1 = H at hP hS ⊢
  have hP : va_P (dC, dI) cl0 [] H := hP
  have hD : va_D A [] := hD
  have hw9 : r_1 = 0 := hw9
  subst hw9
  refine lv_if_eq (tgt := 19) hx hb dX14_improve_5 (by decide) (fun _ => ?_) (fun c9 => absurd (by decide) c9)
  refine lv_iconst (v := (-1)) hx hb dX14_improve_19 (by decide) ?_
  refine W.widen (k := 0) (n := 0) (Nat.le_of_ble_eq_true rfl) (Nat.le_of_ble_eq_true rfl) ?_
  exact W.iret (v := (-1)) hx hb hr (fun t9 ht9 hW9 => ⟨⟨_, (), rfl, rfl, trivial⟩, hS.F ht9⟩) hS.2.2 dX14_improve_20
set_option maxHeartbeats 4000000 in
set_option maxRecDepth 100000 in
theorem m_X14_count (l : Launch) (dC : Nat → ClassId) (dI : Nat → Nat → Nat) (sz : Nat) (h0 : Nat) (fy : List Value) (f0 : Int32) (L_fy : fy.length = 143) (g_fy_1 : fy[1]? = some (.int 0)) : Met l yX14_count (wt yX14_count cX14_count 6 (some .int)) ({ frames := 2, cells := 0, slots := 0, locals := 42 }) (va_Pc [.ref h0, .int f0] (st_U dC dI sz [(h0, .inr (12, fy))] [])) (va_Qi (fun (r : Int32) (_ : Unit) => r = (-1)) (fun (_ : Unit) (_ : State) => True) (va_A [(h0, .inr (12, fy))] sz)) 0 0 (va_A [(h0, .inr (12, fy))] sz) := by
  refine Met.ofW (cc := cX14_count) (maxL := 6) (ret := (some .int)) (by decide) rfl ?_
  intro p e s m args below meth c s₁ B hml hv
  obtain ⟨rfl, hsz, hP, hK, hD0, hex⟩ := hv
  have hx := B.exec
  have hb := B.bytes
  have hr := B.returns
  have hts0 := atoms_spec (ws := wt yX14_count cX14_count 6 (some .int)) B.pre
  have hts : ∀ w ∈ tb, w.before _ s = true := fun w h => hts0 w (List.mem_cons_of_mem _ h)
  have hown : s.vm.findClass RX14 = some m.cls := findClass_of_methodNamed B.named
  have hlocks := B.notSynchronized
  subst hsz
  have hD := hD0.self (sz := s.heap.size)
  generalize hAe : va_A [(h0, .inr (12, fy))] s.heap.size = A at hD ⊢
  have hA : ∀ q : Nat, s.heap.size ≤ q → A q := fun q h => by rw [← hAe]; exact Or.inr h
  have hS : va_S A s.heap s.heap [] := va_S.rf
  have hl := lv_entry ([.ref h0, .int f0]) (n := 6) (Nat.le_of_ble_eq_true rfl)
  rw [lg_entry_eq]
  generalize (lg_sl ([.ref h0, .int f0]) ++ List.replicate (6 - (lg_sl ([.ref h0, .int f0])).length) Slot.unset).toArray = ls at hl ⊢
  have hl : lv_has ls 6 [(0, .ref h0), (1, .int f0)] := hl
  refine lv_aload_n hx hb dX14_count_0 rfl (lv_at hl 0 rfl) ?_
  refine lv_iload_n hx hb dX14_count_1 rfl (lv_at hl 1 rfl) ?_
  have hPc := hP.sub (ws' := [(h0, .inr (12, fy))]) [0] rfl
  have hDc := hD.sub (ws' := [(h0, .inr (12, fy))]) [0] (by decide) rfl
  have hKc := hK.sub (tys' := []) [] rfl
  have hFc := va_free (wc := [(h0, .inr (12, fy))]) hD hS hA [0] rfl
  refine va_calli (va_runV (As := [.int f0]) (rest := []) ⟨hx, hb, hml, hown, hts⟩ (m_X14_isRight l dC dI s.heap.size h0 fy f0 L_fy g_fy_1) (cwV 1 hts (gd_V kw_385 kw_386 kw_387 kw_374 kw_388) rfl rfl rfl (by decide +kernel) ⟨Nat.le_of_ble_eq_true rfl, Nat.le_of_ble_eq_true rfl⟩) ⟨st_blind, va_recv hKc hPc (ci := 12) (q0 := 0) rfl rfl, fun U hU hW9 => st_mk hU hW9 hPc hKc hDc hex⟩ rfl rfl hl.1 rfl (lv_room (Nat.le_of_ble_eq_true rfl)) dX14_count_2 ⟨Nat.le_of_ble_eq_true rfl, Nat.le_of_ble_eq_true rfl⟩) hS (fun q _ h => hFc q h) hFc (fun r_1 u9 t9 H1 locs ht9 hvm9 hw9 hB9 hz9 hk9 hS => ?_)
  have hP1 : va_P (dC, dI) cl0 [] H1 := fun k q h => by simp at h
  have hD1 : va_D (va_A [(h0, .inr (12, fy))] s.heap.size) [] := ⟨fun i j p q h => by simp at h, fun k q h => by simp at h⟩
  obtain ⟨hP, hD⟩ := va_join (wr := []) (w1 := []) hP hD [0] [] rfl rfl (by decide) (by decide) hk9 hFc hP1 hD1
  generalize H1 = H at hP hS ⊢
  have hP : va_P (dC, dI) cl0 [] H := hP
  have hD : va_D A [] := hD
  have hw9 : r_1 = 0 := hw9
  subst hw9
  refine lv_if_ne (tgt := 10) hx hb dX14_count_5 (by decide) (fun c9 => absurd (by decide) c9) (fun _ => ?_)
  refine lv_iconst (v := (-1)) hx hb dX14_count_8 (by decide) ?_
  refine W.widen (k := 0) (n := 0) (Nat.le_of_ble_eq_true rfl) (Nat.le_of_ble_eq_true rfl) ?_
  exact W.iret (v := (-1)) hx hb hr (fun t9 ht9 hW9 => ⟨⟨_, (), rfl, rfl, trivial⟩, hS.F ht9⟩) hS.2.2 dX14_count_9
set_option maxHeartbeats 4000000 in
set_option maxRecDepth 100000 in
theorem m_X14_byteAt (l : Launch) (dC : Nat → ClassId) (dI : Nat → Nat → Nat) (sz : Nat) (h0 : Nat) (fy : List Value) (i0 : Int32) (L_fy : fy.length = 143) (g_fy_78 : fy[78]? = some (.int 0)) : Met l yX14_byteAt (wt yX14_byteAt cX14_byteAt 2 (some .int)) ({ frames := 0, cells := 0, slots := 0, locals := 0 }) (va_Pc [.ref h0, .int i0] (st_U dC dI sz [(h0, .inr (12, fy))] [])) (va_Qi (fun (r : Int32) (_ : Unit) => r = (-1)) (fun (_ : Unit) (_ : State) => True) (va_A [(h0, .inr (12, fy))] sz)) 0 0 (va_A [(h0, .inr (12, fy))] sz) := by
  refine Met.ofW (cc := cX14_byteAt) (maxL := 2) (ret := (some .int)) (by decide) rfl ?_
  intro p e s m args below meth c s₁ B hml hv
  obtain ⟨rfl, hsz, hP, hK, hD0, hex⟩ := hv
  have hx := B.exec
  have hb := B.bytes
  have hr := B.returns
  have hts0 := atoms_spec (ws := wt yX14_byteAt cX14_byteAt 2 (some .int)) B.pre
  have hts : ∀ w ∈ tb, w.before _ s = true := fun w h => hts0 w (List.mem_cons_of_mem _ h)
  have hown : s.vm.findClass RX14 = some m.cls := findClass_of_methodNamed B.named
  have hlocks := B.notSynchronized
  subst hsz
  have hD := hD0.self (sz := s.heap.size)
  generalize hAe : va_A [(h0, .inr (12, fy))] s.heap.size = A at hD ⊢
  have hA : ∀ q : Nat, s.heap.size ≤ q → A q := fun q h => by rw [← hAe]; exact Or.inr h
  have hS : va_S A s.heap s.heap [] := va_S.rf
  have hl := lv_entry ([.ref h0, .int i0]) (n := 2) (Nat.le_of_ble_eq_true rfl)
  rw [lg_entry_eq]
  generalize (lg_sl ([.ref h0, .int i0]) ++ List.replicate (2 - (lg_sl ([.ref h0, .int i0])).length) Slot.unset).toArray = ls at hl ⊢
  have hl : lv_has ls 2 [(0, .ref h0), (1, .int i0)] := hl
  refine lv_iload_n hx hb dX14_byteAt_0 rfl (lv_at hl 1 rfl) ?_
  refine lv_if_lt (tgt := 25) hx hb dX14_byteAt_1 (by decide) (fun c_1 => ?_) (fun c_1 => ?_)
  · refine lv_iconst (v := (-1)) hx hb dX14_byteAt_25 (by decide) ?_
    refine W.widen (k := 0) (n := 0) (Nat.le_of_ble_eq_true rfl) (Nat.le_of_ble_eq_true rfl) ?_
    exact W.iret (v := (-1)) hx hb hr (fun t9 ht9 hW9 => ⟨⟨_, (), rfl, rfl, trivial⟩, hS.F ht9⟩) hS.2.2 dX14_byteAt_26
  · refine lv_iload_n hx hb dX14_byteAt_4 rfl (lv_at hl 1 rfl) ?_
    refine lv_aload_n hx hb dX14_byteAt_5 rfl (lv_at hl 0 rfl) ?_
    refine va_get (D := (dC, dI)) (ci := 12) (v := .int 0) (C := RX14) (T := TX14) (N := 143) hx hb hts inX14 hown hK hP 0 rfl rfl 78 (by decide) (hts _ kw_397) (fun _ h9 => h9) g_fy_78 dX14_byteAt_6 ?_
    refine lv_icmp_ge (tgt := 25) hx hb dX14_byteAt_9 (by decide) (fun c_9 => ?_) (fun c_9 => False.elim (k_ge c_1 c_9))
    refine lv_iconst (v := (-1)) hx hb dX14_byteAt_25 (by decide) ?_
    refine W.widen (k := 0) (n := 0) (Nat.le_of_ble_eq_true rfl) (Nat.le_of_ble_eq_true rfl) ?_
    exact W.iret (v := (-1)) hx hb hr (fun t9 ht9 hW9 => ⟨⟨_, (), rfl, rfl, trivial⟩, hS.F ht9⟩) hS.2.2 dX14_byteAt_26
set_option maxHeartbeats 4000000 in
set_option maxRecDepth 100000 in
theorem m_X14_argument (l : Launch) (dC : Nat → ClassId) (dI : Nat → Nat → Nat) (sz : Nat) (h0 : Nat) (fy : List Value) (hya : Nat) (cJ : ClassId) (v : Int64) (L_fy : fy.length = 143) (g_fy_87 : fy[87]? = some (.ref hya)) (g_fy_88 : fy[88]? = some (.int 0)) : Met l yX14_argument (wt yX14_argument cX14_argument 3 (some .int)) ({ frames := 0, cells := 0, slots := 0, locals := 0 }) (va_Pc [.ref h0, .long v] (st_U dC dI sz [(h0, .inr (12, fy)), (hya, .inl (cJ, 8, .inr (.inl (fun _ => 0))))] [(cJ, .long)])) (va_Qi (fun (r : Int32) (_ : Unit) => r = 1) (fun (_ : Unit) (_ : State) => True) (va_A [(h0, .inr (12, fy)), (hya, .inl (cJ, 8, .inr (.inl (fun _ => 0))))] sz)) 0 0 (va_A [(h0, .inr (12, fy)), (hya, .inl (cJ, 8, .inr (.inl (fun _ => 0))))] sz) := by
  refine Met.ofW (cc := cX14_argument) (maxL := 3) (ret := (some .int)) (by decide) rfl ?_
  intro p e s m args below meth c s₁ B hml hv
  obtain ⟨rfl, hsz, hP, hK, hD0, hex⟩ := hv
  have hx := B.exec
  have hb := B.bytes
  have hr := B.returns
  have hts0 := atoms_spec (ws := wt yX14_argument cX14_argument 3 (some .int)) B.pre
  have hts : ∀ w ∈ tb, w.before _ s = true := fun w h => hts0 w (List.mem_cons_of_mem _ h)
  have hown : s.vm.findClass RX14 = some m.cls := findClass_of_methodNamed B.named
  have hlocks := B.notSynchronized
  subst hsz
  have hD := hD0.self (sz := s.heap.size)
  generalize hAe : va_A [(h0, .inr (12, fy)), (hya, .inl (cJ, 8, .inr (.inl (fun _ => 0))))] s.heap.size = A at hD ⊢
  have hA : ∀ q : Nat, s.heap.size ≤ q → A q := fun q h => by rw [← hAe]; exact Or.inr h
  have hS : va_S A s.heap s.heap [] := va_S.rf
  have hl := lv_entry ([.ref h0, .long v]) (n := 3) (Nat.le_of_ble_eq_true rfl)
  rw [lg_entry_eq]
  generalize (lg_sl ([.ref h0, .long v]) ++ List.replicate (3 - (lg_sl ([.ref h0, .long v])).length) Slot.unset).toArray = ls at hl ⊢
  have hl : lv_has ls 3 [(0, .ref h0), (1, .long v)] := hl
  refine lv_aload_n hx hb dX14_argument_0 rfl (lv_at hl 0 rfl) ?_
  refine va_get (D := (dC, dI)) (ci := 12) (v := .int 0) (C := RX14) (T := TX14) (N := 143) hx hb hts inX14 hown hK hP 0 rfl rfl 88 (by decide) (hts _ kw_398) (fun _ h9 => h9) g_fy_88 dX14_argument_1 ?_
  refine lv_bipush (v := 8) hx hb dX14_argument_4 (by decide) ?_
  refine lv_icmp_ne (tgt := 11) hx hb dX14_argument_6 (by decide) (fun _ => ?_) (fun c9 => absurd c9 (by decide))
  refine lv_aload_n hx hb dX14_argument_11 rfl (lv_at hl 0 rfl) ?_
  refine va_get (D := (dC, dI)) (ci := 12) (v := .ref hya) (C := RX14) (T := TX14) (N := 143) hx hb hts inX14 hown hK hP 0 rfl rfl 87 (by decide) (hts _ kw_320) (fun _ h9 => h9) g_fy_87 dX14_argument_12 ?_
  refine lv_aload_n hx hb dX14_argument_15 rfl (lv_at hl 0 rfl) ?_
  refine va_get (D := (dC, dI)) (ci := 12) (v := .int 0) (C := RX14) (T := TX14) (N := 143) hx hb hts inX14 hown hK hP 0 rfl rfl 88 (by decide) (hts _ kw_398) (fun _ h9 => h9) g_fy_88 dX14_argument_16 ?_
  refine lv_lload_n hx hb dX14_argument_19 rfl (lv_at hl 1 rfl) ?_
  refine va_last hx hb hK hP hD hS 1 0 rfl rfl (vi rfl) dX14_argument_20 (fun H locs hP hD hS => ?_)
  obtain ⟨f_1, e_f_1⟩ : ∃ z, z = vp_updL (fun _ => 0) (0 : Int32).toNatClampNeg v := ⟨_, rfl⟩
  have hP : va_P (dC, dI) cl0 [(h0, .inr (12, fy)), (hya, .inl (cJ, 8, .inr (.inl f_1)))] H := by rw [e_f_1]; exact hP
  have hD : va_D A [(h0, .inr (12, fy)), (hya, .inl (cJ, 8, .inr (.inl f_1)))] := by rw [e_f_1]; exact hD
  refine lv_aload_n hx hb dX14_argument_21 rfl (lv_at hl 0 rfl) ?_
  refine lv_dup hx hb dX14_argument_22 rfl ?_
  refine va_get (D := (dC, dI)) (ci := 12) (v := .int 0) (C := RX14) (T := TX14) (N := 143) hx hb hts inX14 hown hK hP 0 rfl rfl 88 (by decide) (hts _ kw_398) (fun _ h9 => h9) g_fy_88 dX14_argument_23 ?_
  refine lv_iconst (v := 1) hx hb dX14_argument_26 (by decide) ?_
  refine lv_iadd hx hb dX14_argument_27 ?_
  refine lv_topi (fun z_2 ez_2 => ?_)
  obtain rfl : z_2 = 1 := ez_2.trans (by decide)
  refine va_put (D := (dC, dI)) (ci := 12) (v := .int 1) (ty := .int) (C := RX14) (T := TX14) (N := 143) hx hb hts inX14 tyX14 tyX14_ok nmX14 hown hK hP hD hS 0 rfl rfl 88 (by decide) (hts _ kw_398) (fun _ h9 => h9) rfl (by decide +kernel) rfl rfl (by rw [L_fy]; decide) dX14_argument_28 (fun H locs hP hD hS => ?_)
  obtain ⟨fy_3, e_fy_3⟩ : ∃ z, z = fy.set 88 (.int 1) := ⟨_, rfl⟩
  have hP : va_P (dC, dI) cl0 [(h0, .inr (12, fy_3)), (hya, .inl (cJ, 8, .inr (.inl f_1)))] H := by rw [e_fy_3]; exact hP
  have hD : va_D A [(h0, .inr (12, fy_3)), (hya, .inl (cJ, 8, .inr (.inl f_1)))] := by rw [e_fy_3]; exact hD
  have L_fy_3 : fy_3.length = 143 := fx_len e_fy_3 L_fy
  have g_fy_3_87 := fx_ne (j := 87) e_fy_3 g_fy_87 (by decide)
  have g_fy_3_88 := fx_self e_fy_3 (by rw [L_fy]; decide)
  refine lv_aload_n hx hb dX14_argument_31 rfl (lv_at hl 0 rfl) ?_
  refine va_get (D := (dC, dI)) (ci := 12) (v := .int 1) (C := RX14) (T := TX14) (N := 143) hx hb hts inX14 hown hK hP 0 rfl rfl 88 (by decide) (hts _ kw_398) (fun _ h9 => h9) g_fy_3_88 dX14_argument_32 ?_
  refine W.widen (k := 0) (n := 0) (Nat.le_of_ble_eq_true rfl) (Nat.le_of_ble_eq_true rfl) ?_
  exact W.iret (v := 1) hx hb hr (fun t9 ht9 hW9 => ⟨⟨_, (), rfl, rfl, trivial⟩, hS.F ht9⟩) hS.2.2 dX14_argument_35
set_option maxHeartbeats 4000000 in
set_option maxRecDepth 100000 in
theorem m_X14_run (l : Launch) (dC : Nat → ClassId) (dI : Nat → Nat → Nat) (sz : Nat) (h0 : Nat) (fy : List Value) (m0 : Int32) (u0 : Int32) (L_fy : fy.length = 143) (g_fy_80 : fy[80]? = some (.null)) (g_fy_88 : fy[88]? = some (.int 0)) : Met l yX14_run (wt yX14_run cX14_run 7 (some .int)) ({ frames := 0, cells := 0, slots := 0, locals := 0 }) (va_Pc [.ref h0, .int m0, .int u0] (st_U dC dI sz [(h0, .inr (12, fy))] [])) (va_Qi (fun (r : Int32) (_ : Unit) => r = (-1)) (fun (_ : Unit) (_ : State) => True) (va_A [(h0, .inr (12, fy))] sz)) 0 0 (va_A [(h0, .inr (12, fy))] sz) := by
  refine Met.ofW (cc := cX14_run) (maxL := 7) (ret := (some .int)) (by decide) rfl ?_
  intro p e s m args below meth c s₁ B hml hv
  obtain ⟨rfl, hsz, hP, hK, hD0, hex⟩ := hv
  have hx := B.exec
  have hb := B.bytes
  have hr := B.returns
  have hts0 := atoms_spec (ws := wt yX14_run cX14_run 7 (some .int)) B.pre
  have hts : ∀ w ∈ tb, w.before _ s = true := fun w h => hts0 w (List.mem_cons_of_mem _ h)
  have hown : s.vm.findClass RX14 = some m.cls := findClass_of_methodNamed B.named
  have hlocks := B.notSynchronized
  subst hsz
  have hD := hD0.self (sz := s.heap.size)
  generalize hAe : va_A [(h0, .inr (12, fy))] s.heap.size = A at hD ⊢
  have hA : ∀ q : Nat, s.heap.size ≤ q → A q := fun q h => by rw [← hAe]; exact Or.inr h
  have hS : va_S A s.heap s.heap [] := va_S.rf
  have hl := lv_entry ([.ref h0, .int m0, .int u0]) (n := 7) (Nat.le_of_ble_eq_true rfl)
  rw [lg_entry_eq]
  generalize (lg_sl ([.ref h0, .int m0, .int u0]) ++ List.replicate (7 - (lg_sl ([.ref h0, .int m0, .int u0])).length) Slot.unset).toArray = ls at hl ⊢
  have hl : lv_has ls 7 [(0, .ref h0), (1, .int m0), (2, .int u0)] := hl
  refine lv_aload_n hx hb dX14_run_0 rfl (lv_at hl 0 rfl) ?_
  refine va_get (D := (dC, dI)) (ci := 12) (v := .int 0) (C := RX14) (T := TX14) (N := 143) hx hb hts inX14 hown hK hP 0 rfl rfl 88 (by decide) (hts _ kw_398) (fun _ h9 => h9) g_fy_88 dX14_run_1 ?_
  refine lv_istore_n (lv' := [(3, .int 0), (0, .ref h0), (1, .int m0), (2, .int u0)]) hx hb dX14_run_4 rfl hl (by decide) rfl (fun ls hl => ?_)
  refine lv_aload_n hx hb dX14_run_5 rfl (lv_at hl 1 rfl) ?_
  refine lv_iconst (v := 0) hx hb dX14_run_6 (by decide) ?_
  refine va_put (D := (dC, dI)) (ci := 12) (v := .int 0) (ty := .int) (C := RX14) (T := TX14) (N := 143) hx hb hts inX14 tyX14 tyX14_ok nmX14 hown hK hP hD hS 0 rfl rfl 88 (by decide) (hts _ kw_398) (fun _ h9 => h9) rfl (by decide +kernel) rfl rfl (by rw [L_fy]; decide) dX14_run_7 (fun H locs hP hD hS => ?_)
  obtain ⟨fy_1, e_fy_1⟩ : ∃ z, z = fy.set 88 (.int 0) := ⟨_, rfl⟩
  have hP : va_P (dC, dI) cl0 [(h0, .inr (12, fy_1))] H := by rw [e_fy_1]; exact hP
  have hD : va_D A [(h0, .inr (12, fy_1))] := by rw [e_fy_1]; exact hD
  have L_fy_1 : fy_1.length = 143 := fx_len e_fy_1 L_fy
  have g_fy_1_80 := fx_ne (j := 80) e_fy_1 g_fy_80 (by decide)
  have g_fy_1_88 := fx_self e_fy_1 (by rw [L_fy]; decide)
  refine lv_aload_n hx hb dX14_run_10 rfl (lv_at hl 1 rfl) ?_
  refine va_get (D := (dC, dI)) (ci := 12) (v := .null) (C := RX14) (T := TX14) (N := 143) hx hb hts inX14 hown hK hP 0 rfl rfl 80 (by decide) (hts _ kw_399) (fun _ h9 => h9) g_fy_1_80 dX14_run_11 ?_
  refine lv_ifnullN (tgt := 32) hx hb dX14_run_14 (by decide) ?_
  refine lv_iconst (v := (-1)) hx hb dX14_run_32 (by decide) ?_
  refine W.widen (k := 0) (n := 0) (Nat.le_of_ble_eq_true rfl) (Nat.le_of_ble_eq_true rfl) ?_
  exact W.iret (v := (-1)) hx hb hr (fun t9 ht9 hW9 => ⟨⟨_, (), rfl, rfl, trivial⟩, hS.F ht9⟩) hS.2.2 dX14_run_33
set_option maxHeartbeats 4000000 in
set_option maxRecDepth 100000 in
theorem m_X14_field (l : Launch) (dC : Nat → ClassId) (dI : Nat → Nat → Nat) (sz : Nat) (h0 : Nat) (fy : List Value) (k0 : Int32) (L_fy : fy.length = 143) (g_fy_80 : fy[80]? = some (.null)) : Met l yX14_field (wt yX14_field cX14_field 2 (some .long)) ({ frames := 0, cells := 0, slots := 0, locals := 0 }) (va_Pc [.ref h0, .int k0] (st_U dC dI sz [(h0, .inr (12, fy))] [])) (va_Ql (fun (r : Int64) (_ : Unit) => r = 0) (fun (_ : Unit) (_ : State) => True) (va_A [(h0, .inr (12, fy))] sz)) 0 0 (va_A [(h0, .inr (12, fy))] sz) := by
  refine Met.ofW (cc := cX14_field) (maxL := 2) (ret := (some .long)) (by decide) rfl ?_
  intro p e s m args below meth c s₁ B hml hv
  obtain ⟨rfl, hsz, hP, hK, hD0, hex⟩ := hv
  have hx := B.exec
  have hb := B.bytes
  have hr := B.returns
  have hts0 := atoms_spec (ws := wt yX14_field cX14_field 2 (some .long)) B.pre
  have hts : ∀ w ∈ tb, w.before _ s = true := fun w h => hts0 w (List.mem_cons_of_mem _ h)
  have hown : s.vm.findClass RX14 = some m.cls := findClass_of_methodNamed B.named
  have hlocks := B.notSynchronized
  subst hsz
  have hD := hD0.self (sz := s.heap.size)
  generalize hAe : va_A [(h0, .inr (12, fy))] s.heap.size = A at hD ⊢
  have hA : ∀ q : Nat, s.heap.size ≤ q → A q := fun q h => by rw [← hAe]; exact Or.inr h
  have hS : va_S A s.heap s.heap [] := va_S.rf
  have hl := lv_entry ([.ref h0, .int k0]) (n := 2) (Nat.le_of_ble_eq_true rfl)
  rw [lg_entry_eq]
  generalize (lg_sl ([.ref h0, .int k0]) ++ List.replicate (2 - (lg_sl ([.ref h0, .int k0])).length) Slot.unset).toArray = ls at hl ⊢
  have hl : lv_has ls 2 [(0, .ref h0), (1, .int k0)] := hl
  refine lv_aload_n hx hb dX14_field_0 rfl (lv_at hl 0 rfl) ?_
  refine va_get (D := (dC, dI)) (ci := 12) (v := .null) (C := RX14) (T := TX14) (N := 143) hx hb hts inX14 hown hK hP 0 rfl rfl 80 (by decide) (hts _ kw_399) (fun _ h9 => h9) g_fy_80 dX14_field_1 ?_
  refine lv_ifnullN (tgt := 31) hx hb dX14_field_4 (by decide) ?_
  refine lv_lconst (v := 0) hx hb dX14_field_31 (by decide) ?_
  refine W.widen (k := 0) (n := 0) (Nat.le_of_ble_eq_true rfl) (Nat.le_of_ble_eq_true rfl) ?_
  exact W.lret (v := 0) hx hb hr (fun t9 ht9 hW9 => ⟨⟨_, (), rfl, rfl, trivial⟩, hS.F ht9⟩) hS.2.2 dX14_field_32
set_option maxHeartbeats 4000000 in
set_option maxRecDepth 100000 in
theorem m_X14_element (l : Launch) (dC : Nat → ClassId) (dI : Nat → Nat → Nat) (sz : Nat) (h0 : Nat) (fy : List Value) (a0 : Int32) (i0 : Int32) (L_fy : fy.length = 143) (g_fy_85 : fy[85]? = some (.int 0)) : Met l yX14_element (wt yX14_element cX14_element 3 (some .int)) ({ frames := 0, cells := 0, slots := 0, locals := 0 }) (va_Pc [.ref h0, .int a0, .int i0] (st_U dC dI sz [(h0, .inr (12, fy))] [])) (va_Qi (fun (r : Int32) (_ : Unit) => r = 0) (fun (_ : Unit) (_ : State) => True) (va_A [(h0, .inr (12, fy))] sz)) 0 0 (va_A [(h0, .inr (12, fy))] sz) := by
  refine Met.ofW (cc := cX14_element) (maxL := 3) (ret := (some .int)) (by decide) rfl ?_
  intro p e s m args below meth c s₁ B hml hv
  obtain ⟨rfl, hsz, hP, hK, hD0, hex⟩ := hv
  have hx := B.exec
  have hb := B.bytes
  have hr := B.returns
  have hts0 := atoms_spec (ws := wt yX14_element cX14_element 3 (some .int)) B.pre
  have hts : ∀ w ∈ tb, w.before _ s = true := fun w h => hts0 w (List.mem_cons_of_mem _ h)
  have hown : s.vm.findClass RX14 = some m.cls := findClass_of_methodNamed B.named
  have hlocks := B.notSynchronized
  subst hsz
  have hD := hD0.self (sz := s.heap.size)
  generalize hAe : va_A [(h0, .inr (12, fy))] s.heap.size = A at hD ⊢
  have hA : ∀ q : Nat, s.heap.size ≤ q → A q := fun q h => by rw [← hAe]; exact Or.inr h
  have hS : va_S A s.heap s.heap [] := va_S.rf
  have hl := lv_entry ([.ref h0, .int a0, .int i0]) (n := 3) (Nat.le_of_ble_eq_true rfl)
  rw [lg_entry_eq]
  generalize (lg_sl ([.ref h0, .int a0, .int i0]) ++ List.replicate (3 - (lg_sl ([.ref h0, .int a0, .int i0])).length) Slot.unset).toArray = ls at hl ⊢
  have hl : lv_has ls 3 [(0, .ref h0), (1, .int a0), (2, .int i0)] := hl
  refine lv_iload_n hx hb dX14_element_0 rfl (lv_at hl 1 rfl) ?_
  refine lv_iconst (v := 1) hx hb dX14_element_1 (by decide) ?_
  refine lv_icmp_lt (tgt := 43) hx hb dX14_element_2 (by decide) (fun c_2 => ?_) (fun c_2 => ?_)
  · refine lv_iconst (v := 0) hx hb dX14_element_43 (by decide) ?_
    refine W.widen (k := 0) (n := 0) (Nat.le_of_ble_eq_true rfl) (Nat.le_of_ble_eq_true rfl) ?_
    exact W.iret (v := 0) hx hb hr (fun t9 ht9 hW9 => ⟨⟨_, (), rfl, rfl, trivial⟩, hS.F ht9⟩) hS.2.2 dX14_element_44
  · refine lv_iload_n hx hb dX14_element_5 rfl (lv_at hl 1 rfl) ?_
    refine lv_aload_n hx hb dX14_element_6 rfl (lv_at hl 0 rfl) ?_
    refine va_get (D := (dC, dI)) (ci := 12) (v := .int 0) (C := RX14) (T := TX14) (N := 143) hx hb hts inX14 hown hK hP 0 rfl rfl 85 (by decide) (hts _ kw_400) (fun _ h9 => h9) g_fy_85 dX14_element_7 ?_
    refine lv_icmp_gt (tgt := 43) hx hb dX14_element_10 (by decide) (fun c_10 => ?_) (fun c_10 => False.elim (k_gt1 c_2 c_10))
    refine lv_iconst (v := 0) hx hb dX14_element_43 (by decide) ?_
    refine W.widen (k := 0) (n := 0) (Nat.le_of_ble_eq_true rfl) (Nat.le_of_ble_eq_true rfl) ?_
    exact W.iret (v := 0) hx hb hr (fun t9 ht9 hW9 => ⟨⟨_, (), rfl, rfl, trivial⟩, hS.F ht9⟩) hS.2.2 dX14_element_44
set_option maxHeartbeats 4000000 in
set_option maxRecDepth 100000 in
theorem m_X14_arrayLength (l : Launch) (dC : Nat → ClassId) (dI : Nat → Nat → Nat) (sz : Nat) (h0 : Nat) (fy : List Value) (a0 : Int32) (L_fy : fy.length = 143) (g_fy_85 : fy[85]? = some (.int 0)) : Met l yX14_arrayLength (wt yX14_arrayLength cX14_arrayLength 2 (some .int)) ({ frames := 0, cells := 0, slots := 0, locals := 0 }) (va_Pc [.ref h0, .int a0] (st_U dC dI sz [(h0, .inr (12, fy))] [])) (va_Qi (fun (r : Int32) (_ : Unit) => r = (-1)) (fun (_ : Unit) (_ : State) => True) (va_A [(h0, .inr (12, fy))] sz)) 0 0 (va_A [(h0, .inr (12, fy))] sz) := by
  refine Met.ofW (cc := cX14_arrayLength) (maxL := 2) (ret := (some .int)) (by decide) rfl ?_
  intro p e s m args below meth c s₁ B hml hv
  obtain ⟨rfl, hsz, hP, hK, hD0, hex⟩ := hv
  have hx := B.exec
  have hb := B.bytes
  have hr := B.returns
  have hts0 := atoms_spec (ws := wt yX14_arrayLength cX14_arrayLength 2 (some .int)) B.pre
  have hts : ∀ w ∈ tb, w.before _ s = true := fun w h => hts0 w (List.mem_cons_of_mem _ h)
  have hown : s.vm.findClass RX14 = some m.cls := findClass_of_methodNamed B.named
  have hlocks := B.notSynchronized
  subst hsz
  have hD := hD0.self (sz := s.heap.size)
  generalize hAe : va_A [(h0, .inr (12, fy))] s.heap.size = A at hD ⊢
  have hA : ∀ q : Nat, s.heap.size ≤ q → A q := fun q h => by rw [← hAe]; exact Or.inr h
  have hS : va_S A s.heap s.heap [] := va_S.rf
  have hl := lv_entry ([.ref h0, .int a0]) (n := 2) (Nat.le_of_ble_eq_true rfl)
  rw [lg_entry_eq]
  generalize (lg_sl ([.ref h0, .int a0]) ++ List.replicate (2 - (lg_sl ([.ref h0, .int a0])).length) Slot.unset).toArray = ls at hl ⊢
  have hl : lv_has ls 2 [(0, .ref h0), (1, .int a0)] := hl
  refine lv_iload_n hx hb dX14_arrayLength_0 rfl (lv_at hl 1 rfl) ?_
  refine lv_iconst (v := 1) hx hb dX14_arrayLength_1 (by decide) ?_
  refine lv_icmp_lt (tgt := 22) hx hb dX14_arrayLength_2 (by decide) (fun c_2 => ?_) (fun c_2 => ?_)
  · refine lv_iconst (v := (-1)) hx hb dX14_arrayLength_22 (by decide) ?_
    refine W.widen (k := 0) (n := 0) (Nat.le_of_ble_eq_true rfl) (Nat.le_of_ble_eq_true rfl) ?_
    exact W.iret (v := (-1)) hx hb hr (fun t9 ht9 hW9 => ⟨⟨_, (), rfl, rfl, trivial⟩, hS.F ht9⟩) hS.2.2 dX14_arrayLength_23
  · refine lv_iload_n hx hb dX14_arrayLength_5 rfl (lv_at hl 1 rfl) ?_
    refine lv_aload_n hx hb dX14_arrayLength_6 rfl (lv_at hl 0 rfl) ?_
    refine va_get (D := (dC, dI)) (ci := 12) (v := .int 0) (C := RX14) (T := TX14) (N := 143) hx hb hts inX14 hown hK hP 0 rfl rfl 85 (by decide) (hts _ kw_400) (fun _ h9 => h9) g_fy_85 dX14_arrayLength_7 ?_
    refine lv_icmp_gt (tgt := 22) hx hb dX14_arrayLength_10 (by decide) (fun c_10 => ?_) (fun c_10 => False.elim (k_gt1 c_2 c_10))
    refine lv_iconst (v := (-1)) hx hb dX14_arrayLength_22 (by decide) ?_
    refine W.widen (k := 0) (n := 0) (Nat.le_of_ble_eq_true rfl) (Nat.le_of_ble_eq_true rfl) ?_
    exact W.iret (v := (-1)) hx hb hr (fun t9 ht9 hW9 => ⟨⟨_, (), rfl, rfl, trivial⟩, hS.F ht9⟩) hS.2.2 dX14_arrayLength_23
set_option maxHeartbeats 4000000 in
set_option maxRecDepth 100000 in
theorem m_X14_applied (l : Launch) (dC : Nat → ClassId) (dI : Nat → Nat → Nat) (sz : Nat) (h0 : Nat) (fy : List Value) (hyd : Nat) (cI : ClassId) (r0 : Int32) (L_fy : fy.length = 143) (g_fy_124 : fy[124]? = some (.ref hyd)) : Met l yX14_applied (wt yX14_applied cX14_applied 2 (some .int)) ({ frames := 0, cells := 0, slots := 0, locals := 0 }) (va_Pc [.ref h0, .int r0] (st_U dC dI sz [(h0, .inr (12, fy)), (hyd, .inl (cI, 12, .inl (fun _ => 0)))] [(cI, .int)])) (va_Qi (fun (r : Int32) (_ : Unit) => r = 0) (fun (_ : Unit) (_ : State) => True) (va_A [(h0, .inr (12, fy)), (hyd, .inl (cI, 12, .inl (fun _ => 0)))] sz)) 0 0 (va_A [(h0, .inr (12, fy)), (hyd, .inl (cI, 12, .inl (fun _ => 0)))] sz) := by
  refine Met.ofW (cc := cX14_applied) (maxL := 2) (ret := (some .int)) (by decide) rfl ?_
  intro p e s m args below meth c s₁ B hml hv
  obtain ⟨rfl, hsz, hP, hK, hD0, hex⟩ := hv
  have hx := B.exec
  have hb := B.bytes
  have hr := B.returns
  have hts0 := atoms_spec (ws := wt yX14_applied cX14_applied 2 (some .int)) B.pre
  have hts : ∀ w ∈ tb, w.before _ s = true := fun w h => hts0 w (List.mem_cons_of_mem _ h)
  have hown : s.vm.findClass RX14 = some m.cls := findClass_of_methodNamed B.named
  have hlocks := B.notSynchronized
  subst hsz
  have hD := hD0.self (sz := s.heap.size)
  generalize hAe : va_A [(h0, .inr (12, fy)), (hyd, .inl (cI, 12, .inl (fun _ => 0)))] s.heap.size = A at hD ⊢
  have hA : ∀ q : Nat, s.heap.size ≤ q → A q := fun q h => by rw [← hAe]; exact Or.inr h
  have hS : va_S A s.heap s.heap [] := va_S.rf
  have hl := lv_entry ([.ref h0, .int r0]) (n := 2) (Nat.le_of_ble_eq_true rfl)
  rw [lg_entry_eq]
  generalize (lg_sl ([.ref h0, .int r0]) ++ List.replicate (2 - (lg_sl ([.ref h0, .int r0])).length) Slot.unset).toArray = ls at hl ⊢
  have hl : lv_has ls 2 [(0, .ref h0), (1, .int r0)] := hl
  refine lv_iload_n hx hb dX14_applied_0 rfl (lv_at hl 1 rfl) ?_
  refine lv_iconst (v := 1) hx hb dX14_applied_1 (by decide) ?_
  refine lv_icmp_lt (tgt := 20) hx hb dX14_applied_2 (by decide) (fun c_2 => ?_) (fun c_2 => ?_)
  · refine lv_iconst (v := 0) hx hb dX14_applied_20 (by decide) ?_
    refine W.widen (k := 0) (n := 0) (Nat.le_of_ble_eq_true rfl) (Nat.le_of_ble_eq_true rfl) ?_
    exact W.iret (v := 0) hx hb hr (fun t9 ht9 hW9 => ⟨⟨_, (), rfl, rfl, trivial⟩, hS.F ht9⟩) hS.2.2 dX14_applied_21
  · refine lv_iload_n hx hb dX14_applied_5 rfl (lv_at hl 1 rfl) ?_
    refine lv_bipush (v := 11) hx hb dX14_applied_6 (by decide) ?_
    refine lv_icmp_gt (tgt := 20) hx hb dX14_applied_8 (by decide) (fun c_8 => ?_) (fun c_8 => ?_)
    · refine lv_iconst (v := 0) hx hb dX14_applied_20 (by decide) ?_
      refine W.widen (k := 0) (n := 0) (Nat.le_of_ble_eq_true rfl) (Nat.le_of_ble_eq_true rfl) ?_
      exact W.iret (v := 0) hx hb hr (fun t9 ht9 hW9 => ⟨⟨_, (), rfl, rfl, trivial⟩, hS.F ht9⟩) hS.2.2 dX14_applied_21
    · refine lv_aload_n hx hb dX14_applied_11 rfl (lv_at hl 0 rfl) ?_
      refine va_get (D := (dC, dI)) (ci := 12) (v := .ref hyd) (C := RX14) (T := TX14) (N := 143) hx hb hts inX14 hown hK hP 0 rfl rfl 124 (by decide) (hts _ kw_352) (fun _ h9 => h9) g_fy_124 dX14_applied_12 ?_
      refine lv_iload_n hx hb dX14_applied_15 rfl (lv_at hl 1 rfl) ?_
      refine va_iald hx hb hK hP 1 0 rfl rfl (k_in12m c_2 c_8) dX14_applied_16 ?_
      refine lv_topi (fun z9 ez9 => ?_)
      obtain rfl : z9 = 0 := ez9
      refine lv_goto (tgt := 21) hx hb dX14_applied_17 (by decide) ?_
      refine W.widen (k := 0) (n := 0) (Nat.le_of_ble_eq_true rfl) (Nat.le_of_ble_eq_true rfl) ?_
      exact W.iret (v := 0) hx hb hr (fun t9 ht9 hW9 => ⟨⟨_, (), rfl, rfl, trivial⟩, hS.F ht9⟩) hS.2.2 dX14_applied_21
