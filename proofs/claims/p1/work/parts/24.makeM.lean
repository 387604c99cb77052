set_option maxHeartbeats 4000000 in
set_option maxRecDepth 100000 in
theorem m_X13_init (l : Launch) (dC : Nat → ClassId) (dI : Nat → Nat → Nat) (sz : Nat) (h0 : Nat)  : Met l yX13_init (wt yX13_init cX13_init 1 none) ({ frames := 1, cells := 13, slots := 312, locals := 12 }) (va_Pc [.ref h0] (st_U dC dI sz [(h0, .inr (11, dfX13))] [])) (va_Qv (fun _ : Unit => True) (fun (_ : Unit) (_ : State) => True) (va_A [(h0, .inr (11, dfX13))] sz)) 13 312 (va_A [(h0, .inr (11, dfX13))] sz) := by
  refine Met.ofW (cc := cX13_init) (maxL := 1) (ret := none) (by decide) rfl ?_
  intro p e s m args below meth c s₁ B hml hv
  obtain ⟨rfl, hsz, hP, hK, hD0, hex⟩ := hv
  have hx := B.exec
  have hb := B.bytes
  have hr := B.returns
  have hts0 := atoms_spec (ws := wt yX13_init cX13_init 1 none) B.pre
  have hts : ∀ w ∈ tb, w.before _ s = true := fun w h => hts0 w (List.mem_cons_of_mem _ h)
  have hown : s.vm.findClass RX13 = some m.cls := findClass_of_methodNamed B.named
  have hlocks := B.notSynchronized
  have hin : meth.name = "<init>" := (name_of_methodNamed B.named B.method).1
  subst hsz
  have hD := hD0.self (sz := s.heap.size)
  generalize hAe : va_A [(h0, .inr (11, dfX13))] s.heap.size = A at hD ⊢
  have hA : ∀ q : Nat, s.heap.size ≤ q → A q := fun q h => by rw [← hAe]; exact Or.inr h
  have hS : va_S A s.heap s.heap [] := va_S.rf
  have hl := lv_entry ([.ref h0]) (n := 1) (Nat.le_of_ble_eq_true rfl)
  rw [lg_entry_eq]
  generalize (lg_sl ([.ref h0]) ++ List.replicate (1 - (lg_sl ([.ref h0])).length) Slot.unset).toArray = ls at hl ⊢
  have hl : lv_has ls 1 [(0, .ref h0)] := hl
  refine lv_aload_n hx hb dX13_init_0 rfl (lv_at hl 0 rfl) ?_
  refine W.objInit hx hb hown (hts _ kw_252) (hts _ kw_1) (hts _ kw_2) rfl (by rw [hml]; exact hl.1) rfl dX13_init_1 (Nat.le_of_ble_eq_true rfl) (Nat.le_of_ble_eq_true rfl) ?_
  refine W.eq (g2 := F0 m 4 ls []) rfl ?_
  refine lv_aload_n hx hb dX13_init_4 rfl (lv_at hl 0 rfl) ?_
  refine lv_bipush (v := 24) hx hb dX13_init_5 (by decide) ?_
  refine va_newq (C := "java/lang/String") (N' := 24) hx hb hown (hts _ kw_253) (ao_of (by exact ao_java_lang_String) hex) hK hP hD hS hA (by decide) (by decide) (by decide) (Nat.le_of_ble_eq_true rfl) (Nat.le_of_ble_eq_true rfl) dX13_init_7 (fun q_1 cA_2 H hK hP hD hS => ?_)
  have hP := hP.sub (ws' := [(h0, .inr (11, dfX13))]) [0] rfl
  have hD := hD.sub (ws' := [(h0, .inr (11, dfX13))]) [0] (by decide) rfl
  have hK := hK.sub (tys' := []) [] rfl
  refine W.widen (k := 1) (n := 24) (Nat.le_of_ble_eq_true rfl) (Nat.le_of_ble_eq_true rfl) ?_
  refine va_putF (D := (dC, dI)) (ci := 11) (v := .ref q_1) (ty := (.array (.object "java/lang/String"))) (C := RX13) (T := TX13) (N := 23) hx hb hts inX13 tyX13 tyX13_ok nmX13 hown hK hP hD hS 0 rfl rfl 5 (by decide) (hts _ kw_254) (fun _ h9 => h9) rfl hin rfl (by decide +kernel) rfl rfl (by rw [L_dfX13]; decide) dX13_init_10 (fun H locs hP hD hS => ?_)
  obtain ⟨dfX13_3, e_dfX13_3⟩ : ∃ z, z = dfX13.set 5 (.ref q_1) := ⟨_, rfl⟩
  have hP : va_P (dC, dI) cl0 [(h0, .inr (11, dfX13_3))] H := by rw [e_dfX13_3]; exact hP
  have hD : va_D A [(h0, .inr (11, dfX13_3))] := by rw [e_dfX13_3]; exact hD
  have L_dfX13_3 : dfX13_3.length = 23 := fx_len e_dfX13_3 L_dfX13
  refine lv_aload_n hx hb dX13_init_13 rfl (lv_at hl 0 rfl) ?_
  refine lv_bipush (v := 24) hx hb dX13_init_14 (by decide) ?_
  refine va_newq (C := "java/lang/String") (N' := 24) hx hb hown (hts _ kw_253) (ao_of (by exact ao_java_lang_String) hex) hK hP hD hS hA (by decide) (by decide) (by decide) (Nat.le_of_ble_eq_true rfl) (Nat.le_of_ble_eq_true rfl) dX13_init_16 (fun q_4 cA_5 H hK hP hD hS => ?_)
  have hP := hP.sub (ws' := [(h0, .inr (11, dfX13_3))]) [0] rfl
  have hD := hD.sub (ws' := [(h0, .inr (11, dfX13_3))]) [0] (by decide) rfl
  have hK := hK.sub (tys' := []) [] rfl
  refine W.widen (k := 2) (n := 48) (Nat.le_of_ble_eq_true rfl) (Nat.le_of_ble_eq_true rfl) ?_
  refine va_putF (D := (dC, dI)) (ci := 11) (v := .ref q_4) (ty := (.array (.object "java/lang/String"))) (C := RX13) (T := TX13) (N := 23) hx hb hts inX13 tyX13 tyX13_ok nmX13 hown hK hP hD hS 0 rfl rfl 6 (by decide) (hts _ kw_255) (fun _ h9 => h9) rfl hin rfl (by decide +kernel) rfl rfl (by rw [L_dfX13_3]; decide) dX13_init_19 (fun H locs hP hD hS => ?_)
  obtain ⟨dfX13_6, e_dfX13_6⟩ : ∃ z, z = dfX13_3.set 6 (.ref q_4) := ⟨_, rfl⟩
  have hP : va_P (dC, dI) cl0 [(h0, .inr (11, dfX13_6))] H := by rw [e_dfX13_6]; exact hP
  have hD : va_D A [(h0, .inr (11, dfX13_6))] := by rw [e_dfX13_6]; exact hD
  have L_dfX13_6 : dfX13_6.length = 23 := fx_len e_dfX13_6 L_dfX13_3
  refine lv_aload_n hx hb dX13_init_22 rfl (lv_at hl 0 rfl) ?_
  refine lv_bipush (v := 24) hx hb dX13_init_23 (by decide) ?_
  refine va_newq (C := "java/lang/String") (N' := 24) hx hb hown (hts _ kw_253) (ao_of (by exact ao_java_lang_String) hex) hK hP hD hS hA (by decide) (by decide) (by decide) (Nat.le_of_ble_eq_true rfl) (Nat.le_of_ble_eq_true rfl) dX13_init_25 (fun q_7 cA_8 H hK hP hD hS => ?_)
  have hP := hP.sub (ws' := [(h0, .inr (11, dfX13_6))]) [0] rfl
  have hD := hD.sub (ws' := [(h0, .inr (11, dfX13_6))]) [0] (by decide) rfl
  have hK := hK.sub (tys' := []) [] rfl
  refine W.widen (k := 3) (n := 72) (Nat.le_of_ble_eq_true rfl) (Nat.le_of_ble_eq_true rfl) ?_
  refine va_putF (D := (dC, dI)) (ci := 11) (v := .ref q_7) (ty := (.array (.object "java/lang/String"))) (C := RX13) (T := TX13) (N := 23) hx hb hts inX13 tyX13 tyX13_ok nmX13 hown hK hP hD hS 0 rfl rfl 7 (by decide) (hts _ kw_256) (fun _ h9 => h9) rfl hin rfl (by decide +kernel) rfl rfl (by rw [L_dfX13_6]; decide) dX13_init_28 (fun H locs hP hD hS => ?_)
  obtain ⟨dfX13_9, e_dfX13_9⟩ : ∃ z, z = dfX13_6.set 7 (.ref q_7) := ⟨_, rfl⟩
  have hP : va_P (dC, dI) cl0 [(h0, .inr (11, dfX13_9))] H := by rw [e_dfX13_9]; exact hP
  have hD : va_D A [(h0, .inr (11, dfX13_9))] := by rw [e_dfX13_9]; exact hD
  have L_dfX13_9 : dfX13_9.length = 23 := fx_len e_dfX13_9 L_dfX13_6
  refine lv_aload_n hx hb dX13_init_31 rfl (lv_at hl 0 rfl) ?_
  refine lv_bipush (v := 24) hx hb dX13_init_32 (by decide) ?_
  refine va_newq (C := "java/lang/String") (N' := 24) hx hb hown (hts _ kw_253) (ao_of (by exact ao_java_lang_String) hex) hK hP hD hS hA (by decide) (by decide) (by decide) (Nat.le_of_ble_eq_true rfl) (Nat.le_of_ble_eq_true rfl) dX13_init_34 (fun q_10 cA_11 H hK hP hD hS => ?_)
  have hP := hP.sub (ws' := [(h0, .inr (11, dfX13_9))]) [0] rfl
  have hD := hD.sub (ws' := [(h0, .inr (11, dfX13_9))]) [0] (by decide) rfl
  have hK := hK.sub (tys' := []) [] rfl
  refine W.widen (k := 4) (n := 96) (Nat.le_of_ble_eq_true rfl) (Nat.le_of_ble_eq_true rfl) ?_
  refine va_putF (D := (dC, dI)) (ci := 11) (v := .ref q_10) (ty := (.array (.object "java/lang/String"))) (C := RX13) (T := TX13) (N := 23) hx hb hts inX13 tyX13 tyX13_ok nmX13 hown hK hP hD hS 0 rfl rfl 8 (by decide) (hts _ kw_257) (fun _ h9 => h9) rfl hin rfl (by decide +kernel) rfl rfl (by rw [L_dfX13_9]; decide) dX13_init_37 (fun H locs hP hD hS => ?_)
  obtain ⟨dfX13_12, e_dfX13_12⟩ : ∃ z, z = dfX13_9.set 8 (.ref q_10) := ⟨_, rfl⟩
  have hP : va_P (dC, dI) cl0 [(h0, .inr (11, dfX13_12))] H := by rw [e_dfX13_12]; exact hP
  have hD : va_D A [(h0, .inr (11, dfX13_12))] := by rw [e_dfX13_12]; exact hD
  have L_dfX13_12 : dfX13_12.length = 23 := fx_len e_dfX13_12 L_dfX13_9
  refine lv_aload_n hx hb dX13_init_40 rfl (lv_at hl 0 rfl) ?_
  refine lv_bipush (v := 24) hx hb dX13_init_41 (by decide) ?_
  refine va_newq (C := "java/lang/String") (N' := 24) hx hb hown (hts _ kw_253) (ao_of (by exact ao_java_lang_String) hex) hK hP hD hS hA (by decide) (by decide) (by decide) (Nat.le_of_ble_eq_true rfl) (Nat.le_of_ble_eq_true rfl) dX13_init_43 (fun q_13 cA_14 H hK hP hD hS => ?_)
  have hP := hP.sub (ws' := [(h0, .inr (11, dfX13_12))]) [0] rfl
  have hD := hD.sub (ws' := [(h0, .inr (11, dfX13_12))]) [0] (by decide) rfl
  have hK := hK.sub (tys' := []) [] rfl
  refine W.widen (k := 5) (n := 120) (Nat.le_of_ble_eq_true rfl) (Nat.le_of_ble_eq_true rfl) ?_
  refine va_putF (D := (dC, dI)) (ci := 11) (v := .ref q_13) (ty := (.array (.object "java/lang/String"))) (C := RX13) (T := TX13) (N := 23) hx hb hts inX13 tyX13 tyX13_ok nmX13 hown hK hP hD hS 0 rfl rfl 9 (by decide) (hts _ kw_258) (fun _ h9 => h9) rfl hin rfl (by decide +kernel) rfl rfl (by rw [L_dfX13_12]; decide) dX13_init_46 (fun H locs hP hD hS => ?_)
  obtain ⟨dfX13_15, e_dfX13_15⟩ : ∃ z, z = dfX13_12.set 9 (.ref q_13) := ⟨_, rfl⟩
  have hP : va_P (dC, dI) cl0 [(h0, .inr (11, dfX13_15))] H := by rw [e_dfX13_15]; exact hP
  have hD : va_D A [(h0, .inr (11, dfX13_15))] := by rw [e_dfX13_15]; exact hD
  have L_dfX13_15 : dfX13_15.length = 23 := fx_len e_dfX13_15 L_dfX13_12
  refine lv_aload_n hx hb dX13_init_49 rfl (lv_at hl 0 rfl) ?_
  refine lv_bipush (v := 24) hx hb dX13_init_50 (by decide) ?_
  refine va_newq (C := "java/lang/String") (N' := 24) hx hb hown (hts _ kw_253) (ao_of (by exact ao_java_lang_String) hex) hK hP hD hS hA (by decide) (by decide) (by decide) (Nat.le_of_ble_eq_true rfl) (Nat.le_of_ble_eq_true rfl) dX13_init_52 (fun q_16 cA_17 H hK hP hD hS => ?_)
  have hP := hP.sub (ws' := [(h0, .inr (11, dfX13_15))]) [0] rfl
  have hD := hD.sub (ws' := [(h0, .inr (11, dfX13_15))]) [0] (by decide) rfl
  have hK := hK.sub (tys' := []) [] rfl
  refine W.widen (k := 6) (n := 144) (Nat.le_of_ble_eq_true rfl) (Nat.le_of_ble_eq_true rfl) ?_
  refine va_putF (D := (dC, dI)) (ci := 11) (v := .ref q_16) (ty := (.array (.object "java/lang/String"))) (C := RX13) (T := TX13) (N := 23) hx hb hts inX13 tyX13 tyX13_ok nmX13 hown hK hP hD hS 0 rfl rfl 10 (by decide) (hts _ kw_259) (fun _ h9 => h9) rfl hin rfl (by decide +kernel) rfl rfl (by rw [L_dfX13_15]; decide) dX13_init_55 (fun H locs hP hD hS => ?_)
  obtain ⟨dfX13_18, e_dfX13_18⟩ : ∃ z, z = dfX13_15.set 10 (.ref q_16) := ⟨_, rfl⟩
  have hP : va_P (dC, dI) cl0 [(h0, .inr (11, dfX13_18))] H := by rw [e_dfX13_18]; exact hP
  have hD : va_D A [(h0, .inr (11, dfX13_18))] := by rw [e_dfX13_18]; exact hD
  have L_dfX13_18 : dfX13_18.length = 23 := fx_len e_dfX13_18 L_dfX13_15
  refine lv_aload_n hx hb dX13_init_58 rfl (lv_at hl 0 rfl) ?_
  refine lv_bipush (v := 24) hx hb dX13_init_59 (by decide) ?_
  refine va_newq (C := "java/lang/String") (N' := 24) hx hb hown (hts _ kw_253) (ao_of (by exact ao_java_lang_String) hex) hK hP hD hS hA (by decide) (by decide) (by decide) (Nat.le_of_ble_eq_true rfl) (Nat.le_of_ble_eq_true rfl) dX13_init_61 (fun q_19 cA_20 H hK hP hD hS => ?_)
  have hP := hP.sub (ws' := [(h0, .inr (11, dfX13_18))]) [0] rfl
  have hD := hD.sub (ws' := [(h0, .inr (11, dfX13_18))]) [0] (by decide) rfl
  have hK := hK.sub (tys' := []) [] rfl
  refine W.widen (k := 7) (n := 168) (Nat.le_of_ble_eq_true rfl) (Nat.le_of_ble_eq_true rfl) ?_
  refine va_putF (D := (dC, dI)) (ci := 11) (v := .ref q_19) (ty := (.array (.object "java/lang/String"))) (C := RX13) (T := TX13) (N := 23) hx hb hts inX13 tyX13 tyX13_ok nmX13 hown hK hP hD hS 0 rfl rfl 11 (by decide) (hts _ kw_260) (fun _ h9 => h9) rfl hin rfl (by decide +kernel) rfl rfl (by rw [L_dfX13_18]; decide) dX13_init_64 (fun H locs hP hD hS => ?_)
  obtain ⟨dfX13_21, e_dfX13_21⟩ : ∃ z, z = dfX13_18.set 11 (.ref q_19) := ⟨_, rfl⟩
  have hP : va_P (dC, dI) cl0 [(h0, .inr (11, dfX13_21))] H := by rw [e_dfX13_21]; exact hP
  have hD : va_D A [(h0, .inr (11, dfX13_21))] := by rw [e_dfX13_21]; exact hD
  have L_dfX13_21 : dfX13_21.length = 23 := fx_len e_dfX13_21 L_dfX13_18
  refine lv_aload_n hx hb dX13_init_67 rfl (lv_at hl 0 rfl) ?_
  refine lv_bipush (v := 24) hx hb dX13_init_68 (by decide) ?_
  refine va_newa (atype := .int) (ty := .int) (a0 := (24, .inl (fun _ => 0))) (N' := 24) hx hb (hts (.arrayClass .int) kw_6) rfl hK hP hD hS hA (fun _ => rfl) (by decide) (by decide) (by decide) (Nat.le_of_ble_eq_true rfl) (Nat.le_of_ble_eq_true rfl) dX13_init_70 (fun q_22 cA_23 H hK hP hD hS => ?_)
  have hP := hP.sub (ws' := [(h0, .inr (11, dfX13_21))]) [0] rfl
  have hD := hD.sub (ws' := [(h0, .inr (11, dfX13_21))]) [0] (by decide) rfl
  have hK := hK.sub (tys' := []) [] rfl
  refine W.widen (k := 8) (n := 192) (Nat.le_of_ble_eq_true rfl) (Nat.le_of_ble_eq_true rfl) ?_
  refine va_putF (D := (dC, dI)) (ci := 11) (v := .ref q_22) (ty := (.array .int)) (C := RX13) (T := TX13) (N := 23) hx hb hts inX13 tyX13 tyX13_ok nmX13 hown hK hP hD hS 0 rfl rfl 12 (by decide) (hts _ kw_261) (fun _ h9 => h9) rfl hin rfl (by decide +kernel) rfl rfl (by rw [L_dfX13_21]; decide) dX13_init_72 (fun H locs hP hD hS => ?_)
  obtain ⟨dfX13_24, e_dfX13_24⟩ : ∃ z, z = dfX13_21.set 12 (.ref q_22) := ⟨_, rfl⟩
  have hP : va_P (dC, dI) cl0 [(h0, .inr (11, dfX13_24))] H := by rw [e_dfX13_24]; exact hP
  have hD : va_D A [(h0, .inr (11, dfX13_24))] := by rw [e_dfX13_24]; exact hD
  have L_dfX13_24 : dfX13_24.length = 23 := fx_len e_dfX13_24 L_dfX13_21
  refine lv_aload_n hx hb dX13_init_75 rfl (lv_at hl 0 rfl) ?_
  refine lv_bipush (v := 24) hx hb dX13_init_76 (by decide) ?_
  refine va_newa (atype := .int) (ty := .int) (a0 := (24, .inl (fun _ => 0))) (N' := 24) hx hb (hts (.arrayClass .int) kw_6) rfl hK hP hD hS hA (fun _ => rfl) (by decide) (by decide) (by decide) (Nat.le_of_ble_eq_true rfl) (Nat.le_of_ble_eq_true rfl) dX13_init_78 (fun q_25 cA_26 H hK hP hD hS => ?_)
  have hP := hP.sub (ws' := [(h0, .inr (11, dfX13_24))]) [0] rfl
  have hD := hD.sub (ws' := [(h0, .inr (11, dfX13_24))]) [0] (by decide) rfl
  have hK := hK.sub (tys' := []) [] rfl
  refine W.widen (k := 9) (n := 216) (Nat.le_of_ble_eq_true rfl) (Nat.le_of_ble_eq_true rfl) ?_
  refine va_putF (D := (dC, dI)) (ci := 11) (v := .ref q_25) (ty := (.array .int)) (C := RX13) (T := TX13) (N := 23) hx hb hts inX13 tyX13 tyX13_ok nmX13 hown hK hP hD hS 0 rfl rfl 13 (by decide) (hts _ kw_262) (fun _ h9 => h9) rfl hin rfl (by decide +kernel) rfl rfl (by rw [L_dfX13_24]; decide) dX13_init_80 (fun H locs hP hD hS => ?_)
  obtain ⟨dfX13_27, e_dfX13_27⟩ : ∃ z, z = dfX13_24.set 13 (.ref q_25) := ⟨_, rfl⟩
  have hP : va_P (dC, dI) cl0 [(h0, .inr (11, dfX13_27))] H := by rw [e_dfX13_27]; exact hP
  have hD : va_D A [(h0, .inr (11, dfX13_27))] := by rw [e_dfX13_27]; exact hD
  have L_dfX13_27 : dfX13_27.length = 23 := fx_len e_dfX13_27 L_dfX13_24
  refine lv_aload_n hx hb dX13_init_83 rfl (lv_at hl 0 rfl) ?_
  refine lv_bipush (v := 24) hx hb dX13_init_84 (by decide) ?_
  refine va_newa (atype := .int) (ty := .int) (a0 := (24, .inl (fun _ => 0))) (N' := 24) hx hb (hts (.arrayClass .int) kw_6) rfl hK hP hD hS hA (fun _ => rfl) (by decide) (by decide) (by decide) (Nat.le_of_ble_eq_true rfl) (Nat.le_of_ble_eq_true rfl) dX13_init_86 (fun q_28 cA_29 H hK hP hD hS => ?_)
  have hP := hP.sub (ws' := [(h0, .inr (11, dfX13_27))]) [0] rfl
  have hD := hD.sub (ws' := [(h0, .inr (11, dfX13_27))]) [0] (by decide) rfl
  have hK := hK.sub (tys' := []) [] rfl
  refine W.widen (k := 10) (n := 240) (Nat.le_of_ble_eq_true rfl) (Nat.le_of_ble_eq_true rfl) ?_
  refine va_putF (D := (dC, dI)) (ci := 11) (v := .ref q_28) (ty := (.array .int)) (C := RX13) (T := TX13) (N := 23) hx hb hts inX13 tyX13 tyX13_ok nmX13 hown hK hP hD hS 0 rfl rfl 14 (by decide) (hts _ kw_263) (fun _ h9 => h9) rfl hin rfl (by decide +kernel) rfl rfl (by rw [L_dfX13_27]; decide) dX13_init_88 (fun H locs hP hD hS => ?_)
  obtain ⟨dfX13_30, e_dfX13_30⟩ : ∃ z, z = dfX13_27.set 14 (.ref q_28) := ⟨_, rfl⟩
  have hP : va_P (dC, dI) cl0 [(h0, .inr (11, dfX13_30))] H := by rw [e_dfX13_30]; exact hP
  have hD : va_D A [(h0, .inr (11, dfX13_30))] := by rw [e_dfX13_30]; exact hD
  have L_dfX13_30 : dfX13_30.length = 23 := fx_len e_dfX13_30 L_dfX13_27
  refine lv_aload_n hx hb dX13_init_91 rfl (lv_at hl 0 rfl) ?_
  refine lv_bipush (v := 24) hx hb dX13_init_92 (by decide) ?_
  refine va_newa (atype := .int) (ty := .int) (a0 := (24, .inl (fun _ => 0))) (N' := 24) hx hb (hts (.arrayClass .int) kw_6) rfl hK hP hD hS hA (fun _ => rfl) (by decide) (by decide) (by decide) (Nat.le_of_ble_eq_true rfl) (Nat.le_of_ble_eq_true rfl) dX13_init_94 (fun q_31 cA_32 H hK hP hD hS => ?_)
  have hP := hP.sub (ws' := [(h0, .inr (11, dfX13_30))]) [0] rfl
  have hD := hD.sub (ws' := [(h0, .inr (11, dfX13_30))]) [0] (by decide) rfl
  have hK := hK.sub (tys' := []) [] rfl
  refine W.widen (k := 11) (n := 264) (Nat.le_of_ble_eq_true rfl) (Nat.le_of_ble_eq_true rfl) ?_
  refine va_putF (D := (dC, dI)) (ci := 11) (v := .ref q_31) (ty := (.array .int)) (C := RX13) (T := TX13) (N := 23) hx hb hts inX13 tyX13 tyX13_ok nmX13 hown hK hP hD hS 0 rfl rfl 15 (by decide) (hts _ kw_264) (fun _ h9 => h9) rfl hin rfl (by decide +kernel) rfl rfl (by rw [L_dfX13_30]; decide) dX13_init_96 (fun H locs hP hD hS => ?_)
  obtain ⟨dfX13_33, e_dfX13_33⟩ : ∃ z, z = dfX13_30.set 15 (.ref q_31) := ⟨_, rfl⟩
  have hP : va_P (dC, dI) cl0 [(h0, .inr (11, dfX13_33))] H := by rw [e_dfX13_33]; exact hP
  have hD : va_D A [(h0, .inr (11, dfX13_33))] := by rw [e_dfX13_33]; exact hD
  have L_dfX13_33 : dfX13_33.length = 23 := fx_len e_dfX13_33 L_dfX13_30
  refine lv_aload_n hx hb dX13_init_99 rfl (lv_at hl 0 rfl) ?_
  refine lv_bipush (v := 24) hx hb dX13_init_100 (by decide) ?_
  refine va_newa (atype := .int) (ty := .int) (a0 := (24, .inl (fun _ => 0))) (N' := 24) hx hb (hts (.arrayClass .int) kw_6) rfl hK hP hD hS hA (fun _ => rfl) (by decide) (by decide) (by decide) (Nat.le_of_ble_eq_true rfl) (Nat.le_of_ble_eq_true rfl) dX13_init_102 (fun q_34 cA_35 H hK hP hD hS => ?_)
  have hP := hP.sub (ws' := [(h0, .inr (11, dfX13_33))]) [0] rfl
  have hD := hD.sub (ws' := [(h0, .inr (11, dfX13_33))]) [0] (by decide) rfl
  have hK := hK.sub (tys' := []) [] rfl
  refine W.widen (k := 12) (n := 288) (Nat.le_of_ble_eq_true rfl) (Nat.le_of_ble_eq_true rfl) ?_
  refine va_putF (D := (dC, dI)) (ci := 11) (v := .ref q_34) (ty := (.array .int)) (C := RX13) (T := TX13) (N := 23) hx hb hts inX13 tyX13 tyX13_ok nmX13 hown hK hP hD hS 0 rfl rfl 16 (by decide) (hts _ kw_265) (fun _ h9 => h9) rfl hin rfl (by decide +kernel) rfl rfl (by rw [L_dfX13_33]; decide) dX13_init_104 (fun H locs hP hD hS => ?_)
  obtain ⟨dfX13_36, e_dfX13_36⟩ : ∃ z, z = dfX13_33.set 16 (.ref q_34) := ⟨_, rfl⟩
  have hP : va_P (dC, dI) cl0 [(h0, .inr (11, dfX13_36))] H := by rw [e_dfX13_36]; exact hP
  have hD : va_D A [(h0, .inr (11, dfX13_36))] := by rw [e_dfX13_36]; exact hD
  have L_dfX13_36 : dfX13_36.length = 23 := fx_len e_dfX13_36 L_dfX13_33
  refine lv_aload_n hx hb dX13_init_107 rfl (lv_at hl 0 rfl) ?_
  refine lv_bipush (v := 24) hx hb dX13_init_108 (by decide) ?_
  refine va_newa (atype := .int) (ty := .int) (a0 := (24, .inl (fun _ => 0))) (N' := 24) hx hb (hts (.arrayClass .int) kw_6) rfl hK hP hD hS hA (fun _ => rfl) (by decide) (by decide) (by decide) (Nat.le_of_ble_eq_true rfl) (Nat.le_of_ble_eq_true rfl) dX13_init_110 (fun q_37 cA_38 H hK hP hD hS => ?_)
  have hP := hP.sub (ws' := [(h0, .inr (11, dfX13_36))]) [0] rfl
  have hD := hD.sub (ws' := [(h0, .inr (11, dfX13_36))]) [0] (by decide) rfl
  have hK := hK.sub (tys' := []) [] rfl
  refine W.widen (k := 13) (n := 312) (Nat.le_of_ble_eq_true rfl) (Nat.le_of_ble_eq_true rfl) ?_
  refine va_putF (D := (dC, dI)) (ci := 11) (v := .ref q_37) (ty := (.array .int)) (C := RX13) (T := TX13) (N := 23) hx hb hts inX13 tyX13 tyX13_ok nmX13 hown hK hP hD hS 0 rfl rfl 17 (by decide) (hts _ kw_266) (fun _ h9 => h9) rfl hin rfl (by decide +kernel) rfl rfl (by rw [L_dfX13_36]; decide) dX13_init_112 (fun H locs hP hD hS => ?_)
  obtain ⟨dfX13_39, e_dfX13_39⟩ : ∃ z, z = dfX13_36.set 17 (.ref q_37) := ⟨_, rfl⟩
  have hP : va_P (dC, dI) cl0 [(h0, .inr (11, dfX13_39))] H := by rw [e_dfX13_39]; exact hP
  have hD : va_D A [(h0, .inr (11, dfX13_39))] := by rw [e_dfX13_39]; exact hD
  have L_dfX13_39 : dfX13_39.length = 23 := fx_len e_dfX13_39 L_dfX13_36
  refine W.widen (k := 13) (n := 312) (Nat.le_of_ble_eq_true rfl) (Nat.le_of_ble_eq_true rfl) ?_
  exact W.vret hx hb hr (fun t9 ht9 hW9 => ⟨⟨(), rfl, trivial, trivial⟩, hS.F ht9⟩) hS.2.2 dX13_init_115
set_option maxHeartbeats 4000000 in
set_option maxRecDepth 100000 in
theorem m_X14_init (l : Launch) (dC : Nat → ClassId) (dI : Nat → Nat → Nat) (sz : Nat) (h0 : Nat) (hlt : l.stackTraces = false)  : Met l yX14_init (wt yX14_init cX14_init 1 none) ({ frames := 6, cells := 92, slots := 853293, locals := 83 }) (va_Pc [.ref h0] (st_E exq dC dI sz [(h0, .inr (12, dfX14))] [])) (va_Qv (fun _ : Unit => True) (fun (_ : Unit) (t : State) => ∃ (fy : List Value), ∃ (ht : Nat), ∃ (cB : ClassId), ∃ (hst : Nat), ∃ (hya : Nat), ∃ (cJ : ClassId), ∃ (hyd : Nat), ∃ (cI : ClassId), (fy.length = 143) ∧ (fy[1]? = some (.int 0)) ∧ (fy[3]? = some (.ref ht)) ∧ (fy[4]? = some (.int 0)) ∧ (fy[5]? = some (.int 0)) ∧ (fy[6]? = some (.ref hst)) ∧ (fy[9]? = some (.int 0)) ∧ (fy[10]? = some (.int (-1))) ∧ (fy[64]? = some (.int (-1))) ∧ (fy[65]? = some (.int (-1))) ∧ (fy[78]? = some (.int 0)) ∧ (fy[80]? = some (.null)) ∧ (fy[85]? = some (.int 0)) ∧ (fy[87]? = some (.ref hya)) ∧ (fy[88]? = some (.int 0)) ∧ (fy[96]? = some (.int 0)) ∧ (fy[100]? = some (.int 0)) ∧ (fy[101]? = some (.long 0)) ∧ (fy[102]? = some (.int (-1))) ∧ (fy[124]? = some (.ref hyd)) ∧ va_P (dC, dI) cl0 [(h0, .inr (12, fy)), (ht, .inl (cB, 16000, .inl (fun _ => 0))), (hst, .inr (13, [])), (hya, .inl (cJ, 8, .inr (.inl (fun _ => 0)))), (hyd, .inl (cI, 12, .inl (fun _ => 0)))] t.heap ∧ va_K (dC, dI) cl0 [(cB, .byte), (cJ, .long), (cI, .int)] t ∧ va_D (va_A [(h0, .inr (12, dfX14))] sz) [(h0, .inr (12, fy)), (ht, .inl (cB, 16000, .inl (fun _ => 0))), (hst, .inr (13, [])), (hya, .inl (cJ, 8, .inr (.inl (fun _ => 0)))), (hyd, .inl (cI, 12, .inl (fun _ => 0)))]) (va_A [(h0, .inr (12, dfX14))] sz)) 92 853293 (va_A [(h0, .inr (12, dfX14))] sz) := by
  refine Met.ofW (cc := cX14_init) (maxL := 1) (ret := none) (by decide) rfl ?_
  intro p e s m args below meth c s₁ B hml hv
  obtain ⟨rfl, ⟨hsz, hP, hK, hD0, hex⟩, hE⟩ := hv
  have hx := B.exec
  have hb := B.bytes
  have hr := B.returns
  have hts0 := atoms_spec (ws := wt yX14_init cX14_init 1 none) B.pre
  have hts : ∀ w ∈ tb, w.before _ s = true := fun w h => hts0 w (List.mem_cons_of_mem _ h)
  have hown : s.vm.findClass RX14 = some m.cls := findClass_of_methodNamed B.named
  have hlocks := B.notSynchronized
  have hin : meth.name = "<init>" := (name_of_methodNamed B.named B.method).1
  subst hsz
  have hD := hD0.self (sz := s.heap.size)
  have hlocs0 := sx_locs hP (Nat.le_refl _) (fun k q h => by rcases k with _ | k <;> simp at h; subst h; exact ⟨_, rfl⟩)
  generalize hAe : va_A [(h0, .inr (12, dfX14))] s.heap.size = A at hD hE hlocs0 ⊢
  have hA : ∀ q : Nat, s.heap.size ≤ q → A q := fun q h => by rw [← hAe]; exact Or.inr h
  have hS : va_S A s.heap s.heap [] := va_S.rf
  have hl := lv_entry ([.ref h0]) (n := 1) (Nat.le_of_ble_eq_true rfl)
  rw [lg_entry_eq]
  generalize (lg_sl ([.ref h0]) ++ List.replicate (1 - (lg_sl ([.ref h0])).length) Slot.unset).toArray = ls at hl ⊢
  have hl : lv_has ls 1 [(0, .ref h0)] := hl
  refine lv_aload_n hx hb dX14_init_0 rfl (lv_at hl 0 rfl) ?_
  refine W.objInit hx hb hown (hts _ kw_267) (hts _ kw_1) (hts _ kw_2) rfl (by rw [hml]; exact hl.1) rfl dX14_init_1 (Nat.le_of_ble_eq_true rfl) (Nat.le_of_ble_eq_true rfl) ?_
  refine W.eq (g2 := F0 m 4 ls []) rfl ?_
  refine lv_aload_n hx hb dX14_init_4 rfl (lv_at hl 0 rfl) ?_
  refine lv_bipush (v := 12) hx hb dX14_init_5 (by decide) ?_
  refine va_newq (C := "CodeFoundryModel$File") (N' := 12) hx hb hown (hts _ kw_268) (ao_of (by exact ao_CodeFoundryModel_File) hex) hK hP hD hS hA (by decide) (by decide) (by decide) (Nat.le_of_ble_eq_true rfl) (Nat.le_of_ble_eq_true rfl) dX14_init_7 (fun q_1 cA_2 H hK hP hD hS => ?_)
  have hP := hP.sub (ws' := [(h0, .inr (12, dfX14))]) [0] rfl
  have hD := hD.sub (ws' := [(h0, .inr (12, dfX14))]) [0] (by decide) rfl
  have hK := hK.sub (tys' := []) [] rfl
  refine W.widen (k := 1) (n := 12) (Nat.le_of_ble_eq_true rfl) (Nat.le_of_ble_eq_true rfl) ?_
  refine va_putF (D := (dC, dI)) (ci := 12) (v := .ref q_1) (ty := (.array (.object "CodeFoundryModel$File"))) (C := RX14) (T := TX14) (N := 143) hx hb hts inX14 tyX14 tyX14_ok nmX14 hown hK hP hD hS 0 rfl rfl 0 (by decide) (hts _ kw_269) (fun _ h9 => h9) rfl hin rfl (by decide +kernel) rfl rfl (by rw [L_dfX14]; decide) dX14_init_10 (fun H locs hP hD hS => ?_)
  obtain ⟨dfX14_3, e_dfX14_3⟩ : ∃ z, z = dfX14.set 0 (.ref q_1) := ⟨_, rfl⟩
  have hP : va_P (dC, dI) cl0 [(h0, .inr (12, dfX14_3))] H := by rw [e_dfX14_3]; exact hP
  have hD : va_D A [(h0, .inr (12, dfX14_3))] := by rw [e_dfX14_3]; exact hD
  have L_dfX14_3 : dfX14_3.length = 143 := fx_len e_dfX14_3 L_dfX14
  have g_dfX14_3_1 := fx_ne (j := 1) e_dfX14_3 g_dfX14_1 (by decide)
  have g_dfX14_3_4 := fx_ne (j := 4) e_dfX14_3 g_dfX14_4 (by decide)
  have g_dfX14_3_5 := fx_ne (j := 5) e_dfX14_3 g_dfX14_5 (by decide)
  have g_dfX14_3_9 := fx_ne (j := 9) e_dfX14_3 g_dfX14_9 (by decide)
  have g_dfX14_3_78 := fx_ne (j := 78) e_dfX14_3 g_dfX14_78 (by decide)
  have g_dfX14_3_80 := fx_ne (j := 80) e_dfX14_3 g_dfX14_80 (by decide)
  have g_dfX14_3_85 := fx_ne (j := 85) e_dfX14_3 g_dfX14_85 (by decide)
  have g_dfX14_3_88 := fx_ne (j := 88) e_dfX14_3 g_dfX14_88 (by decide)
  have g_dfX14_3_96 := fx_ne (j := 96) e_dfX14_3 g_dfX14_96 (by decide)
  have g_dfX14_3_100 := fx_ne (j := 100) e_dfX14_3 g_dfX14_100 (by decide)
  have g_dfX14_3_101 := fx_ne (j := 101) e_dfX14_3 g_dfX14_101 (by decide)
  refine lv_aload_n hx hb dX14_init_13 rfl (lv_at hl 0 rfl) ?_
  refine lv_sipush (v := 16000) hx hb dX14_init_14 (by decide) ?_
  refine va_newa (atype := .byte) (ty := .byte) (a0 := (16000, .inl (fun _ => 0))) (N' := 16000) hx hb (hts (.arrayClass .byte) kw_3) rfl hK hP hD hS hA (fun _ => rfl) (by decide) (by decide) (by decide) (Nat.le_of_ble_eq_true rfl) (Nat.le_of_ble_eq_true rfl) dX14_init_17 (fun q_4 cA_5 H hK hP hD hS => ?_)
  have hP : va_P (dC, dI) cl0 [(h0, .inr (12, dfX14_3)), (q_4, .inl (cA_5, 16000, .inl (fun _ => 0)))] H := hP
  have hD : va_D A [(h0, .inr (12, dfX14_3)), (q_4, .inl (cA_5, 16000, .inl (fun _ => 0)))] := hD
  have hK : va_K (dC, dI) cl0 [(cA_5, .byte)] s := hK
  refine W.widen (k := 2) (n := 16012) (Nat.le_of_ble_eq_true rfl) (Nat.le_of_ble_eq_true rfl) ?_
  refine va_putF (D := (dC, dI)) (ci := 12) (v := .ref q_4) (ty := (.array .byte)) (C := RX14) (T := TX14) (N := 143) hx hb hts inX14 tyX14 tyX14_ok nmX14 hown hK hP hD hS 0 rfl rfl 3 (by decide) (hts _ kw_270) (fun _ h9 => h9) rfl hin rfl (by decide +kernel) rfl rfl (by rw [L_dfX14_3]; decide) dX14_init_19 (fun H locs hP hD hS => ?_)
  obtain ⟨dfX14_6, e_dfX14_6⟩ : ∃ z, z = dfX14_3.set 3 (.ref q_4) := ⟨_, rfl⟩
  have hP : va_P (dC, dI) cl0 [(h0, .inr (12, dfX14_6)), (q_4, .inl (cA_5, 16000, .inl (fun _ => 0)))] H := by rw [e_dfX14_6]; exact hP
  have hD : va_D A [(h0, .inr (12, dfX14_6)), (q_4, .inl (cA_5, 16000, .inl (fun _ => 0)))] := by rw [e_dfX14_6]; exact hD
  have L_dfX14_6 : dfX14_6.length = 143 := fx_len e_dfX14_6 L_dfX14_3
  have g_dfX14_6_1 := fx_ne (j := 1) e_dfX14_6 g_dfX14_3_1 (by decide)
  have g_dfX14_6_4 := fx_ne (j := 4) e_dfX14_6 g_dfX14_3_4 (by decide)
  have g_dfX14_6_5 := fx_ne (j := 5) e_dfX14_6 g_dfX14_3_5 (by decide)
  have g_dfX14_6_9 := fx_ne (j := 9) e_dfX14_6 g_dfX14_3_9 (by decide)
  have g_dfX14_6_78 := fx_ne (j := 78) e_dfX14_6 g_dfX14_3_78 (by decide)
  have g_dfX14_6_80 := fx_ne (j := 80) e_dfX14_6 g_dfX14_3_80 (by decide)
  have g_dfX14_6_85 := fx_ne (j := 85) e_dfX14_6 g_dfX14_3_85 (by decide)
  have g_dfX14_6_88 := fx_ne (j := 88) e_dfX14_6 g_dfX14_3_88 (by decide)
  have g_dfX14_6_96 := fx_ne (j := 96) e_dfX14_6 g_dfX14_3_96 (by decide)
  have g_dfX14_6_100 := fx_ne (j := 100) e_dfX14_6 g_dfX14_3_100 (by decide)
  have g_dfX14_6_101 := fx_ne (j := 101) e_dfX14_6 g_dfX14_3_101 (by decide)
  have g_dfX14_6_3 := fx_self e_dfX14_6 (by rw [L_dfX14_3]; decide)
  refine lv_aload_n hx hb dX14_init_22 rfl (lv_at hl 0 rfl) ?_
  refine sx_new (own := RX14) (cls := RJxb5711) (names := nmL) (ik := 19) (ic := 21) (T0 := TJxb5711) (ci := 13) hx hb hlt hown (by decide +kernel) (by decide +kernel) (hts _ kw_271) (hts _ kw_272) (sx_words hts hex hE) hlocs0 hK hP hD hS hA rfl (by rw [hml]; exact hl.1) dX14_init_23 dX14_init_26 dX14_init_27 (Nat.le_of_ble_eq_true rfl) (Nat.le_of_ble_eq_true rfl) (Nat.le_of_ble_eq_true rfl) (Nat.le_of_ble_eq_true rfl) (fun q_7 H locs hP hD hS => ?_)
  have hP : va_P (dC, dI) cl0 [(h0, .inr (12, dfX14_6)), (q_4, .inl (cA_5, 16000, .inl (fun _ => 0))), (q_7, .inr (13, []))] H := hP
  have hD : va_D A [(h0, .inr (12, dfX14_6)), (q_4, .inl (cA_5, 16000, .inl (fun _ => 0))), (q_7, .inr (13, []))] := hD
  refine W.widen (k := 3) (n := 16018) (Nat.le_of_ble_eq_true rfl) (Nat.le_of_ble_eq_true rfl) ?_
  refine va_putF (D := (dC, dI)) (ci := 12) (v := .ref q_7) (ty := (.object "java/lang/IllegalStateException")) (C := RX14) (T := TX14) (N := 143) hx hb hts inX14 tyX14 tyX14_ok nmX14 hown hK hP hD hS 0 rfl rfl 6 (by decide) (hts _ kw_273) (fun _ h9 => h9) rfl hin rfl (by decide +kernel) rfl rfl (by rw [L_dfX14_6]; decide) dX14_init_30 (fun H locs hP hD hS => ?_)
  obtain ⟨dfX14_8, e_dfX14_8⟩ : ∃ z, z = dfX14_6.set 6 (.ref q_7) := ⟨_, rfl⟩
  have hP : va_P (dC, dI) cl0 [(h0, .inr (12, dfX14_8)), (q_4, .inl (cA_5, 16000, .inl (fun _ => 0))), (q_7, .inr (13, []))] H := by rw [e_dfX14_8]; exact hP
  have hD : va_D A [(h0, .inr (12, dfX14_8)), (q_4, .inl (cA_5, 16000, .inl (fun _ => 0))), (q_7, .inr (13, []))] := by rw [e_dfX14_8]; exact hD
  have L_dfX14_8 : dfX14_8.length = 143 := fx_len e_dfX14_8 L_dfX14_6
  have g_dfX14_8_1 := fx_ne (j := 1) e_dfX14_8 g_dfX14_6_1 (by decide)
  have g_dfX14_8_4 := fx_ne (j := 4) e_dfX14_8 g_dfX14_6_4 (by decide)
  have g_dfX14_8_5 := fx_ne (j := 5) e_dfX14_8 g_dfX14_6_5 (by decide)
  have g_dfX14_8_9 := fx_ne (j := 9) e_dfX14_8 g_dfX14_6_9 (by decide)
  have g_dfX14_8_78 := fx_ne (j := 78) e_dfX14_8 g_dfX14_6_78 (by decide)
  have g_dfX14_8_80 := fx_ne (j := 80) e_dfX14_8 g_dfX14_6_80 (by decide)
  have g_dfX14_8_85 := fx_ne (j := 85) e_dfX14_8 g_dfX14_6_85 (by decide)
  have g_dfX14_8_88 := fx_ne (j := 88) e_dfX14_8 g_dfX14_6_88 (by decide)
  have g_dfX14_8_96 := fx_ne (j := 96) e_dfX14_8 g_dfX14_6_96 (by decide)
  have g_dfX14_8_100 := fx_ne (j := 100) e_dfX14_8 g_dfX14_6_100 (by decide)
  have g_dfX14_8_101 := fx_ne (j := 101) e_dfX14_8 g_dfX14_6_101 (by decide)
  have g_dfX14_8_3 := fx_ne (j := 3) e_dfX14_8 g_dfX14_6_3 (by decide)
  have g_dfX14_8_6 := fx_self e_dfX14_8 (by rw [L_dfX14_6]; decide)
  refine lv_aload_n hx hb dX14_init_33 rfl (lv_at hl 0 rfl) ?_
  refine lv_iconst (v := (-1)) hx hb dX14_init_34 (by decide) ?_
  refine va_put (D := (dC, dI)) (ci := 12) (v := .int (-1)) (ty := .int) (C := RX14) (T := TX14) (N := 143) hx hb hts inX14 tyX14 tyX14_ok nmX14 hown hK hP hD hS 0 rfl rfl 10 (by decide) (hts _ kw_274) (fun _ h9 => h9) rfl (by decide +kernel) rfl rfl (by rw [L_dfX14_8]; decide) dX14_init_35 (fun H locs hP hD hS => ?_)
  obtain ⟨dfX14_9, e_dfX14_9⟩ : ∃ z, z = dfX14_8.set 10 (.int (-1)) := ⟨_, rfl⟩
  have hP : va_P (dC, dI) cl0 [(h0, .inr (12, dfX14_9)), (q_4, .inl (cA_5, 16000, .inl (fun _ => 0))), (q_7, .inr (13, []))] H := by rw [e_dfX14_9]; exact hP
  have hD : va_D A [(h0, .inr (12, dfX14_9)), (q_4, .inl (cA_5, 16000, .inl (fun _ => 0))), (q_7, .inr (13, []))] := by rw [e_dfX14_9]; exact hD
  have L_dfX14_9 : dfX14_9.length = 143 := fx_len e_dfX14_9 L_dfX14_8
  have g_dfX14_9_1 := fx_ne (j := 1) e_dfX14_9 g_dfX14_8_1 (by decide)
  have g_dfX14_9_4 := fx_ne (j := 4) e_dfX14_9 g_dfX14_8_4 (by decide)
  have g_dfX14_9_5 := fx_ne (j := 5) e_dfX14_9 g_dfX14_8_5 (by decide)
  have g_dfX14_9_9 := fx_ne (j := 9) e_dfX14_9 g_dfX14_8_9 (by decide)
  have g_dfX14_9_78 := fx_ne (j := 78) e_dfX14_9 g_dfX14_8_78 (by decide)
  have g_dfX14_9_80 := fx_ne (j := 80) e_dfX14_9 g_dfX14_8_80 (by decide)
  have g_dfX14_9_85 := fx_ne (j := 85) e_dfX14_9 g_dfX14_8_85 (by decide)
  have g_dfX14_9_88 := fx_ne (j := 88) e_dfX14_9 g_dfX14_8_88 (by decide)
  have g_dfX14_9_96 := fx_ne (j := 96) e_dfX14_9 g_dfX14_8_96 (by decide)
  have g_dfX14_9_100 := fx_ne (j := 100) e_dfX14_9 g_dfX14_8_100 (by decide)
  have g_dfX14_9_101 := fx_ne (j := 101) e_dfX14_9 g_dfX14_8_101 (by decide)
  have g_dfX14_9_3 := fx_ne (j := 3) e_dfX14_9 g_dfX14_8_3 (by decide)
  have g_dfX14_9_6 := fx_ne (j := 6) e_dfX14_9 g_dfX14_8_6 (by decide)
  have g_dfX14_9_10 := fx_self e_dfX14_9 (by rw [L_dfX14_8]; decide)
  refine lv_aload_n hx hb dX14_init_38 rfl (lv_at hl 0 rfl) ?_
  refine lv_sipush (v := 502) hx hb dX14_init_39 (by decide) ?_
  refine va_newa (atype := .int) (ty := .int) (a0 := (502, .inl (fun _ => 0))) (N' := 502) hx hb (hts (.arrayClass .int) kw_6) rfl hK hP hD hS hA (fun _ => rfl) (by decide) (by decide) (by decide) (Nat.le_of_ble_eq_true rfl) (Nat.le_of_ble_eq_true rfl) dX14_init_42 (fun q_10 cA_11 H hK hP hD hS => ?_)
  have hP := hP.sub (ws' := [(h0, .inr (12, dfX14_9)), (q_4, .inl (cA_5, 16000, .inl (fun _ => 0))), (q_7, .inr (13, []))]) [0, 1, 2] rfl
  have hD := hD.sub (ws' := [(h0, .inr (12, dfX14_9)), (q_4, .inl (cA_5, 16000, .inl (fun _ => 0))), (q_7, .inr (13, []))]) [0, 1, 2] (by decide) rfl
  have hK := hK.sub (tys' := [(cA_5, .byte)]) [0] rfl
  refine W.widen (k := 4) (n := 16520) (Nat.le_of_ble_eq_true rfl) (Nat.le_of_ble_eq_true rfl) ?_
  refine va_putF (D := (dC, dI)) (ci := 12) (v := .ref q_10) (ty := (.array .int)) (C := RX14) (T := TX14) (N := 143) hx hb hts inX14 tyX14 tyX14_ok nmX14 hown hK hP hD hS 0 rfl rfl 15 (by decide) (hts _ kw_275) (fun _ h9 => h9) rfl hin rfl (by decide +kernel) rfl rfl (by rw [L_dfX14_9]; decide) dX14_init_44 (fun H locs hP hD hS => ?_)
  obtain ⟨dfX14_12, e_dfX14_12⟩ : ∃ z, z = dfX14_9.set 15 (.ref q_10) := ⟨_, rfl⟩
  have hP : va_P (dC, dI) cl0 [(h0, .inr (12, dfX14_12)), (q_4, .inl (cA_5, 16000, .inl (fun _ => 0))), (q_7, .inr (13, []))] H := by rw [e_dfX14_12]; exact hP
  have hD : va_D A [(h0, .inr (12, dfX14_12)), (q_4, .inl (cA_5, 16000, .inl (fun _ => 0))), (q_7, .inr (13, []))] := by rw [e_dfX14_12]; exact hD
  have L_dfX14_12 : dfX14_12.length = 143 := fx_len e_dfX14_12 L_dfX14_9
  have g_dfX14_12_1 := fx_ne (j := 1) e_dfX14_12 g_dfX14_9_1 (by decide)
  have g_dfX14_12_4 := fx_ne (j := 4) e_dfX14_12 g_dfX14_9_4 (by decide)
  have g_dfX14_12_5 := fx_ne (j := 5) e_dfX14_12 g_dfX14_9_5 (by decide)
  have g_dfX14_12_9 := fx_ne (j := 9) e_dfX14_12 g_dfX14_9_9 (by decide)
  have g_dfX14_12_78 := fx_ne (j := 78) e_dfX14_12 g_dfX14_9_78 (by decide)
  have g_dfX14_12_80 := fx_ne (j := 80) e_dfX14_12 g_dfX14_9_80 (by decide)
  have g_dfX14_12_85 := fx_ne (j := 85) e_dfX14_12 g_dfX14_9_85 (by decide)
  have g_dfX14_12_88 := fx_ne (j := 88) e_dfX14_12 g_dfX14_9_88 (by decide)
  have g_dfX14_12_96 := fx_ne (j := 96) e_dfX14_12 g_dfX14_9_96 (by decide)
  have g_dfX14_12_100 := fx_ne (j := 100) e_dfX14_12 g_dfX14_9_100 (by decide)
  have g_dfX14_12_101 := fx_ne (j := 101) e_dfX14_12 g_dfX14_9_101 (by decide)
  have g_dfX14_12_3 := fx_ne (j := 3) e_dfX14_12 g_dfX14_9_3 (by decide)
  have g_dfX14_12_6 := fx_ne (j := 6) e_dfX14_12 g_dfX14_9_6 (by decide)
  have g_dfX14_12_10 := fx_ne (j := 10) e_dfX14_12 g_dfX14_9_10 (by decide)
  refine lv_aload_n hx hb dX14_init_47 rfl (lv_at hl 0 rfl) ?_
  refine lv_sipush (v := 502) hx hb dX14_init_48 (by decide) ?_
  refine va_newa (atype := .int) (ty := .int) (a0 := (502, .inl (fun _ => 0))) (N' := 502) hx hb (hts (.arrayClass .int) kw_6) rfl hK hP hD hS hA (fun _ => rfl) (by decide) (by decide) (by decide) (Nat.le_of_ble_eq_true rfl) (Nat.le_of_ble_eq_true rfl) dX14_init_51 (fun q_13 cA_14 H hK hP hD hS => ?_)
  have hP := hP.sub (ws' := [(h0, .inr (12, dfX14_12)), (q_4, .inl (cA_5, 16000, .inl (fun _ => 0))), (q_7, .inr (13, []))]) [0, 1, 2] rfl
  have hD := hD.sub (ws' := [(h0, .inr (12, dfX14_12)), (q_4, .inl (cA_5, 16000, .inl (fun _ => 0))), (q_7, .inr (13, []))]) [0, 1, 2] (by decide) rfl
  have hK := hK.sub (tys' := [(cA_5, .byte)]) [0] rfl
  refine W.widen (k := 5) (n := 17022) (Nat.le_of_ble_eq_true rfl) (Nat.le_of_ble_eq_true rfl) ?_
  refine va_putF (D := (dC, dI)) (ci := 12) (v := .ref q_13) (ty := (.array .int)) (C := RX14) (T := TX14) (N := 143) hx hb hts inX14 tyX14 tyX14_ok nmX14 hown hK hP hD hS 0 rfl rfl 16 (by decide) (hts _ kw_276) (fun _ h9 => h9) rfl hin rfl (by decide +kernel) rfl rfl (by rw [L_dfX14_12]; decide) dX14_init_53 (fun H locs hP hD hS => ?_)
  obtain ⟨dfX14_15, e_dfX14_15⟩ : ∃ z, z = dfX14_12.set 16 (.ref q_13) := ⟨_, rfl⟩
  have hP : va_P (dC, dI) cl0 [(h0, .inr (12, dfX14_15)), (q_4, .inl (cA_5, 16000, .inl (fun _ => 0))), (q_7, .inr (13, []))] H := by rw [e_dfX14_15]; exact hP
  have hD : va_D A [(h0, .inr (12, dfX14_15)), (q_4, .inl (cA_5, 16000, .inl (fun _ => 0))), (q_7, .inr (13, []))] := by rw [e_dfX14_15]; exact hD
  have L_dfX14_15 : dfX14_15.length = 143 := fx_len e_dfX14_15 L_dfX14_12
  have g_dfX14_15_1 := fx_ne (j := 1) e_dfX14_15 g_dfX14_12_1 (by decide)
  have g_dfX14_15_4 := fx_ne (j := 4) e_dfX14_15 g_dfX14_12_4 (by decide)
  have g_dfX14_15_5 := fx_ne (j := 5) e_dfX14_15 g_dfX14_12_5 (by decide)
  have g_dfX14_15_9 := fx_ne (j := 9) e_dfX14_15 g_dfX14_12_9 (by decide)
  have g_dfX14_15_78 := fx_ne (j := 78) e_dfX14_15 g_dfX14_12_78 (by decide)
  have g_dfX14_15_80 := fx_ne (j := 80) e_dfX14_15 g_dfX14_12_80 (by decide)
  have g_dfX14_15_85 := fx_ne (j := 85) e_dfX14_15 g_dfX14_12_85 (by decide)
  have g_dfX14_15_88 := fx_ne (j := 88) e_dfX14_15 g_dfX14_12_88 (by decide)
  have g_dfX14_15_96 := fx_ne (j := 96) e_dfX14_15 g_dfX14_12_96 (by decide)
  have g_dfX14_15_100 := fx_ne (j := 100) e_dfX14_15 g_dfX14_12_100 (by decide)
  have g_dfX14_15_101 := fx_ne (j := 101) e_dfX14_15 g_dfX14_12_101 (by decide)
  have g_dfX14_15_3 := fx_ne (j := 3) e_dfX14_15 g_dfX14_12_3 (by decide)
  have g_dfX14_15_6 := fx_ne (j := 6) e_dfX14_15 g_dfX14_12_6 (by decide)
  have g_dfX14_15_10 := fx_ne (j := 10) e_dfX14_15 g_dfX14_12_10 (by decide)
  refine lv_aload_n hx hb dX14_init_56 rfl (lv_at hl 0 rfl) ?_
  refine lv_sipush (v := 502) hx hb dX14_init_57 (by decide) ?_
  refine va_newa (atype := .int) (ty := .int) (a0 := (502, .inl (fun _ => 0))) (N' := 502) hx hb (hts (.arrayClass .int) kw_6) rfl hK hP hD hS hA (fun _ => rfl) (by decide) (by decide) (by decide) (Nat.le_of_ble_eq_true rfl) (Nat.le_of_ble_eq_true rfl) dX14_init_60 (fun q_16 cA_17 H hK hP hD hS => ?_)
  have hP := hP.sub (ws' := [(h0, .inr (12, dfX14_15)), (q_4, .inl (cA_5, 16000, .inl (fun _ => 0))), (q_7, .inr (13, []))]) [0, 1, 2] rfl
  have hD := hD.sub (ws' := [(h0, .inr (12, dfX14_15)), (q_4, .inl (cA_5, 16000, .inl (fun _ => 0))), (q_7, .inr (13, []))]) [0, 1, 2] (by decide) rfl
  have hK := hK.sub (tys' := [(cA_5, .byte)]) [0] rfl
  refine W.widen (k := 6) (n := 17524) (Nat.le_of_ble_eq_true rfl) (Nat.le_of_ble_eq_true rfl) ?_
  refine va_putF (D := (dC, dI)) (ci := 12) (v := .ref q_16) (ty := (.array .int)) (C := RX14) (T := TX14) (N := 143) hx hb hts inX14 tyX14 tyX14_ok nmX14 hown hK hP hD hS 0 rfl rfl 17 (by decide) (hts _ kw_277) (fun _ h9 => h9) rfl hin rfl (by decide +kernel) rfl rfl (by rw [L_dfX14_15]; decide) dX14_init_62 (fun H locs hP hD hS => ?_)
  obtain ⟨dfX14_18, e_dfX14_18⟩ : ∃ z, z = dfX14_15.set 17 (.ref q_16) := ⟨_, rfl⟩
  have hP : va_P (dC, dI) cl0 [(h0, .inr (12, dfX14_18)), (q_4, .inl (cA_5, 16000, .inl (fun _ => 0))), (q_7, .inr (13, []))] H := by rw [e_dfX14_18]; exact hP
  have hD : va_D A [(h0, .inr (12, dfX14_18)), (q_4, .inl (cA_5, 16000, .inl (fun _ => 0))), (q_7, .inr (13, []))] := by rw [e_dfX14_18]; exact hD
  have L_dfX14_18 : dfX14_18.length = 143 := fx_len e_dfX14_18 L_dfX14_15
  have g_dfX14_18_1 := fx_ne (j := 1) e_dfX14_18 g_dfX14_15_1 (by decide)
  have g_dfX14_18_4 := fx_ne (j := 4) e_dfX14_18 g_dfX14_15_4 (by decide)
  have g_dfX14_18_5 := fx_ne (j := 5) e_dfX14_18 g_dfX14_15_5 (by decide)
  have g_dfX14_18_9 := fx_ne (j := 9) e_dfX14_18 g_dfX14_15_9 (by decide)
  have g_dfX14_18_78 := fx_ne (j := 78) e_dfX14_18 g_dfX14_15_78 (by decide)
  have g_dfX14_18_80 := fx_ne (j := 80) e_dfX14_18 g_dfX14_15_80 (by decide)
  have g_dfX14_18_85 := fx_ne (j := 85) e_dfX14_18 g_dfX14_15_85 (by decide)
  have g_dfX14_18_88 := fx_ne (j := 88) e_dfX14_18 g_dfX14_15_88 (by decide)
  have g_dfX14_18_96 := fx_ne (j := 96) e_dfX14_18 g_dfX14_15_96 (by decide)
  have g_dfX14_18_100 := fx_ne (j := 100) e_dfX14_18 g_dfX14_15_100 (by decide)
  have g_dfX14_18_101 := fx_ne (j := 101) e_dfX14_18 g_dfX14_15_101 (by decide)
  have g_dfX14_18_3 := fx_ne (j := 3) e_dfX14_18 g_dfX14_15_3 (by decide)
  have g_dfX14_18_6 := fx_ne (j := 6) e_dfX14_18 g_dfX14_15_6 (by decide)
  have g_dfX14_18_10 := fx_ne (j := 10) e_dfX14_18 g_dfX14_15_10 (by decide)
  refine lv_aload_n hx hb dX14_init_65 rfl (lv_at hl 0 rfl) ?_
  refine lv_sipush (v := 502) hx hb dX14_init_66 (by decide) ?_
  refine va_newa (atype := .int) (ty := .int) (a0 := (502, .inl (fun _ => 0))) (N' := 502) hx hb (hts (.arrayClass .int) kw_6) rfl hK hP hD hS hA (fun _ => rfl) (by decide) (by decide) (by decide) (Nat.le_of_ble_eq_true rfl) (Nat.le_of_ble_eq_true rfl) dX14_init_69 (fun q_19 cA_20 H hK hP hD hS => ?_)
  have hP := hP.sub (ws' := [(h0, .inr (12, dfX14_18)), (q_4, .inl (cA_5, 16000, .inl (fun _ => 0))), (q_7, .inr (13, []))]) [0, 1, 2] rfl
  have hD := hD.sub (ws' := [(h0, .inr (12, dfX14_18)), (q_4, .inl (cA_5, 16000, .inl (fun _ => 0))), (q_7, .inr (13, []))]) [0, 1, 2] (by decide) rfl
  have hK := hK.sub (tys' := [(cA_5, .byte)]) [0] rfl
  refine W.widen (k := 7) (n := 18026) (Nat.le_of_ble_eq_true rfl) (Nat.le_of_ble_eq_true rfl) ?_
  refine va_putF (D := (dC, dI)) (ci := 12) (v := .ref q_19) (ty := (.array .int)) (C := RX14) (T := TX14) (N := 143) hx hb hts inX14 tyX14 tyX14_ok nmX14 hown hK hP hD hS 0 rfl rfl 18 (by decide) (hts _ kw_278) (fun _ h9 => h9) rfl hin rfl (by decide +kernel) rfl rfl (by rw [L_dfX14_18]; decide) dX14_init_71 (fun H locs hP hD hS => ?_)
  obtain ⟨dfX14_21, e_dfX14_21⟩ : ∃ z, z = dfX14_18.set 18 (.ref q_19) := ⟨_, rfl⟩
  have hP : va_P (dC, dI) cl0 [(h0, .inr (12, dfX14_21)), (q_4, .inl (cA_5, 16000, .inl (fun _ => 0))), (q_7, .inr (13, []))] H := by rw [e_dfX14_21]; exact hP
  have hD : va_D A [(h0, .inr (12, dfX14_21)), (q_4, .inl (cA_5, 16000, .inl (fun _ => 0))), (q_7, .inr (13, []))] := by rw [e_dfX14_21]; exact hD
  have L_dfX14_21 : dfX14_21.length = 143 := fx_len e_dfX14_21 L_dfX14_18
  have g_dfX14_21_1 := fx_ne (j := 1) e_dfX14_21 g_dfX14_18_1 (by decide)
  have g_dfX14_21_4 := fx_ne (j := 4) e_dfX14_21 g_dfX14_18_4 (by decide)
  have g_dfX14_21_5 := fx_ne (j := 5) e_dfX14_21 g_dfX14_18_5 (by decide)
  have g_dfX14_21_9 := fx_ne (j := 9) e_dfX14_21 g_dfX14_18_9 (by decide)
  have g_dfX14_21_78 := fx_ne (j := 78) e_dfX14_21 g_dfX14_18_78 (by decide)
  have g_dfX14_21_80 := fx_ne (j := 80) e_dfX14_21 g_dfX14_18_80 (by decide)
  have g_dfX14_21_85 := fx_ne (j := 85) e_dfX14_21 g_dfX14_18_85 (by decide)
  have g_dfX14_21_88 := fx_ne (j := 88) e_dfX14_21 g_dfX14_18_88 (by decide)
  have g_dfX14_21_96 := fx_ne (j := 96) e_dfX14_21 g_dfX14_18_96 (by decide)
  have g_dfX14_21_100 := fx_ne (j := 100) e_dfX14_21 g_dfX14_18_100 (by decide)
  have g_dfX14_21_101 := fx_ne (j := 101) e_dfX14_21 g_dfX14_18_101 (by decide)
  have g_dfX14_21_3 := fx_ne (j := 3) e_dfX14_21 g_dfX14_18_3 (by decide)
  have g_dfX14_21_6 := fx_ne (j := 6) e_dfX14_21 g_dfX14_18_6 (by decide)
  have g_dfX14_21_10 := fx_ne (j := 10) e_dfX14_21 g_dfX14_18_10 (by decide)
  refine lv_aload_n hx hb dX14_init_74 rfl (lv_at hl 0 rfl) ?_
  refine lv_sipush (v := 502) hx hb dX14_init_75 (by decide) ?_
  refine va_newa (atype := .long) (ty := .long) (a0 := (502, .inr (.inl (fun _ => 0)))) (N' := 502) hx hb (hts (.arrayClass .long) kw_13) rfl hK hP hD hS hA (fun _ => rfl) (by decide) (by decide) (by decide) (Nat.le_of_ble_eq_true rfl) (Nat.le_of_ble_eq_true rfl) dX14_init_78 (fun q_22 cA_23 H hK hP hD hS => ?_)
  have hP := hP.sub (ws' := [(h0, .inr (12, dfX14_21)), (q_4, .inl (cA_5, 16000, .inl (fun _ => 0))), (q_7, .inr (13, []))]) [0, 1, 2] rfl
  have hD := hD.sub (ws' := [(h0, .inr (12, dfX14_21)), (q_4, .inl (cA_5, 16000, .inl (fun _ => 0))), (q_7, .inr (13, []))]) [0, 1, 2] (by decide) rfl
  have hK := hK.sub (tys' := [(cA_5, .byte)]) [0] rfl
  refine W.widen (k := 8) (n := 18528) (Nat.le_of_ble_eq_true rfl) (Nat.le_of_ble_eq_true rfl) ?_
  refine va_putF (D := (dC, dI)) (ci := 12) (v := .ref q_22) (ty := (.array .long)) (C := RX14) (T := TX14) (N := 143) hx hb hts inX14 tyX14 tyX14_ok nmX14 hown hK hP hD hS 0 rfl rfl 19 (by decide) (hts _ kw_279) (fun _ h9 => h9) rfl hin rfl (by decide +kernel) rfl rfl (by rw [L_dfX14_21]; decide) dX14_init_80 (fun H locs hP hD hS => ?_)
  obtain ⟨dfX14_24, e_dfX14_24⟩ : ∃ z, z = dfX14_21.set 19 (.ref q_22) := ⟨_, rfl⟩
  have hP : va_P (dC, dI) cl0 [(h0, .inr (12, dfX14_24)), (q_4, .inl (cA_5, 16000, .inl (fun _ => 0))), (q_7, .inr (13, []))] H := by rw [e_dfX14_24]; exact hP
  have hD : va_D A [(h0, .inr (12, dfX14_24)), (q_4, .inl (cA_5, 16000, .inl (fun _ => 0))), (q_7, .inr (13, []))] := by rw [e_dfX14_24]; exact hD
  have L_dfX14_24 : dfX14_24.length = 143 := fx_len e_dfX14_24 L_dfX14_21
  have g_dfX14_24_1 := fx_ne (j := 1) e_dfX14_24 g_dfX14_21_1 (by decide)
  have g_dfX14_24_4 := fx_ne (j := 4) e_dfX14_24 g_dfX14_21_4 (by decide)
  have g_dfX14_24_5 := fx_ne (j := 5) e_dfX14_24 g_dfX14_21_5 (by decide)
  have g_dfX14_24_9 := fx_ne (j := 9) e_dfX14_24 g_dfX14_21_9 (by decide)
  have g_dfX14_24_78 := fx_ne (j := 78) e_dfX14_24 g_dfX14_21_78 (by decide)
  have g_dfX14_24_80 := fx_ne (j := 80) e_dfX14_24 g_dfX14_21_80 (by decide)
  have g_dfX14_24_85 := fx_ne (j := 85) e_dfX14_24 g_dfX14_21_85 (by decide)
  have g_dfX14_24_88 := fx_ne (j := 88) e_dfX14_24 g_dfX14_21_88 (by decide)
  have g_dfX14_24_96 := fx_ne (j := 96) e_dfX14_24 g_dfX14_21_96 (by decide)
  have g_dfX14_24_100 := fx_ne (j := 100) e_dfX14_24 g_dfX14_21_100 (by decide)
  have g_dfX14_24_101 := fx_ne (j := 101) e_dfX14_24 g_dfX14_21_101 (by decide)
  have g_dfX14_24_3 := fx_ne (j := 3) e_dfX14_24 g_dfX14_21_3 (by decide)
  have g_dfX14_24_6 := fx_ne (j := 6) e_dfX14_24 g_dfX14_21_6 (by decide)
  have g_dfX14_24_10 := fx_ne (j := 10) e_dfX14_24 g_dfX14_21_10 (by decide)
  refine lv_aload_n hx hb dX14_init_83 rfl (lv_at hl 0 rfl) ?_
  refine lv_bipush (v := 48) hx hb dX14_init_84 (by decide) ?_
  refine va_newa (atype := .int) (ty := .int) (a0 := (48, .inl (fun _ => 0))) (N' := 48) hx hb (hts (.arrayClass .int) kw_6) rfl hK hP hD hS hA (fun _ => rfl) (by decide) (by decide) (by decide) (Nat.le_of_ble_eq_true rfl) (Nat.le_of_ble_eq_true rfl) dX14_init_86 (fun q_25 cA_26 H hK hP hD hS => ?_)
  have hP := hP.sub (ws' := [(h0, .inr (12, dfX14_24)), (q_4, .inl (cA_5, 16000, .inl (fun _ => 0))), (q_7, .inr (13, []))]) [0, 1, 2] rfl
  have hD := hD.sub (ws' := [(h0, .inr (12, dfX14_24)), (q_4, .inl (cA_5, 16000, .inl (fun _ => 0))), (q_7, .inr (13, []))]) [0, 1, 2] (by decide) rfl
  have hK := hK.sub (tys' := [(cA_5, .byte)]) [0] rfl
  refine W.widen (k := 9) (n := 18576) (Nat.le_of_ble_eq_true rfl) (Nat.le_of_ble_eq_true rfl) ?_
  refine va_putF (D := (dC, dI)) (ci := 12) (v := .ref q_25) (ty := (.array .int)) (C := RX14) (T := TX14) (N := 143) hx hb hts inX14 tyX14 tyX14_ok nmX14 hown hK hP hD hS 0 rfl rfl 24 (by decide) (hts _ kw_280) (fun _ h9 => h9) rfl hin rfl (by decide +kernel) rfl rfl (by rw [L_dfX14_24]; decide) dX14_init_88 (fun H locs hP hD hS => ?_)
  obtain ⟨dfX14_27, e_dfX14_27⟩ : ∃ z, z = dfX14_24.set 24 (.ref q_25) := ⟨_, rfl⟩
  have hP : va_P (dC, dI) cl0 [(h0, .inr (12, dfX14_27)), (q_4, .inl (cA_5, 16000, .inl (fun _ => 0))), (q_7, .inr (13, []))] H := by rw [e_dfX14_27]; exact hP
  have hD : va_D A [(h0, .inr (12, dfX14_27)), (q_4, .inl (cA_5, 16000, .inl (fun _ => 0))), (q_7, .inr (13, []))] := by rw [e_dfX14_27]; exact hD
  have L_dfX14_27 : dfX14_27.length = 143 := fx_len e_dfX14_27 L_dfX14_24
  have g_dfX14_27_1 := fx_ne (j := 1) e_dfX14_27 g_dfX14_24_1 (by decide)
  have g_dfX14_27_4 := fx_ne (j := 4) e_dfX14_27 g_dfX14_24_4 (by decide)
  have g_dfX14_27_5 := fx_ne (j := 5) e_dfX14_27 g_dfX14_24_5 (by decide)
  have g_dfX14_27_9 := fx_ne (j := 9) e_dfX14_27 g_dfX14_24_9 (by decide)
  have g_dfX14_27_78 := fx_ne (j := 78) e_dfX14_27 g_dfX14_24_78 (by decide)
  have g_dfX14_27_80 := fx_ne (j := 80) e_dfX14_27 g_dfX14_24_80 (by decide)
  have g_dfX14_27_85 := fx_ne (j := 85) e_dfX14_27 g_dfX14_24_85 (by decide)
  have g_dfX14_27_88 := fx_ne (j := 88) e_dfX14_27 g_dfX14_24_88 (by decide)
  have g_dfX14_27_96 := fx_ne (j := 96) e_dfX14_27 g_dfX14_24_96 (by decide)
  have g_dfX14_27_100 := fx_ne (j := 100) e_dfX14_27 g_dfX14_24_100 (by decide)
  have g_dfX14_27_101 := fx_ne (j := 101) e_dfX14_27 g_dfX14_24_101 (by decide)
  have g_dfX14_27_3 := fx_ne (j := 3) e_dfX14_27 g_dfX14_24_3 (by decide)
  have g_dfX14_27_6 := fx_ne (j := 6) e_dfX14_27 g_dfX14_24_6 (by decide)
  have g_dfX14_27_10 := fx_ne (j := 10) e_dfX14_27 g_dfX14_24_10 (by decide)
  refine lv_aload_n hx hb dX14_init_91 rfl (lv_at hl 0 rfl) ?_
  refine lv_sipush (v := 3000) hx hb dX14_init_92 (by decide) ?_
  refine va_newa (atype := .int) (ty := .int) (a0 := (3000, .inl (fun _ => 0))) (N' := 3000) hx hb (hts (.arrayClass .int) kw_6) rfl hK hP hD hS hA (fun _ => rfl) (by decide) (by decide) (by decide) (Nat.le_of_ble_eq_true rfl) (Nat.le_of_ble_eq_true rfl) dX14_init_95 (fun q_28 cA_29 H hK hP hD hS => ?_)
  have hP := hP.sub (ws' := [(h0, .inr (12, dfX14_27)), (q_4, .inl (cA_5, 16000, .inl (fun _ => 0))), (q_7, .inr (13, []))]) [0, 1, 2] rfl
  have hD := hD.sub (ws' := [(h0, .inr (12, dfX14_27)), (q_4, .inl (cA_5, 16000, .inl (fun _ => 0))), (q_7, .inr (13, []))]) [0, 1, 2] (by decide) rfl
  have hK := hK.sub (tys' := [(cA_5, .byte)]) [0] rfl
  refine W.widen (k := 10) (n := 21576) (Nat.le_of_ble_eq_true rfl) (Nat.le_of_ble_eq_true rfl) ?_
  refine va_putF (D := (dC, dI)) (ci := 12) (v := .ref q_28) (ty := (.array .int)) (C := RX14) (T := TX14) (N := 143) hx hb hts inX14 tyX14 tyX14_ok nmX14 hown hK hP hD hS 0 rfl rfl 26 (by decide) (hts _ kw_281) (fun _ h9 => h9) rfl hin rfl (by decide +kernel) rfl rfl (by rw [L_dfX14_27]; decide) dX14_init_97 (fun H locs hP hD hS => ?_)
  obtain ⟨dfX14_30, e_dfX14_30⟩ : ∃ z, z = dfX14_27.set 26 (.ref q_28) := ⟨_, rfl⟩
  have hP : va_P (dC, dI) cl0 [(h0, .inr (12, dfX14_30)), (q_4, .inl (cA_5, 16000, .inl (fun _ => 0))), (q_7, .inr (13, []))] H := by rw [e_dfX14_30]; exact hP
  have hD : va_D A [(h0, .inr (12, dfX14_30)), (q_4, .inl (cA_5, 16000, .inl (fun _ => 0))), (q_7, .inr (13, []))] := by rw [e_dfX14_30]; exact hD
  have L_dfX14_30 : dfX14_30.length = 143 := fx_len e_dfX14_30 L_dfX14_27
  have g_dfX14_30_1 := fx_ne (j := 1) e_dfX14_30 g_dfX14_27_1 (by decide)
  have g_dfX14_30_4 := fx_ne (j := 4) e_dfX14_30 g_dfX14_27_4 (by decide)
  have g_dfX14_30_5 := fx_ne (j := 5) e_dfX14_30 g_dfX14_27_5 (by decide)
  have g_dfX14_30_9 := fx_ne (j := 9) e_dfX14_30 g_dfX14_27_9 (by decide)
  have g_dfX14_30_78 := fx_ne (j := 78) e_dfX14_30 g_dfX14_27_78 (by decide)
  have g_dfX14_30_80 := fx_ne (j := 80) e_dfX14_30 g_dfX14_27_80 (by decide)
  have g_dfX14_30_85 := fx_ne (j := 85) e_dfX14_30 g_dfX14_27_85 (by decide)
  have g_dfX14_30_88 := fx_ne (j := 88) e_dfX14_30 g_dfX14_27_88 (by decide)
  have g_dfX14_30_96 := fx_ne (j := 96) e_dfX14_30 g_dfX14_27_96 (by decide)
  have g_dfX14_30_100 := fx_ne (j := 100) e_dfX14_30 g_dfX14_27_100 (by decide)
  have g_dfX14_30_101 := fx_ne (j := 101) e_dfX14_30 g_dfX14_27_101 (by decide)
  have g_dfX14_30_3 := fx_ne (j := 3) e_dfX14_30 g_dfX14_27_3 (by decide)
  have g_dfX14_30_6 := fx_ne (j := 6) e_dfX14_30 g_dfX14_27_6 (by decide)
  have g_dfX14_30_10 := fx_ne (j := 10) e_dfX14_30 g_dfX14_27_10 (by decide)
  refine lv_aload_n hx hb dX14_init_100 rfl (lv_at hl 0 rfl) ?_
  refine lv_sipush (v := 3000) hx hb dX14_init_101 (by decide) ?_
  refine va_newa (atype := .int) (ty := .int) (a0 := (3000, .inl (fun _ => 0))) (N' := 3000) hx hb (hts (.arrayClass .int) kw_6) rfl hK hP hD hS hA (fun _ => rfl) (by decide) (by decide) (by decide) (Nat.le_of_ble_eq_true rfl) (Nat.le_of_ble_eq_true rfl) dX14_init_104 (fun q_31 cA_32 H hK hP hD hS => ?_)
  have hP := hP.sub (ws' := [(h0, .inr (12, dfX14_30)), (q_4, .inl (cA_5, 16000, .inl (fun _ => 0))), (q_7, .inr (13, []))]) [0, 1, 2] rfl
  have hD := hD.sub (ws' := [(h0, .inr (12, dfX14_30)), (q_4, .inl (cA_5, 16000, .inl (fun _ => 0))), (q_7, .inr (13, []))]) [0, 1, 2] (by decide) rfl
  have hK := hK.sub (tys' := [(cA_5, .byte)]) [0] rfl
  refine W.widen (k := 11) (n := 24576) (Nat.le_of_ble_eq_true rfl) (Nat.le_of_ble_eq_true rfl) ?_
  refine va_putF (D := (dC, dI)) (ci := 12) (v := .ref q_31) (ty := (.array .int)) (C := RX14) (T := TX14) (N := 143) hx hb hts inX14 tyX14 tyX14_ok nmX14 hown hK hP hD hS 0 rfl rfl 27 (by decide) (hts _ kw_282) (fun _ h9 => h9) rfl hin rfl (by decide +kernel) rfl rfl (by rw [L_dfX14_30]; decide) dX14_init_106 (fun H locs hP hD hS => ?_)
  obtain ⟨dfX14_33, e_dfX14_33⟩ : ∃ z, z = dfX14_30.set 27 (.ref q_31) := ⟨_, rfl⟩
  have hP : va_P (dC, dI) cl0 [(h0, .inr (12, dfX14_33)), (q_4, .inl (cA_5, 16000, .inl (fun _ => 0))), (q_7, .inr (13, []))] H := by rw [e_dfX14_33]; exact hP
  have hD : va_D A [(h0, .inr (12, dfX14_33)), (q_4, .inl (cA_5, 16000, .inl (fun _ => 0))), (q_7, .inr (13, []))] := by rw [e_dfX14_33]; exact hD
  have L_dfX14_33 : dfX14_33.length = 143 := fx_len e_dfX14_33 L_dfX14_30
  have g_dfX14_33_1 := fx_ne (j := 1) e_dfX14_33 g_dfX14_30_1 (by decide)
  have g_dfX14_33_4 := fx_ne (j := 4) e_dfX14_33 g_dfX14_30_4 (by decide)
  have g_dfX14_33_5 := fx_ne (j := 5) e_dfX14_33 g_dfX14_30_5 (by decide)
  have g_dfX14_33_9 := fx_ne (j := 9) e_dfX14_33 g_dfX14_30_9 (by decide)
  have g_dfX14_33_78 := fx_ne (j := 78) e_dfX14_33 g_dfX14_30_78 (by decide)
  have g_dfX14_33_80 := fx_ne (j := 80) e_dfX14_33 g_dfX14_30_80 (by decide)
  have g_dfX14_33_85 := fx_ne (j := 85) e_dfX14_33 g_dfX14_30_85 (by decide)
  have g_dfX14_33_88 := fx_ne (j := 88) e_dfX14_33 g_dfX14_30_88 (by decide)
  have g_dfX14_33_96 := fx_ne (j := 96) e_dfX14_33 g_dfX14_30_96 (by decide)
  have g_dfX14_33_100 := fx_ne (j := 100) e_dfX14_33 g_dfX14_30_100 (by decide)
  have g_dfX14_33_101 := fx_ne (j := 101) e_dfX14_33 g_dfX14_30_101 (by decide)
  have g_dfX14_33_3 := fx_ne (j := 3) e_dfX14_33 g_dfX14_30_3 (by decide)
  have g_dfX14_33_6 := fx_ne (j := 6) e_dfX14_33 g_dfX14_30_6 (by decide)
  have g_dfX14_33_10 := fx_ne (j := 10) e_dfX14_33 g_dfX14_30_10 (by decide)
  refine lv_aload_n hx hb dX14_init_109 rfl (lv_at hl 0 rfl) ?_
  refine lv_bipush (v := 24) hx hb dX14_init_110 (by decide) ?_
  refine va_newa (atype := .int) (ty := .int) (a0 := (24, .inl (fun _ => 0))) (N' := 24) hx hb (hts (.arrayClass .int) kw_6) rfl hK hP hD hS hA (fun _ => rfl) (by decide) (by decide) (by decide) (Nat.le_of_ble_eq_true rfl) (Nat.le_of_ble_eq_true rfl) dX14_init_112 (fun q_34 cA_35 H hK hP hD hS => ?_)
  have hP := hP.sub (ws' := [(h0, .inr (12, dfX14_33)), (q_4, .inl (cA_5, 16000, .inl (fun _ => 0))), (q_7, .inr (13, []))]) [0, 1, 2] rfl
  have hD := hD.sub (ws' := [(h0, .inr (12, dfX14_33)), (q_4, .inl (cA_5, 16000, .inl (fun _ => 0))), (q_7, .inr (13, []))]) [0, 1, 2] (by decide) rfl
  have hK := hK.sub (tys' := [(cA_5, .byte)]) [0] rfl
  refine W.widen (k := 12) (n := 24600) (Nat.le_of_ble_eq_true rfl) (Nat.le_of_ble_eq_true rfl) ?_
  refine va_putF (D := (dC, dI)) (ci := 12) (v := .ref q_34) (ty := (.array .int)) (C := RX14) (T := TX14) (N := 143) hx hb hts inX14 tyX14 tyX14_ok nmX14 hown hK hP hD hS 0 rfl rfl 29 (by decide) (hts _ kw_283) (fun _ h9 => h9) rfl hin rfl (by decide +kernel) rfl rfl (by rw [L_dfX14_33]; decide) dX14_init_114 (fun H locs hP hD hS => ?_)
  obtain ⟨dfX14_36, e_dfX14_36⟩ : ∃ z, z = dfX14_33.set 29 (.ref q_34) := ⟨_, rfl⟩
  have hP : va_P (dC, dI) cl0 [(h0, .inr (12, dfX14_36)), (q_4, .inl (cA_5, 16000, .inl (fun _ => 0))), (q_7, .inr (13, []))] H := by rw [e_dfX14_36]; exact hP
  have hD : va_D A [(h0, .inr (12, dfX14_36)), (q_4, .inl (cA_5, 16000, .inl (fun _ => 0))), (q_7, .inr (13, []))] := by rw [e_dfX14_36]; exact hD
  have L_dfX14_36 : dfX14_36.length = 143 := fx_len e_dfX14_36 L_dfX14_33
  have g_dfX14_36_1 := fx_ne (j := 1) e_dfX14_36 g_dfX14_33_1 (by decide)
  have g_dfX14_36_4 := fx_ne (j := 4) e_dfX14_36 g_dfX14_33_4 (by decide)
  have g_dfX14_36_5 := fx_ne (j := 5) e_dfX14_36 g_dfX14_33_5 (by decide)
  have g_dfX14_36_9 := fx_ne (j := 9) e_dfX14_36 g_dfX14_33_9 (by decide)
  have g_dfX14_36_78 := fx_ne (j := 78) e_dfX14_36 g_dfX14_33_78 (by decide)
  have g_dfX14_36_80 := fx_ne (j := 80) e_dfX14_36 g_dfX14_33_80 (by decide)
  have g_dfX14_36_85 := fx_ne (j := 85) e_dfX14_36 g_dfX14_33_85 (by decide)
  have g_dfX14_36_88 := fx_ne (j := 88) e_dfX14_36 g_dfX14_33_88 (by decide)
  have g_dfX14_36_96 := fx_ne (j := 96) e_dfX14_36 g_dfX14_33_96 (by decide)
  have g_dfX14_36_100 := fx_ne (j := 100) e_dfX14_36 g_dfX14_33_100 (by decide)
  have g_dfX14_36_101 := fx_ne (j := 101) e_dfX14_36 g_dfX14_33_101 (by decide)
  have g_dfX14_36_3 := fx_ne (j := 3) e_dfX14_36 g_dfX14_33_3 (by decide)
  have g_dfX14_36_6 := fx_ne (j := 6) e_dfX14_36 g_dfX14_33_6 (by decide)
  have g_dfX14_36_10 := fx_ne (j := 10) e_dfX14_36 g_dfX14_33_10 (by decide)
  refine lv_aload_n hx hb dX14_init_117 rfl (lv_at hl 0 rfl) ?_
  refine lv_bipush (v := 24) hx hb dX14_init_118 (by decide) ?_
  refine va_newa (atype := .int) (ty := .int) (a0 := (24, .inl (fun _ => 0))) (N' := 24) hx hb (hts (.arrayClass .int) kw_6) rfl hK hP hD hS hA (fun _ => rfl) (by decide) (by decide) (by decide) (Nat.le_of_ble_eq_true rfl) (Nat.le_of_ble_eq_true rfl) dX14_init_120 (fun q_37 cA_38 H hK hP hD hS => ?_)
  have hP := hP.sub (ws' := [(h0, .inr (12, dfX14_36)), (q_4, .inl (cA_5, 16000, .inl (fun _ => 0))), (q_7, .inr (13, []))]) [0, 1, 2] rfl
  have hD := hD.sub (ws' := [(h0, .inr (12, dfX14_36)), (q_4, .inl (cA_5, 16000, .inl (fun _ => 0))), (q_7, .inr (13, []))]) [0, 1, 2] (by decide) rfl
  have hK := hK.sub (tys' := [(cA_5, .byte)]) [0] rfl
  refine W.widen (k := 13) (n := 24624) (Nat.le_of_ble_eq_true rfl) (Nat.le_of_ble_eq_true rfl) ?_
  refine va_putF (D := (dC, dI)) (ci := 12) (v := .ref q_37) (ty := (.array .int)) (C := RX14) (T := TX14) (N := 143) hx hb hts inX14 tyX14 tyX14_ok nmX14 hown hK hP hD hS 0 rfl rfl 30 (by decide) (hts _ kw_284) (fun _ h9 => h9) rfl hin rfl (by decide +kernel) rfl rfl (by rw [L_dfX14_36]; decide) dX14_init_122 (fun H locs hP hD hS => ?_)
  obtain ⟨dfX14_39, e_dfX14_39⟩ : ∃ z, z = dfX14_36.set 30 (.ref q_37) := ⟨_, rfl⟩
  have hP : va_P (dC, dI) cl0 [(h0, .inr (12, dfX14_39)), (q_4, .inl (cA_5, 16000, .inl (fun _ => 0))), (q_7, .inr (13, []))] H := by rw [e_dfX14_39]; exact hP
  have hD : va_D A [(h0, .inr (12, dfX14_39)), (q_4, .inl (cA_5, 16000, .inl (fun _ => 0))), (q_7, .inr (13, []))] := by rw [e_dfX14_39]; exact hD
  have L_dfX14_39 : dfX14_39.length = 143 := fx_len e_dfX14_39 L_dfX14_36
  have g_dfX14_39_1 := fx_ne (j := 1) e_dfX14_39 g_dfX14_36_1 (by decide)
  have g_dfX14_39_4 := fx_ne (j := 4) e_dfX14_39 g_dfX14_36_4 (by decide)
  have g_dfX14_39_5 := fx_ne (j := 5) e_dfX14_39 g_dfX14_36_5 (by decide)
  have g_dfX14_39_9 := fx_ne (j := 9) e_dfX14_39 g_dfX14_36_9 (by decide)
  have g_dfX14_39_78 := fx_ne (j := 78) e_dfX14_39 g_dfX14_36_78 (by decide)
  have g_dfX14_39_80 := fx_ne (j := 80) e_dfX14_39 g_dfX14_36_80 (by decide)
  have g_dfX14_39_85 := fx_ne (j := 85) e_dfX14_39 g_dfX14_36_85 (by decide)
  have g_dfX14_39_88 := fx_ne (j := 88) e_dfX14_39 g_dfX14_36_88 (by decide)
  have g_dfX14_39_96 := fx_ne (j := 96) e_dfX14_39 g_dfX14_36_96 (by decide)
  have g_dfX14_39_100 := fx_ne (j := 100) e_dfX14_39 g_dfX14_36_100 (by decide)
  have g_dfX14_39_101 := fx_ne (j := 101) e_dfX14_39 g_dfX14_36_101 (by decide)
  have g_dfX14_39_3 := fx_ne (j := 3) e_dfX14_39 g_dfX14_36_3 (by decide)
  have g_dfX14_39_6 := fx_ne (j := 6) e_dfX14_39 g_dfX14_36_6 (by decide)
  have g_dfX14_39_10 := fx_ne (j := 10) e_dfX14_39 g_dfX14_36_10 (by decide)
  refine lv_aload_n hx hb dX14_init_125 rfl (lv_at hl 0 rfl) ?_
  refine lv_bipush (v := 24) hx hb dX14_init_126 (by decide) ?_
  refine va_newa (atype := .int) (ty := .int) (a0 := (24, .inl (fun _ => 0))) (N' := 24) hx hb (hts (.arrayClass .int) kw_6) rfl hK hP hD hS hA (fun _ => rfl) (by decide) (by decide) (by decide) (Nat.le_of_ble_eq_true rfl) (Nat.le_of_ble_eq_true rfl) dX14_init_128 (fun q_40 cA_41 H hK hP hD hS => ?_)
  have hP := hP.sub (ws' := [(h0, .inr (12, dfX14_39)), (q_4, .inl (cA_5, 16000, .inl (fun _ => 0))), (q_7, .inr (13, []))]) [0, 1, 2] rfl
  have hD := hD.sub (ws' := [(h0, .inr (12, dfX14_39)), (q_4, .inl (cA_5, 16000, .inl (fun _ => 0))), (q_7, .inr (13, []))]) [0, 1, 2] (by decide) rfl
  have hK := hK.sub (tys' := [(cA_5, .byte)]) [0] rfl
  refine W.widen (k := 14) (n := 24648) (Nat.le_of_ble_eq_true rfl) (Nat.le_of_ble_eq_true rfl) ?_
  refine va_putF (D := (dC, dI)) (ci := 12) (v := .ref q_40) (ty := (.array .int)) (C := RX14) (T := TX14) (N := 143) hx hb hts inX14 tyX14 tyX14_ok nmX14 hown hK hP hD hS 0 rfl rfl 31 (by decide) (hts _ kw_285) (fun _ h9 => h9) rfl hin rfl (by decide +kernel) rfl rfl (by rw [L_dfX14_39]; decide) dX14_init_130 (fun H locs hP hD hS => ?_)
  obtain ⟨dfX14_42, e_dfX14_42⟩ : ∃ z, z = dfX14_39.set 31 (.ref q_40) := ⟨_, rfl⟩
  have hP : va_P (dC, dI) cl0 [(h0, .inr (12, dfX14_42)), (q_4, .inl (cA_5, 16000, .inl (fun _ => 0))), (q_7, .inr (13, []))] H := by rw [e_dfX14_42]; exact hP
  have hD : va_D A [(h0, .inr (12, dfX14_42)), (q_4, .inl (cA_5, 16000, .inl (fun _ => 0))), (q_7, .inr (13, []))] := by rw [e_dfX14_42]; exact hD
  have L_dfX14_42 : dfX14_42.length = 143 := fx_len e_dfX14_42 L_dfX14_39
  have g_dfX14_42_1 := fx_ne (j := 1) e_dfX14_42 g_dfX14_39_1 (by decide)
  have g_dfX14_42_4 := fx_ne (j := 4) e_dfX14_42 g_dfX14_39_4 (by decide)
  have g_dfX14_42_5 := fx_ne (j := 5) e_dfX14_42 g_dfX14_39_5 (by decide)
  have g_dfX14_42_9 := fx_ne (j := 9) e_dfX14_42 g_dfX14_39_9 (by decide)
  have g_dfX14_42_78 := fx_ne (j := 78) e_dfX14_42 g_dfX14_39_78 (by decide)
  have g_dfX14_42_80 := fx_ne (j := 80) e_dfX14_42 g_dfX14_39_80 (by decide)
  have g_dfX14_42_85 := fx_ne (j := 85) e_dfX14_42 g_dfX14_39_85 (by decide)
  have g_dfX14_42_88 := fx_ne (j := 88) e_dfX14_42 g_dfX14_39_88 (by decide)
  have g_dfX14_42_96 := fx_ne (j := 96) e_dfX14_42 g_dfX14_39_96 (by decide)
  have g_dfX14_42_100 := fx_ne (j := 100) e_dfX14_42 g_dfX14_39_100 (by decide)
  have g_dfX14_42_101 := fx_ne (j := 101) e_dfX14_42 g_dfX14_39_101 (by decide)
  have g_dfX14_42_3 := fx_ne (j := 3) e_dfX14_42 g_dfX14_39_3 (by decide)
  have g_dfX14_42_6 := fx_ne (j := 6) e_dfX14_42 g_dfX14_39_6 (by decide)
  have g_dfX14_42_10 := fx_ne (j := 10) e_dfX14_42 g_dfX14_39_10 (by decide)
  refine lv_aload_n hx hb dX14_init_133 rfl (lv_at hl 0 rfl) ?_
  refine lv_bipush (v := 24) hx hb dX14_init_134 (by decide) ?_
  refine va_newa (atype := .int) (ty := .int) (a0 := (24, .inl (fun _ => 0))) (N' := 24) hx hb (hts (.arrayClass .int) kw_6) rfl hK hP hD hS hA (fun _ => rfl) (by decide) (by decide) (by decide) (Nat.le_of_ble_eq_true rfl) (Nat.le_of_ble_eq_true rfl) dX14_init_136 (fun q_43 cA_44 H hK hP hD hS => ?_)
  have hP := hP.sub (ws' := [(h0, .inr (12, dfX14_42)), (q_4, .inl (cA_5, 16000, .inl (fun _ => 0))), (q_7, .inr (13, []))]) [0, 1, 2] rfl
  have hD := hD.sub (ws' := [(h0, .inr (12, dfX14_42)), (q_4, .inl (cA_5, 16000, .inl (fun _ => 0))), (q_7, .inr (13, []))]) [0, 1, 2] (by decide) rfl
  have hK := hK.sub (tys' := [(cA_5, .byte)]) [0] rfl
  refine W.widen (k := 15) (n := 24672) (Nat.le_of_ble_eq_true rfl) (Nat.le_of_ble_eq_true rfl) ?_
  refine va_putF (D := (dC, dI)) (ci := 12) (v := .ref q_43) (ty := (.array .int)) (C := RX14) (T := TX14) (N := 143) hx hb hts inX14 tyX14 tyX14_ok nmX14 hown hK hP hD hS 0 rfl rfl 32 (by decide) (hts _ kw_286) (fun _ h9 => h9) rfl hin rfl (by decide +kernel) rfl rfl (by rw [L_dfX14_42]; decide) dX14_init_138 (fun H locs hP hD hS => ?_)
  obtain ⟨dfX14_45, e_dfX14_45⟩ : ∃ z, z = dfX14_42.set 32 (.ref q_43) := ⟨_, rfl⟩
  have hP : va_P (dC, dI) cl0 [(h0, .inr (12, dfX14_45)), (q_4, .inl (cA_5, 16000, .inl (fun _ => 0))), (q_7, .inr (13, []))] H := by rw [e_dfX14_45]; exact hP
  have hD : va_D A [(h0, .inr (12, dfX14_45)), (q_4, .inl (cA_5, 16000, .inl (fun _ => 0))), (q_7, .inr (13, []))] := by rw [e_dfX14_45]; exact hD
  have L_dfX14_45 : dfX14_45.length = 143 := fx_len e_dfX14_45 L_dfX14_42
  have g_dfX14_45_1 := fx_ne (j := 1) e_dfX14_45 g_dfX14_42_1 (by decide)
  have g_dfX14_45_4 := fx_ne (j := 4) e_dfX14_45 g_dfX14_42_4 (by decide)
  have g_dfX14_45_5 := fx_ne (j := 5) e_dfX14_45 g_dfX14_42_5 (by decide)
  have g_dfX14_45_9 := fx_ne (j := 9) e_dfX14_45 g_dfX14_42_9 (by decide)
  have g_dfX14_45_78 := fx_ne (j := 78) e_dfX14_45 g_dfX14_42_78 (by decide)
  have g_dfX14_45_80 := fx_ne (j := 80) e_dfX14_45 g_dfX14_42_80 (by decide)
  have g_dfX14_45_85 := fx_ne (j := 85) e_dfX14_45 g_dfX14_42_85 (by decide)
  have g_dfX14_45_88 := fx_ne (j := 88) e_dfX14_45 g_dfX14_42_88 (by decide)
  have g_dfX14_45_96 := fx_ne (j := 96) e_dfX14_45 g_dfX14_42_96 (by decide)
  have g_dfX14_45_100 := fx_ne (j := 100) e_dfX14_45 g_dfX14_42_100 (by decide)
  have g_dfX14_45_101 := fx_ne (j := 101) e_dfX14_45 g_dfX14_42_101 (by decide)
  have g_dfX14_45_3 := fx_ne (j := 3) e_dfX14_45 g_dfX14_42_3 (by decide)
  have g_dfX14_45_6 := fx_ne (j := 6) e_dfX14_45 g_dfX14_42_6 (by decide)
  have g_dfX14_45_10 := fx_ne (j := 10) e_dfX14_45 g_dfX14_42_10 (by decide)
  refine lv_aload_n hx hb dX14_init_141 rfl (lv_at hl 0 rfl) ?_
  refine lv_bipush (v := 24) hx hb dX14_init_142 (by decide) ?_
  refine va_newa (atype := .int) (ty := .int) (a0 := (24, .inl (fun _ => 0))) (N' := 24) hx hb (hts (.arrayClass .int) kw_6) rfl hK hP hD hS hA (fun _ => rfl) (by decide) (by decide) (by decide) (Nat.le_of_ble_eq_true rfl) (Nat.le_of_ble_eq_true rfl) dX14_init_144 (fun q_46 cA_47 H hK hP hD hS => ?_)
  have hP := hP.sub (ws' := [(h0, .inr (12, dfX14_45)), (q_4, .inl (cA_5, 16000, .inl (fun _ => 0))), (q_7, .inr (13, []))]) [0, 1, 2] rfl
  have hD := hD.sub (ws' := [(h0, .inr (12, dfX14_45)), (q_4, .inl (cA_5, 16000, .inl (fun _ => 0))), (q_7, .inr (13, []))]) [0, 1, 2] (by decide) rfl
  have hK := hK.sub (tys' := [(cA_5, .byte)]) [0] rfl
  refine W.widen (k := 16) (n := 24696) (Nat.le_of_ble_eq_true rfl) (Nat.le_of_ble_eq_true rfl) ?_
  refine va_putF (D := (dC, dI)) (ci := 12) (v := .ref q_46) (ty := (.array .int)) (C := RX14) (T := TX14) (N := 143) hx hb hts inX14 tyX14 tyX14_ok nmX14 hown hK hP hD hS 0 rfl rfl 33 (by decide) (hts _ kw_287) (fun _ h9 => h9) rfl hin rfl (by decide +kernel) rfl rfl (by rw [L_dfX14_45]; decide) dX14_init_146 (fun H locs hP hD hS => ?_)
  obtain ⟨dfX14_48, e_dfX14_48⟩ : ∃ z, z = dfX14_45.set 33 (.ref q_46) := ⟨_, rfl⟩
  have hP : va_P (dC, dI) cl0 [(h0, .inr (12, dfX14_48)), (q_4, .inl (cA_5, 16000, .inl (fun _ => 0))), (q_7, .inr (13, []))] H := by rw [e_dfX14_48]; exact hP
  have hD : va_D A [(h0, .inr (12, dfX14_48)), (q_4, .inl (cA_5, 16000, .inl (fun _ => 0))), (q_7, .inr (13, []))] := by rw [e_dfX14_48]; exact hD
  have L_dfX14_48 : dfX14_48.length = 143 := fx_len e_dfX14_48 L_dfX14_45
  have g_dfX14_48_1 := fx_ne (j := 1) e_dfX14_48 g_dfX14_45_1 (by decide)
  have g_dfX14_48_4 := fx_ne (j := 4) e_dfX14_48 g_dfX14_45_4 (by decide)
  have g_dfX14_48_5 := fx_ne (j := 5) e_dfX14_48 g_dfX14_45_5 (by decide)
  have g_dfX14_48_9 := fx_ne (j := 9) e_dfX14_48 g_dfX14_45_9 (by decide)
  have g_dfX14_48_78 := fx_ne (j := 78) e_dfX14_48 g_dfX14_45_78 (by decide)
  have g_dfX14_48_80 := fx_ne (j := 80) e_dfX14_48 g_dfX14_45_80 (by decide)
  have g_dfX14_48_85 := fx_ne (j := 85) e_dfX14_48 g_dfX14_45_85 (by decide)
  have g_dfX14_48_88 := fx_ne (j := 88) e_dfX14_48 g_dfX14_45_88 (by decide)
  have g_dfX14_48_96 := fx_ne (j := 96) e_dfX14_48 g_dfX14_45_96 (by decide)
  have g_dfX14_48_100 := fx_ne (j := 100) e_dfX14_48 g_dfX14_45_100 (by decide)
  have g_dfX14_48_101 := fx_ne (j := 101) e_dfX14_48 g_dfX14_45_101 (by decide)
  have g_dfX14_48_3 := fx_ne (j := 3) e_dfX14_48 g_dfX14_45_3 (by decide)
  have g_dfX14_48_6 := fx_ne (j := 6) e_dfX14_48 g_dfX14_45_6 (by decide)
  have g_dfX14_48_10 := fx_ne (j := 10) e_dfX14_48 g_dfX14_45_10 (by decide)
  refine lv_aload_n hx hb dX14_init_149 rfl (lv_at hl 0 rfl) ?_
  refine lv_bipush (v := 24) hx hb dX14_init_150 (by decide) ?_
  refine va_newa (atype := .int) (ty := .int) (a0 := (24, .inl (fun _ => 0))) (N' := 24) hx hb (hts (.arrayClass .int) kw_6) rfl hK hP hD hS hA (fun _ => rfl) (by decide) (by decide) (by decide) (Nat.le_of_ble_eq_true rfl) (Nat.le_of_ble_eq_true rfl) dX14_init_152 (fun q_49 cA_50 H hK hP hD hS => ?_)
  have hP := hP.sub (ws' := [(h0, .inr (12, dfX14_48)), (q_4, .inl (cA_5, 16000, .inl (fun _ => 0))), (q_7, .inr (13, []))]) [0, 1, 2] rfl
  have hD := hD.sub (ws' := [(h0, .inr (12, dfX14_48)), (q_4, .inl (cA_5, 16000, .inl (fun _ => 0))), (q_7, .inr (13, []))]) [0, 1, 2] (by decide) rfl
  have hK := hK.sub (tys' := [(cA_5, .byte)]) [0] rfl
  refine W.widen (k := 17) (n := 24720) (Nat.le_of_ble_eq_true rfl) (Nat.le_of_ble_eq_true rfl) ?_
  refine va_putF (D := (dC, dI)) (ci := 12) (v := .ref q_49) (ty := (.array .int)) (C := RX14) (T := TX14) (N := 143) hx hb hts inX14 tyX14 tyX14_ok nmX14 hown hK hP hD hS 0 rfl rfl 34 (by decide) (hts _ kw_288) (fun _ h9 => h9) rfl hin rfl (by decide +kernel) rfl rfl (by rw [L_dfX14_48]; decide) dX14_init_154 (fun H locs hP hD hS => ?_)
  obtain ⟨dfX14_51, e_dfX14_51⟩ : ∃ z, z = dfX14_48.set 34 (.ref q_49) := ⟨_, rfl⟩
  have hP : va_P (dC, dI) cl0 [(h0, .inr (12, dfX14_51)), (q_4, .inl (cA_5, 16000, .inl (fun _ => 0))), (q_7, .inr (13, []))] H := by rw [e_dfX14_51]; exact hP
  have hD : va_D A [(h0, .inr (12, dfX14_51)), (q_4, .inl (cA_5, 16000, .inl (fun _ => 0))), (q_7, .inr (13, []))] := by rw [e_dfX14_51]; exact hD
  have L_dfX14_51 : dfX14_51.length = 143 := fx_len e_dfX14_51 L_dfX14_48
  have g_dfX14_51_1 := fx_ne (j := 1) e_dfX14_51 g_dfX14_48_1 (by decide)
  have g_dfX14_51_4 := fx_ne (j := 4) e_dfX14_51 g_dfX14_48_4 (by decide)
  have g_dfX14_51_5 := fx_ne (j := 5) e_dfX14_51 g_dfX14_48_5 (by decide)
  have g_dfX14_51_9 := fx_ne (j := 9) e_dfX14_51 g_dfX14_48_9 (by decide)
  have g_dfX14_51_78 := fx_ne (j := 78) e_dfX14_51 g_dfX14_48_78 (by decide)
  have g_dfX14_51_80 := fx_ne (j := 80) e_dfX14_51 g_dfX14_48_80 (by decide)
  have g_dfX14_51_85 := fx_ne (j := 85) e_dfX14_51 g_dfX14_48_85 (by decide)
  have g_dfX14_51_88 := fx_ne (j := 88) e_dfX14_51 g_dfX14_48_88 (by decide)
  have g_dfX14_51_96 := fx_ne (j := 96) e_dfX14_51 g_dfX14_48_96 (by decide)
  have g_dfX14_51_100 := fx_ne (j := 100) e_dfX14_51 g_dfX14_48_100 (by decide)
  have g_dfX14_51_101 := fx_ne (j := 101) e_dfX14_51 g_dfX14_48_101 (by decide)
  have g_dfX14_51_3 := fx_ne (j := 3) e_dfX14_51 g_dfX14_48_3 (by decide)
  have g_dfX14_51_6 := fx_ne (j := 6) e_dfX14_51 g_dfX14_48_6 (by decide)
  have g_dfX14_51_10 := fx_ne (j := 10) e_dfX14_51 g_dfX14_48_10 (by decide)
  refine lv_aload_n hx hb dX14_init_157 rfl (lv_at hl 0 rfl) ?_
  refine lv_sipush (v := 1201) hx hb dX14_init_158 (by decide) ?_
  refine va_newa (atype := .int) (ty := .int) (a0 := (1201, .inl (fun _ => 0))) (N' := 1201) hx hb (hts (.arrayClass .int) kw_6) rfl hK hP hD hS hA (fun _ => rfl) (by decide) (by decide) (by decide) (Nat.le_of_ble_eq_true rfl) (Nat.le_of_ble_eq_true rfl) dX14_init_161 (fun q_52 cA_53 H hK hP hD hS => ?_)
  have hP := hP.sub (ws' := [(h0, .inr (12, dfX14_51)), (q_4, .inl (cA_5, 16000, .inl (fun _ => 0))), (q_7, .inr (13, []))]) [0, 1, 2] rfl
  have hD := hD.sub (ws' := [(h0, .inr (12, dfX14_51)), (q_4, .inl (cA_5, 16000, .inl (fun _ => 0))), (q_7, .inr (13, []))]) [0, 1, 2] (by decide) rfl
  have hK := hK.sub (tys' := [(cA_5, .byte)]) [0] rfl
  refine W.widen (k := 18) (n := 25921) (Nat.le_of_ble_eq_true rfl) (Nat.le_of_ble_eq_true rfl) ?_
  refine va_putF (D := (dC, dI)) (ci := 12) (v := .ref q_52) (ty := (.array .int)) (C := RX14) (T := TX14) (N := 143) hx hb hts inX14 tyX14 tyX14_ok nmX14 hown hK hP hD hS 0 rfl rfl 38 (by decide) (hts _ kw_289) (fun _ h9 => h9) rfl hin rfl (by decide +kernel) rfl rfl (by rw [L_dfX14_51]; decide) dX14_init_163 (fun H locs hP hD hS => ?_)
  obtain ⟨dfX14_54, e_dfX14_54⟩ : ∃ z, z = dfX14_51.set 38 (.ref q_52) := ⟨_, rfl⟩
  have hP : va_P (dC, dI) cl0 [(h0, .inr (12, dfX14_54)), (q_4, .inl (cA_5, 16000, .inl (fun _ => 0))), (q_7, .inr (13, []))] H := by rw [e_dfX14_54]; exact hP
  have hD : va_D A [(h0, .inr (12, dfX14_54)), (q_4, .inl (cA_5, 16000, .inl (fun _ => 0))), (q_7, .inr (13, []))] := by rw [e_dfX14_54]; exact hD
  have L_dfX14_54 : dfX14_54.length = 143 := fx_len e_dfX14_54 L_dfX14_51
  have g_dfX14_54_1 := fx_ne (j := 1) e_dfX14_54 g_dfX14_51_1 (by decide)
  have g_dfX14_54_4 := fx_ne (j := 4) e_dfX14_54 g_dfX14_51_4 (by decide)
  have g_dfX14_54_5 := fx_ne (j := 5) e_dfX14_54 g_dfX14_51_5 (by decide)
  have g_dfX14_54_9 := fx_ne (j := 9) e_dfX14_54 g_dfX14_51_9 (by decide)
  have g_dfX14_54_78 := fx_ne (j := 78) e_dfX14_54 g_dfX14_51_78 (by decide)
  have g_dfX14_54_80 := fx_ne (j := 80) e_dfX14_54 g_dfX14_51_80 (by decide)
  have g_dfX14_54_85 := fx_ne (j := 85) e_dfX14_54 g_dfX14_51_85 (by decide)
  have g_dfX14_54_88 := fx_ne (j := 88) e_dfX14_54 g_dfX14_51_88 (by decide)
  have g_dfX14_54_96 := fx_ne (j := 96) e_dfX14_54 g_dfX14_51_96 (by decide)
  have g_dfX14_54_100 := fx_ne (j := 100) e_dfX14_54 g_dfX14_51_100 (by decide)
  have g_dfX14_54_101 := fx_ne (j := 101) e_dfX14_54 g_dfX14_51_101 (by decide)
  have g_dfX14_54_3 := fx_ne (j := 3) e_dfX14_54 g_dfX14_51_3 (by decide)
  have g_dfX14_54_6 := fx_ne (j := 6) e_dfX14_54 g_dfX14_51_6 (by decide)
  have g_dfX14_54_10 := fx_ne (j := 10) e_dfX14_54 g_dfX14_51_10 (by decide)
  refine lv_aload_n hx hb dX14_init_166 rfl (lv_at hl 0 rfl) ?_
  refine lv_ldc hx hb hown (hts _ kw_290) dX14_init_167 ?_
  refine va_newa (atype := .int) (ty := .int) (a0 := (86400, .inl (fun _ => 0))) (N' := 86400) hx hb (hts (.arrayClass .int) kw_6) rfl hK hP hD hS hA (fun _ => rfl) (by decide) (by decide) (by decide) (Nat.le_of_ble_eq_true rfl) (Nat.le_of_ble_eq_true rfl) dX14_init_169 (fun q_55 cA_56 H hK hP hD hS => ?_)
  have hP := hP.sub (ws' := [(h0, .inr (12, dfX14_54)), (q_4, .inl (cA_5, 16000, .inl (fun _ => 0))), (q_7, .inr (13, []))]) [0, 1, 2] rfl
  have hD := hD.sub (ws' := [(h0, .inr (12, dfX14_54)), (q_4, .inl (cA_5, 16000, .inl (fun _ => 0))), (q_7, .inr (13, []))]) [0, 1, 2] (by decide) rfl
  have hK := hK.sub (tys' := [(cA_5, .byte)]) [0] rfl
  refine W.widen (k := 19) (n := 112321) (Nat.le_of_ble_eq_true rfl) (Nat.le_of_ble_eq_true rfl) ?_
  refine va_putF (D := (dC, dI)) (ci := 12) (v := .ref q_55) (ty := (.array .int)) (C := RX14) (T := TX14) (N := 143) hx hb hts inX14 tyX14 tyX14_ok nmX14 hown hK hP hD hS 0 rfl rfl 40 (by decide) (hts _ kw_291) (fun _ h9 => h9) rfl hin rfl (by decide +kernel) rfl rfl (by rw [L_dfX14_54]; decide) dX14_init_171 (fun H locs hP hD hS => ?_)
  obtain ⟨dfX14_57, e_dfX14_57⟩ : ∃ z, z = dfX14_54.set 40 (.ref q_55) := ⟨_, rfl⟩
  have hP : va_P (dC, dI) cl0 [(h0, .inr (12, dfX14_57)), (q_4, .inl (cA_5, 16000, .inl (fun _ => 0))), (q_7, .inr (13, []))] H := by rw [e_dfX14_57]; exact hP
  have hD : va_D A [(h0, .inr (12, dfX14_57)), (q_4, .inl (cA_5, 16000, .inl (fun _ => 0))), (q_7, .inr (13, []))] := by rw [e_dfX14_57]; exact hD
  have L_dfX14_57 : dfX14_57.length = 143 := fx_len e_dfX14_57 L_dfX14_54
  have g_dfX14_57_1 := fx_ne (j := 1) e_dfX14_57 g_dfX14_54_1 (by decide)
  have g_dfX14_57_4 := fx_ne (j := 4) e_dfX14_57 g_dfX14_54_4 (by decide)
  have g_dfX14_57_5 := fx_ne (j := 5) e_dfX14_57 g_dfX14_54_5 (by decide)
  have g_dfX14_57_9 := fx_ne (j := 9) e_dfX14_57 g_dfX14_54_9 (by decide)
  have g_dfX14_57_78 := fx_ne (j := 78) e_dfX14_57 g_dfX14_54_78 (by decide)
  have g_dfX14_57_80 := fx_ne (j := 80) e_dfX14_57 g_dfX14_54_80 (by decide)
  have g_dfX14_57_85 := fx_ne (j := 85) e_dfX14_57 g_dfX14_54_85 (by decide)
  have g_dfX14_57_88 := fx_ne (j := 88) e_dfX14_57 g_dfX14_54_88 (by decide)
  have g_dfX14_57_96 := fx_ne (j := 96) e_dfX14_57 g_dfX14_54_96 (by decide)
  have g_dfX14_57_100 := fx_ne (j := 100) e_dfX14_57 g_dfX14_54_100 (by decide)
  have g_dfX14_57_101 := fx_ne (j := 101) e_dfX14_57 g_dfX14_54_101 (by decide)
  have g_dfX14_57_3 := fx_ne (j := 3) e_dfX14_57 g_dfX14_54_3 (by decide)
  have g_dfX14_57_6 := fx_ne (j := 6) e_dfX14_57 g_dfX14_54_6 (by decide)
  have g_dfX14_57_10 := fx_ne (j := 10) e_dfX14_57 g_dfX14_54_10 (by decide)
  refine lv_aload_n hx hb dX14_init_174 rfl (lv_at hl 0 rfl) ?_
  refine lv_ldc hx hb hown (hts _ kw_292) dX14_init_175 ?_
  refine va_newa (atype := .int) (ty := .int) (a0 := (40000, .inl (fun _ => 0))) (N' := 40000) hx hb (hts (.arrayClass .int) kw_6) rfl hK hP hD hS hA (fun _ => rfl) (by decide) (by decide) (by decide) (Nat.le_of_ble_eq_true rfl) (Nat.le_of_ble_eq_true rfl) dX14_init_177 (fun q_58 cA_59 H hK hP hD hS => ?_)
  have hP := hP.sub (ws' := [(h0, .inr (12, dfX14_57)), (q_4, .inl (cA_5, 16000, .inl (fun _ => 0))), (q_7, .inr (13, []))]) [0, 1, 2] rfl
  have hD := hD.sub (ws' := [(h0, .inr (12, dfX14_57)), (q_4, .inl (cA_5, 16000, .inl (fun _ => 0))), (q_7, .inr (13, []))]) [0, 1, 2] (by decide) rfl
  have hK := hK.sub (tys' := [(cA_5, .byte)]) [0] rfl
  refine W.widen (k := 20) (n := 152321) (Nat.le_of_ble_eq_true rfl) (Nat.le_of_ble_eq_true rfl) ?_
  refine va_putF (D := (dC, dI)) (ci := 12) (v := .ref q_58) (ty := (.array .int)) (C := RX14) (T := TX14) (N := 143) hx hb hts inX14 tyX14 tyX14_ok nmX14 hown hK hP hD hS 0 rfl rfl 42 (by decide) (hts _ kw_293) (fun _ h9 => h9) rfl hin rfl (by decide +kernel) rfl rfl (by rw [L_dfX14_57]; decide) dX14_init_179 (fun H locs hP hD hS => ?_)
  obtain ⟨dfX14_60, e_dfX14_60⟩ : ∃ z, z = dfX14_57.set 42 (.ref q_58) := ⟨_, rfl⟩
  have hP : va_P (dC, dI) cl0 [(h0, .inr (12, dfX14_60)), (q_4, .inl (cA_5, 16000, .inl (fun _ => 0))), (q_7, .inr (13, []))] H := by rw [e_dfX14_60]; exact hP
  have hD : va_D A [(h0, .inr (12, dfX14_60)), (q_4, .inl (cA_5, 16000, .inl (fun _ => 0))), (q_7, .inr (13, []))] := by rw [e_dfX14_60]; exact hD
  have L_dfX14_60 : dfX14_60.length = 143 := fx_len e_dfX14_60 L_dfX14_57
  have g_dfX14_60_1 := fx_ne (j := 1) e_dfX14_60 g_dfX14_57_1 (by decide)
  have g_dfX14_60_4 := fx_ne (j := 4) e_dfX14_60 g_dfX14_57_4 (by decide)
  have g_dfX14_60_5 := fx_ne (j := 5) e_dfX14_60 g_dfX14_57_5 (by decide)
  have g_dfX14_60_9 := fx_ne (j := 9) e_dfX14_60 g_dfX14_57_9 (by decide)
  have g_dfX14_60_78 := fx_ne (j := 78) e_dfX14_60 g_dfX14_57_78 (by decide)
  have g_dfX14_60_80 := fx_ne (j := 80) e_dfX14_60 g_dfX14_57_80 (by decide)
  have g_dfX14_60_85 := fx_ne (j := 85) e_dfX14_60 g_dfX14_57_85 (by decide)
  have g_dfX14_60_88 := fx_ne (j := 88) e_dfX14_60 g_dfX14_57_88 (by decide)
  have g_dfX14_60_96 := fx_ne (j := 96) e_dfX14_60 g_dfX14_57_96 (by decide)
  have g_dfX14_60_100 := fx_ne (j := 100) e_dfX14_60 g_dfX14_57_100 (by decide)
  have g_dfX14_60_101 := fx_ne (j := 101) e_dfX14_60 g_dfX14_57_101 (by decide)
  have g_dfX14_60_3 := fx_ne (j := 3) e_dfX14_60 g_dfX14_57_3 (by decide)
  have g_dfX14_60_6 := fx_ne (j := 6) e_dfX14_60 g_dfX14_57_6 (by decide)
  have g_dfX14_60_10 := fx_ne (j := 10) e_dfX14_60 g_dfX14_57_10 (by decide)
  refine lv_aload_n hx hb dX14_init_182 rfl (lv_at hl 0 rfl) ?_
  refine lv_sipush (v := 1536) hx hb dX14_init_183 (by decide) ?_
  refine va_newa (atype := .int) (ty := .int) (a0 := (1536, .inl (fun _ => 0))) (N' := 1536) hx hb (hts (.arrayClass .int) kw_6) rfl hK hP hD hS hA (fun _ => rfl) (by decide) (by decide) (by decide) (Nat.le_of_ble_eq_true rfl) (Nat.le_of_ble_eq_true rfl) dX14_init_186 (fun q_61 cA_62 H hK hP hD hS => ?_)
  have hP := hP.sub (ws' := [(h0, .inr (12, dfX14_60)), (q_4, .inl (cA_5, 16000, .inl (fun _ => 0))), (q_7, .inr (13, []))]) [0, 1, 2] rfl
  have hD := hD.sub (ws' := [(h0, .inr (12, dfX14_60)), (q_4, .inl (cA_5, 16000, .inl (fun _ => 0))), (q_7, .inr (13, []))]) [0, 1, 2] (by decide) rfl
  have hK := hK.sub (tys' := [(cA_5, .byte)]) [0] rfl
  refine W.widen (k := 21) (n := 153857) (Nat.le_of_ble_eq_true rfl) (Nat.le_of_ble_eq_true rfl) ?_
  refine va_putF (D := (dC, dI)) (ci := 12) (v := .ref q_61) (ty := (.array .int)) (C := RX14) (T := TX14) (N := 143) hx hb hts inX14 tyX14 tyX14_ok nmX14 hown hK hP hD hS 0 rfl rfl 44 (by decide) (hts _ kw_294) (fun _ h9 => h9) rfl hin rfl (by decide +kernel) rfl rfl (by rw [L_dfX14_60]; decide) dX14_init_188 (fun H locs hP hD hS => ?_)
  obtain ⟨dfX14_63, e_dfX14_63⟩ : ∃ z, z = dfX14_60.set 44 (.ref q_61) := ⟨_, rfl⟩
  have hP : va_P (dC, dI) cl0 [(h0, .inr (12, dfX14_63)), (q_4, .inl (cA_5, 16000, .inl (fun _ => 0))), (q_7, .inr (13, []))] H := by rw [e_dfX14_63]; exact hP
  have hD : va_D A [(h0, .inr (12, dfX14_63)), (q_4, .inl (cA_5, 16000, .inl (fun _ => 0))), (q_7, .inr (13, []))] := by rw [e_dfX14_63]; exact hD
  have L_dfX14_63 : dfX14_63.length = 143 := fx_len e_dfX14_63 L_dfX14_60
  have g_dfX14_63_1 := fx_ne (j := 1) e_dfX14_63 g_dfX14_60_1 (by decide)
  have g_dfX14_63_4 := fx_ne (j := 4) e_dfX14_63 g_dfX14_60_4 (by decide)
  have g_dfX14_63_5 := fx_ne (j := 5) e_dfX14_63 g_dfX14_60_5 (by decide)
  have g_dfX14_63_9 := fx_ne (j := 9) e_dfX14_63 g_dfX14_60_9 (by decide)
  have g_dfX14_63_78 := fx_ne (j := 78) e_dfX14_63 g_dfX14_60_78 (by decide)
  have g_dfX14_63_80 := fx_ne (j := 80) e_dfX14_63 g_dfX14_60_80 (by decide)
  have g_dfX14_63_85 := fx_ne (j := 85) e_dfX14_63 g_dfX14_60_85 (by decide)
  have g_dfX14_63_88 := fx_ne (j := 88) e_dfX14_63 g_dfX14_60_88 (by decide)
  have g_dfX14_63_96 := fx_ne (j := 96) e_dfX14_63 g_dfX14_60_96 (by decide)
  have g_dfX14_63_100 := fx_ne (j := 100) e_dfX14_63 g_dfX14_60_100 (by decide)
  have g_dfX14_63_101 := fx_ne (j := 101) e_dfX14_63 g_dfX14_60_101 (by decide)
  have g_dfX14_63_3 := fx_ne (j := 3) e_dfX14_63 g_dfX14_60_3 (by decide)
  have g_dfX14_63_6 := fx_ne (j := 6) e_dfX14_63 g_dfX14_60_6 (by decide)
  have g_dfX14_63_10 := fx_ne (j := 10) e_dfX14_63 g_dfX14_60_10 (by decide)
  refine lv_aload_n hx hb dX14_init_191 rfl (lv_at hl 0 rfl) ?_
  refine lv_sipush (v := 9600) hx hb dX14_init_192 (by decide) ?_
  refine va_newa (atype := .int) (ty := .int) (a0 := (9600, .inl (fun _ => 0))) (N' := 9600) hx hb (hts (.arrayClass .int) kw_6) rfl hK hP hD hS hA (fun _ => rfl) (by decide) (by decide) (by decide) (Nat.le_of_ble_eq_true rfl) (Nat.le_of_ble_eq_true rfl) dX14_init_195 (fun q_64 cA_65 H hK hP hD hS => ?_)
  have hP := hP.sub (ws' := [(h0, .inr (12, dfX14_63)), (q_4, .inl (cA_5, 16000, .inl (fun _ => 0))), (q_7, .inr (13, []))]) [0, 1, 2] rfl
  have hD := hD.sub (ws' := [(h0, .inr (12, dfX14_63)), (q_4, .inl (cA_5, 16000, .inl (fun _ => 0))), (q_7, .inr (13, []))]) [0, 1, 2] (by decide) rfl
  have hK := hK.sub (tys' := [(cA_5, .byte)]) [0] rfl
  refine W.widen (k := 22) (n := 163457) (Nat.le_of_ble_eq_true rfl) (Nat.le_of_ble_eq_true rfl) ?_
  refine va_putF (D := (dC, dI)) (ci := 12) (v := .ref q_64) (ty := (.array .int)) (C := RX14) (T := TX14) (N := 143) hx hb hts inX14 tyX14 tyX14_ok nmX14 hown hK hP hD hS 0 rfl rfl 55 (by decide) (hts _ kw_295) (fun _ h9 => h9) rfl hin rfl (by decide +kernel) rfl rfl (by rw [L_dfX14_63]; decide) dX14_init_197 (fun H locs hP hD hS => ?_)
  obtain ⟨dfX14_66, e_dfX14_66⟩ : ∃ z, z = dfX14_63.set 55 (.ref q_64) := ⟨_, rfl⟩
  have hP : va_P (dC, dI) cl0 [(h0, .inr (12, dfX14_66)), (q_4, .inl (cA_5, 16000, .inl (fun _ => 0))), (q_7, .inr (13, []))] H := by rw [e_dfX14_66]; exact hP
  have hD : va_D A [(h0, .inr (12, dfX14_66)), (q_4, .inl (cA_5, 16000, .inl (fun _ => 0))), (q_7, .inr (13, []))] := by rw [e_dfX14_66]; exact hD
  have L_dfX14_66 : dfX14_66.length = 143 := fx_len e_dfX14_66 L_dfX14_63
  have g_dfX14_66_1 := fx_ne (j := 1) e_dfX14_66 g_dfX14_63_1 (by decide)
  have g_dfX14_66_4 := fx_ne (j := 4) e_dfX14_66 g_dfX14_63_4 (by decide)
  have g_dfX14_66_5 := fx_ne (j := 5) e_dfX14_66 g_dfX14_63_5 (by decide)
  have g_dfX14_66_9 := fx_ne (j := 9) e_dfX14_66 g_dfX14_63_9 (by decide)
  have g_dfX14_66_78 := fx_ne (j := 78) e_dfX14_66 g_dfX14_63_78 (by decide)
  have g_dfX14_66_80 := fx_ne (j := 80) e_dfX14_66 g_dfX14_63_80 (by decide)
  have g_dfX14_66_85 := fx_ne (j := 85) e_dfX14_66 g_dfX14_63_85 (by decide)
  have g_dfX14_66_88 := fx_ne (j := 88) e_dfX14_66 g_dfX14_63_88 (by decide)
  have g_dfX14_66_96 := fx_ne (j := 96) e_dfX14_66 g_dfX14_63_96 (by decide)
  have g_dfX14_66_100 := fx_ne (j := 100) e_dfX14_66 g_dfX14_63_100 (by decide)
  have g_dfX14_66_101 := fx_ne (j := 101) e_dfX14_66 g_dfX14_63_101 (by decide)
  have g_dfX14_66_3 := fx_ne (j := 3) e_dfX14_66 g_dfX14_63_3 (by decide)
  have g_dfX14_66_6 := fx_ne (j := 6) e_dfX14_66 g_dfX14_63_6 (by decide)
  have g_dfX14_66_10 := fx_ne (j := 10) e_dfX14_66 g_dfX14_63_10 (by decide)
  refine lv_aload_n hx hb dX14_init_200 rfl (lv_at hl 0 rfl) ?_
  refine lv_ldc hx hb hown (hts _ kw_296) dX14_init_201 ?_
  refine va_newa (atype := .byte) (ty := .byte) (a0 := (57600, .inl (fun _ => 0))) (N' := 57600) hx hb (hts (.arrayClass .byte) kw_3) rfl hK hP hD hS hA (fun _ => rfl) (by decide) (by decide) (by decide) (Nat.le_of_ble_eq_true rfl) (Nat.le_of_ble_eq_true rfl) dX14_init_203 (fun q_67 cA_68 H hK hP hD hS => ?_)
  have hP := hP.sub (ws' := [(h0, .inr (12, dfX14_66)), (q_4, .inl (cA_5, 16000, .inl (fun _ => 0))), (q_7, .inr (13, []))]) [0, 1, 2] rfl
  have hD := hD.sub (ws' := [(h0, .inr (12, dfX14_66)), (q_4, .inl (cA_5, 16000, .inl (fun _ => 0))), (q_7, .inr (13, []))]) [0, 1, 2] (by decide) rfl
  have hK := hK.sub (tys' := [(cA_5, .byte)]) [0] rfl
  refine W.widen (k := 23) (n := 221057) (Nat.le_of_ble_eq_true rfl) (Nat.le_of_ble_eq_true rfl) ?_
  refine va_putF (D := (dC, dI)) (ci := 12) (v := .ref q_67) (ty := (.array .byte)) (C := RX14) (T := TX14) (N := 143) hx hb hts inX14 tyX14 tyX14_ok nmX14 hown hK hP hD hS 0 rfl rfl 58 (by decide) (hts _ kw_297) (fun _ h9 => h9) rfl hin rfl (by decide +kernel) rfl rfl (by rw [L_dfX14_66]; decide) dX14_init_205 (fun H locs hP hD hS => ?_)
  obtain ⟨dfX14_69, e_dfX14_69⟩ : ∃ z, z = dfX14_66.set 58 (.ref q_67) := ⟨_, rfl⟩
  have hP : va_P (dC, dI) cl0 [(h0, .inr (12, dfX14_69)), (q_4, .inl (cA_5, 16000, .inl (fun _ => 0))), (q_7, .inr (13, []))] H := by rw [e_dfX14_69]; exact hP
  have hD : va_D A [(h0, .inr (12, dfX14_69)), (q_4, .inl (cA_5, 16000, .inl (fun _ => 0))), (q_7, .inr (13, []))] := by rw [e_dfX14_69]; exact hD
  have L_dfX14_69 : dfX14_69.length = 143 := fx_len e_dfX14_69 L_dfX14_66
  have g_dfX14_69_1 := fx_ne (j := 1) e_dfX14_69 g_dfX14_66_1 (by decide)
  have g_dfX14_69_4 := fx_ne (j := 4) e_dfX14_69 g_dfX14_66_4 (by decide)
  have g_dfX14_69_5 := fx_ne (j := 5) e_dfX14_69 g_dfX14_66_5 (by decide)
  have g_dfX14_69_9 := fx_ne (j := 9) e_dfX14_69 g_dfX14_66_9 (by decide)
  have g_dfX14_69_78 := fx_ne (j := 78) e_dfX14_69 g_dfX14_66_78 (by decide)
  have g_dfX14_69_80 := fx_ne (j := 80) e_dfX14_69 g_dfX14_66_80 (by decide)
  have g_dfX14_69_85 := fx_ne (j := 85) e_dfX14_69 g_dfX14_66_85 (by decide)
  have g_dfX14_69_88 := fx_ne (j := 88) e_dfX14_69 g_dfX14_66_88 (by decide)
  have g_dfX14_69_96 := fx_ne (j := 96) e_dfX14_69 g_dfX14_66_96 (by decide)
  have g_dfX14_69_100 := fx_ne (j := 100) e_dfX14_69 g_dfX14_66_100 (by decide)
  have g_dfX14_69_101 := fx_ne (j := 101) e_dfX14_69 g_dfX14_66_101 (by decide)
  have g_dfX14_69_3 := fx_ne (j := 3) e_dfX14_69 g_dfX14_66_3 (by decide)
  have g_dfX14_69_6 := fx_ne (j := 6) e_dfX14_69 g_dfX14_66_6 (by decide)
  have g_dfX14_69_10 := fx_ne (j := 10) e_dfX14_69 g_dfX14_66_10 (by decide)
  refine lv_aload_n hx hb dX14_init_208 rfl (lv_at hl 0 rfl) ?_
  refine lv_sipush (v := 1200) hx hb dX14_init_209 (by decide) ?_
  refine va_newa (atype := .boolean) (ty := .boolean) (a0 := (1200, .inl (fun _ => 0))) (N' := 1200) hx hb (hts (.arrayClass .boolean) kw_9) rfl hK hP hD hS hA (fun _ => rfl) (by decide) (by decide) (by decide) (Nat.le_of_ble_eq_true rfl) (Nat.le_of_ble_eq_true rfl) dX14_init_212 (fun q_70 cA_71 H hK hP hD hS => ?_)
  have hP := hP.sub (ws' := [(h0, .inr (12, dfX14_69)), (q_4, .inl (cA_5, 16000, .inl (fun _ => 0))), (q_7, .inr (13, []))]) [0, 1, 2] rfl
  have hD := hD.sub (ws' := [(h0, .inr (12, dfX14_69)), (q_4, .inl (cA_5, 16000, .inl (fun _ => 0))), (q_7, .inr (13, []))]) [0, 1, 2] (by decide) rfl
  have hK := hK.sub (tys' := [(cA_5, .byte)]) [0] rfl
  refine W.widen (k := 24) (n := 222257) (Nat.le_of_ble_eq_true rfl) (Nat.le_of_ble_eq_true rfl) ?_
  refine va_putF (D := (dC, dI)) (ci := 12) (v := .ref q_70) (ty := (.array .boolean)) (C := RX14) (T := TX14) (N := 143) hx hb hts inX14 tyX14 tyX14_ok nmX14 hown hK hP hD hS 0 rfl rfl 59 (by decide) (hts _ kw_298) (fun _ h9 => h9) rfl hin rfl (by decide +kernel) rfl rfl (by rw [L_dfX14_69]; decide) dX14_init_214 (fun H locs hP hD hS => ?_)
  obtain ⟨dfX14_72, e_dfX14_72⟩ : ∃ z, z = dfX14_69.set 59 (.ref q_70) := ⟨_, rfl⟩
  have hP : va_P (dC, dI) cl0 [(h0, .inr (12, dfX14_72)), (q_4, .inl (cA_5, 16000, .inl (fun _ => 0))), (q_7, .inr (13, []))] H := by rw [e_dfX14_72]; exact hP
  have hD : va_D A [(h0, .inr (12, dfX14_72)), (q_4, .inl (cA_5, 16000, .inl (fun _ => 0))), (q_7, .inr (13, []))] := by rw [e_dfX14_72]; exact hD
  have L_dfX14_72 : dfX14_72.length = 143 := fx_len e_dfX14_72 L_dfX14_69
  have g_dfX14_72_1 := fx_ne (j := 1) e_dfX14_72 g_dfX14_69_1 (by decide)
  have g_dfX14_72_4 := fx_ne (j := 4) e_dfX14_72 g_dfX14_69_4 (by decide)
  have g_dfX14_72_5 := fx_ne (j := 5) e_dfX14_72 g_dfX14_69_5 (by decide)
  have g_dfX14_72_9 := fx_ne (j := 9) e_dfX14_72 g_dfX14_69_9 (by decide)
  have g_dfX14_72_78 := fx_ne (j := 78) e_dfX14_72 g_dfX14_69_78 (by decide)
  have g_dfX14_72_80 := fx_ne (j := 80) e_dfX14_72 g_dfX14_69_80 (by decide)
  have g_dfX14_72_85 := fx_ne (j := 85) e_dfX14_72 g_dfX14_69_85 (by decide)
  have g_dfX14_72_88 := fx_ne (j := 88) e_dfX14_72 g_dfX14_69_88 (by decide)
  have g_dfX14_72_96 := fx_ne (j := 96) e_dfX14_72 g_dfX14_69_96 (by decide)
  have g_dfX14_72_100 := fx_ne (j := 100) e_dfX14_72 g_dfX14_69_100 (by decide)
  have g_dfX14_72_101 := fx_ne (j := 101) e_dfX14_72 g_dfX14_69_101 (by decide)
  have g_dfX14_72_3 := fx_ne (j := 3) e_dfX14_72 g_dfX14_69_3 (by decide)
  have g_dfX14_72_6 := fx_ne (j := 6) e_dfX14_72 g_dfX14_69_6 (by decide)
  have g_dfX14_72_10 := fx_ne (j := 10) e_dfX14_72 g_dfX14_69_10 (by decide)
  refine lv_aload_n hx hb dX14_init_217 rfl (lv_at hl 0 rfl) ?_
  refine lv_bipush (v := 24) hx hb dX14_init_218 (by decide) ?_
  refine va_newa (atype := .byte) (ty := .byte) (a0 := (24, .inl (fun _ => 0))) (N' := 24) hx hb (hts (.arrayClass .byte) kw_3) rfl hK hP hD hS hA (fun _ => rfl) (by decide) (by decide) (by decide) (Nat.le_of_ble_eq_true rfl) (Nat.le_of_ble_eq_true rfl) dX14_init_220 (fun q_73 cA_74 H hK hP hD hS => ?_)
  have hP := hP.sub (ws' := [(h0, .inr (12, dfX14_72)), (q_4, .inl (cA_5, 16000, .inl (fun _ => 0))), (q_7, .inr (13, []))]) [0, 1, 2] rfl
  have hD := hD.sub (ws' := [(h0, .inr (12, dfX14_72)), (q_4, .inl (cA_5, 16000, .inl (fun _ => 0))), (q_7, .inr (13, []))]) [0, 1, 2] (by decide) rfl
  have hK := hK.sub (tys' := [(cA_5, .byte)]) [0] rfl
  refine W.widen (k := 25) (n := 222281) (Nat.le_of_ble_eq_true rfl) (Nat.le_of_ble_eq_true rfl) ?_
  refine va_putF (D := (dC, dI)) (ci := 12) (v := .ref q_73) (ty := (.array .byte)) (C := RX14) (T := TX14) (N := 143) hx hb hts inX14 tyX14 tyX14_ok nmX14 hown hK hP hD hS 0 rfl rfl 60 (by decide) (hts _ kw_299) (fun _ h9 => h9) rfl hin rfl (by decide +kernel) rfl rfl (by rw [L_dfX14_72]; decide) dX14_init_222 (fun H locs hP hD hS => ?_)
  obtain ⟨dfX14_75, e_dfX14_75⟩ : ∃ z, z = dfX14_72.set 60 (.ref q_73) := ⟨_, rfl⟩
  have hP : va_P (dC, dI) cl0 [(h0, .inr (12, dfX14_75)), (q_4, .inl (cA_5, 16000, .inl (fun _ => 0))), (q_7, .inr (13, []))] H := by rw [e_dfX14_75]; exact hP
  have hD : va_D A [(h0, .inr (12, dfX14_75)), (q_4, .inl (cA_5, 16000, .inl (fun _ => 0))), (q_7, .inr (13, []))] := by rw [e_dfX14_75]; exact hD
  have L_dfX14_75 : dfX14_75.length = 143 := fx_len e_dfX14_75 L_dfX14_72
  have g_dfX14_75_1 := fx_ne (j := 1) e_dfX14_75 g_dfX14_72_1 (by decide)
  have g_dfX14_75_4 := fx_ne (j := 4) e_dfX14_75 g_dfX14_72_4 (by decide)
  have g_dfX14_75_5 := fx_ne (j := 5) e_dfX14_75 g_dfX14_72_5 (by decide)
  have g_dfX14_75_9 := fx_ne (j := 9) e_dfX14_75 g_dfX14_72_9 (by decide)
  have g_dfX14_75_78 := fx_ne (j := 78) e_dfX14_75 g_dfX14_72_78 (by decide)
  have g_dfX14_75_80 := fx_ne (j := 80) e_dfX14_75 g_dfX14_72_80 (by decide)
  have g_dfX14_75_85 := fx_ne (j := 85) e_dfX14_75 g_dfX14_72_85 (by decide)
  have g_dfX14_75_88 := fx_ne (j := 88) e_dfX14_75 g_dfX14_72_88 (by decide)
  have g_dfX14_75_96 := fx_ne (j := 96) e_dfX14_75 g_dfX14_72_96 (by decide)
  have g_dfX14_75_100 := fx_ne (j := 100) e_dfX14_75 g_dfX14_72_100 (by decide)
  have g_dfX14_75_101 := fx_ne (j := 101) e_dfX14_75 g_dfX14_72_101 (by decide)
  have g_dfX14_75_3 := fx_ne (j := 3) e_dfX14_75 g_dfX14_72_3 (by decide)
  have g_dfX14_75_6 := fx_ne (j := 6) e_dfX14_75 g_dfX14_72_6 (by decide)
  have g_dfX14_75_10 := fx_ne (j := 10) e_dfX14_75 g_dfX14_72_10 (by decide)
  refine lv_aload_n hx hb dX14_init_225 rfl (lv_at hl 0 rfl) ?_
  refine lv_bipush (v := 28) hx hb dX14_init_226 (by decide) ?_
  refine va_newa (atype := .byte) (ty := .byte) (a0 := (28, .inl (fun _ => 0))) (N' := 28) hx hb (hts (.arrayClass .byte) kw_3) rfl hK hP hD hS hA (fun _ => rfl) (by decide) (by decide) (by decide) (Nat.le_of_ble_eq_true rfl) (Nat.le_of_ble_eq_true rfl) dX14_init_228 (fun q_76 cA_77 H hK hP hD hS => ?_)
  have hP := hP.sub (ws' := [(h0, .inr (12, dfX14_75)), (q_4, .inl (cA_5, 16000, .inl (fun _ => 0))), (q_7, .inr (13, []))]) [0, 1, 2] rfl
  have hD := hD.sub (ws' := [(h0, .inr (12, dfX14_75)), (q_4, .inl (cA_5, 16000, .inl (fun _ => 0))), (q_7, .inr (13, []))]) [0, 1, 2] (by decide) rfl
  have hK := hK.sub (tys' := [(cA_5, .byte)]) [0] rfl
  refine W.widen (k := 26) (n := 222309) (Nat.le_of_ble_eq_true rfl) (Nat.le_of_ble_eq_true rfl) ?_
  refine va_putF (D := (dC, dI)) (ci := 12) (v := .ref q_76) (ty := (.array .byte)) (C := RX14) (T := TX14) (N := 143) hx hb hts inX14 tyX14 tyX14_ok nmX14 hown hK hP hD hS 0 rfl rfl 61 (by decide) (hts _ kw_300) (fun _ h9 => h9) rfl hin rfl (by decide +kernel) rfl rfl (by rw [L_dfX14_75]; decide) dX14_init_230 (fun H locs hP hD hS => ?_)
  obtain ⟨dfX14_78, e_dfX14_78⟩ : ∃ z, z = dfX14_75.set 61 (.ref q_76) := ⟨_, rfl⟩
  have hP : va_P (dC, dI) cl0 [(h0, .inr (12, dfX14_78)), (q_4, .inl (cA_5, 16000, .inl (fun _ => 0))), (q_7, .inr (13, []))] H := by rw [e_dfX14_78]; exact hP
  have hD : va_D A [(h0, .inr (12, dfX14_78)), (q_4, .inl (cA_5, 16000, .inl (fun _ => 0))), (q_7, .inr (13, []))] := by rw [e_dfX14_78]; exact hD
  have L_dfX14_78 : dfX14_78.length = 143 := fx_len e_dfX14_78 L_dfX14_75
  have g_dfX14_78_1 := fx_ne (j := 1) e_dfX14_78 g_dfX14_75_1 (by decide)
  have g_dfX14_78_4 := fx_ne (j := 4) e_dfX14_78 g_dfX14_75_4 (by decide)
  have g_dfX14_78_5 := fx_ne (j := 5) e_dfX14_78 g_dfX14_75_5 (by decide)
  have g_dfX14_78_9 := fx_ne (j := 9) e_dfX14_78 g_dfX14_75_9 (by decide)
  have g_dfX14_78_78 := fx_ne (j := 78) e_dfX14_78 g_dfX14_75_78 (by decide)
  have g_dfX14_78_80 := fx_ne (j := 80) e_dfX14_78 g_dfX14_75_80 (by decide)
  have g_dfX14_78_85 := fx_ne (j := 85) e_dfX14_78 g_dfX14_75_85 (by decide)
  have g_dfX14_78_88 := fx_ne (j := 88) e_dfX14_78 g_dfX14_75_88 (by decide)
  have g_dfX14_78_96 := fx_ne (j := 96) e_dfX14_78 g_dfX14_75_96 (by decide)
  have g_dfX14_78_100 := fx_ne (j := 100) e_dfX14_78 g_dfX14_75_100 (by decide)
  have g_dfX14_78_101 := fx_ne (j := 101) e_dfX14_78 g_dfX14_75_101 (by decide)
  have g_dfX14_78_3 := fx_ne (j := 3) e_dfX14_78 g_dfX14_75_3 (by decide)
  have g_dfX14_78_6 := fx_ne (j := 6) e_dfX14_78 g_dfX14_75_6 (by decide)
  have g_dfX14_78_10 := fx_ne (j := 10) e_dfX14_78 g_dfX14_75_10 (by decide)
  refine lv_aload_n hx hb dX14_init_233 rfl (lv_at hl 0 rfl) ?_
  refine lv_iconst (v := (-1)) hx hb dX14_init_234 (by decide) ?_
  refine va_put (D := (dC, dI)) (ci := 12) (v := .int (-1)) (ty := .int) (C := RX14) (T := TX14) (N := 143) hx hb hts inX14 tyX14 tyX14_ok nmX14 hown hK hP hD hS 0 rfl rfl 64 (by decide) (hts _ kw_301) (fun _ h9 => h9) rfl (by decide +kernel) rfl rfl (by rw [L_dfX14_78]; decide) dX14_init_235 (fun H locs hP hD hS => ?_)
  obtain ⟨dfX14_79, e_dfX14_79⟩ : ∃ z, z = dfX14_78.set 64 (.int (-1)) := ⟨_, rfl⟩
  have hP : va_P (dC, dI) cl0 [(h0, .inr (12, dfX14_79)), (q_4, .inl (cA_5, 16000, .inl (fun _ => 0))), (q_7, .inr (13, []))] H := by rw [e_dfX14_79]; exact hP
  have hD : va_D A [(h0, .inr (12, dfX14_79)), (q_4, .inl (cA_5, 16000, .inl (fun _ => 0))), (q_7, .inr (13, []))] := by rw [e_dfX14_79]; exact hD
  have L_dfX14_79 : dfX14_79.length = 143 := fx_len e_dfX14_79 L_dfX14_78
  have g_dfX14_79_1 := fx_ne (j := 1) e_dfX14_79 g_dfX14_78_1 (by decide)
  have g_dfX14_79_4 := fx_ne (j := 4) e_dfX14_79 g_dfX14_78_4 (by decide)
  have g_dfX14_79_5 := fx_ne (j := 5) e_dfX14_79 g_dfX14_78_5 (by decide)
  have g_dfX14_79_9 := fx_ne (j := 9) e_dfX14_79 g_dfX14_78_9 (by decide)
  have g_dfX14_79_78 := fx_ne (j := 78) e_dfX14_79 g_dfX14_78_78 (by decide)
  have g_dfX14_79_80 := fx_ne (j := 80) e_dfX14_79 g_dfX14_78_80 (by decide)
  have g_dfX14_79_85 := fx_ne (j := 85) e_dfX14_79 g_dfX14_78_85 (by decide)
  have g_dfX14_79_88 := fx_ne (j := 88) e_dfX14_79 g_dfX14_78_88 (by decide)
  have g_dfX14_79_96 := fx_ne (j := 96) e_dfX14_79 g_dfX14_78_96 (by decide)
  have g_dfX14_79_100 := fx_ne (j := 100) e_dfX14_79 g_dfX14_78_100 (by decide)
  have g_dfX14_79_101 := fx_ne (j := 101) e_dfX14_79 g_dfX14_78_101 (by decide)
  have g_dfX14_79_3 := fx_ne (j := 3) e_dfX14_79 g_dfX14_78_3 (by decide)
  have g_dfX14_79_6 := fx_ne (j := 6) e_dfX14_79 g_dfX14_78_6 (by decide)
  have g_dfX14_79_10 := fx_ne (j := 10) e_dfX14_79 g_dfX14_78_10 (by decide)
  have g_dfX14_79_64 := fx_self e_dfX14_79 (by rw [L_dfX14_78]; decide)
  refine lv_aload_n hx hb dX14_init_238 rfl (lv_at hl 0 rfl) ?_
  refine lv_iconst (v := (-1)) hx hb dX14_init_239 (by decide) ?_
  refine va_put (D := (dC, dI)) (ci := 12) (v := .int (-1)) (ty := .int) (C := RX14) (T := TX14) (N := 143) hx hb hts inX14 tyX14 tyX14_ok nmX14 hown hK hP hD hS 0 rfl rfl 65 (by decide) (hts _ kw_302) (fun _ h9 => h9) rfl (by decide +kernel) rfl rfl (by rw [L_dfX14_79]; decide) dX14_init_240 (fun H locs hP hD hS => ?_)
  obtain ⟨dfX14_80, e_dfX14_80⟩ : ∃ z, z = dfX14_79.set 65 (.int (-1)) := ⟨_, rfl⟩
  have hP : va_P (dC, dI) cl0 [(h0, .inr (12, dfX14_80)), (q_4, .inl (cA_5, 16000, .inl (fun _ => 0))), (q_7, .inr (13, []))] H := by rw [e_dfX14_80]; exact hP
  have hD : va_D A [(h0, .inr (12, dfX14_80)), (q_4, .inl (cA_5, 16000, .inl (fun _ => 0))), (q_7, .inr (13, []))] := by rw [e_dfX14_80]; exact hD
  have L_dfX14_80 : dfX14_80.length = 143 := fx_len e_dfX14_80 L_dfX14_79
  have g_dfX14_80_1 := fx_ne (j := 1) e_dfX14_80 g_dfX14_79_1 (by decide)
  have g_dfX14_80_4 := fx_ne (j := 4) e_dfX14_80 g_dfX14_79_4 (by decide)
  have g_dfX14_80_5 := fx_ne (j := 5) e_dfX14_80 g_dfX14_79_5 (by decide)
  have g_dfX14_80_9 := fx_ne (j := 9) e_dfX14_80 g_dfX14_79_9 (by decide)
  have g_dfX14_80_78 := fx_ne (j := 78) e_dfX14_80 g_dfX14_79_78 (by decide)
  have g_dfX14_80_80 := fx_ne (j := 80) e_dfX14_80 g_dfX14_79_80 (by decide)
  have g_dfX14_80_85 := fx_ne (j := 85) e_dfX14_80 g_dfX14_79_85 (by decide)
  have g_dfX14_80_88 := fx_ne (j := 88) e_dfX14_80 g_dfX14_79_88 (by decide)
  have g_dfX14_80_96 := fx_ne (j := 96) e_dfX14_80 g_dfX14_79_96 (by decide)
  have g_dfX14_80_100 := fx_ne (j := 100) e_dfX14_80 g_dfX14_79_100 (by decide)
  have g_dfX14_80_101 := fx_ne (j := 101) e_dfX14_80 g_dfX14_79_101 (by decide)
  have g_dfX14_80_3 := fx_ne (j := 3) e_dfX14_80 g_dfX14_79_3 (by decide)
  have g_dfX14_80_6 := fx_ne (j := 6) e_dfX14_80 g_dfX14_79_6 (by decide)
  have g_dfX14_80_10 := fx_ne (j := 10) e_dfX14_80 g_dfX14_79_10 (by decide)
  have g_dfX14_80_64 := fx_ne (j := 64) e_dfX14_80 g_dfX14_79_64 (by decide)
  have g_dfX14_80_65 := fx_self e_dfX14_80 (by rw [L_dfX14_79]; decide)
  refine lv_aload_n hx hb dX14_init_243 rfl (lv_at hl 0 rfl) ?_
  refine lv_ldc hx hb hown (hts _ kw_303) dX14_init_244 ?_
  refine va_newa (atype := .int) (ty := .int) (a0 := (115200, .inl (fun _ => 0))) (N' := 115200) hx hb (hts (.arrayClass .int) kw_6) rfl hK hP hD hS hA (fun _ => rfl) (by decide) (by decide) (by decide) (Nat.le_of_ble_eq_true rfl) (Nat.le_of_ble_eq_true rfl) dX14_init_246 (fun q_81 cA_82 H hK hP hD hS => ?_)
  have hP := hP.sub (ws' := [(h0, .inr (12, dfX14_80)), (q_4, .inl (cA_5, 16000, .inl (fun _ => 0))), (q_7, .inr (13, []))]) [0, 1, 2] rfl
  have hD := hD.sub (ws' := [(h0, .inr (12, dfX14_80)), (q_4, .inl (cA_5, 16000, .inl (fun _ => 0))), (q_7, .inr (13, []))]) [0, 1, 2] (by decide) rfl
  have hK := hK.sub (tys' := [(cA_5, .byte)]) [0] rfl
  refine W.widen (k := 27) (n := 337509) (Nat.le_of_ble_eq_true rfl) (Nat.le_of_ble_eq_true rfl) ?_
  refine va_putF (D := (dC, dI)) (ci := 12) (v := .ref q_81) (ty := (.array .int)) (C := RX14) (T := TX14) (N := 143) hx hb hts inX14 tyX14 tyX14_ok nmX14 hown hK hP hD hS 0 rfl rfl 66 (by decide) (hts _ kw_304) (fun _ h9 => h9) rfl hin rfl (by decide +kernel) rfl rfl (by rw [L_dfX14_80]; decide) dX14_init_248 (fun H locs hP hD hS => ?_)
  obtain ⟨dfX14_83, e_dfX14_83⟩ : ∃ z, z = dfX14_80.set 66 (.ref q_81) := ⟨_, rfl⟩
  have hP : va_P (dC, dI) cl0 [(h0, .inr (12, dfX14_83)), (q_4, .inl (cA_5, 16000, .inl (fun _ => 0))), (q_7, .inr (13, []))] H := by rw [e_dfX14_83]; exact hP
  have hD : va_D A [(h0, .inr (12, dfX14_83)), (q_4, .inl (cA_5, 16000, .inl (fun _ => 0))), (q_7, .inr (13, []))] := by rw [e_dfX14_83]; exact hD
  have L_dfX14_83 : dfX14_83.length = 143 := fx_len e_dfX14_83 L_dfX14_80
  have g_dfX14_83_1 := fx_ne (j := 1) e_dfX14_83 g_dfX14_80_1 (by decide)
  have g_dfX14_83_4 := fx_ne (j := 4) e_dfX14_83 g_dfX14_80_4 (by decide)
  have g_dfX14_83_5 := fx_ne (j := 5) e_dfX14_83 g_dfX14_80_5 (by decide)
  have g_dfX14_83_9 := fx_ne (j := 9) e_dfX14_83 g_dfX14_80_9 (by decide)
  have g_dfX14_83_78 := fx_ne (j := 78) e_dfX14_83 g_dfX14_80_78 (by decide)
  have g_dfX14_83_80 := fx_ne (j := 80) e_dfX14_83 g_dfX14_80_80 (by decide)
  have g_dfX14_83_85 := fx_ne (j := 85) e_dfX14_83 g_dfX14_80_85 (by decide)
  have g_dfX14_83_88 := fx_ne (j := 88) e_dfX14_83 g_dfX14_80_88 (by decide)
  have g_dfX14_83_96 := fx_ne (j := 96) e_dfX14_83 g_dfX14_80_96 (by decide)
  have g_dfX14_83_100 := fx_ne (j := 100) e_dfX14_83 g_dfX14_80_100 (by decide)
  have g_dfX14_83_101 := fx_ne (j := 101) e_dfX14_83 g_dfX14_80_101 (by decide)
  have g_dfX14_83_3 := fx_ne (j := 3) e_dfX14_83 g_dfX14_80_3 (by decide)
  have g_dfX14_83_6 := fx_ne (j := 6) e_dfX14_83 g_dfX14_80_6 (by decide)
  have g_dfX14_83_10 := fx_ne (j := 10) e_dfX14_83 g_dfX14_80_10 (by decide)
  have g_dfX14_83_64 := fx_ne (j := 64) e_dfX14_83 g_dfX14_80_64 (by decide)
  have g_dfX14_83_65 := fx_ne (j := 65) e_dfX14_83 g_dfX14_80_65 (by decide)
  refine lv_aload_n hx hb dX14_init_251 rfl (lv_at hl 0 rfl) ?_
  refine lv_sipush (v := 700) hx hb dX14_init_252 (by decide) ?_
  refine va_newa (atype := .int) (ty := .int) (a0 := (700, .inl (fun _ => 0))) (N' := 700) hx hb (hts (.arrayClass .int) kw_6) rfl hK hP hD hS hA (fun _ => rfl) (by decide) (by decide) (by decide) (Nat.le_of_ble_eq_true rfl) (Nat.le_of_ble_eq_true rfl) dX14_init_255 (fun q_84 cA_85 H hK hP hD hS => ?_)
  have hP := hP.sub (ws' := [(h0, .inr (12, dfX14_83)), (q_4, .inl (cA_5, 16000, .inl (fun _ => 0))), (q_7, .inr (13, []))]) [0, 1, 2] rfl
  have hD := hD.sub (ws' := [(h0, .inr (12, dfX14_83)), (q_4, .inl (cA_5, 16000, .inl (fun _ => 0))), (q_7, .inr (13, []))]) [0, 1, 2] (by decide) rfl
  have hK := hK.sub (tys' := [(cA_5, .byte)]) [0] rfl
  refine W.widen (k := 28) (n := 338209) (Nat.le_of_ble_eq_true rfl) (Nat.le_of_ble_eq_true rfl) ?_
  refine va_putF (D := (dC, dI)) (ci := 12) (v := .ref q_84) (ty := (.array .int)) (C := RX14) (T := TX14) (N := 143) hx hb hts inX14 tyX14 tyX14_ok nmX14 hown hK hP hD hS 0 rfl rfl 67 (by decide) (hts _ kw_305) (fun _ h9 => h9) rfl hin rfl (by decide +kernel) rfl rfl (by rw [L_dfX14_83]; decide) dX14_init_257 (fun H locs hP hD hS => ?_)
  obtain ⟨dfX14_86, e_dfX14_86⟩ : ∃ z, z = dfX14_83.set 67 (.ref q_84) := ⟨_, rfl⟩
  have hP : va_P (dC, dI) cl0 [(h0, .inr (12, dfX14_86)), (q_4, .inl (cA_5, 16000, .inl (fun _ => 0))), (q_7, .inr (13, []))] H := by rw [e_dfX14_86]; exact hP
  have hD : va_D A [(h0, .inr (12, dfX14_86)), (q_4, .inl (cA_5, 16000, .inl (fun _ => 0))), (q_7, .inr (13, []))] := by rw [e_dfX14_86]; exact hD
  have L_dfX14_86 : dfX14_86.length = 143 := fx_len e_dfX14_86 L_dfX14_83
  have g_dfX14_86_1 := fx_ne (j := 1) e_dfX14_86 g_dfX14_83_1 (by decide)
  have g_dfX14_86_4 := fx_ne (j := 4) e_dfX14_86 g_dfX14_83_4 (by decide)
  have g_dfX14_86_5 := fx_ne (j := 5) e_dfX14_86 g_dfX14_83_5 (by decide)
  have g_dfX14_86_9 := fx_ne (j := 9) e_dfX14_86 g_dfX14_83_9 (by decide)
  have g_dfX14_86_78 := fx_ne (j := 78) e_dfX14_86 g_dfX14_83_78 (by decide)
  have g_dfX14_86_80 := fx_ne (j := 80) e_dfX14_86 g_dfX14_83_80 (by decide)
  have g_dfX14_86_85 := fx_ne (j := 85) e_dfX14_86 g_dfX14_83_85 (by decide)
  have g_dfX14_86_88 := fx_ne (j := 88) e_dfX14_86 g_dfX14_83_88 (by decide)
  have g_dfX14_86_96 := fx_ne (j := 96) e_dfX14_86 g_dfX14_83_96 (by decide)
  have g_dfX14_86_100 := fx_ne (j := 100) e_dfX14_86 g_dfX14_83_100 (by decide)
  have g_dfX14_86_101 := fx_ne (j := 101) e_dfX14_86 g_dfX14_83_101 (by decide)
  have g_dfX14_86_3 := fx_ne (j := 3) e_dfX14_86 g_dfX14_83_3 (by decide)
  have g_dfX14_86_6 := fx_ne (j := 6) e_dfX14_86 g_dfX14_83_6 (by decide)
  have g_dfX14_86_10 := fx_ne (j := 10) e_dfX14_86 g_dfX14_83_10 (by decide)
  have g_dfX14_86_64 := fx_ne (j := 64) e_dfX14_86 g_dfX14_83_64 (by decide)
  have g_dfX14_86_65 := fx_ne (j := 65) e_dfX14_86 g_dfX14_83_65 (by decide)
  refine lv_aload_n hx hb dX14_init_260 rfl (lv_at hl 0 rfl) ?_
  refine lv_sipush (v := 700) hx hb dX14_init_261 (by decide) ?_
  refine va_newa (atype := .int) (ty := .int) (a0 := (700, .inl (fun _ => 0))) (N' := 700) hx hb (hts (.arrayClass .int) kw_6) rfl hK hP hD hS hA (fun _ => rfl) (by decide) (by decide) (by decide) (Nat.le_of_ble_eq_true rfl) (Nat.le_of_ble_eq_true rfl) dX14_init_264 (fun q_87 cA_88 H hK hP hD hS => ?_)
  have hP := hP.sub (ws' := [(h0, .inr (12, dfX14_86)), (q_4, .inl (cA_5, 16000, .inl (fun _ => 0))), (q_7, .inr (13, []))]) [0, 1, 2] rfl
  have hD := hD.sub (ws' := [(h0, .inr (12, dfX14_86)), (q_4, .inl (cA_5, 16000, .inl (fun _ => 0))), (q_7, .inr (13, []))]) [0, 1, 2] (by decide) rfl
  have hK := hK.sub (tys' := [(cA_5, .byte)]) [0] rfl
  refine W.widen (k := 29) (n := 338909) (Nat.le_of_ble_eq_true rfl) (Nat.le_of_ble_eq_true rfl) ?_
  refine va_putF (D := (dC, dI)) (ci := 12) (v := .ref q_87) (ty := (.array .int)) (C := RX14) (T := TX14) (N := 143) hx hb hts inX14 tyX14 tyX14_ok nmX14 hown hK hP hD hS 0 rfl rfl 68 (by decide) (hts _ kw_306) (fun _ h9 => h9) rfl hin rfl (by decide +kernel) rfl rfl (by rw [L_dfX14_86]; decide) dX14_init_266 (fun H locs hP hD hS => ?_)
  obtain ⟨dfX14_89, e_dfX14_89⟩ : ∃ z, z = dfX14_86.set 68 (.ref q_87) := ⟨_, rfl⟩
  have hP : va_P (dC, dI) cl0 [(h0, .inr (12, dfX14_89)), (q_4, .inl (cA_5, 16000, .inl (fun _ => 0))), (q_7, .inr (13, []))] H := by rw [e_dfX14_89]; exact hP
  have hD : va_D A [(h0, .inr (12, dfX14_89)), (q_4, .inl (cA_5, 16000, .inl (fun _ => 0))), (q_7, .inr (13, []))] := by rw [e_dfX14_89]; exact hD
  have L_dfX14_89 : dfX14_89.length = 143 := fx_len e_dfX14_89 L_dfX14_86
  have g_dfX14_89_1 := fx_ne (j := 1) e_dfX14_89 g_dfX14_86_1 (by decide)
  have g_dfX14_89_4 := fx_ne (j := 4) e_dfX14_89 g_dfX14_86_4 (by decide)
  have g_dfX14_89_5 := fx_ne (j := 5) e_dfX14_89 g_dfX14_86_5 (by decide)
  have g_dfX14_89_9 := fx_ne (j := 9) e_dfX14_89 g_dfX14_86_9 (by decide)
  have g_dfX14_89_78 := fx_ne (j := 78) e_dfX14_89 g_dfX14_86_78 (by decide)
  have g_dfX14_89_80 := fx_ne (j := 80) e_dfX14_89 g_dfX14_86_80 (by decide)
  have g_dfX14_89_85 := fx_ne (j := 85) e_dfX14_89 g_dfX14_86_85 (by decide)
  have g_dfX14_89_88 := fx_ne (j := 88) e_dfX14_89 g_dfX14_86_88 (by decide)
  have g_dfX14_89_96 := fx_ne (j := 96) e_dfX14_89 g_dfX14_86_96 (by decide)
  have g_dfX14_89_100 := fx_ne (j := 100) e_dfX14_89 g_dfX14_86_100 (by decide)
  have g_dfX14_89_101 := fx_ne (j := 101) e_dfX14_89 g_dfX14_86_101 (by decide)
  have g_dfX14_89_3 := fx_ne (j := 3) e_dfX14_89 g_dfX14_86_3 (by decide)
  have g_dfX14_89_6 := fx_ne (j := 6) e_dfX14_89 g_dfX14_86_6 (by decide)
  have g_dfX14_89_10 := fx_ne (j := 10) e_dfX14_89 g_dfX14_86_10 (by decide)
  have g_dfX14_89_64 := fx_ne (j := 64) e_dfX14_89 g_dfX14_86_64 (by decide)
  have g_dfX14_89_65 := fx_ne (j := 65) e_dfX14_89 g_dfX14_86_65 (by decide)
  refine lv_aload_n hx hb dX14_init_269 rfl (lv_at hl 0 rfl) ?_
  refine lv_sipush (v := 700) hx hb dX14_init_270 (by decide) ?_
  refine va_newa (atype := .int) (ty := .int) (a0 := (700, .inl (fun _ => 0))) (N' := 700) hx hb (hts (.arrayClass .int) kw_6) rfl hK hP hD hS hA (fun _ => rfl) (by decide) (by decide) (by decide) (Nat.le_of_ble_eq_true rfl) (Nat.le_of_ble_eq_true rfl) dX14_init_273 (fun q_90 cA_91 H hK hP hD hS => ?_)
  have hP := hP.sub (ws' := [(h0, .inr (12, dfX14_89)), (q_4, .inl (cA_5, 16000, .inl (fun _ => 0))), (q_7, .inr (13, []))]) [0, 1, 2] rfl
  have hD := hD.sub (ws' := [(h0, .inr (12, dfX14_89)), (q_4, .inl (cA_5, 16000, .inl (fun _ => 0))), (q_7, .inr (13, []))]) [0, 1, 2] (by decide) rfl
  have hK := hK.sub (tys' := [(cA_5, .byte)]) [0] rfl
  refine W.widen (k := 30) (n := 339609) (Nat.le_of_ble_eq_true rfl) (Nat.le_of_ble_eq_true rfl) ?_
  refine va_putF (D := (dC, dI)) (ci := 12) (v := .ref q_90) (ty := (.array .int)) (C := RX14) (T := TX14) (N := 143) hx hb hts inX14 tyX14 tyX14_ok nmX14 hown hK hP hD hS 0 rfl rfl 69 (by decide) (hts _ kw_307) (fun _ h9 => h9) rfl hin rfl (by decide +kernel) rfl rfl (by rw [L_dfX14_89]; decide) dX14_init_275 (fun H locs hP hD hS => ?_)
  obtain ⟨dfX14_92, e_dfX14_92⟩ : ∃ z, z = dfX14_89.set 69 (.ref q_90) := ⟨_, rfl⟩
  have hP : va_P (dC, dI) cl0 [(h0, .inr (12, dfX14_92)), (q_4, .inl (cA_5, 16000, .inl (fun _ => 0))), (q_7, .inr (13, []))] H := by rw [e_dfX14_92]; exact hP
  have hD : va_D A [(h0, .inr (12, dfX14_92)), (q_4, .inl (cA_5, 16000, .inl (fun _ => 0))), (q_7, .inr (13, []))] := by rw [e_dfX14_92]; exact hD
  have L_dfX14_92 : dfX14_92.length = 143 := fx_len e_dfX14_92 L_dfX14_89
  have g_dfX14_92_1 := fx_ne (j := 1) e_dfX14_92 g_dfX14_89_1 (by decide)
  have g_dfX14_92_4 := fx_ne (j := 4) e_dfX14_92 g_dfX14_89_4 (by decide)
  have g_dfX14_92_5 := fx_ne (j := 5) e_dfX14_92 g_dfX14_89_5 (by decide)
  have g_dfX14_92_9 := fx_ne (j := 9) e_dfX14_92 g_dfX14_89_9 (by decide)
  have g_dfX14_92_78 := fx_ne (j := 78) e_dfX14_92 g_dfX14_89_78 (by decide)
  have g_dfX14_92_80 := fx_ne (j := 80) e_dfX14_92 g_dfX14_89_80 (by decide)
  have g_dfX14_92_85 := fx_ne (j := 85) e_dfX14_92 g_dfX14_89_85 (by decide)
  have g_dfX14_92_88 := fx_ne (j := 88) e_dfX14_92 g_dfX14_89_88 (by decide)
  have g_dfX14_92_96 := fx_ne (j := 96) e_dfX14_92 g_dfX14_89_96 (by decide)
  have g_dfX14_92_100 := fx_ne (j := 100) e_dfX14_92 g_dfX14_89_100 (by decide)
  have g_dfX14_92_101 := fx_ne (j := 101) e_dfX14_92 g_dfX14_89_101 (by decide)
  have g_dfX14_92_3 := fx_ne (j := 3) e_dfX14_92 g_dfX14_89_3 (by decide)
  have g_dfX14_92_6 := fx_ne (j := 6) e_dfX14_92 g_dfX14_89_6 (by decide)
  have g_dfX14_92_10 := fx_ne (j := 10) e_dfX14_92 g_dfX14_89_10 (by decide)
  have g_dfX14_92_64 := fx_ne (j := 64) e_dfX14_92 g_dfX14_89_64 (by decide)
  have g_dfX14_92_65 := fx_ne (j := 65) e_dfX14_92 g_dfX14_89_65 (by decide)
  refine lv_aload_n hx hb dX14_init_278 rfl (lv_at hl 0 rfl) ?_
  refine lv_sipush (v := 700) hx hb dX14_init_279 (by decide) ?_
  refine va_newa (atype := .int) (ty := .int) (a0 := (700, .inl (fun _ => 0))) (N' := 700) hx hb (hts (.arrayClass .int) kw_6) rfl hK hP hD hS hA (fun _ => rfl) (by decide) (by decide) (by decide) (Nat.le_of_ble_eq_true rfl) (Nat.le_of_ble_eq_true rfl) dX14_init_282 (fun q_93 cA_94 H hK hP hD hS => ?_)
  have hP := hP.sub (ws' := [(h0, .inr (12, dfX14_92)), (q_4, .inl (cA_5, 16000, .inl (fun _ => 0))), (q_7, .inr (13, []))]) [0, 1, 2] rfl
  have hD := hD.sub (ws' := [(h0, .inr (12, dfX14_92)), (q_4, .inl (cA_5, 16000, .inl (fun _ => 0))), (q_7, .inr (13, []))]) [0, 1, 2] (by decide) rfl
  have hK := hK.sub (tys' := [(cA_5, .byte)]) [0] rfl
  refine W.widen (k := 31) (n := 340309) (Nat.le_of_ble_eq_true rfl) (Nat.le_of_ble_eq_true rfl) ?_
  refine va_putF (D := (dC, dI)) (ci := 12) (v := .ref q_93) (ty := (.array .int)) (C := RX14) (T := TX14) (N := 143) hx hb hts inX14 tyX14 tyX14_ok nmX14 hown hK hP hD hS 0 rfl rfl 70 (by decide) (hts _ kw_308) (fun _ h9 => h9) rfl hin rfl (by decide +kernel) rfl rfl (by rw [L_dfX14_92]; decide) dX14_init_284 (fun H locs hP hD hS => ?_)
  obtain ⟨dfX14_95, e_dfX14_95⟩ : ∃ z, z = dfX14_92.set 70 (.ref q_93) := ⟨_, rfl⟩
  have hP : va_P (dC, dI) cl0 [(h0, .inr (12, dfX14_95)), (q_4, .inl (cA_5, 16000, .inl (fun _ => 0))), (q_7, .inr (13, []))] H := by rw [e_dfX14_95]; exact hP
  have hD : va_D A [(h0, .inr (12, dfX14_95)), (q_4, .inl (cA_5, 16000, .inl (fun _ => 0))), (q_7, .inr (13, []))] := by rw [e_dfX14_95]; exact hD
  have L_dfX14_95 : dfX14_95.length = 143 := fx_len e_dfX14_95 L_dfX14_92
  have g_dfX14_95_1 := fx_ne (j := 1) e_dfX14_95 g_dfX14_92_1 (by decide)
  have g_dfX14_95_4 := fx_ne (j := 4) e_dfX14_95 g_dfX14_92_4 (by decide)
  have g_dfX14_95_5 := fx_ne (j := 5) e_dfX14_95 g_dfX14_92_5 (by decide)
  have g_dfX14_95_9 := fx_ne (j := 9) e_dfX14_95 g_dfX14_92_9 (by decide)
  have g_dfX14_95_78 := fx_ne (j := 78) e_dfX14_95 g_dfX14_92_78 (by decide)
  have g_dfX14_95_80 := fx_ne (j := 80) e_dfX14_95 g_dfX14_92_80 (by decide)
  have g_dfX14_95_85 := fx_ne (j := 85) e_dfX14_95 g_dfX14_92_85 (by decide)
  have g_dfX14_95_88 := fx_ne (j := 88) e_dfX14_95 g_dfX14_92_88 (by decide)
  have g_dfX14_95_96 := fx_ne (j := 96) e_dfX14_95 g_dfX14_92_96 (by decide)
  have g_dfX14_95_100 := fx_ne (j := 100) e_dfX14_95 g_dfX14_92_100 (by decide)
  have g_dfX14_95_101 := fx_ne (j := 101) e_dfX14_95 g_dfX14_92_101 (by decide)
  have g_dfX14_95_3 := fx_ne (j := 3) e_dfX14_95 g_dfX14_92_3 (by decide)
  have g_dfX14_95_6 := fx_ne (j := 6) e_dfX14_95 g_dfX14_92_6 (by decide)
  have g_dfX14_95_10 := fx_ne (j := 10) e_dfX14_95 g_dfX14_92_10 (by decide)
  have g_dfX14_95_64 := fx_ne (j := 64) e_dfX14_95 g_dfX14_92_64 (by decide)
  have g_dfX14_95_65 := fx_ne (j := 65) e_dfX14_95 g_dfX14_92_65 (by decide)
  refine lv_aload_n hx hb dX14_init_287 rfl (lv_at hl 0 rfl) ?_
  refine lv_sipush (v := 700) hx hb dX14_init_288 (by decide) ?_
  refine va_newa (atype := .long) (ty := .long) (a0 := (700, .inr (.inl (fun _ => 0)))) (N' := 700) hx hb (hts (.arrayClass .long) kw_13) rfl hK hP hD hS hA (fun _ => rfl) (by decide) (by decide) (by decide) (Nat.le_of_ble_eq_true rfl) (Nat.le_of_ble_eq_true rfl) dX14_init_291 (fun q_96 cA_97 H hK hP hD hS => ?_)
  have hP := hP.sub (ws' := [(h0, .inr (12, dfX14_95)), (q_4, .inl (cA_5, 16000, .inl (fun _ => 0))), (q_7, .inr (13, []))]) [0, 1, 2] rfl
  have hD := hD.sub (ws' := [(h0, .inr (12, dfX14_95)), (q_4, .inl (cA_5, 16000, .inl (fun _ => 0))), (q_7, .inr (13, []))]) [0, 1, 2] (by decide) rfl
  have hK := hK.sub (tys' := [(cA_5, .byte)]) [0] rfl
  refine W.widen (k := 32) (n := 341009) (Nat.le_of_ble_eq_true rfl) (Nat.le_of_ble_eq_true rfl) ?_
  refine va_putF (D := (dC, dI)) (ci := 12) (v := .ref q_96) (ty := (.array .long)) (C := RX14) (T := TX14) (N := 143) hx hb hts inX14 tyX14 tyX14_ok nmX14 hown hK hP hD hS 0 rfl rfl 71 (by decide) (hts _ kw_309) (fun _ h9 => h9) rfl hin rfl (by decide +kernel) rfl rfl (by rw [L_dfX14_95]; decide) dX14_init_293 (fun H locs hP hD hS => ?_)
  obtain ⟨dfX14_98, e_dfX14_98⟩ : ∃ z, z = dfX14_95.set 71 (.ref q_96) := ⟨_, rfl⟩
  have hP : va_P (dC, dI) cl0 [(h0, .inr (12, dfX14_98)), (q_4, .inl (cA_5, 16000, .inl (fun _ => 0))), (q_7, .inr (13, []))] H := by rw [e_dfX14_98]; exact hP
  have hD : va_D A [(h0, .inr (12, dfX14_98)), (q_4, .inl (cA_5, 16000, .inl (fun _ => 0))), (q_7, .inr (13, []))] := by rw [e_dfX14_98]; exact hD
  have L_dfX14_98 : dfX14_98.length = 143 := fx_len e_dfX14_98 L_dfX14_95
  have g_dfX14_98_1 := fx_ne (j := 1) e_dfX14_98 g_dfX14_95_1 (by decide)
  have g_dfX14_98_4 := fx_ne (j := 4) e_dfX14_98 g_dfX14_95_4 (by decide)
  have g_dfX14_98_5 := fx_ne (j := 5) e_dfX14_98 g_dfX14_95_5 (by decide)
  have g_dfX14_98_9 := fx_ne (j := 9) e_dfX14_98 g_dfX14_95_9 (by decide)
  have g_dfX14_98_78 := fx_ne (j := 78) e_dfX14_98 g_dfX14_95_78 (by decide)
  have g_dfX14_98_80 := fx_ne (j := 80) e_dfX14_98 g_dfX14_95_80 (by decide)
  have g_dfX14_98_85 := fx_ne (j := 85) e_dfX14_98 g_dfX14_95_85 (by decide)
  have g_dfX14_98_88 := fx_ne (j := 88) e_dfX14_98 g_dfX14_95_88 (by decide)
  have g_dfX14_98_96 := fx_ne (j := 96) e_dfX14_98 g_dfX14_95_96 (by decide)
  have g_dfX14_98_100 := fx_ne (j := 100) e_dfX14_98 g_dfX14_95_100 (by decide)
  have g_dfX14_98_101 := fx_ne (j := 101) e_dfX14_98 g_dfX14_95_101 (by decide)
  have g_dfX14_98_3 := fx_ne (j := 3) e_dfX14_98 g_dfX14_95_3 (by decide)
  have g_dfX14_98_6 := fx_ne (j := 6) e_dfX14_98 g_dfX14_95_6 (by decide)
  have g_dfX14_98_10 := fx_ne (j := 10) e_dfX14_98 g_dfX14_95_10 (by decide)
  have g_dfX14_98_64 := fx_ne (j := 64) e_dfX14_98 g_dfX14_95_64 (by decide)
  have g_dfX14_98_65 := fx_ne (j := 65) e_dfX14_98 g_dfX14_95_65 (by decide)
  refine lv_aload_n hx hb dX14_init_296 rfl (lv_at hl 0 rfl) ?_
  refine lv_sipush (v := 700) hx hb dX14_init_297 (by decide) ?_
  refine va_newq (C := "java/lang/String") (N' := 700) hx hb hown (hts _ kw_310) (ao_of (by exact ao_java_lang_String) hex) hK hP hD hS hA (by decide) (by decide) (by decide) (Nat.le_of_ble_eq_true rfl) (Nat.le_of_ble_eq_true rfl) dX14_init_300 (fun q_99 cA_100 H hK hP hD hS => ?_)
  have hP := hP.sub (ws' := [(h0, .inr (12, dfX14_98)), (q_4, .inl (cA_5, 16000, .inl (fun _ => 0))), (q_7, .inr (13, []))]) [0, 1, 2] rfl
  have hD := hD.sub (ws' := [(h0, .inr (12, dfX14_98)), (q_4, .inl (cA_5, 16000, .inl (fun _ => 0))), (q_7, .inr (13, []))]) [0, 1, 2] (by decide) rfl
  have hK := hK.sub (tys' := [(cA_5, .byte)]) [0] rfl
  refine W.widen (k := 33) (n := 341709) (Nat.le_of_ble_eq_true rfl) (Nat.le_of_ble_eq_true rfl) ?_
  refine va_putF (D := (dC, dI)) (ci := 12) (v := .ref q_99) (ty := (.array (.object "java/lang/String"))) (C := RX14) (T := TX14) (N := 143) hx hb hts inX14 tyX14 tyX14_ok nmX14 hown hK hP hD hS 0 rfl rfl 72 (by decide) (hts _ kw_311) (fun _ h9 => h9) rfl hin rfl (by decide +kernel) rfl rfl (by rw [L_dfX14_98]; decide) dX14_init_303 (fun H locs hP hD hS => ?_)
  obtain ⟨dfX14_101, e_dfX14_101⟩ : ∃ z, z = dfX14_98.set 72 (.ref q_99) := ⟨_, rfl⟩
  have hP : va_P (dC, dI) cl0 [(h0, .inr (12, dfX14_101)), (q_4, .inl (cA_5, 16000, .inl (fun _ => 0))), (q_7, .inr (13, []))] H := by rw [e_dfX14_101]; exact hP
  have hD : va_D A [(h0, .inr (12, dfX14_101)), (q_4, .inl (cA_5, 16000, .inl (fun _ => 0))), (q_7, .inr (13, []))] := by rw [e_dfX14_101]; exact hD
  have L_dfX14_101 : dfX14_101.length = 143 := fx_len e_dfX14_101 L_dfX14_98
  have g_dfX14_101_1 := fx_ne (j := 1) e_dfX14_101 g_dfX14_98_1 (by decide)
  have g_dfX14_101_4 := fx_ne (j := 4) e_dfX14_101 g_dfX14_98_4 (by decide)
  have g_dfX14_101_5 := fx_ne (j := 5) e_dfX14_101 g_dfX14_98_5 (by decide)
  have g_dfX14_101_9 := fx_ne (j := 9) e_dfX14_101 g_dfX14_98_9 (by decide)
  have g_dfX14_101_78 := fx_ne (j := 78) e_dfX14_101 g_dfX14_98_78 (by decide)
  have g_dfX14_101_80 := fx_ne (j := 80) e_dfX14_101 g_dfX14_98_80 (by decide)
  have g_dfX14_101_85 := fx_ne (j := 85) e_dfX14_101 g_dfX14_98_85 (by decide)
  have g_dfX14_101_88 := fx_ne (j := 88) e_dfX14_101 g_dfX14_98_88 (by decide)
  have g_dfX14_101_96 := fx_ne (j := 96) e_dfX14_101 g_dfX14_98_96 (by decide)
  have g_dfX14_101_100 := fx_ne (j := 100) e_dfX14_101 g_dfX14_98_100 (by decide)
  have g_dfX14_101_101 := fx_ne (j := 101) e_dfX14_101 g_dfX14_98_101 (by decide)
  have g_dfX14_101_3 := fx_ne (j := 3) e_dfX14_101 g_dfX14_98_3 (by decide)
  have g_dfX14_101_6 := fx_ne (j := 6) e_dfX14_101 g_dfX14_98_6 (by decide)
  have g_dfX14_101_10 := fx_ne (j := 10) e_dfX14_101 g_dfX14_98_10 (by decide)
  have g_dfX14_101_64 := fx_ne (j := 64) e_dfX14_101 g_dfX14_98_64 (by decide)
  have g_dfX14_101_65 := fx_ne (j := 65) e_dfX14_101 g_dfX14_98_65 (by decide)
  refine lv_aload_n hx hb dX14_init_306 rfl (lv_at hl 0 rfl) ?_
  refine lv_ldc hx hb hown (hts _ kw_312) dX14_init_307 ?_
  refine va_newa (atype := .byte) (ty := .byte) (a0 := (131072, .inl (fun _ => 0))) (N' := 131072) hx hb (hts (.arrayClass .byte) kw_3) rfl hK hP hD hS hA (fun _ => rfl) (by decide) (by decide) (by decide) (Nat.le_of_ble_eq_true rfl) (Nat.le_of_ble_eq_true rfl) dX14_init_309 (fun q_102 cA_103 H hK hP hD hS => ?_)
  have hP := hP.sub (ws' := [(h0, .inr (12, dfX14_101)), (q_4, .inl (cA_5, 16000, .inl (fun _ => 0))), (q_7, .inr (13, []))]) [0, 1, 2] rfl
  have hD := hD.sub (ws' := [(h0, .inr (12, dfX14_101)), (q_4, .inl (cA_5, 16000, .inl (fun _ => 0))), (q_7, .inr (13, []))]) [0, 1, 2] (by decide) rfl
  have hK := hK.sub (tys' := [(cA_5, .byte)]) [0] rfl
  refine W.widen (k := 34) (n := 472781) (Nat.le_of_ble_eq_true rfl) (Nat.le_of_ble_eq_true rfl) ?_
  refine va_put (D := (dC, dI)) (ci := 12) (v := .ref q_102) (ty := (.array .byte)) (C := RX14) (T := TX14) (N := 143) hx hb hts inX14 tyX14 tyX14_ok nmX14 hown hK hP hD hS 0 rfl rfl 75 (by decide) (hts _ kw_313) (fun _ h9 => h9) rfl (by decide +kernel) rfl rfl (by rw [L_dfX14_101]; decide) dX14_init_311 (fun H locs hP hD hS => ?_)
  obtain ⟨dfX14_104, e_dfX14_104⟩ : ∃ z, z = dfX14_101.set 75 (.ref q_102) := ⟨_, rfl⟩
  have hP : va_P (dC, dI) cl0 [(h0, .inr (12, dfX14_104)), (q_4, .inl (cA_5, 16000, .inl (fun _ => 0))), (q_7, .inr (13, []))] H := by rw [e_dfX14_104]; exact hP
  have hD : va_D A [(h0, .inr (12, dfX14_104)), (q_4, .inl (cA_5, 16000, .inl (fun _ => 0))), (q_7, .inr (13, []))] := by rw [e_dfX14_104]; exact hD
  have L_dfX14_104 : dfX14_104.length = 143 := fx_len e_dfX14_104 L_dfX14_101
  have g_dfX14_104_1 := fx_ne (j := 1) e_dfX14_104 g_dfX14_101_1 (by decide)
  have g_dfX14_104_4 := fx_ne (j := 4) e_dfX14_104 g_dfX14_101_4 (by decide)
  have g_dfX14_104_5 := fx_ne (j := 5) e_dfX14_104 g_dfX14_101_5 (by decide)
  have g_dfX14_104_9 := fx_ne (j := 9) e_dfX14_104 g_dfX14_101_9 (by decide)
  have g_dfX14_104_78 := fx_ne (j := 78) e_dfX14_104 g_dfX14_101_78 (by decide)
  have g_dfX14_104_80 := fx_ne (j := 80) e_dfX14_104 g_dfX14_101_80 (by decide)
  have g_dfX14_104_85 := fx_ne (j := 85) e_dfX14_104 g_dfX14_101_85 (by decide)
  have g_dfX14_104_88 := fx_ne (j := 88) e_dfX14_104 g_dfX14_101_88 (by decide)
  have g_dfX14_104_96 := fx_ne (j := 96) e_dfX14_104 g_dfX14_101_96 (by decide)
  have g_dfX14_104_100 := fx_ne (j := 100) e_dfX14_104 g_dfX14_101_100 (by decide)
  have g_dfX14_104_101 := fx_ne (j := 101) e_dfX14_104 g_dfX14_101_101 (by decide)
  have g_dfX14_104_3 := fx_ne (j := 3) e_dfX14_104 g_dfX14_101_3 (by decide)
  have g_dfX14_104_6 := fx_ne (j := 6) e_dfX14_104 g_dfX14_101_6 (by decide)
  have g_dfX14_104_10 := fx_ne (j := 10) e_dfX14_104 g_dfX14_101_10 (by decide)
  have g_dfX14_104_64 := fx_ne (j := 64) e_dfX14_104 g_dfX14_101_64 (by decide)
  have g_dfX14_104_65 := fx_ne (j := 65) e_dfX14_104 g_dfX14_101_65 (by decide)
  refine lv_aload_n hx hb dX14_init_314 rfl (lv_at hl 0 rfl) ?_
  refine lv_ldc hx hb hown (hts _ kw_312) dX14_init_315 ?_
  refine va_newa (atype := .byte) (ty := .byte) (a0 := (131072, .inl (fun _ => 0))) (N' := 131072) hx hb (hts (.arrayClass .byte) kw_3) rfl hK hP hD hS hA (fun _ => rfl) (by decide) (by decide) (by decide) (Nat.le_of_ble_eq_true rfl) (Nat.le_of_ble_eq_true rfl) dX14_init_317 (fun q_105 cA_106 H hK hP hD hS => ?_)
  have hP := hP.sub (ws' := [(h0, .inr (12, dfX14_104)), (q_4, .inl (cA_5, 16000, .inl (fun _ => 0))), (q_7, .inr (13, []))]) [0, 1, 2] rfl
  have hD := hD.sub (ws' := [(h0, .inr (12, dfX14_104)), (q_4, .inl (cA_5, 16000, .inl (fun _ => 0))), (q_7, .inr (13, []))]) [0, 1, 2] (by decide) rfl
  have hK := hK.sub (tys' := [(cA_5, .byte)]) [0] rfl
  refine W.widen (k := 35) (n := 603853) (Nat.le_of_ble_eq_true rfl) (Nat.le_of_ble_eq_true rfl) ?_
  refine va_put (D := (dC, dI)) (ci := 12) (v := .ref q_105) (ty := (.array .byte)) (C := RX14) (T := TX14) (N := 143) hx hb hts inX14 tyX14 tyX14_ok nmX14 hown hK hP hD hS 0 rfl rfl 76 (by decide) (hts _ kw_314) (fun _ h9 => h9) rfl (by decide +kernel) rfl rfl (by rw [L_dfX14_104]; decide) dX14_init_319 (fun H locs hP hD hS => ?_)
  obtain ⟨dfX14_107, e_dfX14_107⟩ : ∃ z, z = dfX14_104.set 76 (.ref q_105) := ⟨_, rfl⟩
  have hP : va_P (dC, dI) cl0 [(h0, .inr (12, dfX14_107)), (q_4, .inl (cA_5, 16000, .inl (fun _ => 0))), (q_7, .inr (13, []))] H := by rw [e_dfX14_107]; exact hP
  have hD : va_D A [(h0, .inr (12, dfX14_107)), (q_4, .inl (cA_5, 16000, .inl (fun _ => 0))), (q_7, .inr (13, []))] := by rw [e_dfX14_107]; exact hD
  have L_dfX14_107 : dfX14_107.length = 143 := fx_len e_dfX14_107 L_dfX14_104
  have g_dfX14_107_1 := fx_ne (j := 1) e_dfX14_107 g_dfX14_104_1 (by decide)
  have g_dfX14_107_4 := fx_ne (j := 4) e_dfX14_107 g_dfX14_104_4 (by decide)
  have g_dfX14_107_5 := fx_ne (j := 5) e_dfX14_107 g_dfX14_104_5 (by decide)
  have g_dfX14_107_9 := fx_ne (j := 9) e_dfX14_107 g_dfX14_104_9 (by decide)
  have g_dfX14_107_78 := fx_ne (j := 78) e_dfX14_107 g_dfX14_104_78 (by decide)
  have g_dfX14_107_80 := fx_ne (j := 80) e_dfX14_107 g_dfX14_104_80 (by decide)
  have g_dfX14_107_85 := fx_ne (j := 85) e_dfX14_107 g_dfX14_104_85 (by decide)
  have g_dfX14_107_88 := fx_ne (j := 88) e_dfX14_107 g_dfX14_104_88 (by decide)
  have g_dfX14_107_96 := fx_ne (j := 96) e_dfX14_107 g_dfX14_104_96 (by decide)
  have g_dfX14_107_100 := fx_ne (j := 100) e_dfX14_107 g_dfX14_104_100 (by decide)
  have g_dfX14_107_101 := fx_ne (j := 101) e_dfX14_107 g_dfX14_104_101 (by decide)
  have g_dfX14_107_3 := fx_ne (j := 3) e_dfX14_107 g_dfX14_104_3 (by decide)
  have g_dfX14_107_6 := fx_ne (j := 6) e_dfX14_107 g_dfX14_104_6 (by decide)
  have g_dfX14_107_10 := fx_ne (j := 10) e_dfX14_107 g_dfX14_104_10 (by decide)
  have g_dfX14_107_64 := fx_ne (j := 64) e_dfX14_107 g_dfX14_104_64 (by decide)
  have g_dfX14_107_65 := fx_ne (j := 65) e_dfX14_107 g_dfX14_104_65 (by decide)
  refine lv_aload_n hx hb dX14_init_322 rfl (lv_at hl 0 rfl) ?_
  refine lv_sipush (v := 1297) hx hb dX14_init_323 (by decide) ?_
  refine va_newa (atype := .int) (ty := .int) (a0 := (1297, .inl (fun _ => 0))) (N' := 1297) hx hb (hts (.arrayClass .int) kw_6) rfl hK hP hD hS hA (fun _ => rfl) (by decide) (by decide) (by decide) (Nat.le_of_ble_eq_true rfl) (Nat.le_of_ble_eq_true rfl) dX14_init_326 (fun q_108 cA_109 H hK hP hD hS => ?_)
  have hP := hP.sub (ws' := [(h0, .inr (12, dfX14_107)), (q_4, .inl (cA_5, 16000, .inl (fun _ => 0))), (q_7, .inr (13, []))]) [0, 1, 2] rfl
  have hD := hD.sub (ws' := [(h0, .inr (12, dfX14_107)), (q_4, .inl (cA_5, 16000, .inl (fun _ => 0))), (q_7, .inr (13, []))]) [0, 1, 2] (by decide) rfl
  have hK := hK.sub (tys' := [(cA_5, .byte)]) [0] rfl
  refine W.widen (k := 36) (n := 605150) (Nat.le_of_ble_eq_true rfl) (Nat.le_of_ble_eq_true rfl) ?_
  refine va_putF (D := (dC, dI)) (ci := 12) (v := .ref q_108) (ty := (.array .int)) (C := RX14) (T := TX14) (N := 143) hx hb hts inX14 tyX14 tyX14_ok nmX14 hown hK hP hD hS 0 rfl rfl 79 (by decide) (hts _ kw_315) (fun _ h9 => h9) rfl hin rfl (by decide +kernel) rfl rfl (by rw [L_dfX14_107]; decide) dX14_init_328 (fun H locs hP hD hS => ?_)
  obtain ⟨dfX14_110, e_dfX14_110⟩ : ∃ z, z = dfX14_107.set 79 (.ref q_108) := ⟨_, rfl⟩
  have hP : va_P (dC, dI) cl0 [(h0, .inr (12, dfX14_110)), (q_4, .inl (cA_5, 16000, .inl (fun _ => 0))), (q_7, .inr (13, []))] H := by rw [e_dfX14_110]; exact hP
  have hD : va_D A [(h0, .inr (12, dfX14_110)), (q_4, .inl (cA_5, 16000, .inl (fun _ => 0))), (q_7, .inr (13, []))] := by rw [e_dfX14_110]; exact hD
  have L_dfX14_110 : dfX14_110.length = 143 := fx_len e_dfX14_110 L_dfX14_107
  have g_dfX14_110_1 := fx_ne (j := 1) e_dfX14_110 g_dfX14_107_1 (by decide)
  have g_dfX14_110_4 := fx_ne (j := 4) e_dfX14_110 g_dfX14_107_4 (by decide)
  have g_dfX14_110_5 := fx_ne (j := 5) e_dfX14_110 g_dfX14_107_5 (by decide)
  have g_dfX14_110_9 := fx_ne (j := 9) e_dfX14_110 g_dfX14_107_9 (by decide)
  have g_dfX14_110_78 := fx_ne (j := 78) e_dfX14_110 g_dfX14_107_78 (by decide)
  have g_dfX14_110_80 := fx_ne (j := 80) e_dfX14_110 g_dfX14_107_80 (by decide)
  have g_dfX14_110_85 := fx_ne (j := 85) e_dfX14_110 g_dfX14_107_85 (by decide)
  have g_dfX14_110_88 := fx_ne (j := 88) e_dfX14_110 g_dfX14_107_88 (by decide)
  have g_dfX14_110_96 := fx_ne (j := 96) e_dfX14_110 g_dfX14_107_96 (by decide)
  have g_dfX14_110_100 := fx_ne (j := 100) e_dfX14_110 g_dfX14_107_100 (by decide)
  have g_dfX14_110_101 := fx_ne (j := 101) e_dfX14_110 g_dfX14_107_101 (by decide)
  have g_dfX14_110_3 := fx_ne (j := 3) e_dfX14_110 g_dfX14_107_3 (by decide)
  have g_dfX14_110_6 := fx_ne (j := 6) e_dfX14_110 g_dfX14_107_6 (by decide)
  have g_dfX14_110_10 := fx_ne (j := 10) e_dfX14_110 g_dfX14_107_10 (by decide)
  have g_dfX14_110_64 := fx_ne (j := 64) e_dfX14_110 g_dfX14_107_64 (by decide)
  have g_dfX14_110_65 := fx_ne (j := 65) e_dfX14_110 g_dfX14_107_65 (by decide)
  refine lv_aload_n hx hb dX14_init_331 rfl (lv_at hl 0 rfl) ?_
  refine lv_bipush (v := 24) hx hb dX14_init_332 (by decide) ?_
  refine va_newa (atype := .long) (ty := .long) (a0 := (24, .inr (.inl (fun _ => 0)))) (N' := 24) hx hb (hts (.arrayClass .long) kw_13) rfl hK hP hD hS hA (fun _ => rfl) (by decide) (by decide) (by decide) (Nat.le_of_ble_eq_true rfl) (Nat.le_of_ble_eq_true rfl) dX14_init_334 (fun q_111 cA_112 H hK hP hD hS => ?_)
  have hP := hP.sub (ws' := [(h0, .inr (12, dfX14_110)), (q_4, .inl (cA_5, 16000, .inl (fun _ => 0))), (q_7, .inr (13, []))]) [0, 1, 2] rfl
  have hD := hD.sub (ws' := [(h0, .inr (12, dfX14_110)), (q_4, .inl (cA_5, 16000, .inl (fun _ => 0))), (q_7, .inr (13, []))]) [0, 1, 2] (by decide) rfl
  have hK := hK.sub (tys' := [(cA_5, .byte)]) [0] rfl
  refine W.widen (k := 37) (n := 605174) (Nat.le_of_ble_eq_true rfl) (Nat.le_of_ble_eq_true rfl) ?_
  refine va_putF (D := (dC, dI)) (ci := 12) (v := .ref q_111) (ty := (.array .long)) (C := RX14) (T := TX14) (N := 143) hx hb hts inX14 tyX14 tyX14_ok nmX14 hown hK hP hD hS 0 rfl rfl 81 (by decide) (hts _ kw_316) (fun _ h9 => h9) rfl hin rfl (by decide +kernel) rfl rfl (by rw [L_dfX14_110]; decide) dX14_init_336 (fun H locs hP hD hS => ?_)
  obtain ⟨dfX14_113, e_dfX14_113⟩ : ∃ z, z = dfX14_110.set 81 (.ref q_111) := ⟨_, rfl⟩
  have hP : va_P (dC, dI) cl0 [(h0, .inr (12, dfX14_113)), (q_4, .inl (cA_5, 16000, .inl (fun _ => 0))), (q_7, .inr (13, []))] H := by rw [e_dfX14_113]; exact hP
  have hD : va_D A [(h0, .inr (12, dfX14_113)), (q_4, .inl (cA_5, 16000, .inl (fun _ => 0))), (q_7, .inr (13, []))] := by rw [e_dfX14_113]; exact hD
  have L_dfX14_113 : dfX14_113.length = 143 := fx_len e_dfX14_113 L_dfX14_110
  have g_dfX14_113_1 := fx_ne (j := 1) e_dfX14_113 g_dfX14_110_1 (by decide)
  have g_dfX14_113_4 := fx_ne (j := 4) e_dfX14_113 g_dfX14_110_4 (by decide)
  have g_dfX14_113_5 := fx_ne (j := 5) e_dfX14_113 g_dfX14_110_5 (by decide)
  have g_dfX14_113_9 := fx_ne (j := 9) e_dfX14_113 g_dfX14_110_9 (by decide)
  have g_dfX14_113_78 := fx_ne (j := 78) e_dfX14_113 g_dfX14_110_78 (by decide)
  have g_dfX14_113_80 := fx_ne (j := 80) e_dfX14_113 g_dfX14_110_80 (by decide)
  have g_dfX14_113_85 := fx_ne (j := 85) e_dfX14_113 g_dfX14_110_85 (by decide)
  have g_dfX14_113_88 := fx_ne (j := 88) e_dfX14_113 g_dfX14_110_88 (by decide)
  have g_dfX14_113_96 := fx_ne (j := 96) e_dfX14_113 g_dfX14_110_96 (by decide)
  have g_dfX14_113_100 := fx_ne (j := 100) e_dfX14_113 g_dfX14_110_100 (by decide)
  have g_dfX14_113_101 := fx_ne (j := 101) e_dfX14_113 g_dfX14_110_101 (by decide)
  have g_dfX14_113_3 := fx_ne (j := 3) e_dfX14_113 g_dfX14_110_3 (by decide)
  have g_dfX14_113_6 := fx_ne (j := 6) e_dfX14_113 g_dfX14_110_6 (by decide)
  have g_dfX14_113_10 := fx_ne (j := 10) e_dfX14_113 g_dfX14_110_10 (by decide)
  have g_dfX14_113_64 := fx_ne (j := 64) e_dfX14_113 g_dfX14_110_64 (by decide)
  have g_dfX14_113_65 := fx_ne (j := 65) e_dfX14_113 g_dfX14_110_65 (by decide)
  refine lv_aload_n hx hb dX14_init_339 rfl (lv_at hl 0 rfl) ?_
  refine lv_sipush (v := 20000) hx hb dX14_init_340 (by decide) ?_
  refine va_newa (atype := .int) (ty := .int) (a0 := (20000, .inl (fun _ => 0))) (N' := 20000) hx hb (hts (.arrayClass .int) kw_6) rfl hK hP hD hS hA (fun _ => rfl) (by decide) (by decide) (by decide) (Nat.le_of_ble_eq_true rfl) (Nat.le_of_ble_eq_true rfl) dX14_init_343 (fun q_114 cA_115 H hK hP hD hS => ?_)
  have hP := hP.sub (ws' := [(h0, .inr (12, dfX14_113)), (q_4, .inl (cA_5, 16000, .inl (fun _ => 0))), (q_7, .inr (13, []))]) [0, 1, 2] rfl
  have hD := hD.sub (ws' := [(h0, .inr (12, dfX14_113)), (q_4, .inl (cA_5, 16000, .inl (fun _ => 0))), (q_7, .inr (13, []))]) [0, 1, 2] (by decide) rfl
  have hK := hK.sub (tys' := [(cA_5, .byte)]) [0] rfl
  refine W.widen (k := 38) (n := 625174) (Nat.le_of_ble_eq_true rfl) (Nat.le_of_ble_eq_true rfl) ?_
  refine va_putF (D := (dC, dI)) (ci := 12) (v := .ref q_114) (ty := (.array .int)) (C := RX14) (T := TX14) (N := 143) hx hb hts inX14 tyX14 tyX14_ok nmX14 hown hK hP hD hS 0 rfl rfl 82 (by decide) (hts _ kw_317) (fun _ h9 => h9) rfl hin rfl (by decide +kernel) rfl rfl (by rw [L_dfX14_113]; decide) dX14_init_345 (fun H locs hP hD hS => ?_)
  obtain ⟨dfX14_116, e_dfX14_116⟩ : ∃ z, z = dfX14_113.set 82 (.ref q_114) := ⟨_, rfl⟩
  have hP : va_P (dC, dI) cl0 [(h0, .inr (12, dfX14_116)), (q_4, .inl (cA_5, 16000, .inl (fun _ => 0))), (q_7, .inr (13, []))] H := by rw [e_dfX14_116]; exact hP
  have hD : va_D A [(h0, .inr (12, dfX14_116)), (q_4, .inl (cA_5, 16000, .inl (fun _ => 0))), (q_7, .inr (13, []))] := by rw [e_dfX14_116]; exact hD
  have L_dfX14_116 : dfX14_116.length = 143 := fx_len e_dfX14_116 L_dfX14_113
  have g_dfX14_116_1 := fx_ne (j := 1) e_dfX14_116 g_dfX14_113_1 (by decide)
  have g_dfX14_116_4 := fx_ne (j := 4) e_dfX14_116 g_dfX14_113_4 (by decide)
  have g_dfX14_116_5 := fx_ne (j := 5) e_dfX14_116 g_dfX14_113_5 (by decide)
  have g_dfX14_116_9 := fx_ne (j := 9) e_dfX14_116 g_dfX14_113_9 (by decide)
  have g_dfX14_116_78 := fx_ne (j := 78) e_dfX14_116 g_dfX14_113_78 (by decide)
  have g_dfX14_116_80 := fx_ne (j := 80) e_dfX14_116 g_dfX14_113_80 (by decide)
  have g_dfX14_116_85 := fx_ne (j := 85) e_dfX14_116 g_dfX14_113_85 (by decide)
  have g_dfX14_116_88 := fx_ne (j := 88) e_dfX14_116 g_dfX14_113_88 (by decide)
  have g_dfX14_116_96 := fx_ne (j := 96) e_dfX14_116 g_dfX14_113_96 (by decide)
  have g_dfX14_116_100 := fx_ne (j := 100) e_dfX14_116 g_dfX14_113_100 (by decide)
  have g_dfX14_116_101 := fx_ne (j := 101) e_dfX14_116 g_dfX14_113_101 (by decide)
  have g_dfX14_116_3 := fx_ne (j := 3) e_dfX14_116 g_dfX14_113_3 (by decide)
  have g_dfX14_116_6 := fx_ne (j := 6) e_dfX14_116 g_dfX14_113_6 (by decide)
  have g_dfX14_116_10 := fx_ne (j := 10) e_dfX14_116 g_dfX14_113_10 (by decide)
  have g_dfX14_116_64 := fx_ne (j := 64) e_dfX14_116 g_dfX14_113_64 (by decide)
  have g_dfX14_116_65 := fx_ne (j := 65) e_dfX14_116 g_dfX14_113_65 (by decide)
  refine lv_aload_n hx hb dX14_init_348 rfl (lv_at hl 0 rfl) ?_
  refine lv_sipush (v := 401) hx hb dX14_init_349 (by decide) ?_
  refine va_newa (atype := .int) (ty := .int) (a0 := (401, .inl (fun _ => 0))) (N' := 401) hx hb (hts (.arrayClass .int) kw_6) rfl hK hP hD hS hA (fun _ => rfl) (by decide) (by decide) (by decide) (Nat.le_of_ble_eq_true rfl) (Nat.le_of_ble_eq_true rfl) dX14_init_352 (fun q_117 cA_118 H hK hP hD hS => ?_)
  have hP := hP.sub (ws' := [(h0, .inr (12, dfX14_116)), (q_4, .inl (cA_5, 16000, .inl (fun _ => 0))), (q_7, .inr (13, []))]) [0, 1, 2] rfl
  have hD := hD.sub (ws' := [(h0, .inr (12, dfX14_116)), (q_4, .inl (cA_5, 16000, .inl (fun _ => 0))), (q_7, .inr (13, []))]) [0, 1, 2] (by decide) rfl
  have hK := hK.sub (tys' := [(cA_5, .byte)]) [0] rfl
  refine W.widen (k := 39) (n := 625575) (Nat.le_of_ble_eq_true rfl) (Nat.le_of_ble_eq_true rfl) ?_
  refine va_putF (D := (dC, dI)) (ci := 12) (v := .ref q_117) (ty := (.array .int)) (C := RX14) (T := TX14) (N := 143) hx hb hts inX14 tyX14 tyX14_ok nmX14 hown hK hP hD hS 0 rfl rfl 83 (by decide) (hts _ kw_318) (fun _ h9 => h9) rfl hin rfl (by decide +kernel) rfl rfl (by rw [L_dfX14_116]; decide) dX14_init_354 (fun H locs hP hD hS => ?_)
  obtain ⟨dfX14_119, e_dfX14_119⟩ : ∃ z, z = dfX14_116.set 83 (.ref q_117) := ⟨_, rfl⟩
  have hP : va_P (dC, dI) cl0 [(h0, .inr (12, dfX14_119)), (q_4, .inl (cA_5, 16000, .inl (fun _ => 0))), (q_7, .inr (13, []))] H := by rw [e_dfX14_119]; exact hP
  have hD : va_D A [(h0, .inr (12, dfX14_119)), (q_4, .inl (cA_5, 16000, .inl (fun _ => 0))), (q_7, .inr (13, []))] := by rw [e_dfX14_119]; exact hD
  have L_dfX14_119 : dfX14_119.length = 143 := fx_len e_dfX14_119 L_dfX14_116
  have g_dfX14_119_1 := fx_ne (j := 1) e_dfX14_119 g_dfX14_116_1 (by decide)
  have g_dfX14_119_4 := fx_ne (j := 4) e_dfX14_119 g_dfX14_116_4 (by decide)
  have g_dfX14_119_5 := fx_ne (j := 5) e_dfX14_119 g_dfX14_116_5 (by decide)
  have g_dfX14_119_9 := fx_ne (j := 9) e_dfX14_119 g_dfX14_116_9 (by decide)
  have g_dfX14_119_78 := fx_ne (j := 78) e_dfX14_119 g_dfX14_116_78 (by decide)
  have g_dfX14_119_80 := fx_ne (j := 80) e_dfX14_119 g_dfX14_116_80 (by decide)
  have g_dfX14_119_85 := fx_ne (j := 85) e_dfX14_119 g_dfX14_116_85 (by decide)
  have g_dfX14_119_88 := fx_ne (j := 88) e_dfX14_119 g_dfX14_116_88 (by decide)
  have g_dfX14_119_96 := fx_ne (j := 96) e_dfX14_119 g_dfX14_116_96 (by decide)
  have g_dfX14_119_100 := fx_ne (j := 100) e_dfX14_119 g_dfX14_116_100 (by decide)
  have g_dfX14_119_101 := fx_ne (j := 101) e_dfX14_119 g_dfX14_116_101 (by decide)
  have g_dfX14_119_3 := fx_ne (j := 3) e_dfX14_119 g_dfX14_116_3 (by decide)
  have g_dfX14_119_6 := fx_ne (j := 6) e_dfX14_119 g_dfX14_116_6 (by decide)
  have g_dfX14_119_10 := fx_ne (j := 10) e_dfX14_119 g_dfX14_116_10 (by decide)
  have g_dfX14_119_64 := fx_ne (j := 64) e_dfX14_119 g_dfX14_116_64 (by decide)
  have g_dfX14_119_65 := fx_ne (j := 65) e_dfX14_119 g_dfX14_116_65 (by decide)
  refine lv_aload_n hx hb dX14_init_357 rfl (lv_at hl 0 rfl) ?_
  refine lv_sipush (v := 401) hx hb dX14_init_358 (by decide) ?_
  refine va_newa (atype := .int) (ty := .int) (a0 := (401, .inl (fun _ => 0))) (N' := 401) hx hb (hts (.arrayClass .int) kw_6) rfl hK hP hD hS hA (fun _ => rfl) (by decide) (by decide) (by decide) (Nat.le_of_ble_eq_true rfl) (Nat.le_of_ble_eq_true rfl) dX14_init_361 (fun q_120 cA_121 H hK hP hD hS => ?_)
  have hP := hP.sub (ws' := [(h0, .inr (12, dfX14_119)), (q_4, .inl (cA_5, 16000, .inl (fun _ => 0))), (q_7, .inr (13, []))]) [0, 1, 2] rfl
  have hD := hD.sub (ws' := [(h0, .inr (12, dfX14_119)), (q_4, .inl (cA_5, 16000, .inl (fun _ => 0))), (q_7, .inr (13, []))]) [0, 1, 2] (by decide) rfl
  have hK := hK.sub (tys' := [(cA_5, .byte)]) [0] rfl
  refine W.widen (k := 40) (n := 625976) (Nat.le_of_ble_eq_true rfl) (Nat.le_of_ble_eq_true rfl) ?_
  refine va_putF (D := (dC, dI)) (ci := 12) (v := .ref q_120) (ty := (.array .int)) (C := RX14) (T := TX14) (N := 143) hx hb hts inX14 tyX14 tyX14_ok nmX14 hown hK hP hD hS 0 rfl rfl 84 (by decide) (hts _ kw_319) (fun _ h9 => h9) rfl hin rfl (by decide +kernel) rfl rfl (by rw [L_dfX14_119]; decide) dX14_init_363 (fun H locs hP hD hS => ?_)
  obtain ⟨dfX14_122, e_dfX14_122⟩ : ∃ z, z = dfX14_119.set 84 (.ref q_120) := ⟨_, rfl⟩
  have hP : va_P (dC, dI) cl0 [(h0, .inr (12, dfX14_122)), (q_4, .inl (cA_5, 16000, .inl (fun _ => 0))), (q_7, .inr (13, []))] H := by rw [e_dfX14_122]; exact hP
  have hD : va_D A [(h0, .inr (12, dfX14_122)), (q_4, .inl (cA_5, 16000, .inl (fun _ => 0))), (q_7, .inr (13, []))] := by rw [e_dfX14_122]; exact hD
  have L_dfX14_122 : dfX14_122.length = 143 := fx_len e_dfX14_122 L_dfX14_119
  have g_dfX14_122_1 := fx_ne (j := 1) e_dfX14_122 g_dfX14_119_1 (by decide)
  have g_dfX14_122_4 := fx_ne (j := 4) e_dfX14_122 g_dfX14_119_4 (by decide)
  have g_dfX14_122_5 := fx_ne (j := 5) e_dfX14_122 g_dfX14_119_5 (by decide)
  have g_dfX14_122_9 := fx_ne (j := 9) e_dfX14_122 g_dfX14_119_9 (by decide)
  have g_dfX14_122_78 := fx_ne (j := 78) e_dfX14_122 g_dfX14_119_78 (by decide)
  have g_dfX14_122_80 := fx_ne (j := 80) e_dfX14_122 g_dfX14_119_80 (by decide)
  have g_dfX14_122_85 := fx_ne (j := 85) e_dfX14_122 g_dfX14_119_85 (by decide)
  have g_dfX14_122_88 := fx_ne (j := 88) e_dfX14_122 g_dfX14_119_88 (by decide)
  have g_dfX14_122_96 := fx_ne (j := 96) e_dfX14_122 g_dfX14_119_96 (by decide)
  have g_dfX14_122_100 := fx_ne (j := 100) e_dfX14_122 g_dfX14_119_100 (by decide)
  have g_dfX14_122_101 := fx_ne (j := 101) e_dfX14_122 g_dfX14_119_101 (by decide)
  have g_dfX14_122_3 := fx_ne (j := 3) e_dfX14_122 g_dfX14_119_3 (by decide)
  have g_dfX14_122_6 := fx_ne (j := 6) e_dfX14_122 g_dfX14_119_6 (by decide)
  have g_dfX14_122_10 := fx_ne (j := 10) e_dfX14_122 g_dfX14_119_10 (by decide)
  have g_dfX14_122_64 := fx_ne (j := 64) e_dfX14_122 g_dfX14_119_64 (by decide)
  have g_dfX14_122_65 := fx_ne (j := 65) e_dfX14_122 g_dfX14_119_65 (by decide)
  refine lv_aload_n hx hb dX14_init_366 rfl (lv_at hl 0 rfl) ?_
  refine lv_bipush (v := 8) hx hb dX14_init_367 (by decide) ?_
  refine va_newa (atype := .long) (ty := .long) (a0 := (8, .inr (.inl (fun _ => 0)))) (N' := 8) hx hb (hts (.arrayClass .long) kw_13) rfl hK hP hD hS hA (fun _ => rfl) (by decide) (by decide) (by decide) (Nat.le_of_ble_eq_true rfl) (Nat.le_of_ble_eq_true rfl) dX14_init_369 (fun q_123 cA_124 H hK hP hD hS => ?_)
  have hP : va_P (dC, dI) cl0 [(h0, .inr (12, dfX14_122)), (q_4, .inl (cA_5, 16000, .inl (fun _ => 0))), (q_7, .inr (13, [])), (q_123, .inl (cA_124, 8, .inr (.inl (fun _ => 0))))] H := hP
  have hD : va_D A [(h0, .inr (12, dfX14_122)), (q_4, .inl (cA_5, 16000, .inl (fun _ => 0))), (q_7, .inr (13, [])), (q_123, .inl (cA_124, 8, .inr (.inl (fun _ => 0))))] := hD
  have hK : va_K (dC, dI) cl0 [(cA_5, .byte), (cA_124, .long)] s := hK
  refine W.widen (k := 41) (n := 625984) (Nat.le_of_ble_eq_true rfl) (Nat.le_of_ble_eq_true rfl) ?_
  refine va_putF (D := (dC, dI)) (ci := 12) (v := .ref q_123) (ty := (.array .long)) (C := RX14) (T := TX14) (N := 143) hx hb hts inX14 tyX14 tyX14_ok nmX14 hown hK hP hD hS 0 rfl rfl 87 (by decide) (hts _ kw_320) (fun _ h9 => h9) rfl hin rfl (by decide +kernel) rfl rfl (by rw [L_dfX14_122]; decide) dX14_init_371 (fun H locs hP hD hS => ?_)
  obtain ⟨dfX14_125, e_dfX14_125⟩ : ∃ z, z = dfX14_122.set 87 (.ref q_123) := ⟨_, rfl⟩
  have hP : va_P (dC, dI) cl0 [(h0, .inr (12, dfX14_125)), (q_4, .inl (cA_5, 16000, .inl (fun _ => 0))), (q_7, .inr (13, [])), (q_123, .inl (cA_124, 8, .inr (.inl (fun _ => 0))))] H := by rw [e_dfX14_125]; exact hP
  have hD : va_D A [(h0, .inr (12, dfX14_125)), (q_4, .inl (cA_5, 16000, .inl (fun _ => 0))), (q_7, .inr (13, [])), (q_123, .inl (cA_124, 8, .inr (.inl (fun _ => 0))))] := by rw [e_dfX14_125]; exact hD
  have L_dfX14_125 : dfX14_125.length = 143 := fx_len e_dfX14_125 L_dfX14_122
  have g_dfX14_125_1 := fx_ne (j := 1) e_dfX14_125 g_dfX14_122_1 (by decide)
  have g_dfX14_125_4 := fx_ne (j := 4) e_dfX14_125 g_dfX14_122_4 (by decide)
  have g_dfX14_125_5 := fx_ne (j := 5) e_dfX14_125 g_dfX14_122_5 (by decide)
  have g_dfX14_125_9 := fx_ne (j := 9) e_dfX14_125 g_dfX14_122_9 (by decide)
  have g_dfX14_125_78 := fx_ne (j := 78) e_dfX14_125 g_dfX14_122_78 (by decide)
  have g_dfX14_125_80 := fx_ne (j := 80) e_dfX14_125 g_dfX14_122_80 (by decide)
  have g_dfX14_125_85 := fx_ne (j := 85) e_dfX14_125 g_dfX14_122_85 (by decide)
  have g_dfX14_125_88 := fx_ne (j := 88) e_dfX14_125 g_dfX14_122_88 (by decide)
  have g_dfX14_125_96 := fx_ne (j := 96) e_dfX14_125 g_dfX14_122_96 (by decide)
  have g_dfX14_125_100 := fx_ne (j := 100) e_dfX14_125 g_dfX14_122_100 (by decide)
  have g_dfX14_125_101 := fx_ne (j := 101) e_dfX14_125 g_dfX14_122_101 (by decide)
  have g_dfX14_125_3 := fx_ne (j := 3) e_dfX14_125 g_dfX14_122_3 (by decide)
  have g_dfX14_125_6 := fx_ne (j := 6) e_dfX14_125 g_dfX14_122_6 (by decide)
  have g_dfX14_125_10 := fx_ne (j := 10) e_dfX14_125 g_dfX14_122_10 (by decide)
  have g_dfX14_125_64 := fx_ne (j := 64) e_dfX14_125 g_dfX14_122_64 (by decide)
  have g_dfX14_125_65 := fx_ne (j := 65) e_dfX14_125 g_dfX14_122_65 (by decide)
  have g_dfX14_125_87 := fx_self e_dfX14_125 (by rw [L_dfX14_122]; decide)
  refine lv_aload_n hx hb dX14_init_374 rfl (lv_at hl 0 rfl) ?_
  refine lv_bipush (v := 60) hx hb dX14_init_375 (by decide) ?_
  refine va_newa (atype := .int) (ty := .int) (a0 := (60, .inl (fun _ => 0))) (N' := 60) hx hb (hts (.arrayClass .int) kw_6) rfl hK hP hD hS hA (fun _ => rfl) (by decide) (by decide) (by decide) (Nat.le_of_ble_eq_true rfl) (Nat.le_of_ble_eq_true rfl) dX14_init_377 (fun q_126 cA_127 H hK hP hD hS => ?_)
  have hP := hP.sub (ws' := [(h0, .inr (12, dfX14_125)), (q_4, .inl (cA_5, 16000, .inl (fun _ => 0))), (q_7, .inr (13, [])), (q_123, .inl (cA_124, 8, .inr (.inl (fun _ => 0))))]) [0, 1, 2, 3] rfl
  have hD := hD.sub (ws' := [(h0, .inr (12, dfX14_125)), (q_4, .inl (cA_5, 16000, .inl (fun _ => 0))), (q_7, .inr (13, [])), (q_123, .inl (cA_124, 8, .inr (.inl (fun _ => 0))))]) [0, 1, 2, 3] (by decide) rfl
  have hK := hK.sub (tys' := [(cA_5, .byte), (cA_124, .long)]) [0, 1] rfl
  refine W.widen (k := 42) (n := 626044) (Nat.le_of_ble_eq_true rfl) (Nat.le_of_ble_eq_true rfl) ?_
  refine va_putF (D := (dC, dI)) (ci := 12) (v := .ref q_126) (ty := (.array .int)) (C := RX14) (T := TX14) (N := 143) hx hb hts inX14 tyX14 tyX14_ok nmX14 hown hK hP hD hS 0 rfl rfl 89 (by decide) (hts _ kw_321) (fun _ h9 => h9) rfl hin rfl (by decide +kernel) rfl rfl (by rw [L_dfX14_125]; decide) dX14_init_379 (fun H locs hP hD hS => ?_)
  obtain ⟨dfX14_128, e_dfX14_128⟩ : ∃ z, z = dfX14_125.set 89 (.ref q_126) := ⟨_, rfl⟩
  have hP : va_P (dC, dI) cl0 [(h0, .inr (12, dfX14_128)), (q_4, .inl (cA_5, 16000, .inl (fun _ => 0))), (q_7, .inr (13, [])), (q_123, .inl (cA_124, 8, .inr (.inl (fun _ => 0))))] H := by rw [e_dfX14_128]; exact hP
  have hD : va_D A [(h0, .inr (12, dfX14_128)), (q_4, .inl (cA_5, 16000, .inl (fun _ => 0))), (q_7, .inr (13, [])), (q_123, .inl (cA_124, 8, .inr (.inl (fun _ => 0))))] := by rw [e_dfX14_128]; exact hD
  have L_dfX14_128 : dfX14_128.length = 143 := fx_len e_dfX14_128 L_dfX14_125
  have g_dfX14_128_1 := fx_ne (j := 1) e_dfX14_128 g_dfX14_125_1 (by decide)
  have g_dfX14_128_4 := fx_ne (j := 4) e_dfX14_128 g_dfX14_125_4 (by decide)
  have g_dfX14_128_5 := fx_ne (j := 5) e_dfX14_128 g_dfX14_125_5 (by decide)
  have g_dfX14_128_9 := fx_ne (j := 9) e_dfX14_128 g_dfX14_125_9 (by decide)
  have g_dfX14_128_78 := fx_ne (j := 78) e_dfX14_128 g_dfX14_125_78 (by decide)
  have g_dfX14_128_80 := fx_ne (j := 80) e_dfX14_128 g_dfX14_125_80 (by decide)
  have g_dfX14_128_85 := fx_ne (j := 85) e_dfX14_128 g_dfX14_125_85 (by decide)
  have g_dfX14_128_88 := fx_ne (j := 88) e_dfX14_128 g_dfX14_125_88 (by decide)
  have g_dfX14_128_96 := fx_ne (j := 96) e_dfX14_128 g_dfX14_125_96 (by decide)
  have g_dfX14_128_100 := fx_ne (j := 100) e_dfX14_128 g_dfX14_125_100 (by decide)
  have g_dfX14_128_101 := fx_ne (j := 101) e_dfX14_128 g_dfX14_125_101 (by decide)
  have g_dfX14_128_3 := fx_ne (j := 3) e_dfX14_128 g_dfX14_125_3 (by decide)
  have g_dfX14_128_6 := fx_ne (j := 6) e_dfX14_128 g_dfX14_125_6 (by decide)
  have g_dfX14_128_10 := fx_ne (j := 10) e_dfX14_128 g_dfX14_125_10 (by decide)
  have g_dfX14_128_64 := fx_ne (j := 64) e_dfX14_128 g_dfX14_125_64 (by decide)
  have g_dfX14_128_65 := fx_ne (j := 65) e_dfX14_128 g_dfX14_125_65 (by decide)
  have g_dfX14_128_87 := fx_ne (j := 87) e_dfX14_128 g_dfX14_125_87 (by decide)
  refine lv_aload_n hx hb dX14_init_382 rfl (lv_at hl 0 rfl) ?_
  refine lv_bipush (v := 60) hx hb dX14_init_383 (by decide) ?_
  refine va_newa (atype := .int) (ty := .int) (a0 := (60, .inl (fun _ => 0))) (N' := 60) hx hb (hts (.arrayClass .int) kw_6) rfl hK hP hD hS hA (fun _ => rfl) (by decide) (by decide) (by decide) (Nat.le_of_ble_eq_true rfl) (Nat.le_of_ble_eq_true rfl) dX14_init_385 (fun q_129 cA_130 H hK hP hD hS => ?_)
  have hP := hP.sub (ws' := [(h0, .inr (12, dfX14_128)), (q_4, .inl (cA_5, 16000, .inl (fun _ => 0))), (q_7, .inr (13, [])), (q_123, .inl (cA_124, 8, .inr (.inl (fun _ => 0))))]) [0, 1, 2, 3] rfl
  have hD := hD.sub (ws' := [(h0, .inr (12, dfX14_128)), (q_4, .inl (cA_5, 16000, .inl (fun _ => 0))), (q_7, .inr (13, [])), (q_123, .inl (cA_124, 8, .inr (.inl (fun _ => 0))))]) [0, 1, 2, 3] (by decide) rfl
  have hK := hK.sub (tys' := [(cA_5, .byte), (cA_124, .long)]) [0, 1] rfl
  refine W.widen (k := 43) (n := 626104) (Nat.le_of_ble_eq_true rfl) (Nat.le_of_ble_eq_true rfl) ?_
  refine va_putF (D := (dC, dI)) (ci := 12) (v := .ref q_129) (ty := (.array .int)) (C := RX14) (T := TX14) (N := 143) hx hb hts inX14 tyX14 tyX14_ok nmX14 hown hK hP hD hS 0 rfl rfl 90 (by decide) (hts _ kw_322) (fun _ h9 => h9) rfl hin rfl (by decide +kernel) rfl rfl (by rw [L_dfX14_128]; decide) dX14_init_387 (fun H locs hP hD hS => ?_)
  obtain ⟨dfX14_131, e_dfX14_131⟩ : ∃ z, z = dfX14_128.set 90 (.ref q_129) := ⟨_, rfl⟩
  have hP : va_P (dC, dI) cl0 [(h0, .inr (12, dfX14_131)), (q_4, .inl (cA_5, 16000, .inl (fun _ => 0))), (q_7, .inr (13, [])), (q_123, .inl (cA_124, 8, .inr (.inl (fun _ => 0))))] H := by rw [e_dfX14_131]; exact hP
  have hD : va_D A [(h0, .inr (12, dfX14_131)), (q_4, .inl (cA_5, 16000, .inl (fun _ => 0))), (q_7, .inr (13, [])), (q_123, .inl (cA_124, 8, .inr (.inl (fun _ => 0))))] := by rw [e_dfX14_131]; exact hD
  have L_dfX14_131 : dfX14_131.length = 143 := fx_len e_dfX14_131 L_dfX14_128
  have g_dfX14_131_1 := fx_ne (j := 1) e_dfX14_131 g_dfX14_128_1 (by decide)
  have g_dfX14_131_4 := fx_ne (j := 4) e_dfX14_131 g_dfX14_128_4 (by decide)
  have g_dfX14_131_5 := fx_ne (j := 5) e_dfX14_131 g_dfX14_128_5 (by decide)
  have g_dfX14_131_9 := fx_ne (j := 9) e_dfX14_131 g_dfX14_128_9 (by decide)
  have g_dfX14_131_78 := fx_ne (j := 78) e_dfX14_131 g_dfX14_128_78 (by decide)
  have g_dfX14_131_80 := fx_ne (j := 80) e_dfX14_131 g_dfX14_128_80 (by decide)
  have g_dfX14_131_85 := fx_ne (j := 85) e_dfX14_131 g_dfX14_128_85 (by decide)
  have g_dfX14_131_88 := fx_ne (j := 88) e_dfX14_131 g_dfX14_128_88 (by decide)
  have g_dfX14_131_96 := fx_ne (j := 96) e_dfX14_131 g_dfX14_128_96 (by decide)
  have g_dfX14_131_100 := fx_ne (j := 100) e_dfX14_131 g_dfX14_128_100 (by decide)
  have g_dfX14_131_101 := fx_ne (j := 101) e_dfX14_131 g_dfX14_128_101 (by decide)
  have g_dfX14_131_3 := fx_ne (j := 3) e_dfX14_131 g_dfX14_128_3 (by decide)
  have g_dfX14_131_6 := fx_ne (j := 6) e_dfX14_131 g_dfX14_128_6 (by decide)
  have g_dfX14_131_10 := fx_ne (j := 10) e_dfX14_131 g_dfX14_128_10 (by decide)
  have g_dfX14_131_64 := fx_ne (j := 64) e_dfX14_131 g_dfX14_128_64 (by decide)
  have g_dfX14_131_65 := fx_ne (j := 65) e_dfX14_131 g_dfX14_128_65 (by decide)
  have g_dfX14_131_87 := fx_ne (j := 87) e_dfX14_131 g_dfX14_128_87 (by decide)
  refine lv_aload_n hx hb dX14_init_390 rfl (lv_at hl 0 rfl) ?_
  refine lv_bipush (v := 60) hx hb dX14_init_391 (by decide) ?_
  refine va_newa (atype := .int) (ty := .int) (a0 := (60, .inl (fun _ => 0))) (N' := 60) hx hb (hts (.arrayClass .int) kw_6) rfl hK hP hD hS hA (fun _ => rfl) (by decide) (by decide) (by decide) (Nat.le_of_ble_eq_true rfl) (Nat.le_of_ble_eq_true rfl) dX14_init_393 (fun q_132 cA_133 H hK hP hD hS => ?_)
  have hP := hP.sub (ws' := [(h0, .inr (12, dfX14_131)), (q_4, .inl (cA_5, 16000, .inl (fun _ => 0))), (q_7, .inr (13, [])), (q_123, .inl (cA_124, 8, .inr (.inl (fun _ => 0))))]) [0, 1, 2, 3] rfl
  have hD := hD.sub (ws' := [(h0, .inr (12, dfX14_131)), (q_4, .inl (cA_5, 16000, .inl (fun _ => 0))), (q_7, .inr (13, [])), (q_123, .inl (cA_124, 8, .inr (.inl (fun _ => 0))))]) [0, 1, 2, 3] (by decide) rfl
  have hK := hK.sub (tys' := [(cA_5, .byte), (cA_124, .long)]) [0, 1] rfl
  refine W.widen (k := 44) (n := 626164) (Nat.le_of_ble_eq_true rfl) (Nat.le_of_ble_eq_true rfl) ?_
  refine va_putF (D := (dC, dI)) (ci := 12) (v := .ref q_132) (ty := (.array .int)) (C := RX14) (T := TX14) (N := 143) hx hb hts inX14 tyX14 tyX14_ok nmX14 hown hK hP hD hS 0 rfl rfl 91 (by decide) (hts _ kw_323) (fun _ h9 => h9) rfl hin rfl (by decide +kernel) rfl rfl (by rw [L_dfX14_131]; decide) dX14_init_395 (fun H locs hP hD hS => ?_)
  obtain ⟨dfX14_134, e_dfX14_134⟩ : ∃ z, z = dfX14_131.set 91 (.ref q_132) := ⟨_, rfl⟩
  have hP : va_P (dC, dI) cl0 [(h0, .inr (12, dfX14_134)), (q_4, .inl (cA_5, 16000, .inl (fun _ => 0))), (q_7, .inr (13, [])), (q_123, .inl (cA_124, 8, .inr (.inl (fun _ => 0))))] H := by rw [e_dfX14_134]; exact hP
  have hD : va_D A [(h0, .inr (12, dfX14_134)), (q_4, .inl (cA_5, 16000, .inl (fun _ => 0))), (q_7, .inr (13, [])), (q_123, .inl (cA_124, 8, .inr (.inl (fun _ => 0))))] := by rw [e_dfX14_134]; exact hD
  have L_dfX14_134 : dfX14_134.length = 143 := fx_len e_dfX14_134 L_dfX14_131
  have g_dfX14_134_1 := fx_ne (j := 1) e_dfX14_134 g_dfX14_131_1 (by decide)
  have g_dfX14_134_4 := fx_ne (j := 4) e_dfX14_134 g_dfX14_131_4 (by decide)
  have g_dfX14_134_5 := fx_ne (j := 5) e_dfX14_134 g_dfX14_131_5 (by decide)
  have g_dfX14_134_9 := fx_ne (j := 9) e_dfX14_134 g_dfX14_131_9 (by decide)
  have g_dfX14_134_78 := fx_ne (j := 78) e_dfX14_134 g_dfX14_131_78 (by decide)
  have g_dfX14_134_80 := fx_ne (j := 80) e_dfX14_134 g_dfX14_131_80 (by decide)
  have g_dfX14_134_85 := fx_ne (j := 85) e_dfX14_134 g_dfX14_131_85 (by decide)
  have g_dfX14_134_88 := fx_ne (j := 88) e_dfX14_134 g_dfX14_131_88 (by decide)
  have g_dfX14_134_96 := fx_ne (j := 96) e_dfX14_134 g_dfX14_131_96 (by decide)
  have g_dfX14_134_100 := fx_ne (j := 100) e_dfX14_134 g_dfX14_131_100 (by decide)
  have g_dfX14_134_101 := fx_ne (j := 101) e_dfX14_134 g_dfX14_131_101 (by decide)
  have g_dfX14_134_3 := fx_ne (j := 3) e_dfX14_134 g_dfX14_131_3 (by decide)
  have g_dfX14_134_6 := fx_ne (j := 6) e_dfX14_134 g_dfX14_131_6 (by decide)
  have g_dfX14_134_10 := fx_ne (j := 10) e_dfX14_134 g_dfX14_131_10 (by decide)
  have g_dfX14_134_64 := fx_ne (j := 64) e_dfX14_134 g_dfX14_131_64 (by decide)
  have g_dfX14_134_65 := fx_ne (j := 65) e_dfX14_134 g_dfX14_131_65 (by decide)
  have g_dfX14_134_87 := fx_ne (j := 87) e_dfX14_134 g_dfX14_131_87 (by decide)
  refine lv_aload_n hx hb dX14_init_398 rfl (lv_at hl 0 rfl) ?_
  refine lv_sipush (v := 1440) hx hb dX14_init_399 (by decide) ?_
  refine va_newa (atype := .long) (ty := .long) (a0 := (1440, .inr (.inl (fun _ => 0)))) (N' := 1440) hx hb (hts (.arrayClass .long) kw_13) rfl hK hP hD hS hA (fun _ => rfl) (by decide) (by decide) (by decide) (Nat.le_of_ble_eq_true rfl) (Nat.le_of_ble_eq_true rfl) dX14_init_402 (fun q_135 cA_136 H hK hP hD hS => ?_)
  have hP := hP.sub (ws' := [(h0, .inr (12, dfX14_134)), (q_4, .inl (cA_5, 16000, .inl (fun _ => 0))), (q_7, .inr (13, [])), (q_123, .inl (cA_124, 8, .inr (.inl (fun _ => 0))))]) [0, 1, 2, 3] rfl
  have hD := hD.sub (ws' := [(h0, .inr (12, dfX14_134)), (q_4, .inl (cA_5, 16000, .inl (fun _ => 0))), (q_7, .inr (13, [])), (q_123, .inl (cA_124, 8, .inr (.inl (fun _ => 0))))]) [0, 1, 2, 3] (by decide) rfl
  have hK := hK.sub (tys' := [(cA_5, .byte), (cA_124, .long)]) [0, 1] rfl
  refine W.widen (k := 45) (n := 627604) (Nat.le_of_ble_eq_true rfl) (Nat.le_of_ble_eq_true rfl) ?_
  refine va_putF (D := (dC, dI)) (ci := 12) (v := .ref q_135) (ty := (.array .long)) (C := RX14) (T := TX14) (N := 143) hx hb hts inX14 tyX14 tyX14_ok nmX14 hown hK hP hD hS 0 rfl rfl 92 (by decide) (hts _ kw_324) (fun _ h9 => h9) rfl hin rfl (by decide +kernel) rfl rfl (by rw [L_dfX14_134]; decide) dX14_init_404 (fun H locs hP hD hS => ?_)
  obtain ⟨dfX14_137, e_dfX14_137⟩ : ∃ z, z = dfX14_134.set 92 (.ref q_135) := ⟨_, rfl⟩
  have hP : va_P (dC, dI) cl0 [(h0, .inr (12, dfX14_137)), (q_4, .inl (cA_5, 16000, .inl (fun _ => 0))), (q_7, .inr (13, [])), (q_123, .inl (cA_124, 8, .inr (.inl (fun _ => 0))))] H := by rw [e_dfX14_137]; exact hP
  have hD : va_D A [(h0, .inr (12, dfX14_137)), (q_4, .inl (cA_5, 16000, .inl (fun _ => 0))), (q_7, .inr (13, [])), (q_123, .inl (cA_124, 8, .inr (.inl (fun _ => 0))))] := by rw [e_dfX14_137]; exact hD
  have L_dfX14_137 : dfX14_137.length = 143 := fx_len e_dfX14_137 L_dfX14_134
  have g_dfX14_137_1 := fx_ne (j := 1) e_dfX14_137 g_dfX14_134_1 (by decide)
  have g_dfX14_137_4 := fx_ne (j := 4) e_dfX14_137 g_dfX14_134_4 (by decide)
  have g_dfX14_137_5 := fx_ne (j := 5) e_dfX14_137 g_dfX14_134_5 (by decide)
  have g_dfX14_137_9 := fx_ne (j := 9) e_dfX14_137 g_dfX14_134_9 (by decide)
  have g_dfX14_137_78 := fx_ne (j := 78) e_dfX14_137 g_dfX14_134_78 (by decide)
  have g_dfX14_137_80 := fx_ne (j := 80) e_dfX14_137 g_dfX14_134_80 (by decide)
  have g_dfX14_137_85 := fx_ne (j := 85) e_dfX14_137 g_dfX14_134_85 (by decide)
  have g_dfX14_137_88 := fx_ne (j := 88) e_dfX14_137 g_dfX14_134_88 (by decide)
  have g_dfX14_137_96 := fx_ne (j := 96) e_dfX14_137 g_dfX14_134_96 (by decide)
  have g_dfX14_137_100 := fx_ne (j := 100) e_dfX14_137 g_dfX14_134_100 (by decide)
  have g_dfX14_137_101 := fx_ne (j := 101) e_dfX14_137 g_dfX14_134_101 (by decide)
  have g_dfX14_137_3 := fx_ne (j := 3) e_dfX14_137 g_dfX14_134_3 (by decide)
  have g_dfX14_137_6 := fx_ne (j := 6) e_dfX14_137 g_dfX14_134_6 (by decide)
  have g_dfX14_137_10 := fx_ne (j := 10) e_dfX14_137 g_dfX14_134_10 (by decide)
  have g_dfX14_137_64 := fx_ne (j := 64) e_dfX14_137 g_dfX14_134_64 (by decide)
  have g_dfX14_137_65 := fx_ne (j := 65) e_dfX14_137 g_dfX14_134_65 (by decide)
  have g_dfX14_137_87 := fx_ne (j := 87) e_dfX14_137 g_dfX14_134_87 (by decide)
  refine lv_aload_n hx hb dX14_init_407 rfl (lv_at hl 0 rfl) ?_
  refine lv_sipush (v := 1440) hx hb dX14_init_408 (by decide) ?_
  refine va_newa (atype := .long) (ty := .long) (a0 := (1440, .inr (.inl (fun _ => 0)))) (N' := 1440) hx hb (hts (.arrayClass .long) kw_13) rfl hK hP hD hS hA (fun _ => rfl) (by decide) (by decide) (by decide) (Nat.le_of_ble_eq_true rfl) (Nat.le_of_ble_eq_true rfl) dX14_init_411 (fun q_138 cA_139 H hK hP hD hS => ?_)
  have hP := hP.sub (ws' := [(h0, .inr (12, dfX14_137)), (q_4, .inl (cA_5, 16000, .inl (fun _ => 0))), (q_7, .inr (13, [])), (q_123, .inl (cA_124, 8, .inr (.inl (fun _ => 0))))]) [0, 1, 2, 3] rfl
  have hD := hD.sub (ws' := [(h0, .inr (12, dfX14_137)), (q_4, .inl (cA_5, 16000, .inl (fun _ => 0))), (q_7, .inr (13, [])), (q_123, .inl (cA_124, 8, .inr (.inl (fun _ => 0))))]) [0, 1, 2, 3] (by decide) rfl
  have hK := hK.sub (tys' := [(cA_5, .byte), (cA_124, .long)]) [0, 1] rfl
  refine W.widen (k := 46) (n := 629044) (Nat.le_of_ble_eq_true rfl) (Nat.le_of_ble_eq_true rfl) ?_
  refine va_putF (D := (dC, dI)) (ci := 12) (v := .ref q_138) (ty := (.array .long)) (C := RX14) (T := TX14) (N := 143) hx hb hts inX14 tyX14 tyX14_ok nmX14 hown hK hP hD hS 0 rfl rfl 93 (by decide) (hts _ kw_325) (fun _ h9 => h9) rfl hin rfl (by decide +kernel) rfl rfl (by rw [L_dfX14_137]; decide) dX14_init_413 (fun H locs hP hD hS => ?_)
  obtain ⟨dfX14_140, e_dfX14_140⟩ : ∃ z, z = dfX14_137.set 93 (.ref q_138) := ⟨_, rfl⟩
  have hP : va_P (dC, dI) cl0 [(h0, .inr (12, dfX14_140)), (q_4, .inl (cA_5, 16000, .inl (fun _ => 0))), (q_7, .inr (13, [])), (q_123, .inl (cA_124, 8, .inr (.inl (fun _ => 0))))] H := by rw [e_dfX14_140]; exact hP
  have hD : va_D A [(h0, .inr (12, dfX14_140)), (q_4, .inl (cA_5, 16000, .inl (fun _ => 0))), (q_7, .inr (13, [])), (q_123, .inl (cA_124, 8, .inr (.inl (fun _ => 0))))] := by rw [e_dfX14_140]; exact hD
  have L_dfX14_140 : dfX14_140.length = 143 := fx_len e_dfX14_140 L_dfX14_137
  have g_dfX14_140_1 := fx_ne (j := 1) e_dfX14_140 g_dfX14_137_1 (by decide)
  have g_dfX14_140_4 := fx_ne (j := 4) e_dfX14_140 g_dfX14_137_4 (by decide)
  have g_dfX14_140_5 := fx_ne (j := 5) e_dfX14_140 g_dfX14_137_5 (by decide)
  have g_dfX14_140_9 := fx_ne (j := 9) e_dfX14_140 g_dfX14_137_9 (by decide)
  have g_dfX14_140_78 := fx_ne (j := 78) e_dfX14_140 g_dfX14_137_78 (by decide)
  have g_dfX14_140_80 := fx_ne (j := 80) e_dfX14_140 g_dfX14_137_80 (by decide)
  have g_dfX14_140_85 := fx_ne (j := 85) e_dfX14_140 g_dfX14_137_85 (by decide)
  have g_dfX14_140_88 := fx_ne (j := 88) e_dfX14_140 g_dfX14_137_88 (by decide)
  have g_dfX14_140_96 := fx_ne (j := 96) e_dfX14_140 g_dfX14_137_96 (by decide)
  have g_dfX14_140_100 := fx_ne (j := 100) e_dfX14_140 g_dfX14_137_100 (by decide)
  have g_dfX14_140_101 := fx_ne (j := 101) e_dfX14_140 g_dfX14_137_101 (by decide)
  have g_dfX14_140_3 := fx_ne (j := 3) e_dfX14_140 g_dfX14_137_3 (by decide)
  have g_dfX14_140_6 := fx_ne (j := 6) e_dfX14_140 g_dfX14_137_6 (by decide)
  have g_dfX14_140_10 := fx_ne (j := 10) e_dfX14_140 g_dfX14_137_10 (by decide)
  have g_dfX14_140_64 := fx_ne (j := 64) e_dfX14_140 g_dfX14_137_64 (by decide)
  have g_dfX14_140_65 := fx_ne (j := 65) e_dfX14_140 g_dfX14_137_65 (by decide)
  have g_dfX14_140_87 := fx_ne (j := 87) e_dfX14_140 g_dfX14_137_87 (by decide)
  refine lv_aload_n hx hb dX14_init_416 rfl (lv_at hl 0 rfl) ?_
  refine lv_sipush (v := 1440) hx hb dX14_init_417 (by decide) ?_
  refine va_newa (atype := .byte) (ty := .byte) (a0 := (1440, .inl (fun _ => 0))) (N' := 1440) hx hb (hts (.arrayClass .byte) kw_3) rfl hK hP hD hS hA (fun _ => rfl) (by decide) (by decide) (by decide) (Nat.le_of_ble_eq_true rfl) (Nat.le_of_ble_eq_true rfl) dX14_init_420 (fun q_141 cA_142 H hK hP hD hS => ?_)
  have hP := hP.sub (ws' := [(h0, .inr (12, dfX14_140)), (q_4, .inl (cA_5, 16000, .inl (fun _ => 0))), (q_7, .inr (13, [])), (q_123, .inl (cA_124, 8, .inr (.inl (fun _ => 0))))]) [0, 1, 2, 3] rfl
  have hD := hD.sub (ws' := [(h0, .inr (12, dfX14_140)), (q_4, .inl (cA_5, 16000, .inl (fun _ => 0))), (q_7, .inr (13, [])), (q_123, .inl (cA_124, 8, .inr (.inl (fun _ => 0))))]) [0, 1, 2, 3] (by decide) rfl
  have hK := hK.sub (tys' := [(cA_5, .byte), (cA_124, .long)]) [0, 1] rfl
  refine W.widen (k := 47) (n := 630484) (Nat.le_of_ble_eq_true rfl) (Nat.le_of_ble_eq_true rfl) ?_
  refine va_putF (D := (dC, dI)) (ci := 12) (v := .ref q_141) (ty := (.array .byte)) (C := RX14) (T := TX14) (N := 143) hx hb hts inX14 tyX14 tyX14_ok nmX14 hown hK hP hD hS 0 rfl rfl 94 (by decide) (hts _ kw_326) (fun _ h9 => h9) rfl hin rfl (by decide +kernel) rfl rfl (by rw [L_dfX14_140]; decide) dX14_init_422 (fun H locs hP hD hS => ?_)
  obtain ⟨dfX14_143, e_dfX14_143⟩ : ∃ z, z = dfX14_140.set 94 (.ref q_141) := ⟨_, rfl⟩
  have hP : va_P (dC, dI) cl0 [(h0, .inr (12, dfX14_143)), (q_4, .inl (cA_5, 16000, .inl (fun _ => 0))), (q_7, .inr (13, [])), (q_123, .inl (cA_124, 8, .inr (.inl (fun _ => 0))))] H := by rw [e_dfX14_143]; exact hP
  have hD : va_D A [(h0, .inr (12, dfX14_143)), (q_4, .inl (cA_5, 16000, .inl (fun _ => 0))), (q_7, .inr (13, [])), (q_123, .inl (cA_124, 8, .inr (.inl (fun _ => 0))))] := by rw [e_dfX14_143]; exact hD
  have L_dfX14_143 : dfX14_143.length = 143 := fx_len e_dfX14_143 L_dfX14_140
  have g_dfX14_143_1 := fx_ne (j := 1) e_dfX14_143 g_dfX14_140_1 (by decide)
  have g_dfX14_143_4 := fx_ne (j := 4) e_dfX14_143 g_dfX14_140_4 (by decide)
  have g_dfX14_143_5 := fx_ne (j := 5) e_dfX14_143 g_dfX14_140_5 (by decide)
  have g_dfX14_143_9 := fx_ne (j := 9) e_dfX14_143 g_dfX14_140_9 (by decide)
  have g_dfX14_143_78 := fx_ne (j := 78) e_dfX14_143 g_dfX14_140_78 (by decide)
  have g_dfX14_143_80 := fx_ne (j := 80) e_dfX14_143 g_dfX14_140_80 (by decide)
  have g_dfX14_143_85 := fx_ne (j := 85) e_dfX14_143 g_dfX14_140_85 (by decide)
  have g_dfX14_143_88 := fx_ne (j := 88) e_dfX14_143 g_dfX14_140_88 (by decide)
  have g_dfX14_143_96 := fx_ne (j := 96) e_dfX14_143 g_dfX14_140_96 (by decide)
  have g_dfX14_143_100 := fx_ne (j := 100) e_dfX14_143 g_dfX14_140_100 (by decide)
  have g_dfX14_143_101 := fx_ne (j := 101) e_dfX14_143 g_dfX14_140_101 (by decide)
  have g_dfX14_143_3 := fx_ne (j := 3) e_dfX14_143 g_dfX14_140_3 (by decide)
  have g_dfX14_143_6 := fx_ne (j := 6) e_dfX14_143 g_dfX14_140_6 (by decide)
  have g_dfX14_143_10 := fx_ne (j := 10) e_dfX14_143 g_dfX14_140_10 (by decide)
  have g_dfX14_143_64 := fx_ne (j := 64) e_dfX14_143 g_dfX14_140_64 (by decide)
  have g_dfX14_143_65 := fx_ne (j := 65) e_dfX14_143 g_dfX14_140_65 (by decide)
  have g_dfX14_143_87 := fx_ne (j := 87) e_dfX14_143 g_dfX14_140_87 (by decide)
  refine lv_aload_n hx hb dX14_init_425 rfl (lv_at hl 0 rfl) ?_
  refine lv_sipush (v := 1440) hx hb dX14_init_426 (by decide) ?_
  refine va_newa (atype := .byte) (ty := .byte) (a0 := (1440, .inl (fun _ => 0))) (N' := 1440) hx hb (hts (.arrayClass .byte) kw_3) rfl hK hP hD hS hA (fun _ => rfl) (by decide) (by decide) (by decide) (Nat.le_of_ble_eq_true rfl) (Nat.le_of_ble_eq_true rfl) dX14_init_429 (fun q_144 cA_145 H hK hP hD hS => ?_)
  have hP := hP.sub (ws' := [(h0, .inr (12, dfX14_143)), (q_4, .inl (cA_5, 16000, .inl (fun _ => 0))), (q_7, .inr (13, [])), (q_123, .inl (cA_124, 8, .inr (.inl (fun _ => 0))))]) [0, 1, 2, 3] rfl
  have hD := hD.sub (ws' := [(h0, .inr (12, dfX14_143)), (q_4, .inl (cA_5, 16000, .inl (fun _ => 0))), (q_7, .inr (13, [])), (q_123, .inl (cA_124, 8, .inr (.inl (fun _ => 0))))]) [0, 1, 2, 3] (by decide) rfl
  have hK := hK.sub (tys' := [(cA_5, .byte), (cA_124, .long)]) [0, 1] rfl
  refine W.widen (k := 48) (n := 631924) (Nat.le_of_ble_eq_true rfl) (Nat.le_of_ble_eq_true rfl) ?_
  refine va_putF (D := (dC, dI)) (ci := 12) (v := .ref q_144) (ty := (.array .byte)) (C := RX14) (T := TX14) (N := 143) hx hb hts inX14 tyX14 tyX14_ok nmX14 hown hK hP hD hS 0 rfl rfl 95 (by decide) (hts _ kw_327) (fun _ h9 => h9) rfl hin rfl (by decide +kernel) rfl rfl (by rw [L_dfX14_143]; decide) dX14_init_431 (fun H locs hP hD hS => ?_)
  obtain ⟨dfX14_146, e_dfX14_146⟩ : ∃ z, z = dfX14_143.set 95 (.ref q_144) := ⟨_, rfl⟩
  have hP : va_P (dC, dI) cl0 [(h0, .inr (12, dfX14_146)), (q_4, .inl (cA_5, 16000, .inl (fun _ => 0))), (q_7, .inr (13, [])), (q_123, .inl (cA_124, 8, .inr (.inl (fun _ => 0))))] H := by rw [e_dfX14_146]; exact hP
  have hD : va_D A [(h0, .inr (12, dfX14_146)), (q_4, .inl (cA_5, 16000, .inl (fun _ => 0))), (q_7, .inr (13, [])), (q_123, .inl (cA_124, 8, .inr (.inl (fun _ => 0))))] := by rw [e_dfX14_146]; exact hD
  have L_dfX14_146 : dfX14_146.length = 143 := fx_len e_dfX14_146 L_dfX14_143
  have g_dfX14_146_1 := fx_ne (j := 1) e_dfX14_146 g_dfX14_143_1 (by decide)
  have g_dfX14_146_4 := fx_ne (j := 4) e_dfX14_146 g_dfX14_143_4 (by decide)
  have g_dfX14_146_5 := fx_ne (j := 5) e_dfX14_146 g_dfX14_143_5 (by decide)
  have g_dfX14_146_9 := fx_ne (j := 9) e_dfX14_146 g_dfX14_143_9 (by decide)
  have g_dfX14_146_78 := fx_ne (j := 78) e_dfX14_146 g_dfX14_143_78 (by decide)
  have g_dfX14_146_80 := fx_ne (j := 80) e_dfX14_146 g_dfX14_143_80 (by decide)
  have g_dfX14_146_85 := fx_ne (j := 85) e_dfX14_146 g_dfX14_143_85 (by decide)
  have g_dfX14_146_88 := fx_ne (j := 88) e_dfX14_146 g_dfX14_143_88 (by decide)
  have g_dfX14_146_96 := fx_ne (j := 96) e_dfX14_146 g_dfX14_143_96 (by decide)
  have g_dfX14_146_100 := fx_ne (j := 100) e_dfX14_146 g_dfX14_143_100 (by decide)
  have g_dfX14_146_101 := fx_ne (j := 101) e_dfX14_146 g_dfX14_143_101 (by decide)
  have g_dfX14_146_3 := fx_ne (j := 3) e_dfX14_146 g_dfX14_143_3 (by decide)
  have g_dfX14_146_6 := fx_ne (j := 6) e_dfX14_146 g_dfX14_143_6 (by decide)
  have g_dfX14_146_10 := fx_ne (j := 10) e_dfX14_146 g_dfX14_143_10 (by decide)
  have g_dfX14_146_64 := fx_ne (j := 64) e_dfX14_146 g_dfX14_143_64 (by decide)
  have g_dfX14_146_65 := fx_ne (j := 65) e_dfX14_146 g_dfX14_143_65 (by decide)
  have g_dfX14_146_87 := fx_ne (j := 87) e_dfX14_146 g_dfX14_143_87 (by decide)
  refine lv_aload_n hx hb dX14_init_434 rfl (lv_at hl 0 rfl) ?_
  refine lv_iconst (v := (-1)) hx hb dX14_init_435 (by decide) ?_
  refine va_put (D := (dC, dI)) (ci := 12) (v := .int (-1)) (ty := .int) (C := RX14) (T := TX14) (N := 143) hx hb hts inX14 tyX14 tyX14_ok nmX14 hown hK hP hD hS 0 rfl rfl 102 (by decide) (hts _ kw_328) (fun _ h9 => h9) rfl (by decide +kernel) rfl rfl (by rw [L_dfX14_146]; decide) dX14_init_436 (fun H locs hP hD hS => ?_)
  obtain ⟨dfX14_147, e_dfX14_147⟩ : ∃ z, z = dfX14_146.set 102 (.int (-1)) := ⟨_, rfl⟩
  have hP : va_P (dC, dI) cl0 [(h0, .inr (12, dfX14_147)), (q_4, .inl (cA_5, 16000, .inl (fun _ => 0))), (q_7, .inr (13, [])), (q_123, .inl (cA_124, 8, .inr (.inl (fun _ => 0))))] H := by rw [e_dfX14_147]; exact hP
  have hD : va_D A [(h0, .inr (12, dfX14_147)), (q_4, .inl (cA_5, 16000, .inl (fun _ => 0))), (q_7, .inr (13, [])), (q_123, .inl (cA_124, 8, .inr (.inl (fun _ => 0))))] := by rw [e_dfX14_147]; exact hD
  have L_dfX14_147 : dfX14_147.length = 143 := fx_len e_dfX14_147 L_dfX14_146
  have g_dfX14_147_1 := fx_ne (j := 1) e_dfX14_147 g_dfX14_146_1 (by decide)
  have g_dfX14_147_4 := fx_ne (j := 4) e_dfX14_147 g_dfX14_146_4 (by decide)
  have g_dfX14_147_5 := fx_ne (j := 5) e_dfX14_147 g_dfX14_146_5 (by decide)
  have g_dfX14_147_9 := fx_ne (j := 9) e_dfX14_147 g_dfX14_146_9 (by decide)
  have g_dfX14_147_78 := fx_ne (j := 78) e_dfX14_147 g_dfX14_146_78 (by decide)
  have g_dfX14_147_80 := fx_ne (j := 80) e_dfX14_147 g_dfX14_146_80 (by decide)
  have g_dfX14_147_85 := fx_ne (j := 85) e_dfX14_147 g_dfX14_146_85 (by decide)
  have g_dfX14_147_88 := fx_ne (j := 88) e_dfX14_147 g_dfX14_146_88 (by decide)
  have g_dfX14_147_96 := fx_ne (j := 96) e_dfX14_147 g_dfX14_146_96 (by decide)
  have g_dfX14_147_100 := fx_ne (j := 100) e_dfX14_147 g_dfX14_146_100 (by decide)
  have g_dfX14_147_101 := fx_ne (j := 101) e_dfX14_147 g_dfX14_146_101 (by decide)
  have g_dfX14_147_3 := fx_ne (j := 3) e_dfX14_147 g_dfX14_146_3 (by decide)
  have g_dfX14_147_6 := fx_ne (j := 6) e_dfX14_147 g_dfX14_146_6 (by decide)
  have g_dfX14_147_10 := fx_ne (j := 10) e_dfX14_147 g_dfX14_146_10 (by decide)
  have g_dfX14_147_64 := fx_ne (j := 64) e_dfX14_147 g_dfX14_146_64 (by decide)
  have g_dfX14_147_65 := fx_ne (j := 65) e_dfX14_147 g_dfX14_146_65 (by decide)
  have g_dfX14_147_87 := fx_ne (j := 87) e_dfX14_147 g_dfX14_146_87 (by decide)
  have g_dfX14_147_102 := fx_self e_dfX14_147 (by rw [L_dfX14_146]; decide)
  refine lv_aload_n hx hb dX14_init_439 rfl (lv_at hl 0 rfl) ?_
  refine lv_sipush (v := 1201) hx hb dX14_init_440 (by decide) ?_
  refine va_newa (atype := .int) (ty := .int) (a0 := (1201, .inl (fun _ => 0))) (N' := 1201) hx hb (hts (.arrayClass .int) kw_6) rfl hK hP hD hS hA (fun _ => rfl) (by decide) (by decide) (by decide) (Nat.le_of_ble_eq_true rfl) (Nat.le_of_ble_eq_true rfl) dX14_init_443 (fun q_148 cA_149 H hK hP hD hS => ?_)
  have hP := hP.sub (ws' := [(h0, .inr (12, dfX14_147)), (q_4, .inl (cA_5, 16000, .inl (fun _ => 0))), (q_7, .inr (13, [])), (q_123, .inl (cA_124, 8, .inr (.inl (fun _ => 0))))]) [0, 1, 2, 3] rfl
  have hD := hD.sub (ws' := [(h0, .inr (12, dfX14_147)), (q_4, .inl (cA_5, 16000, .inl (fun _ => 0))), (q_7, .inr (13, [])), (q_123, .inl (cA_124, 8, .inr (.inl (fun _ => 0))))]) [0, 1, 2, 3] (by decide) rfl
  have hK := hK.sub (tys' := [(cA_5, .byte), (cA_124, .long)]) [0, 1] rfl
  refine W.widen (k := 49) (n := 633125) (Nat.le_of_ble_eq_true rfl) (Nat.le_of_ble_eq_true rfl) ?_
  refine va_putF (D := (dC, dI)) (ci := 12) (v := .ref q_148) (ty := (.array .int)) (C := RX14) (T := TX14) (N := 143) hx hb hts inX14 tyX14 tyX14_ok nmX14 hown hK hP hD hS 0 rfl rfl 103 (by decide) (hts _ kw_329) (fun _ h9 => h9) rfl hin rfl (by decide +kernel) rfl rfl (by rw [L_dfX14_147]; decide) dX14_init_445 (fun H locs hP hD hS => ?_)
  obtain ⟨dfX14_150, e_dfX14_150⟩ : ∃ z, z = dfX14_147.set 103 (.ref q_148) := ⟨_, rfl⟩
  have hP : va_P (dC, dI) cl0 [(h0, .inr (12, dfX14_150)), (q_4, .inl (cA_5, 16000, .inl (fun _ => 0))), (q_7, .inr (13, [])), (q_123, .inl (cA_124, 8, .inr (.inl (fun _ => 0))))] H := by rw [e_dfX14_150]; exact hP
  have hD : va_D A [(h0, .inr (12, dfX14_150)), (q_4, .inl (cA_5, 16000, .inl (fun _ => 0))), (q_7, .inr (13, [])), (q_123, .inl (cA_124, 8, .inr (.inl (fun _ => 0))))] := by rw [e_dfX14_150]; exact hD
  have L_dfX14_150 : dfX14_150.length = 143 := fx_len e_dfX14_150 L_dfX14_147
  have g_dfX14_150_1 := fx_ne (j := 1) e_dfX14_150 g_dfX14_147_1 (by decide)
  have g_dfX14_150_4 := fx_ne (j := 4) e_dfX14_150 g_dfX14_147_4 (by decide)
  have g_dfX14_150_5 := fx_ne (j := 5) e_dfX14_150 g_dfX14_147_5 (by decide)
  have g_dfX14_150_9 := fx_ne (j := 9) e_dfX14_150 g_dfX14_147_9 (by decide)
  have g_dfX14_150_78 := fx_ne (j := 78) e_dfX14_150 g_dfX14_147_78 (by decide)
  have g_dfX14_150_80 := fx_ne (j := 80) e_dfX14_150 g_dfX14_147_80 (by decide)
  have g_dfX14_150_85 := fx_ne (j := 85) e_dfX14_150 g_dfX14_147_85 (by decide)
  have g_dfX14_150_88 := fx_ne (j := 88) e_dfX14_150 g_dfX14_147_88 (by decide)
  have g_dfX14_150_96 := fx_ne (j := 96) e_dfX14_150 g_dfX14_147_96 (by decide)
  have g_dfX14_150_100 := fx_ne (j := 100) e_dfX14_150 g_dfX14_147_100 (by decide)
  have g_dfX14_150_101 := fx_ne (j := 101) e_dfX14_150 g_dfX14_147_101 (by decide)
  have g_dfX14_150_3 := fx_ne (j := 3) e_dfX14_150 g_dfX14_147_3 (by decide)
  have g_dfX14_150_6 := fx_ne (j := 6) e_dfX14_150 g_dfX14_147_6 (by decide)
  have g_dfX14_150_10 := fx_ne (j := 10) e_dfX14_150 g_dfX14_147_10 (by decide)
  have g_dfX14_150_64 := fx_ne (j := 64) e_dfX14_150 g_dfX14_147_64 (by decide)
  have g_dfX14_150_65 := fx_ne (j := 65) e_dfX14_150 g_dfX14_147_65 (by decide)
  have g_dfX14_150_87 := fx_ne (j := 87) e_dfX14_150 g_dfX14_147_87 (by decide)
  have g_dfX14_150_102 := fx_ne (j := 102) e_dfX14_150 g_dfX14_147_102 (by decide)
  refine lv_aload_n hx hb dX14_init_448 rfl (lv_at hl 0 rfl) ?_
  refine lv_sipush (v := 1201) hx hb dX14_init_449 (by decide) ?_
  refine va_newa (atype := .int) (ty := .int) (a0 := (1201, .inl (fun _ => 0))) (N' := 1201) hx hb (hts (.arrayClass .int) kw_6) rfl hK hP hD hS hA (fun _ => rfl) (by decide) (by decide) (by decide) (Nat.le_of_ble_eq_true rfl) (Nat.le_of_ble_eq_true rfl) dX14_init_452 (fun q_151 cA_152 H hK hP hD hS => ?_)
  have hP := hP.sub (ws' := [(h0, .inr (12, dfX14_150)), (q_4, .inl (cA_5, 16000, .inl (fun _ => 0))), (q_7, .inr (13, [])), (q_123, .inl (cA_124, 8, .inr (.inl (fun _ => 0))))]) [0, 1, 2, 3] rfl
  have hD := hD.sub (ws' := [(h0, .inr (12, dfX14_150)), (q_4, .inl (cA_5, 16000, .inl (fun _ => 0))), (q_7, .inr (13, [])), (q_123, .inl (cA_124, 8, .inr (.inl (fun _ => 0))))]) [0, 1, 2, 3] (by decide) rfl
  have hK := hK.sub (tys' := [(cA_5, .byte), (cA_124, .long)]) [0, 1] rfl
  refine W.widen (k := 50) (n := 634326) (Nat.le_of_ble_eq_true rfl) (Nat.le_of_ble_eq_true rfl) ?_
  refine va_putF (D := (dC, dI)) (ci := 12) (v := .ref q_151) (ty := (.array .int)) (C := RX14) (T := TX14) (N := 143) hx hb hts inX14 tyX14 tyX14_ok nmX14 hown hK hP hD hS 0 rfl rfl 104 (by decide) (hts _ kw_330) (fun _ h9 => h9) rfl hin rfl (by decide +kernel) rfl rfl (by rw [L_dfX14_150]; decide) dX14_init_454 (fun H locs hP hD hS => ?_)
  obtain ⟨dfX14_153, e_dfX14_153⟩ : ∃ z, z = dfX14_150.set 104 (.ref q_151) := ⟨_, rfl⟩
  have hP : va_P (dC, dI) cl0 [(h0, .inr (12, dfX14_153)), (q_4, .inl (cA_5, 16000, .inl (fun _ => 0))), (q_7, .inr (13, [])), (q_123, .inl (cA_124, 8, .inr (.inl (fun _ => 0))))] H := by rw [e_dfX14_153]; exact hP
  have hD : va_D A [(h0, .inr (12, dfX14_153)), (q_4, .inl (cA_5, 16000, .inl (fun _ => 0))), (q_7, .inr (13, [])), (q_123, .inl (cA_124, 8, .inr (.inl (fun _ => 0))))] := by rw [e_dfX14_153]; exact hD
  have L_dfX14_153 : dfX14_153.length = 143 := fx_len e_dfX14_153 L_dfX14_150
  have g_dfX14_153_1 := fx_ne (j := 1) e_dfX14_153 g_dfX14_150_1 (by decide)
  have g_dfX14_153_4 := fx_ne (j := 4) e_dfX14_153 g_dfX14_150_4 (by decide)
  have g_dfX14_153_5 := fx_ne (j := 5) e_dfX14_153 g_dfX14_150_5 (by decide)
  have g_dfX14_153_9 := fx_ne (j := 9) e_dfX14_153 g_dfX14_150_9 (by decide)
  have g_dfX14_153_78 := fx_ne (j := 78) e_dfX14_153 g_dfX14_150_78 (by decide)
  have g_dfX14_153_80 := fx_ne (j := 80) e_dfX14_153 g_dfX14_150_80 (by decide)
  have g_dfX14_153_85 := fx_ne (j := 85) e_dfX14_153 g_dfX14_150_85 (by decide)
  have g_dfX14_153_88 := fx_ne (j := 88) e_dfX14_153 g_dfX14_150_88 (by decide)
  have g_dfX14_153_96 := fx_ne (j := 96) e_dfX14_153 g_dfX14_150_96 (by decide)
  have g_dfX14_153_100 := fx_ne (j := 100) e_dfX14_153 g_dfX14_150_100 (by decide)
  have g_dfX14_153_101 := fx_ne (j := 101) e_dfX14_153 g_dfX14_150_101 (by decide)
  have g_dfX14_153_3 := fx_ne (j := 3) e_dfX14_153 g_dfX14_150_3 (by decide)
  have g_dfX14_153_6 := fx_ne (j := 6) e_dfX14_153 g_dfX14_150_6 (by decide)
  have g_dfX14_153_10 := fx_ne (j := 10) e_dfX14_153 g_dfX14_150_10 (by decide)
  have g_dfX14_153_64 := fx_ne (j := 64) e_dfX14_153 g_dfX14_150_64 (by decide)
  have g_dfX14_153_65 := fx_ne (j := 65) e_dfX14_153 g_dfX14_150_65 (by decide)
  have g_dfX14_153_87 := fx_ne (j := 87) e_dfX14_153 g_dfX14_150_87 (by decide)
  have g_dfX14_153_102 := fx_ne (j := 102) e_dfX14_153 g_dfX14_150_102 (by decide)
  refine lv_aload_n hx hb dX14_init_457 rfl (lv_at hl 0 rfl) ?_
  refine lv_iconst (v := (-1)) hx hb dX14_init_458 (by decide) ?_
  refine va_put (D := (dC, dI)) (ci := 12) (v := .int (-1)) (ty := .int) (C := RX14) (T := TX14) (N := 143) hx hb hts inX14 tyX14 tyX14_ok nmX14 hown hK hP hD hS 0 rfl rfl 106 (by decide) (hts _ kw_331) (fun _ h9 => h9) rfl (by decide +kernel) rfl rfl (by rw [L_dfX14_153]; decide) dX14_init_459 (fun H locs hP hD hS => ?_)
  obtain ⟨dfX14_154, e_dfX14_154⟩ : ∃ z, z = dfX14_153.set 106 (.int (-1)) := ⟨_, rfl⟩
  have hP : va_P (dC, dI) cl0 [(h0, .inr (12, dfX14_154)), (q_4, .inl (cA_5, 16000, .inl (fun _ => 0))), (q_7, .inr (13, [])), (q_123, .inl (cA_124, 8, .inr (.inl (fun _ => 0))))] H := by rw [e_dfX14_154]; exact hP
  have hD : va_D A [(h0, .inr (12, dfX14_154)), (q_4, .inl (cA_5, 16000, .inl (fun _ => 0))), (q_7, .inr (13, [])), (q_123, .inl (cA_124, 8, .inr (.inl (fun _ => 0))))] := by rw [e_dfX14_154]; exact hD
  have L_dfX14_154 : dfX14_154.length = 143 := fx_len e_dfX14_154 L_dfX14_153
  have g_dfX14_154_1 := fx_ne (j := 1) e_dfX14_154 g_dfX14_153_1 (by decide)
  have g_dfX14_154_4 := fx_ne (j := 4) e_dfX14_154 g_dfX14_153_4 (by decide)
  have g_dfX14_154_5 := fx_ne (j := 5) e_dfX14_154 g_dfX14_153_5 (by decide)
  have g_dfX14_154_9 := fx_ne (j := 9) e_dfX14_154 g_dfX14_153_9 (by decide)
  have g_dfX14_154_78 := fx_ne (j := 78) e_dfX14_154 g_dfX14_153_78 (by decide)
  have g_dfX14_154_80 := fx_ne (j := 80) e_dfX14_154 g_dfX14_153_80 (by decide)
  have g_dfX14_154_85 := fx_ne (j := 85) e_dfX14_154 g_dfX14_153_85 (by decide)
  have g_dfX14_154_88 := fx_ne (j := 88) e_dfX14_154 g_dfX14_153_88 (by decide)
  have g_dfX14_154_96 := fx_ne (j := 96) e_dfX14_154 g_dfX14_153_96 (by decide)
  have g_dfX14_154_100 := fx_ne (j := 100) e_dfX14_154 g_dfX14_153_100 (by decide)
  have g_dfX14_154_101 := fx_ne (j := 101) e_dfX14_154 g_dfX14_153_101 (by decide)
  have g_dfX14_154_3 := fx_ne (j := 3) e_dfX14_154 g_dfX14_153_3 (by decide)
  have g_dfX14_154_6 := fx_ne (j := 6) e_dfX14_154 g_dfX14_153_6 (by decide)
  have g_dfX14_154_10 := fx_ne (j := 10) e_dfX14_154 g_dfX14_153_10 (by decide)
  have g_dfX14_154_64 := fx_ne (j := 64) e_dfX14_154 g_dfX14_153_64 (by decide)
  have g_dfX14_154_65 := fx_ne (j := 65) e_dfX14_154 g_dfX14_153_65 (by decide)
  have g_dfX14_154_87 := fx_ne (j := 87) e_dfX14_154 g_dfX14_153_87 (by decide)
  have g_dfX14_154_102 := fx_ne (j := 102) e_dfX14_154 g_dfX14_153_102 (by decide)
  refine lv_aload_n hx hb dX14_init_462 rfl (lv_at hl 0 rfl) ?_
  refine lv_sipush (v := 1202) hx hb dX14_init_463 (by decide) ?_
  refine va_newa (atype := .int) (ty := .int) (a0 := (1202, .inl (fun _ => 0))) (N' := 1202) hx hb (hts (.arrayClass .int) kw_6) rfl hK hP hD hS hA (fun _ => rfl) (by decide) (by decide) (by decide) (Nat.le_of_ble_eq_true rfl) (Nat.le_of_ble_eq_true rfl) dX14_init_466 (fun q_155 cA_156 H hK hP hD hS => ?_)
  have hP := hP.sub (ws' := [(h0, .inr (12, dfX14_154)), (q_4, .inl (cA_5, 16000, .inl (fun _ => 0))), (q_7, .inr (13, [])), (q_123, .inl (cA_124, 8, .inr (.inl (fun _ => 0))))]) [0, 1, 2, 3] rfl
  have hD := hD.sub (ws' := [(h0, .inr (12, dfX14_154)), (q_4, .inl (cA_5, 16000, .inl (fun _ => 0))), (q_7, .inr (13, [])), (q_123, .inl (cA_124, 8, .inr (.inl (fun _ => 0))))]) [0, 1, 2, 3] (by decide) rfl
  have hK := hK.sub (tys' := [(cA_5, .byte), (cA_124, .long)]) [0, 1] rfl
  refine W.widen (k := 51) (n := 635528) (Nat.le_of_ble_eq_true rfl) (Nat.le_of_ble_eq_true rfl) ?_
  refine va_putF (D := (dC, dI)) (ci := 12) (v := .ref q_155) (ty := (.array .int)) (C := RX14) (T := TX14) (N := 143) hx hb hts inX14 tyX14 tyX14_ok nmX14 hown hK hP hD hS 0 rfl rfl 108 (by decide) (hts _ kw_332) (fun _ h9 => h9) rfl hin rfl (by decide +kernel) rfl rfl (by rw [L_dfX14_154]; decide) dX14_init_468 (fun H locs hP hD hS => ?_)
  obtain ⟨dfX14_157, e_dfX14_157⟩ : ∃ z, z = dfX14_154.set 108 (.ref q_155) := ⟨_, rfl⟩
  have hP : va_P (dC, dI) cl0 [(h0, .inr (12, dfX14_157)), (q_4, .inl (cA_5, 16000, .inl (fun _ => 0))), (q_7, .inr (13, [])), (q_123, .inl (cA_124, 8, .inr (.inl (fun _ => 0))))] H := by rw [e_dfX14_157]; exact hP
  have hD : va_D A [(h0, .inr (12, dfX14_157)), (q_4, .inl (cA_5, 16000, .inl (fun _ => 0))), (q_7, .inr (13, [])), (q_123, .inl (cA_124, 8, .inr (.inl (fun _ => 0))))] := by rw [e_dfX14_157]; exact hD
  have L_dfX14_157 : dfX14_157.length = 143 := fx_len e_dfX14_157 L_dfX14_154
  have g_dfX14_157_1 := fx_ne (j := 1) e_dfX14_157 g_dfX14_154_1 (by decide)
  have g_dfX14_157_4 := fx_ne (j := 4) e_dfX14_157 g_dfX14_154_4 (by decide)
  have g_dfX14_157_5 := fx_ne (j := 5) e_dfX14_157 g_dfX14_154_5 (by decide)
  have g_dfX14_157_9 := fx_ne (j := 9) e_dfX14_157 g_dfX14_154_9 (by decide)
  have g_dfX14_157_78 := fx_ne (j := 78) e_dfX14_157 g_dfX14_154_78 (by decide)
  have g_dfX14_157_80 := fx_ne (j := 80) e_dfX14_157 g_dfX14_154_80 (by decide)
  have g_dfX14_157_85 := fx_ne (j := 85) e_dfX14_157 g_dfX14_154_85 (by decide)
  have g_dfX14_157_88 := fx_ne (j := 88) e_dfX14_157 g_dfX14_154_88 (by decide)
  have g_dfX14_157_96 := fx_ne (j := 96) e_dfX14_157 g_dfX14_154_96 (by decide)
  have g_dfX14_157_100 := fx_ne (j := 100) e_dfX14_157 g_dfX14_154_100 (by decide)
  have g_dfX14_157_101 := fx_ne (j := 101) e_dfX14_157 g_dfX14_154_101 (by decide)
  have g_dfX14_157_3 := fx_ne (j := 3) e_dfX14_157 g_dfX14_154_3 (by decide)
  have g_dfX14_157_6 := fx_ne (j := 6) e_dfX14_157 g_dfX14_154_6 (by decide)
  have g_dfX14_157_10 := fx_ne (j := 10) e_dfX14_157 g_dfX14_154_10 (by decide)
  have g_dfX14_157_64 := fx_ne (j := 64) e_dfX14_157 g_dfX14_154_64 (by decide)
  have g_dfX14_157_65 := fx_ne (j := 65) e_dfX14_157 g_dfX14_154_65 (by decide)
  have g_dfX14_157_87 := fx_ne (j := 87) e_dfX14_157 g_dfX14_154_87 (by decide)
  have g_dfX14_157_102 := fx_ne (j := 102) e_dfX14_157 g_dfX14_154_102 (by decide)
  refine lv_aload_n hx hb dX14_init_471 rfl (lv_at hl 0 rfl) ?_
  refine lv_sipush (v := 24000) hx hb dX14_init_472 (by decide) ?_
  refine va_newa (atype := .int) (ty := .int) (a0 := (24000, .inl (fun _ => 0))) (N' := 24000) hx hb (hts (.arrayClass .int) kw_6) rfl hK hP hD hS hA (fun _ => rfl) (by decide) (by decide) (by decide) (Nat.le_of_ble_eq_true rfl) (Nat.le_of_ble_eq_true rfl) dX14_init_475 (fun q_158 cA_159 H hK hP hD hS => ?_)
  have hP := hP.sub (ws' := [(h0, .inr (12, dfX14_157)), (q_4, .inl (cA_5, 16000, .inl (fun _ => 0))), (q_7, .inr (13, [])), (q_123, .inl (cA_124, 8, .inr (.inl (fun _ => 0))))]) [0, 1, 2, 3] rfl
  have hD := hD.sub (ws' := [(h0, .inr (12, dfX14_157)), (q_4, .inl (cA_5, 16000, .inl (fun _ => 0))), (q_7, .inr (13, [])), (q_123, .inl (cA_124, 8, .inr (.inl (fun _ => 0))))]) [0, 1, 2, 3] (by decide) rfl
  have hK := hK.sub (tys' := [(cA_5, .byte), (cA_124, .long)]) [0, 1] rfl
  refine W.widen (k := 52) (n := 659528) (Nat.le_of_ble_eq_true rfl) (Nat.le_of_ble_eq_true rfl) ?_
  refine va_putF (D := (dC, dI)) (ci := 12) (v := .ref q_158) (ty := (.array .int)) (C := RX14) (T := TX14) (N := 143) hx hb hts inX14 tyX14 tyX14_ok nmX14 hown hK hP hD hS 0 rfl rfl 109 (by decide) (hts _ kw_333) (fun _ h9 => h9) rfl hin rfl (by decide +kernel) rfl rfl (by rw [L_dfX14_157]; decide) dX14_init_477 (fun H locs hP hD hS => ?_)
  obtain ⟨dfX14_160, e_dfX14_160⟩ : ∃ z, z = dfX14_157.set 109 (.ref q_158) := ⟨_, rfl⟩
  have hP : va_P (dC, dI) cl0 [(h0, .inr (12, dfX14_160)), (q_4, .inl (cA_5, 16000, .inl (fun _ => 0))), (q_7, .inr (13, [])), (q_123, .inl (cA_124, 8, .inr (.inl (fun _ => 0))))] H := by rw [e_dfX14_160]; exact hP
  have hD : va_D A [(h0, .inr (12, dfX14_160)), (q_4, .inl (cA_5, 16000, .inl (fun _ => 0))), (q_7, .inr (13, [])), (q_123, .inl (cA_124, 8, .inr (.inl (fun _ => 0))))] := by rw [e_dfX14_160]; exact hD
  have L_dfX14_160 : dfX14_160.length = 143 := fx_len e_dfX14_160 L_dfX14_157
  have g_dfX14_160_1 := fx_ne (j := 1) e_dfX14_160 g_dfX14_157_1 (by decide)
  have g_dfX14_160_4 := fx_ne (j := 4) e_dfX14_160 g_dfX14_157_4 (by decide)
  have g_dfX14_160_5 := fx_ne (j := 5) e_dfX14_160 g_dfX14_157_5 (by decide)
  have g_dfX14_160_9 := fx_ne (j := 9) e_dfX14_160 g_dfX14_157_9 (by decide)
  have g_dfX14_160_78 := fx_ne (j := 78) e_dfX14_160 g_dfX14_157_78 (by decide)
  have g_dfX14_160_80 := fx_ne (j := 80) e_dfX14_160 g_dfX14_157_80 (by decide)
  have g_dfX14_160_85 := fx_ne (j := 85) e_dfX14_160 g_dfX14_157_85 (by decide)
  have g_dfX14_160_88 := fx_ne (j := 88) e_dfX14_160 g_dfX14_157_88 (by decide)
  have g_dfX14_160_96 := fx_ne (j := 96) e_dfX14_160 g_dfX14_157_96 (by decide)
  have g_dfX14_160_100 := fx_ne (j := 100) e_dfX14_160 g_dfX14_157_100 (by decide)
  have g_dfX14_160_101 := fx_ne (j := 101) e_dfX14_160 g_dfX14_157_101 (by decide)
  have g_dfX14_160_3 := fx_ne (j := 3) e_dfX14_160 g_dfX14_157_3 (by decide)
  have g_dfX14_160_6 := fx_ne (j := 6) e_dfX14_160 g_dfX14_157_6 (by decide)
  have g_dfX14_160_10 := fx_ne (j := 10) e_dfX14_160 g_dfX14_157_10 (by decide)
  have g_dfX14_160_64 := fx_ne (j := 64) e_dfX14_160 g_dfX14_157_64 (by decide)
  have g_dfX14_160_65 := fx_ne (j := 65) e_dfX14_160 g_dfX14_157_65 (by decide)
  have g_dfX14_160_87 := fx_ne (j := 87) e_dfX14_160 g_dfX14_157_87 (by decide)
  have g_dfX14_160_102 := fx_ne (j := 102) e_dfX14_160 g_dfX14_157_102 (by decide)
  refine lv_aload_n hx hb dX14_init_480 rfl (lv_at hl 0 rfl) ?_
  refine lv_sipush (v := 1200) hx hb dX14_init_481 (by decide) ?_
  refine va_newa (atype := .boolean) (ty := .boolean) (a0 := (1200, .inl (fun _ => 0))) (N' := 1200) hx hb (hts (.arrayClass .boolean) kw_9) rfl hK hP hD hS hA (fun _ => rfl) (by decide) (by decide) (by decide) (Nat.le_of_ble_eq_true rfl) (Nat.le_of_ble_eq_true rfl) dX14_init_484 (fun q_161 cA_162 H hK hP hD hS => ?_)
  have hP := hP.sub (ws' := [(h0, .inr (12, dfX14_160)), (q_4, .inl (cA_5, 16000, .inl (fun _ => 0))), (q_7, .inr (13, [])), (q_123, .inl (cA_124, 8, .inr (.inl (fun _ => 0))))]) [0, 1, 2, 3] rfl
  have hD := hD.sub (ws' := [(h0, .inr (12, dfX14_160)), (q_4, .inl (cA_5, 16000, .inl (fun _ => 0))), (q_7, .inr (13, [])), (q_123, .inl (cA_124, 8, .inr (.inl (fun _ => 0))))]) [0, 1, 2, 3] (by decide) rfl
  have hK := hK.sub (tys' := [(cA_5, .byte), (cA_124, .long)]) [0, 1] rfl
  refine W.widen (k := 53) (n := 660728) (Nat.le_of_ble_eq_true rfl) (Nat.le_of_ble_eq_true rfl) ?_
  refine va_putF (D := (dC, dI)) (ci := 12) (v := .ref q_161) (ty := (.array .boolean)) (C := RX14) (T := TX14) (N := 143) hx hb hts inX14 tyX14 tyX14_ok nmX14 hown hK hP hD hS 0 rfl rfl 111 (by decide) (hts _ kw_334) (fun _ h9 => h9) rfl hin rfl (by decide +kernel) rfl rfl (by rw [L_dfX14_160]; decide) dX14_init_486 (fun H locs hP hD hS => ?_)
  obtain ⟨dfX14_163, e_dfX14_163⟩ : ∃ z, z = dfX14_160.set 111 (.ref q_161) := ⟨_, rfl⟩
  have hP : va_P (dC, dI) cl0 [(h0, .inr (12, dfX14_163)), (q_4, .inl (cA_5, 16000, .inl (fun _ => 0))), (q_7, .inr (13, [])), (q_123, .inl (cA_124, 8, .inr (.inl (fun _ => 0))))] H := by rw [e_dfX14_163]; exact hP
  have hD : va_D A [(h0, .inr (12, dfX14_163)), (q_4, .inl (cA_5, 16000, .inl (fun _ => 0))), (q_7, .inr (13, [])), (q_123, .inl (cA_124, 8, .inr (.inl (fun _ => 0))))] := by rw [e_dfX14_163]; exact hD
  have L_dfX14_163 : dfX14_163.length = 143 := fx_len e_dfX14_163 L_dfX14_160
  have g_dfX14_163_1 := fx_ne (j := 1) e_dfX14_163 g_dfX14_160_1 (by decide)
  have g_dfX14_163_4 := fx_ne (j := 4) e_dfX14_163 g_dfX14_160_4 (by decide)
  have g_dfX14_163_5 := fx_ne (j := 5) e_dfX14_163 g_dfX14_160_5 (by decide)
  have g_dfX14_163_9 := fx_ne (j := 9) e_dfX14_163 g_dfX14_160_9 (by decide)
  have g_dfX14_163_78 := fx_ne (j := 78) e_dfX14_163 g_dfX14_160_78 (by decide)
  have g_dfX14_163_80 := fx_ne (j := 80) e_dfX14_163 g_dfX14_160_80 (by decide)
  have g_dfX14_163_85 := fx_ne (j := 85) e_dfX14_163 g_dfX14_160_85 (by decide)
  have g_dfX14_163_88 := fx_ne (j := 88) e_dfX14_163 g_dfX14_160_88 (by decide)
  have g_dfX14_163_96 := fx_ne (j := 96) e_dfX14_163 g_dfX14_160_96 (by decide)
  have g_dfX14_163_100 := fx_ne (j := 100) e_dfX14_163 g_dfX14_160_100 (by decide)
  have g_dfX14_163_101 := fx_ne (j := 101) e_dfX14_163 g_dfX14_160_101 (by decide)
  have g_dfX14_163_3 := fx_ne (j := 3) e_dfX14_163 g_dfX14_160_3 (by decide)
  have g_dfX14_163_6 := fx_ne (j := 6) e_dfX14_163 g_dfX14_160_6 (by decide)
  have g_dfX14_163_10 := fx_ne (j := 10) e_dfX14_163 g_dfX14_160_10 (by decide)
  have g_dfX14_163_64 := fx_ne (j := 64) e_dfX14_163 g_dfX14_160_64 (by decide)
  have g_dfX14_163_65 := fx_ne (j := 65) e_dfX14_163 g_dfX14_160_65 (by decide)
  have g_dfX14_163_87 := fx_ne (j := 87) e_dfX14_163 g_dfX14_160_87 (by decide)
  have g_dfX14_163_102 := fx_ne (j := 102) e_dfX14_163 g_dfX14_160_102 (by decide)
  refine lv_aload_n hx hb dX14_init_489 rfl (lv_at hl 0 rfl) ?_
  refine lv_ldc hx hb hown (hts _ kw_335) dX14_init_490 ?_
  refine va_newa (atype := .int) (ty := .int) (a0 := (45600, .inl (fun _ => 0))) (N' := 45600) hx hb (hts (.arrayClass .int) kw_6) rfl hK hP hD hS hA (fun _ => rfl) (by decide) (by decide) (by decide) (Nat.le_of_ble_eq_true rfl) (Nat.le_of_ble_eq_true rfl) dX14_init_492 (fun q_164 cA_165 H hK hP hD hS => ?_)
  have hP := hP.sub (ws' := [(h0, .inr (12, dfX14_163)), (q_4, .inl (cA_5, 16000, .inl (fun _ => 0))), (q_7, .inr (13, [])), (q_123, .inl (cA_124, 8, .inr (.inl (fun _ => 0))))]) [0, 1, 2, 3] rfl
  have hD := hD.sub (ws' := [(h0, .inr (12, dfX14_163)), (q_4, .inl (cA_5, 16000, .inl (fun _ => 0))), (q_7, .inr (13, [])), (q_123, .inl (cA_124, 8, .inr (.inl (fun _ => 0))))]) [0, 1, 2, 3] (by decide) rfl
  have hK := hK.sub (tys' := [(cA_5, .byte), (cA_124, .long)]) [0, 1] rfl
  refine W.widen (k := 54) (n := 706328) (Nat.le_of_ble_eq_true rfl) (Nat.le_of_ble_eq_true rfl) ?_
  refine va_putF (D := (dC, dI)) (ci := 12) (v := .ref q_164) (ty := (.array .int)) (C := RX14) (T := TX14) (N := 143) hx hb hts inX14 tyX14 tyX14_ok nmX14 hown hK hP hD hS 0 rfl rfl 112 (by decide) (hts _ kw_336) (fun _ h9 => h9) rfl hin rfl (by decide +kernel) rfl rfl (by rw [L_dfX14_163]; decide) dX14_init_494 (fun H locs hP hD hS => ?_)
  obtain ⟨dfX14_166, e_dfX14_166⟩ : ∃ z, z = dfX14_163.set 112 (.ref q_164) := ⟨_, rfl⟩
  have hP : va_P (dC, dI) cl0 [(h0, .inr (12, dfX14_166)), (q_4, .inl (cA_5, 16000, .inl (fun _ => 0))), (q_7, .inr (13, [])), (q_123, .inl (cA_124, 8, .inr (.inl (fun _ => 0))))] H := by rw [e_dfX14_166]; exact hP
  have hD : va_D A [(h0, .inr (12, dfX14_166)), (q_4, .inl (cA_5, 16000, .inl (fun _ => 0))), (q_7, .inr (13, [])), (q_123, .inl (cA_124, 8, .inr (.inl (fun _ => 0))))] := by rw [e_dfX14_166]; exact hD
  have L_dfX14_166 : dfX14_166.length = 143 := fx_len e_dfX14_166 L_dfX14_163
  have g_dfX14_166_1 := fx_ne (j := 1) e_dfX14_166 g_dfX14_163_1 (by decide)
  have g_dfX14_166_4 := fx_ne (j := 4) e_dfX14_166 g_dfX14_163_4 (by decide)
  have g_dfX14_166_5 := fx_ne (j := 5) e_dfX14_166 g_dfX14_163_5 (by decide)
  have g_dfX14_166_9 := fx_ne (j := 9) e_dfX14_166 g_dfX14_163_9 (by decide)
  have g_dfX14_166_78 := fx_ne (j := 78) e_dfX14_166 g_dfX14_163_78 (by decide)
  have g_dfX14_166_80 := fx_ne (j := 80) e_dfX14_166 g_dfX14_163_80 (by decide)
  have g_dfX14_166_85 := fx_ne (j := 85) e_dfX14_166 g_dfX14_163_85 (by decide)
  have g_dfX14_166_88 := fx_ne (j := 88) e_dfX14_166 g_dfX14_163_88 (by decide)
  have g_dfX14_166_96 := fx_ne (j := 96) e_dfX14_166 g_dfX14_163_96 (by decide)
  have g_dfX14_166_100 := fx_ne (j := 100) e_dfX14_166 g_dfX14_163_100 (by decide)
  have g_dfX14_166_101 := fx_ne (j := 101) e_dfX14_166 g_dfX14_163_101 (by decide)
  have g_dfX14_166_3 := fx_ne (j := 3) e_dfX14_166 g_dfX14_163_3 (by decide)
  have g_dfX14_166_6 := fx_ne (j := 6) e_dfX14_166 g_dfX14_163_6 (by decide)
  have g_dfX14_166_10 := fx_ne (j := 10) e_dfX14_166 g_dfX14_163_10 (by decide)
  have g_dfX14_166_64 := fx_ne (j := 64) e_dfX14_166 g_dfX14_163_64 (by decide)
  have g_dfX14_166_65 := fx_ne (j := 65) e_dfX14_166 g_dfX14_163_65 (by decide)
  have g_dfX14_166_87 := fx_ne (j := 87) e_dfX14_166 g_dfX14_163_87 (by decide)
  have g_dfX14_166_102 := fx_ne (j := 102) e_dfX14_166 g_dfX14_163_102 (by decide)
  refine lv_aload_n hx hb dX14_init_497 rfl (lv_at hl 0 rfl) ?_
  refine lv_sipush (v := 1200) hx hb dX14_init_498 (by decide) ?_
  refine va_newa (atype := .int) (ty := .int) (a0 := (1200, .inl (fun _ => 0))) (N' := 1200) hx hb (hts (.arrayClass .int) kw_6) rfl hK hP hD hS hA (fun _ => rfl) (by decide) (by decide) (by decide) (Nat.le_of_ble_eq_true rfl) (Nat.le_of_ble_eq_true rfl) dX14_init_501 (fun q_167 cA_168 H hK hP hD hS => ?_)
  have hP := hP.sub (ws' := [(h0, .inr (12, dfX14_166)), (q_4, .inl (cA_5, 16000, .inl (fun _ => 0))), (q_7, .inr (13, [])), (q_123, .inl (cA_124, 8, .inr (.inl (fun _ => 0))))]) [0, 1, 2, 3] rfl
  have hD := hD.sub (ws' := [(h0, .inr (12, dfX14_166)), (q_4, .inl (cA_5, 16000, .inl (fun _ => 0))), (q_7, .inr (13, [])), (q_123, .inl (cA_124, 8, .inr (.inl (fun _ => 0))))]) [0, 1, 2, 3] (by decide) rfl
  have hK := hK.sub (tys' := [(cA_5, .byte), (cA_124, .long)]) [0, 1] rfl
  refine W.widen (k := 55) (n := 707528) (Nat.le_of_ble_eq_true rfl) (Nat.le_of_ble_eq_true rfl) ?_
  refine va_putF (D := (dC, dI)) (ci := 12) (v := .ref q_167) (ty := (.array .int)) (C := RX14) (T := TX14) (N := 143) hx hb hts inX14 tyX14 tyX14_ok nmX14 hown hK hP hD hS 0 rfl rfl 113 (by decide) (hts _ kw_337) (fun _ h9 => h9) rfl hin rfl (by decide +kernel) rfl rfl (by rw [L_dfX14_166]; decide) dX14_init_503 (fun H locs hP hD hS => ?_)
  obtain ⟨dfX14_169, e_dfX14_169⟩ : ∃ z, z = dfX14_166.set 113 (.ref q_167) := ⟨_, rfl⟩
  have hP : va_P (dC, dI) cl0 [(h0, .inr (12, dfX14_169)), (q_4, .inl (cA_5, 16000, .inl (fun _ => 0))), (q_7, .inr (13, [])), (q_123, .inl (cA_124, 8, .inr (.inl (fun _ => 0))))] H := by rw [e_dfX14_169]; exact hP
  have hD : va_D A [(h0, .inr (12, dfX14_169)), (q_4, .inl (cA_5, 16000, .inl (fun _ => 0))), (q_7, .inr (13, [])), (q_123, .inl (cA_124, 8, .inr (.inl (fun _ => 0))))] := by rw [e_dfX14_169]; exact hD
  have L_dfX14_169 : dfX14_169.length = 143 := fx_len e_dfX14_169 L_dfX14_166
  have g_dfX14_169_1 := fx_ne (j := 1) e_dfX14_169 g_dfX14_166_1 (by decide)
  have g_dfX14_169_4 := fx_ne (j := 4) e_dfX14_169 g_dfX14_166_4 (by decide)
  have g_dfX14_169_5 := fx_ne (j := 5) e_dfX14_169 g_dfX14_166_5 (by decide)
  have g_dfX14_169_9 := fx_ne (j := 9) e_dfX14_169 g_dfX14_166_9 (by decide)
  have g_dfX14_169_78 := fx_ne (j := 78) e_dfX14_169 g_dfX14_166_78 (by decide)
  have g_dfX14_169_80 := fx_ne (j := 80) e_dfX14_169 g_dfX14_166_80 (by decide)
  have g_dfX14_169_85 := fx_ne (j := 85) e_dfX14_169 g_dfX14_166_85 (by decide)
  have g_dfX14_169_88 := fx_ne (j := 88) e_dfX14_169 g_dfX14_166_88 (by decide)
  have g_dfX14_169_96 := fx_ne (j := 96) e_dfX14_169 g_dfX14_166_96 (by decide)
  have g_dfX14_169_100 := fx_ne (j := 100) e_dfX14_169 g_dfX14_166_100 (by decide)
  have g_dfX14_169_101 := fx_ne (j := 101) e_dfX14_169 g_dfX14_166_101 (by decide)
  have g_dfX14_169_3 := fx_ne (j := 3) e_dfX14_169 g_dfX14_166_3 (by decide)
  have g_dfX14_169_6 := fx_ne (j := 6) e_dfX14_169 g_dfX14_166_6 (by decide)
  have g_dfX14_169_10 := fx_ne (j := 10) e_dfX14_169 g_dfX14_166_10 (by decide)
  have g_dfX14_169_64 := fx_ne (j := 64) e_dfX14_169 g_dfX14_166_64 (by decide)
  have g_dfX14_169_65 := fx_ne (j := 65) e_dfX14_169 g_dfX14_166_65 (by decide)
  have g_dfX14_169_87 := fx_ne (j := 87) e_dfX14_169 g_dfX14_166_87 (by decide)
  have g_dfX14_169_102 := fx_ne (j := 102) e_dfX14_169 g_dfX14_166_102 (by decide)
  refine lv_aload_n hx hb dX14_init_506 rfl (lv_at hl 0 rfl) ?_
  refine lv_sipush (v := 1200) hx hb dX14_init_507 (by decide) ?_
  refine va_newa (atype := .boolean) (ty := .boolean) (a0 := (1200, .inl (fun _ => 0))) (N' := 1200) hx hb (hts (.arrayClass .boolean) kw_9) rfl hK hP hD hS hA (fun _ => rfl) (by decide) (by decide) (by decide) (Nat.le_of_ble_eq_true rfl) (Nat.le_of_ble_eq_true rfl) dX14_init_510 (fun q_170 cA_171 H hK hP hD hS => ?_)
  have hP := hP.sub (ws' := [(h0, .inr (12, dfX14_169)), (q_4, .inl (cA_5, 16000, .inl (fun _ => 0))), (q_7, .inr (13, [])), (q_123, .inl (cA_124, 8, .inr (.inl (fun _ => 0))))]) [0, 1, 2, 3] rfl
  have hD := hD.sub (ws' := [(h0, .inr (12, dfX14_169)), (q_4, .inl (cA_5, 16000, .inl (fun _ => 0))), (q_7, .inr (13, [])), (q_123, .inl (cA_124, 8, .inr (.inl (fun _ => 0))))]) [0, 1, 2, 3] (by decide) rfl
  have hK := hK.sub (tys' := [(cA_5, .byte), (cA_124, .long)]) [0, 1] rfl
  refine W.widen (k := 56) (n := 708728) (Nat.le_of_ble_eq_true rfl) (Nat.le_of_ble_eq_true rfl) ?_
  refine va_putF (D := (dC, dI)) (ci := 12) (v := .ref q_170) (ty := (.array .boolean)) (C := RX14) (T := TX14) (N := 143) hx hb hts inX14 tyX14 tyX14_ok nmX14 hown hK hP hD hS 0 rfl rfl 114 (by decide) (hts _ kw_338) (fun _ h9 => h9) rfl hin rfl (by decide +kernel) rfl rfl (by rw [L_dfX14_169]; decide) dX14_init_512 (fun H locs hP hD hS => ?_)
  obtain ⟨dfX14_172, e_dfX14_172⟩ : ∃ z, z = dfX14_169.set 114 (.ref q_170) := ⟨_, rfl⟩
  have hP : va_P (dC, dI) cl0 [(h0, .inr (12, dfX14_172)), (q_4, .inl (cA_5, 16000, .inl (fun _ => 0))), (q_7, .inr (13, [])), (q_123, .inl (cA_124, 8, .inr (.inl (fun _ => 0))))] H := by rw [e_dfX14_172]; exact hP
  have hD : va_D A [(h0, .inr (12, dfX14_172)), (q_4, .inl (cA_5, 16000, .inl (fun _ => 0))), (q_7, .inr (13, [])), (q_123, .inl (cA_124, 8, .inr (.inl (fun _ => 0))))] := by rw [e_dfX14_172]; exact hD
  have L_dfX14_172 : dfX14_172.length = 143 := fx_len e_dfX14_172 L_dfX14_169
  have g_dfX14_172_1 := fx_ne (j := 1) e_dfX14_172 g_dfX14_169_1 (by decide)
  have g_dfX14_172_4 := fx_ne (j := 4) e_dfX14_172 g_dfX14_169_4 (by decide)
  have g_dfX14_172_5 := fx_ne (j := 5) e_dfX14_172 g_dfX14_169_5 (by decide)
  have g_dfX14_172_9 := fx_ne (j := 9) e_dfX14_172 g_dfX14_169_9 (by decide)
  have g_dfX14_172_78 := fx_ne (j := 78) e_dfX14_172 g_dfX14_169_78 (by decide)
  have g_dfX14_172_80 := fx_ne (j := 80) e_dfX14_172 g_dfX14_169_80 (by decide)
  have g_dfX14_172_85 := fx_ne (j := 85) e_dfX14_172 g_dfX14_169_85 (by decide)
  have g_dfX14_172_88 := fx_ne (j := 88) e_dfX14_172 g_dfX14_169_88 (by decide)
  have g_dfX14_172_96 := fx_ne (j := 96) e_dfX14_172 g_dfX14_169_96 (by decide)
  have g_dfX14_172_100 := fx_ne (j := 100) e_dfX14_172 g_dfX14_169_100 (by decide)
  have g_dfX14_172_101 := fx_ne (j := 101) e_dfX14_172 g_dfX14_169_101 (by decide)
  have g_dfX14_172_3 := fx_ne (j := 3) e_dfX14_172 g_dfX14_169_3 (by decide)
  have g_dfX14_172_6 := fx_ne (j := 6) e_dfX14_172 g_dfX14_169_6 (by decide)
  have g_dfX14_172_10 := fx_ne (j := 10) e_dfX14_172 g_dfX14_169_10 (by decide)
  have g_dfX14_172_64 := fx_ne (j := 64) e_dfX14_172 g_dfX14_169_64 (by decide)
  have g_dfX14_172_65 := fx_ne (j := 65) e_dfX14_172 g_dfX14_169_65 (by decide)
  have g_dfX14_172_87 := fx_ne (j := 87) e_dfX14_172 g_dfX14_169_87 (by decide)
  have g_dfX14_172_102 := fx_ne (j := 102) e_dfX14_172 g_dfX14_169_102 (by decide)
  refine lv_aload_n hx hb dX14_init_515 rfl (lv_at hl 0 rfl) ?_
  refine lv_sipush (v := 1200) hx hb dX14_init_516 (by decide) ?_
  refine va_newa (atype := .int) (ty := .int) (a0 := (1200, .inl (fun _ => 0))) (N' := 1200) hx hb (hts (.arrayClass .int) kw_6) rfl hK hP hD hS hA (fun _ => rfl) (by decide) (by decide) (by decide) (Nat.le_of_ble_eq_true rfl) (Nat.le_of_ble_eq_true rfl) dX14_init_519 (fun q_173 cA_174 H hK hP hD hS => ?_)
  have hP := hP.sub (ws' := [(h0, .inr (12, dfX14_172)), (q_4, .inl (cA_5, 16000, .inl (fun _ => 0))), (q_7, .inr (13, [])), (q_123, .inl (cA_124, 8, .inr (.inl (fun _ => 0))))]) [0, 1, 2, 3] rfl
  have hD := hD.sub (ws' := [(h0, .inr (12, dfX14_172)), (q_4, .inl (cA_5, 16000, .inl (fun _ => 0))), (q_7, .inr (13, [])), (q_123, .inl (cA_124, 8, .inr (.inl (fun _ => 0))))]) [0, 1, 2, 3] (by decide) rfl
  have hK := hK.sub (tys' := [(cA_5, .byte), (cA_124, .long)]) [0, 1] rfl
  refine W.widen (k := 57) (n := 709928) (Nat.le_of_ble_eq_true rfl) (Nat.le_of_ble_eq_true rfl) ?_
  refine va_putF (D := (dC, dI)) (ci := 12) (v := .ref q_173) (ty := (.array .int)) (C := RX14) (T := TX14) (N := 143) hx hb hts inX14 tyX14 tyX14_ok nmX14 hown hK hP hD hS 0 rfl rfl 115 (by decide) (hts _ kw_339) (fun _ h9 => h9) rfl hin rfl (by decide +kernel) rfl rfl (by rw [L_dfX14_172]; decide) dX14_init_521 (fun H locs hP hD hS => ?_)
  obtain ⟨dfX14_175, e_dfX14_175⟩ : ∃ z, z = dfX14_172.set 115 (.ref q_173) := ⟨_, rfl⟩
  have hP : va_P (dC, dI) cl0 [(h0, .inr (12, dfX14_175)), (q_4, .inl (cA_5, 16000, .inl (fun _ => 0))), (q_7, .inr (13, [])), (q_123, .inl (cA_124, 8, .inr (.inl (fun _ => 0))))] H := by rw [e_dfX14_175]; exact hP
  have hD : va_D A [(h0, .inr (12, dfX14_175)), (q_4, .inl (cA_5, 16000, .inl (fun _ => 0))), (q_7, .inr (13, [])), (q_123, .inl (cA_124, 8, .inr (.inl (fun _ => 0))))] := by rw [e_dfX14_175]; exact hD
  have L_dfX14_175 : dfX14_175.length = 143 := fx_len e_dfX14_175 L_dfX14_172
  have g_dfX14_175_1 := fx_ne (j := 1) e_dfX14_175 g_dfX14_172_1 (by decide)
  have g_dfX14_175_4 := fx_ne (j := 4) e_dfX14_175 g_dfX14_172_4 (by decide)
  have g_dfX14_175_5 := fx_ne (j := 5) e_dfX14_175 g_dfX14_172_5 (by decide)
  have g_dfX14_175_9 := fx_ne (j := 9) e_dfX14_175 g_dfX14_172_9 (by decide)
  have g_dfX14_175_78 := fx_ne (j := 78) e_dfX14_175 g_dfX14_172_78 (by decide)
  have g_dfX14_175_80 := fx_ne (j := 80) e_dfX14_175 g_dfX14_172_80 (by decide)
  have g_dfX14_175_85 := fx_ne (j := 85) e_dfX14_175 g_dfX14_172_85 (by decide)
  have g_dfX14_175_88 := fx_ne (j := 88) e_dfX14_175 g_dfX14_172_88 (by decide)
  have g_dfX14_175_96 := fx_ne (j := 96) e_dfX14_175 g_dfX14_172_96 (by decide)
  have g_dfX14_175_100 := fx_ne (j := 100) e_dfX14_175 g_dfX14_172_100 (by decide)
  have g_dfX14_175_101 := fx_ne (j := 101) e_dfX14_175 g_dfX14_172_101 (by decide)
  have g_dfX14_175_3 := fx_ne (j := 3) e_dfX14_175 g_dfX14_172_3 (by decide)
  have g_dfX14_175_6 := fx_ne (j := 6) e_dfX14_175 g_dfX14_172_6 (by decide)
  have g_dfX14_175_10 := fx_ne (j := 10) e_dfX14_175 g_dfX14_172_10 (by decide)
  have g_dfX14_175_64 := fx_ne (j := 64) e_dfX14_175 g_dfX14_172_64 (by decide)
  have g_dfX14_175_65 := fx_ne (j := 65) e_dfX14_175 g_dfX14_172_65 (by decide)
  have g_dfX14_175_87 := fx_ne (j := 87) e_dfX14_175 g_dfX14_172_87 (by decide)
  have g_dfX14_175_102 := fx_ne (j := 102) e_dfX14_175 g_dfX14_172_102 (by decide)
  refine lv_aload_n hx hb dX14_init_524 rfl (lv_at hl 0 rfl) ?_
  refine lv_sipush (v := 1200) hx hb dX14_init_525 (by decide) ?_
  refine va_newa (atype := .boolean) (ty := .boolean) (a0 := (1200, .inl (fun _ => 0))) (N' := 1200) hx hb (hts (.arrayClass .boolean) kw_9) rfl hK hP hD hS hA (fun _ => rfl) (by decide) (by decide) (by decide) (Nat.le_of_ble_eq_true rfl) (Nat.le_of_ble_eq_true rfl) dX14_init_528 (fun q_176 cA_177 H hK hP hD hS => ?_)
  have hP := hP.sub (ws' := [(h0, .inr (12, dfX14_175)), (q_4, .inl (cA_5, 16000, .inl (fun _ => 0))), (q_7, .inr (13, [])), (q_123, .inl (cA_124, 8, .inr (.inl (fun _ => 0))))]) [0, 1, 2, 3] rfl
  have hD := hD.sub (ws' := [(h0, .inr (12, dfX14_175)), (q_4, .inl (cA_5, 16000, .inl (fun _ => 0))), (q_7, .inr (13, [])), (q_123, .inl (cA_124, 8, .inr (.inl (fun _ => 0))))]) [0, 1, 2, 3] (by decide) rfl
  have hK := hK.sub (tys' := [(cA_5, .byte), (cA_124, .long)]) [0, 1] rfl
  refine W.widen (k := 58) (n := 711128) (Nat.le_of_ble_eq_true rfl) (Nat.le_of_ble_eq_true rfl) ?_
  refine va_putF (D := (dC, dI)) (ci := 12) (v := .ref q_176) (ty := (.array .boolean)) (C := RX14) (T := TX14) (N := 143) hx hb hts inX14 tyX14 tyX14_ok nmX14 hown hK hP hD hS 0 rfl rfl 116 (by decide) (hts _ kw_340) (fun _ h9 => h9) rfl hin rfl (by decide +kernel) rfl rfl (by rw [L_dfX14_175]; decide) dX14_init_530 (fun H locs hP hD hS => ?_)
  obtain ⟨dfX14_178, e_dfX14_178⟩ : ∃ z, z = dfX14_175.set 116 (.ref q_176) := ⟨_, rfl⟩
  have hP : va_P (dC, dI) cl0 [(h0, .inr (12, dfX14_178)), (q_4, .inl (cA_5, 16000, .inl (fun _ => 0))), (q_7, .inr (13, [])), (q_123, .inl (cA_124, 8, .inr (.inl (fun _ => 0))))] H := by rw [e_dfX14_178]; exact hP
  have hD : va_D A [(h0, .inr (12, dfX14_178)), (q_4, .inl (cA_5, 16000, .inl (fun _ => 0))), (q_7, .inr (13, [])), (q_123, .inl (cA_124, 8, .inr (.inl (fun _ => 0))))] := by rw [e_dfX14_178]; exact hD
  have L_dfX14_178 : dfX14_178.length = 143 := fx_len e_dfX14_178 L_dfX14_175
  have g_dfX14_178_1 := fx_ne (j := 1) e_dfX14_178 g_dfX14_175_1 (by decide)
  have g_dfX14_178_4 := fx_ne (j := 4) e_dfX14_178 g_dfX14_175_4 (by decide)
  have g_dfX14_178_5 := fx_ne (j := 5) e_dfX14_178 g_dfX14_175_5 (by decide)
  have g_dfX14_178_9 := fx_ne (j := 9) e_dfX14_178 g_dfX14_175_9 (by decide)
  have g_dfX14_178_78 := fx_ne (j := 78) e_dfX14_178 g_dfX14_175_78 (by decide)
  have g_dfX14_178_80 := fx_ne (j := 80) e_dfX14_178 g_dfX14_175_80 (by decide)
  have g_dfX14_178_85 := fx_ne (j := 85) e_dfX14_178 g_dfX14_175_85 (by decide)
  have g_dfX14_178_88 := fx_ne (j := 88) e_dfX14_178 g_dfX14_175_88 (by decide)
  have g_dfX14_178_96 := fx_ne (j := 96) e_dfX14_178 g_dfX14_175_96 (by decide)
  have g_dfX14_178_100 := fx_ne (j := 100) e_dfX14_178 g_dfX14_175_100 (by decide)
  have g_dfX14_178_101 := fx_ne (j := 101) e_dfX14_178 g_dfX14_175_101 (by decide)
  have g_dfX14_178_3 := fx_ne (j := 3) e_dfX14_178 g_dfX14_175_3 (by decide)
  have g_dfX14_178_6 := fx_ne (j := 6) e_dfX14_178 g_dfX14_175_6 (by decide)
  have g_dfX14_178_10 := fx_ne (j := 10) e_dfX14_178 g_dfX14_175_10 (by decide)
  have g_dfX14_178_64 := fx_ne (j := 64) e_dfX14_178 g_dfX14_175_64 (by decide)
  have g_dfX14_178_65 := fx_ne (j := 65) e_dfX14_178 g_dfX14_175_65 (by decide)
  have g_dfX14_178_87 := fx_ne (j := 87) e_dfX14_178 g_dfX14_175_87 (by decide)
  have g_dfX14_178_102 := fx_ne (j := 102) e_dfX14_178 g_dfX14_175_102 (by decide)
  refine lv_aload_n hx hb dX14_init_533 rfl (lv_at hl 0 rfl) ?_
  refine lv_sipush (v := 1200) hx hb dX14_init_534 (by decide) ?_
  refine va_newa (atype := .int) (ty := .int) (a0 := (1200, .inl (fun _ => 0))) (N' := 1200) hx hb (hts (.arrayClass .int) kw_6) rfl hK hP hD hS hA (fun _ => rfl) (by decide) (by decide) (by decide) (Nat.le_of_ble_eq_true rfl) (Nat.le_of_ble_eq_true rfl) dX14_init_537 (fun q_179 cA_180 H hK hP hD hS => ?_)
  have hP := hP.sub (ws' := [(h0, .inr (12, dfX14_178)), (q_4, .inl (cA_5, 16000, .inl (fun _ => 0))), (q_7, .inr (13, [])), (q_123, .inl (cA_124, 8, .inr (.inl (fun _ => 0))))]) [0, 1, 2, 3] rfl
  have hD := hD.sub (ws' := [(h0, .inr (12, dfX14_178)), (q_4, .inl (cA_5, 16000, .inl (fun _ => 0))), (q_7, .inr (13, [])), (q_123, .inl (cA_124, 8, .inr (.inl (fun _ => 0))))]) [0, 1, 2, 3] (by decide) rfl
  have hK := hK.sub (tys' := [(cA_5, .byte), (cA_124, .long)]) [0, 1] rfl
  refine W.widen (k := 59) (n := 712328) (Nat.le_of_ble_eq_true rfl) (Nat.le_of_ble_eq_true rfl) ?_
  refine va_putF (D := (dC, dI)) (ci := 12) (v := .ref q_179) (ty := (.array .int)) (C := RX14) (T := TX14) (N := 143) hx hb hts inX14 tyX14 tyX14_ok nmX14 hown hK hP hD hS 0 rfl rfl 117 (by decide) (hts _ kw_341) (fun _ h9 => h9) rfl hin rfl (by decide +kernel) rfl rfl (by rw [L_dfX14_178]; decide) dX14_init_539 (fun H locs hP hD hS => ?_)
  obtain ⟨dfX14_181, e_dfX14_181⟩ : ∃ z, z = dfX14_178.set 117 (.ref q_179) := ⟨_, rfl⟩
  have hP : va_P (dC, dI) cl0 [(h0, .inr (12, dfX14_181)), (q_4, .inl (cA_5, 16000, .inl (fun _ => 0))), (q_7, .inr (13, [])), (q_123, .inl (cA_124, 8, .inr (.inl (fun _ => 0))))] H := by rw [e_dfX14_181]; exact hP
  have hD : va_D A [(h0, .inr (12, dfX14_181)), (q_4, .inl (cA_5, 16000, .inl (fun _ => 0))), (q_7, .inr (13, [])), (q_123, .inl (cA_124, 8, .inr (.inl (fun _ => 0))))] := by rw [e_dfX14_181]; exact hD
  have L_dfX14_181 : dfX14_181.length = 143 := fx_len e_dfX14_181 L_dfX14_178
  have g_dfX14_181_1 := fx_ne (j := 1) e_dfX14_181 g_dfX14_178_1 (by decide)
  have g_dfX14_181_4 := fx_ne (j := 4) e_dfX14_181 g_dfX14_178_4 (by decide)
  have g_dfX14_181_5 := fx_ne (j := 5) e_dfX14_181 g_dfX14_178_5 (by decide)
  have g_dfX14_181_9 := fx_ne (j := 9) e_dfX14_181 g_dfX14_178_9 (by decide)
  have g_dfX14_181_78 := fx_ne (j := 78) e_dfX14_181 g_dfX14_178_78 (by decide)
  have g_dfX14_181_80 := fx_ne (j := 80) e_dfX14_181 g_dfX14_178_80 (by decide)
  have g_dfX14_181_85 := fx_ne (j := 85) e_dfX14_181 g_dfX14_178_85 (by decide)
  have g_dfX14_181_88 := fx_ne (j := 88) e_dfX14_181 g_dfX14_178_88 (by decide)
  have g_dfX14_181_96 := fx_ne (j := 96) e_dfX14_181 g_dfX14_178_96 (by decide)
  have g_dfX14_181_100 := fx_ne (j := 100) e_dfX14_181 g_dfX14_178_100 (by decide)
  have g_dfX14_181_101 := fx_ne (j := 101) e_dfX14_181 g_dfX14_178_101 (by decide)
  have g_dfX14_181_3 := fx_ne (j := 3) e_dfX14_181 g_dfX14_178_3 (by decide)
  have g_dfX14_181_6 := fx_ne (j := 6) e_dfX14_181 g_dfX14_178_6 (by decide)
  have g_dfX14_181_10 := fx_ne (j := 10) e_dfX14_181 g_dfX14_178_10 (by decide)
  have g_dfX14_181_64 := fx_ne (j := 64) e_dfX14_181 g_dfX14_178_64 (by decide)
  have g_dfX14_181_65 := fx_ne (j := 65) e_dfX14_181 g_dfX14_178_65 (by decide)
  have g_dfX14_181_87 := fx_ne (j := 87) e_dfX14_181 g_dfX14_178_87 (by decide)
  have g_dfX14_181_102 := fx_ne (j := 102) e_dfX14_181 g_dfX14_178_102 (by decide)
  refine lv_aload_n hx hb dX14_init_542 rfl (lv_at hl 0 rfl) ?_
  refine va_new (ci := 11) (fs := dfX13) (C := RX13) (T := TX13) (N := 23) hx hb hts inX13 tyX13 tyX13_ok hown (hts _ kw_342) (hts _ kw_343) (hts _ kw_344) hK hP hD hS hA rfl dfX13_ok (Nat.le_of_ble_eq_true rfl) (Nat.le_of_ble_eq_true rfl) dX14_init_543 (fun q_182 H hP hD hS => ?_)
  have hP : va_P (dC, dI) cl0 [(h0, .inr (12, dfX14_181)), (q_4, .inl (cA_5, 16000, .inl (fun _ => 0))), (q_7, .inr (13, [])), (q_123, .inl (cA_124, 8, .inr (.inl (fun _ => 0)))), (q_182, .inr (11, dfX13))] H := hP
  have hD : va_D A [(h0, .inr (12, dfX14_181)), (q_4, .inl (cA_5, 16000, .inl (fun _ => 0))), (q_7, .inr (13, [])), (q_123, .inl (cA_124, 8, .inr (.inl (fun _ => 0)))), (q_182, .inr (11, dfX13))] := hD
  refine W.widen (k := 60) (n := 712351) (Nat.le_of_ble_eq_true rfl) (Nat.le_of_ble_eq_true rfl) ?_
  refine lv_dup hx hb dX14_init_546 rfl ?_
  have hPc := hP.sub (ws' := [(q_182, .inr (11, dfX13))]) [4] rfl
  have hDc := hD.sub (ws' := [(q_182, .inr (11, dfX13))]) [4] (by decide) rfl
  have hKc := hK.sub (tys' := []) [] rfl
  have hFc := va_free (wc := [(q_182, .inr (11, dfX13))]) hD hS hA [4] rfl
  refine va_callv (va_runIN (As := []) (rest := [.ref q_182, .ref h0]) ⟨hx, hb, hml, hown, hts⟩ (m_X13_init l dC dI H.size q_182 ) ⟨va_cnB 0 hts (gd_I kw_345) rfl rfl rfl (nw_of (by exact nn_X14_222) hex) (hts _ kw_344) (by decide +kernel) ⟨Nat.le_of_ble_eq_true rfl, Nat.le_of_ble_eq_true rfl⟩, rfl, hts _ kw_346⟩ ⟨st_blind, fun U hU hW9 => st_mk hU hW9 hPc hKc hDc hex⟩ rfl rfl hl.1 rfl (lv_room (Nat.le_of_ble_eq_true rfl)) dX14_init_547 ⟨Nat.le_of_ble_eq_true rfl, Nat.le_of_ble_eq_true rfl⟩) hS (fun q _ h => hFc q h) hFc (fun  u9 t9 H1 locs ht9 hvm9 hw9 hB9 hz9 hk9 hS => ?_)
  have hP1 : va_P (dC, dI) cl0 [] H1 := fun k q h => by simp at h
  have hD1 : va_D (va_A [(q_182, .inr (11, dfX13))] H.size) [] := ⟨fun i j p q h => by simp at h, fun k q h => by simp at h⟩
  obtain ⟨hP, hD⟩ := va_join (wr := [(h0, .inr (12, dfX14_181)), (q_4, .inl (cA_5, 16000, .inl (fun _ => 0))), (q_7, .inr (13, [])), (q_123, .inl (cA_124, 8, .inr (.inl (fun _ => 0))))]) (w1 := []) hP hD [4] [0, 1, 2, 3] rfl rfl (by decide) (by decide) hk9 hFc hP1 hD1
  generalize H1 = H at hP hS ⊢
  have hP : va_P (dC, dI) cl0 [(h0, .inr (12, dfX14_181)), (q_4, .inl (cA_5, 16000, .inl (fun _ => 0))), (q_7, .inr (13, [])), (q_123, .inl (cA_124, 8, .inr (.inl (fun _ => 0))))] H := hP
  have hD : va_D A [(h0, .inr (12, dfX14_181)), (q_4, .inl (cA_5, 16000, .inl (fun _ => 0))), (q_7, .inr (13, [])), (q_123, .inl (cA_124, 8, .inr (.inl (fun _ => 0))))] := hD
  refine W.widen (k := 73) (n := 712663) (by omega) (by omega) ?_
  refine va_putF (D := (dC, dI)) (ci := 12) (v := .ref q_182) (ty := (.object "CodeFoundryModel$File")) (C := RX14) (T := TX14) (N := 143) hx hb hts inX14 tyX14 tyX14_ok nmX14 hown hK hP hD hS 0 rfl rfl 118 (by decide) (hts _ kw_347) (fun _ h9 => h9) rfl hin rfl (by decide +kernel) rfl rfl (by rw [L_dfX14_181]; decide) dX14_init_550 (fun H locs hP hD hS => ?_)
  obtain ⟨dfX14_183, e_dfX14_183⟩ : ∃ z, z = dfX14_181.set 118 (.ref q_182) := ⟨_, rfl⟩
  have hP : va_P (dC, dI) cl0 [(h0, .inr (12, dfX14_183)), (q_4, .inl (cA_5, 16000, .inl (fun _ => 0))), (q_7, .inr (13, [])), (q_123, .inl (cA_124, 8, .inr (.inl (fun _ => 0))))] H := by rw [e_dfX14_183]; exact hP
  have hD : va_D A [(h0, .inr (12, dfX14_183)), (q_4, .inl (cA_5, 16000, .inl (fun _ => 0))), (q_7, .inr (13, [])), (q_123, .inl (cA_124, 8, .inr (.inl (fun _ => 0))))] := by rw [e_dfX14_183]; exact hD
  have L_dfX14_183 : dfX14_183.length = 143 := fx_len e_dfX14_183 L_dfX14_181
  have g_dfX14_183_1 := fx_ne (j := 1) e_dfX14_183 g_dfX14_181_1 (by decide)
  have g_dfX14_183_4 := fx_ne (j := 4) e_dfX14_183 g_dfX14_181_4 (by decide)
  have g_dfX14_183_5 := fx_ne (j := 5) e_dfX14_183 g_dfX14_181_5 (by decide)
  have g_dfX14_183_9 := fx_ne (j := 9) e_dfX14_183 g_dfX14_181_9 (by decide)
  have g_dfX14_183_78 := fx_ne (j := 78) e_dfX14_183 g_dfX14_181_78 (by decide)
  have g_dfX14_183_80 := fx_ne (j := 80) e_dfX14_183 g_dfX14_181_80 (by decide)
  have g_dfX14_183_85 := fx_ne (j := 85) e_dfX14_183 g_dfX14_181_85 (by decide)
  have g_dfX14_183_88 := fx_ne (j := 88) e_dfX14_183 g_dfX14_181_88 (by decide)
  have g_dfX14_183_96 := fx_ne (j := 96) e_dfX14_183 g_dfX14_181_96 (by decide)
  have g_dfX14_183_100 := fx_ne (j := 100) e_dfX14_183 g_dfX14_181_100 (by decide)
  have g_dfX14_183_101 := fx_ne (j := 101) e_dfX14_183 g_dfX14_181_101 (by decide)
  have g_dfX14_183_3 := fx_ne (j := 3) e_dfX14_183 g_dfX14_181_3 (by decide)
  have g_dfX14_183_6 := fx_ne (j := 6) e_dfX14_183 g_dfX14_181_6 (by decide)
  have g_dfX14_183_10 := fx_ne (j := 10) e_dfX14_183 g_dfX14_181_10 (by decide)
  have g_dfX14_183_64 := fx_ne (j := 64) e_dfX14_183 g_dfX14_181_64 (by decide)
  have g_dfX14_183_65 := fx_ne (j := 65) e_dfX14_183 g_dfX14_181_65 (by decide)
  have g_dfX14_183_87 := fx_ne (j := 87) e_dfX14_183 g_dfX14_181_87 (by decide)
  have g_dfX14_183_102 := fx_ne (j := 102) e_dfX14_183 g_dfX14_181_102 (by decide)
  refine lv_aload_n hx hb dX14_init_553 rfl (lv_at hl 0 rfl) ?_
  refine lv_ldc hx hb hown (hts _ kw_348) dX14_init_554 ?_
  refine va_newa (atype := .int) (ty := .int) (a0 := (87000, .inl (fun _ => 0))) (N' := 87000) hx hb (hts (.arrayClass .int) kw_6) rfl hK hP hD hS hA (fun _ => rfl) (by decide) (by decide) (by decide) (Nat.le_of_ble_eq_true rfl) (Nat.le_of_ble_eq_true rfl) dX14_init_556 (fun q_184 cA_185 H hK hP hD hS => ?_)
  have hP := hP.sub (ws' := [(h0, .inr (12, dfX14_183)), (q_4, .inl (cA_5, 16000, .inl (fun _ => 0))), (q_7, .inr (13, [])), (q_123, .inl (cA_124, 8, .inr (.inl (fun _ => 0))))]) [0, 1, 2, 3] rfl
  have hD := hD.sub (ws' := [(h0, .inr (12, dfX14_183)), (q_4, .inl (cA_5, 16000, .inl (fun _ => 0))), (q_7, .inr (13, [])), (q_123, .inl (cA_124, 8, .inr (.inl (fun _ => 0))))]) [0, 1, 2, 3] (by decide) rfl
  have hK := hK.sub (tys' := [(cA_5, .byte), (cA_124, .long)]) [0, 1] rfl
  refine W.widen (k := 74) (n := 799663) (Nat.le_of_ble_eq_true rfl) (Nat.le_of_ble_eq_true rfl) ?_
  refine va_putF (D := (dC, dI)) (ci := 12) (v := .ref q_184) (ty := (.array .int)) (C := RX14) (T := TX14) (N := 143) hx hb hts inX14 tyX14 tyX14_ok nmX14 hown hK hP hD hS 0 rfl rfl 119 (by decide) (hts _ kw_349) (fun _ h9 => h9) rfl hin rfl (by decide +kernel) rfl rfl (by rw [L_dfX14_183]; decide) dX14_init_558 (fun H locs hP hD hS => ?_)
  obtain ⟨dfX14_186, e_dfX14_186⟩ : ∃ z, z = dfX14_183.set 119 (.ref q_184) := ⟨_, rfl⟩
  have hP : va_P (dC, dI) cl0 [(h0, .inr (12, dfX14_186)), (q_4, .inl (cA_5, 16000, .inl (fun _ => 0))), (q_7, .inr (13, [])), (q_123, .inl (cA_124, 8, .inr (.inl (fun _ => 0))))] H := by rw [e_dfX14_186]; exact hP
  have hD : va_D A [(h0, .inr (12, dfX14_186)), (q_4, .inl (cA_5, 16000, .inl (fun _ => 0))), (q_7, .inr (13, [])), (q_123, .inl (cA_124, 8, .inr (.inl (fun _ => 0))))] := by rw [e_dfX14_186]; exact hD
  have L_dfX14_186 : dfX14_186.length = 143 := fx_len e_dfX14_186 L_dfX14_183
  have g_dfX14_186_1 := fx_ne (j := 1) e_dfX14_186 g_dfX14_183_1 (by decide)
  have g_dfX14_186_4 := fx_ne (j := 4) e_dfX14_186 g_dfX14_183_4 (by decide)
  have g_dfX14_186_5 := fx_ne (j := 5) e_dfX14_186 g_dfX14_183_5 (by decide)
  have g_dfX14_186_9 := fx_ne (j := 9) e_dfX14_186 g_dfX14_183_9 (by decide)
  have g_dfX14_186_78 := fx_ne (j := 78) e_dfX14_186 g_dfX14_183_78 (by decide)
  have g_dfX14_186_80 := fx_ne (j := 80) e_dfX14_186 g_dfX14_183_80 (by decide)
  have g_dfX14_186_85 := fx_ne (j := 85) e_dfX14_186 g_dfX14_183_85 (by decide)
  have g_dfX14_186_88 := fx_ne (j := 88) e_dfX14_186 g_dfX14_183_88 (by decide)
  have g_dfX14_186_96 := fx_ne (j := 96) e_dfX14_186 g_dfX14_183_96 (by decide)
  have g_dfX14_186_100 := fx_ne (j := 100) e_dfX14_186 g_dfX14_183_100 (by decide)
  have g_dfX14_186_101 := fx_ne (j := 101) e_dfX14_186 g_dfX14_183_101 (by decide)
  have g_dfX14_186_3 := fx_ne (j := 3) e_dfX14_186 g_dfX14_183_3 (by decide)
  have g_dfX14_186_6 := fx_ne (j := 6) e_dfX14_186 g_dfX14_183_6 (by decide)
  have g_dfX14_186_10 := fx_ne (j := 10) e_dfX14_186 g_dfX14_183_10 (by decide)
  have g_dfX14_186_64 := fx_ne (j := 64) e_dfX14_186 g_dfX14_183_64 (by decide)
  have g_dfX14_186_65 := fx_ne (j := 65) e_dfX14_186 g_dfX14_183_65 (by decide)
  have g_dfX14_186_87 := fx_ne (j := 87) e_dfX14_186 g_dfX14_183_87 (by decide)
  have g_dfX14_186_102 := fx_ne (j := 102) e_dfX14_186 g_dfX14_183_102 (by decide)
  refine lv_aload_n hx hb dX14_init_561 rfl (lv_at hl 0 rfl) ?_
  refine lv_ldc hx hb hown (hts _ kw_292) dX14_init_562 ?_
  refine va_newa (atype := .int) (ty := .int) (a0 := (40000, .inl (fun _ => 0))) (N' := 40000) hx hb (hts (.arrayClass .int) kw_6) rfl hK hP hD hS hA (fun _ => rfl) (by decide) (by decide) (by decide) (Nat.le_of_ble_eq_true rfl) (Nat.le_of_ble_eq_true rfl) dX14_init_564 (fun q_187 cA_188 H hK hP hD hS => ?_)
  have hP := hP.sub (ws' := [(h0, .inr (12, dfX14_186)), (q_4, .inl (cA_5, 16000, .inl (fun _ => 0))), (q_7, .inr (13, [])), (q_123, .inl (cA_124, 8, .inr (.inl (fun _ => 0))))]) [0, 1, 2, 3] rfl
  have hD := hD.sub (ws' := [(h0, .inr (12, dfX14_186)), (q_4, .inl (cA_5, 16000, .inl (fun _ => 0))), (q_7, .inr (13, [])), (q_123, .inl (cA_124, 8, .inr (.inl (fun _ => 0))))]) [0, 1, 2, 3] (by decide) rfl
  have hK := hK.sub (tys' := [(cA_5, .byte), (cA_124, .long)]) [0, 1] rfl
  refine W.widen (k := 75) (n := 839663) (Nat.le_of_ble_eq_true rfl) (Nat.le_of_ble_eq_true rfl) ?_
  refine va_putF (D := (dC, dI)) (ci := 12) (v := .ref q_187) (ty := (.array .int)) (C := RX14) (T := TX14) (N := 143) hx hb hts inX14 tyX14 tyX14_ok nmX14 hown hK hP hD hS 0 rfl rfl 120 (by decide) (hts _ kw_350) (fun _ h9 => h9) rfl hin rfl (by decide +kernel) rfl rfl (by rw [L_dfX14_186]; decide) dX14_init_566 (fun H locs hP hD hS => ?_)
  obtain ⟨dfX14_189, e_dfX14_189⟩ : ∃ z, z = dfX14_186.set 120 (.ref q_187) := ⟨_, rfl⟩
  have hP : va_P (dC, dI) cl0 [(h0, .inr (12, dfX14_189)), (q_4, .inl (cA_5, 16000, .inl (fun _ => 0))), (q_7, .inr (13, [])), (q_123, .inl (cA_124, 8, .inr (.inl (fun _ => 0))))] H := by rw [e_dfX14_189]; exact hP
  have hD : va_D A [(h0, .inr (12, dfX14_189)), (q_4, .inl (cA_5, 16000, .inl (fun _ => 0))), (q_7, .inr (13, [])), (q_123, .inl (cA_124, 8, .inr (.inl (fun _ => 0))))] := by rw [e_dfX14_189]; exact hD
  have L_dfX14_189 : dfX14_189.length = 143 := fx_len e_dfX14_189 L_dfX14_186
  have g_dfX14_189_1 := fx_ne (j := 1) e_dfX14_189 g_dfX14_186_1 (by decide)
  have g_dfX14_189_4 := fx_ne (j := 4) e_dfX14_189 g_dfX14_186_4 (by decide)
  have g_dfX14_189_5 := fx_ne (j := 5) e_dfX14_189 g_dfX14_186_5 (by decide)
  have g_dfX14_189_9 := fx_ne (j := 9) e_dfX14_189 g_dfX14_186_9 (by decide)
  have g_dfX14_189_78 := fx_ne (j := 78) e_dfX14_189 g_dfX14_186_78 (by decide)
  have g_dfX14_189_80 := fx_ne (j := 80) e_dfX14_189 g_dfX14_186_80 (by decide)
  have g_dfX14_189_85 := fx_ne (j := 85) e_dfX14_189 g_dfX14_186_85 (by decide)
  have g_dfX14_189_88 := fx_ne (j := 88) e_dfX14_189 g_dfX14_186_88 (by decide)
  have g_dfX14_189_96 := fx_ne (j := 96) e_dfX14_189 g_dfX14_186_96 (by decide)
  have g_dfX14_189_100 := fx_ne (j := 100) e_dfX14_189 g_dfX14_186_100 (by decide)
  have g_dfX14_189_101 := fx_ne (j := 101) e_dfX14_189 g_dfX14_186_101 (by decide)
  have g_dfX14_189_3 := fx_ne (j := 3) e_dfX14_189 g_dfX14_186_3 (by decide)
  have g_dfX14_189_6 := fx_ne (j := 6) e_dfX14_189 g_dfX14_186_6 (by decide)
  have g_dfX14_189_10 := fx_ne (j := 10) e_dfX14_189 g_dfX14_186_10 (by decide)
  have g_dfX14_189_64 := fx_ne (j := 64) e_dfX14_189 g_dfX14_186_64 (by decide)
  have g_dfX14_189_65 := fx_ne (j := 65) e_dfX14_189 g_dfX14_186_65 (by decide)
  have g_dfX14_189_87 := fx_ne (j := 87) e_dfX14_189 g_dfX14_186_87 (by decide)
  have g_dfX14_189_102 := fx_ne (j := 102) e_dfX14_189 g_dfX14_186_102 (by decide)
  refine lv_aload_n hx hb dX14_init_569 rfl (lv_at hl 0 rfl) ?_
  refine lv_sipush (v := 1536) hx hb dX14_init_570 (by decide) ?_
  refine va_newa (atype := .int) (ty := .int) (a0 := (1536, .inl (fun _ => 0))) (N' := 1536) hx hb (hts (.arrayClass .int) kw_6) rfl hK hP hD hS hA (fun _ => rfl) (by decide) (by decide) (by decide) (Nat.le_of_ble_eq_true rfl) (Nat.le_of_ble_eq_true rfl) dX14_init_573 (fun q_190 cA_191 H hK hP hD hS => ?_)
  have hP := hP.sub (ws' := [(h0, .inr (12, dfX14_189)), (q_4, .inl (cA_5, 16000, .inl (fun _ => 0))), (q_7, .inr (13, [])), (q_123, .inl (cA_124, 8, .inr (.inl (fun _ => 0))))]) [0, 1, 2, 3] rfl
  have hD := hD.sub (ws' := [(h0, .inr (12, dfX14_189)), (q_4, .inl (cA_5, 16000, .inl (fun _ => 0))), (q_7, .inr (13, [])), (q_123, .inl (cA_124, 8, .inr (.inl (fun _ => 0))))]) [0, 1, 2, 3] (by decide) rfl
  have hK := hK.sub (tys' := [(cA_5, .byte), (cA_124, .long)]) [0, 1] rfl
  refine W.widen (k := 76) (n := 841199) (Nat.le_of_ble_eq_true rfl) (Nat.le_of_ble_eq_true rfl) ?_
  refine va_putF (D := (dC, dI)) (ci := 12) (v := .ref q_190) (ty := (.array .int)) (C := RX14) (T := TX14) (N := 143) hx hb hts inX14 tyX14 tyX14_ok nmX14 hown hK hP hD hS 0 rfl rfl 121 (by decide) (hts _ kw_351) (fun _ h9 => h9) rfl hin rfl (by decide +kernel) rfl rfl (by rw [L_dfX14_189]; decide) dX14_init_575 (fun H locs hP hD hS => ?_)
  obtain ⟨dfX14_192, e_dfX14_192⟩ : ∃ z, z = dfX14_189.set 121 (.ref q_190) := ⟨_, rfl⟩
  have hP : va_P (dC, dI) cl0 [(h0, .inr (12, dfX14_192)), (q_4, .inl (cA_5, 16000, .inl (fun _ => 0))), (q_7, .inr (13, [])), (q_123, .inl (cA_124, 8, .inr (.inl (fun _ => 0))))] H := by rw [e_dfX14_192]; exact hP
  have hD : va_D A [(h0, .inr (12, dfX14_192)), (q_4, .inl (cA_5, 16000, .inl (fun _ => 0))), (q_7, .inr (13, [])), (q_123, .inl (cA_124, 8, .inr (.inl (fun _ => 0))))] := by rw [e_dfX14_192]; exact hD
  have L_dfX14_192 : dfX14_192.length = 143 := fx_len e_dfX14_192 L_dfX14_189
  have g_dfX14_192_1 := fx_ne (j := 1) e_dfX14_192 g_dfX14_189_1 (by decide)
  have g_dfX14_192_4 := fx_ne (j := 4) e_dfX14_192 g_dfX14_189_4 (by decide)
  have g_dfX14_192_5 := fx_ne (j := 5) e_dfX14_192 g_dfX14_189_5 (by decide)
  have g_dfX14_192_9 := fx_ne (j := 9) e_dfX14_192 g_dfX14_189_9 (by decide)
  have g_dfX14_192_78 := fx_ne (j := 78) e_dfX14_192 g_dfX14_189_78 (by decide)
  have g_dfX14_192_80 := fx_ne (j := 80) e_dfX14_192 g_dfX14_189_80 (by decide)
  have g_dfX14_192_85 := fx_ne (j := 85) e_dfX14_192 g_dfX14_189_85 (by decide)
  have g_dfX14_192_88 := fx_ne (j := 88) e_dfX14_192 g_dfX14_189_88 (by decide)
  have g_dfX14_192_96 := fx_ne (j := 96) e_dfX14_192 g_dfX14_189_96 (by decide)
  have g_dfX14_192_100 := fx_ne (j := 100) e_dfX14_192 g_dfX14_189_100 (by decide)
  have g_dfX14_192_101 := fx_ne (j := 101) e_dfX14_192 g_dfX14_189_101 (by decide)
  have g_dfX14_192_3 := fx_ne (j := 3) e_dfX14_192 g_dfX14_189_3 (by decide)
  have g_dfX14_192_6 := fx_ne (j := 6) e_dfX14_192 g_dfX14_189_6 (by decide)
  have g_dfX14_192_10 := fx_ne (j := 10) e_dfX14_192 g_dfX14_189_10 (by decide)
  have g_dfX14_192_64 := fx_ne (j := 64) e_dfX14_192 g_dfX14_189_64 (by decide)
  have g_dfX14_192_65 := fx_ne (j := 65) e_dfX14_192 g_dfX14_189_65 (by decide)
  have g_dfX14_192_87 := fx_ne (j := 87) e_dfX14_192 g_dfX14_189_87 (by decide)
  have g_dfX14_192_102 := fx_ne (j := 102) e_dfX14_192 g_dfX14_189_102 (by decide)
  refine lv_aload_n hx hb dX14_init_578 rfl (lv_at hl 0 rfl) ?_
  refine lv_bipush (v := 12) hx hb dX14_init_579 (by decide) ?_
  refine va_newa (atype := .int) (ty := .int) (a0 := (12, .inl (fun _ => 0))) (N' := 12) hx hb (hts (.arrayClass .int) kw_6) rfl hK hP hD hS hA (fun _ => rfl) (by decide) (by decide) (by decide) (Nat.le_of_ble_eq_true rfl) (Nat.le_of_ble_eq_true rfl) dX14_init_581 (fun q_193 cA_194 H hK hP hD hS => ?_)
  have hP : va_P (dC, dI) cl0 [(h0, .inr (12, dfX14_192)), (q_4, .inl (cA_5, 16000, .inl (fun _ => 0))), (q_7, .inr (13, [])), (q_123, .inl (cA_124, 8, .inr (.inl (fun _ => 0)))), (q_193, .inl (cA_194, 12, .inl (fun _ => 0)))] H := hP
  have hD : va_D A [(h0, .inr (12, dfX14_192)), (q_4, .inl (cA_5, 16000, .inl (fun _ => 0))), (q_7, .inr (13, [])), (q_123, .inl (cA_124, 8, .inr (.inl (fun _ => 0)))), (q_193, .inl (cA_194, 12, .inl (fun _ => 0)))] := hD
  have hK : va_K (dC, dI) cl0 [(cA_5, .byte), (cA_124, .long), (cA_194, .int)] s := hK
  refine W.widen (k := 77) (n := 841211) (Nat.le_of_ble_eq_true rfl) (Nat.le_of_ble_eq_true rfl) ?_
  refine va_putF (D := (dC, dI)) (ci := 12) (v := .ref q_193) (ty := (.array .int)) (C := RX14) (T := TX14) (N := 143) hx hb hts inX14 tyX14 tyX14_ok nmX14 hown hK hP hD hS 0 rfl rfl 124 (by decide) (hts _ kw_352) (fun _ h9 => h9) rfl hin rfl (by decide +kernel) rfl rfl (by rw [L_dfX14_192]; decide) dX14_init_583 (fun H locs hP hD hS => ?_)
  obtain ⟨dfX14_195, e_dfX14_195⟩ : ∃ z, z = dfX14_192.set 124 (.ref q_193) := ⟨_, rfl⟩
  have hP : va_P (dC, dI) cl0 [(h0, .inr (12, dfX14_195)), (q_4, .inl (cA_5, 16000, .inl (fun _ => 0))), (q_7, .inr (13, [])), (q_123, .inl (cA_124, 8, .inr (.inl (fun _ => 0)))), (q_193, .inl (cA_194, 12, .inl (fun _ => 0)))] H := by rw [e_dfX14_195]; exact hP
  have hD : va_D A [(h0, .inr (12, dfX14_195)), (q_4, .inl (cA_5, 16000, .inl (fun _ => 0))), (q_7, .inr (13, [])), (q_123, .inl (cA_124, 8, .inr (.inl (fun _ => 0)))), (q_193, .inl (cA_194, 12, .inl (fun _ => 0)))] := by rw [e_dfX14_195]; exact hD
  have L_dfX14_195 : dfX14_195.length = 143 := fx_len e_dfX14_195 L_dfX14_192
  have g_dfX14_195_1 := fx_ne (j := 1) e_dfX14_195 g_dfX14_192_1 (by decide)
  have g_dfX14_195_4 := fx_ne (j := 4) e_dfX14_195 g_dfX14_192_4 (by decide)
  have g_dfX14_195_5 := fx_ne (j := 5) e_dfX14_195 g_dfX14_192_5 (by decide)
  have g_dfX14_195_9 := fx_ne (j := 9) e_dfX14_195 g_dfX14_192_9 (by decide)
  have g_dfX14_195_78 := fx_ne (j := 78) e_dfX14_195 g_dfX14_192_78 (by decide)
  have g_dfX14_195_80 := fx_ne (j := 80) e_dfX14_195 g_dfX14_192_80 (by decide)
  have g_dfX14_195_85 := fx_ne (j := 85) e_dfX14_195 g_dfX14_192_85 (by decide)
  have g_dfX14_195_88 := fx_ne (j := 88) e_dfX14_195 g_dfX14_192_88 (by decide)
  have g_dfX14_195_96 := fx_ne (j := 96) e_dfX14_195 g_dfX14_192_96 (by decide)
  have g_dfX14_195_100 := fx_ne (j := 100) e_dfX14_195 g_dfX14_192_100 (by decide)
  have g_dfX14_195_101 := fx_ne (j := 101) e_dfX14_195 g_dfX14_192_101 (by decide)
  have g_dfX14_195_3 := fx_ne (j := 3) e_dfX14_195 g_dfX14_192_3 (by decide)
  have g_dfX14_195_6 := fx_ne (j := 6) e_dfX14_195 g_dfX14_192_6 (by decide)
  have g_dfX14_195_10 := fx_ne (j := 10) e_dfX14_195 g_dfX14_192_10 (by decide)
  have g_dfX14_195_64 := fx_ne (j := 64) e_dfX14_195 g_dfX14_192_64 (by decide)
  have g_dfX14_195_65 := fx_ne (j := 65) e_dfX14_195 g_dfX14_192_65 (by decide)
  have g_dfX14_195_87 := fx_ne (j := 87) e_dfX14_195 g_dfX14_192_87 (by decide)
  have g_dfX14_195_102 := fx_ne (j := 102) e_dfX14_195 g_dfX14_192_102 (by decide)
  have g_dfX14_195_124 := fx_self e_dfX14_195 (by rw [L_dfX14_192]; decide)
  refine lv_aload_n hx hb dX14_init_586 rfl (lv_at hl 0 rfl) ?_
  refine lv_sipush (v := 1200) hx hb dX14_init_587 (by decide) ?_
  refine va_newa (atype := .int) (ty := .int) (a0 := (1200, .inl (fun _ => 0))) (N' := 1200) hx hb (hts (.arrayClass .int) kw_6) rfl hK hP hD hS hA (fun _ => rfl) (by decide) (by decide) (by decide) (Nat.le_of_ble_eq_true rfl) (Nat.le_of_ble_eq_true rfl) dX14_init_590 (fun q_196 cA_197 H hK hP hD hS => ?_)
  have hP := hP.sub (ws' := [(h0, .inr (12, dfX14_195)), (q_4, .inl (cA_5, 16000, .inl (fun _ => 0))), (q_7, .inr (13, [])), (q_123, .inl (cA_124, 8, .inr (.inl (fun _ => 0)))), (q_193, .inl (cA_194, 12, .inl (fun _ => 0)))]) [0, 1, 2, 3, 4] rfl
  have hD := hD.sub (ws' := [(h0, .inr (12, dfX14_195)), (q_4, .inl (cA_5, 16000, .inl (fun _ => 0))), (q_7, .inr (13, [])), (q_123, .inl (cA_124, 8, .inr (.inl (fun _ => 0)))), (q_193, .inl (cA_194, 12, .inl (fun _ => 0)))]) [0, 1, 2, 3, 4] (by decide) rfl
  have hK := hK.sub (tys' := [(cA_5, .byte), (cA_124, .long), (cA_194, .int)]) [0, 1, 2] rfl
  refine W.widen (k := 78) (n := 842411) (Nat.le_of_ble_eq_true rfl) (Nat.le_of_ble_eq_true rfl) ?_
  refine va_putF (D := (dC, dI)) (ci := 12) (v := .ref q_196) (ty := (.array .int)) (C := RX14) (T := TX14) (N := 143) hx hb hts inX14 tyX14 tyX14_ok nmX14 hown hK hP hD hS 0 rfl rfl 125 (by decide) (hts _ kw_353) (fun _ h9 => h9) rfl hin rfl (by decide +kernel) rfl rfl (by rw [L_dfX14_195]; decide) dX14_init_592 (fun H locs hP hD hS => ?_)
  obtain ⟨dfX14_198, e_dfX14_198⟩ : ∃ z, z = dfX14_195.set 125 (.ref q_196) := ⟨_, rfl⟩
  have hP : va_P (dC, dI) cl0 [(h0, .inr (12, dfX14_198)), (q_4, .inl (cA_5, 16000, .inl (fun _ => 0))), (q_7, .inr (13, [])), (q_123, .inl (cA_124, 8, .inr (.inl (fun _ => 0)))), (q_193, .inl (cA_194, 12, .inl (fun _ => 0)))] H := by rw [e_dfX14_198]; exact hP
  have hD : va_D A [(h0, .inr (12, dfX14_198)), (q_4, .inl (cA_5, 16000, .inl (fun _ => 0))), (q_7, .inr (13, [])), (q_123, .inl (cA_124, 8, .inr (.inl (fun _ => 0)))), (q_193, .inl (cA_194, 12, .inl (fun _ => 0)))] := by rw [e_dfX14_198]; exact hD
  have L_dfX14_198 : dfX14_198.length = 143 := fx_len e_dfX14_198 L_dfX14_195
  have g_dfX14_198_1 := fx_ne (j := 1) e_dfX14_198 g_dfX14_195_1 (by decide)
  have g_dfX14_198_4 := fx_ne (j := 4) e_dfX14_198 g_dfX14_195_4 (by decide)
  have g_dfX14_198_5 := fx_ne (j := 5) e_dfX14_198 g_dfX14_195_5 (by decide)
  have g_dfX14_198_9 := fx_ne (j := 9) e_dfX14_198 g_dfX14_195_9 (by decide)
  have g_dfX14_198_78 := fx_ne (j := 78) e_dfX14_198 g_dfX14_195_78 (by decide)
  have g_dfX14_198_80 := fx_ne (j := 80) e_dfX14_198 g_dfX14_195_80 (by decide)
  have g_dfX14_198_85 := fx_ne (j := 85) e_dfX14_198 g_dfX14_195_85 (by decide)
  have g_dfX14_198_88 := fx_ne (j := 88) e_dfX14_198 g_dfX14_195_88 (by decide)
  have g_dfX14_198_96 := fx_ne (j := 96) e_dfX14_198 g_dfX14_195_96 (by decide)
  have g_dfX14_198_100 := fx_ne (j := 100) e_dfX14_198 g_dfX14_195_100 (by decide)
  have g_dfX14_198_101 := fx_ne (j := 101) e_dfX14_198 g_dfX14_195_101 (by decide)
  have g_dfX14_198_3 := fx_ne (j := 3) e_dfX14_198 g_dfX14_195_3 (by decide)
  have g_dfX14_198_6 := fx_ne (j := 6) e_dfX14_198 g_dfX14_195_6 (by decide)
  have g_dfX14_198_10 := fx_ne (j := 10) e_dfX14_198 g_dfX14_195_10 (by decide)
  have g_dfX14_198_64 := fx_ne (j := 64) e_dfX14_198 g_dfX14_195_64 (by decide)
  have g_dfX14_198_65 := fx_ne (j := 65) e_dfX14_198 g_dfX14_195_65 (by decide)
  have g_dfX14_198_87 := fx_ne (j := 87) e_dfX14_198 g_dfX14_195_87 (by decide)
  have g_dfX14_198_102 := fx_ne (j := 102) e_dfX14_198 g_dfX14_195_102 (by decide)
  have g_dfX14_198_124 := fx_ne (j := 124) e_dfX14_198 g_dfX14_195_124 (by decide)
  refine lv_aload_n hx hb dX14_init_595 rfl (lv_at hl 0 rfl) ?_
  refine lv_sipush (v := 1200) hx hb dX14_init_596 (by decide) ?_
  refine va_newa (atype := .int) (ty := .int) (a0 := (1200, .inl (fun _ => 0))) (N' := 1200) hx hb (hts (.arrayClass .int) kw_6) rfl hK hP hD hS hA (fun _ => rfl) (by decide) (by decide) (by decide) (Nat.le_of_ble_eq_true rfl) (Nat.le_of_ble_eq_true rfl) dX14_init_599 (fun q_199 cA_200 H hK hP hD hS => ?_)
  have hP := hP.sub (ws' := [(h0, .inr (12, dfX14_198)), (q_4, .inl (cA_5, 16000, .inl (fun _ => 0))), (q_7, .inr (13, [])), (q_123, .inl (cA_124, 8, .inr (.inl (fun _ => 0)))), (q_193, .inl (cA_194, 12, .inl (fun _ => 0)))]) [0, 1, 2, 3, 4] rfl
  have hD := hD.sub (ws' := [(h0, .inr (12, dfX14_198)), (q_4, .inl (cA_5, 16000, .inl (fun _ => 0))), (q_7, .inr (13, [])), (q_123, .inl (cA_124, 8, .inr (.inl (fun _ => 0)))), (q_193, .inl (cA_194, 12, .inl (fun _ => 0)))]) [0, 1, 2, 3, 4] (by decide) rfl
  have hK := hK.sub (tys' := [(cA_5, .byte), (cA_124, .long), (cA_194, .int)]) [0, 1, 2] rfl
  refine W.widen (k := 79) (n := 843611) (Nat.le_of_ble_eq_true rfl) (Nat.le_of_ble_eq_true rfl) ?_
  refine va_putF (D := (dC, dI)) (ci := 12) (v := .ref q_199) (ty := (.array .int)) (C := RX14) (T := TX14) (N := 143) hx hb hts inX14 tyX14 tyX14_ok nmX14 hown hK hP hD hS 0 rfl rfl 126 (by decide) (hts _ kw_354) (fun _ h9 => h9) rfl hin rfl (by decide +kernel) rfl rfl (by rw [L_dfX14_198]; decide) dX14_init_601 (fun H locs hP hD hS => ?_)
  obtain ⟨dfX14_201, e_dfX14_201⟩ : ∃ z, z = dfX14_198.set 126 (.ref q_199) := ⟨_, rfl⟩
  have hP : va_P (dC, dI) cl0 [(h0, .inr (12, dfX14_201)), (q_4, .inl (cA_5, 16000, .inl (fun _ => 0))), (q_7, .inr (13, [])), (q_123, .inl (cA_124, 8, .inr (.inl (fun _ => 0)))), (q_193, .inl (cA_194, 12, .inl (fun _ => 0)))] H := by rw [e_dfX14_201]; exact hP
  have hD : va_D A [(h0, .inr (12, dfX14_201)), (q_4, .inl (cA_5, 16000, .inl (fun _ => 0))), (q_7, .inr (13, [])), (q_123, .inl (cA_124, 8, .inr (.inl (fun _ => 0)))), (q_193, .inl (cA_194, 12, .inl (fun _ => 0)))] := by rw [e_dfX14_201]; exact hD
  have L_dfX14_201 : dfX14_201.length = 143 := fx_len e_dfX14_201 L_dfX14_198
  have g_dfX14_201_1 := fx_ne (j := 1) e_dfX14_201 g_dfX14_198_1 (by decide)
  have g_dfX14_201_4 := fx_ne (j := 4) e_dfX14_201 g_dfX14_198_4 (by decide)
  have g_dfX14_201_5 := fx_ne (j := 5) e_dfX14_201 g_dfX14_198_5 (by decide)
  have g_dfX14_201_9 := fx_ne (j := 9) e_dfX14_201 g_dfX14_198_9 (by decide)
  have g_dfX14_201_78 := fx_ne (j := 78) e_dfX14_201 g_dfX14_198_78 (by decide)
  have g_dfX14_201_80 := fx_ne (j := 80) e_dfX14_201 g_dfX14_198_80 (by decide)
  have g_dfX14_201_85 := fx_ne (j := 85) e_dfX14_201 g_dfX14_198_85 (by decide)
  have g_dfX14_201_88 := fx_ne (j := 88) e_dfX14_201 g_dfX14_198_88 (by decide)
  have g_dfX14_201_96 := fx_ne (j := 96) e_dfX14_201 g_dfX14_198_96 (by decide)
  have g_dfX14_201_100 := fx_ne (j := 100) e_dfX14_201 g_dfX14_198_100 (by decide)
  have g_dfX14_201_101 := fx_ne (j := 101) e_dfX14_201 g_dfX14_198_101 (by decide)
  have g_dfX14_201_3 := fx_ne (j := 3) e_dfX14_201 g_dfX14_198_3 (by decide)
  have g_dfX14_201_6 := fx_ne (j := 6) e_dfX14_201 g_dfX14_198_6 (by decide)
  have g_dfX14_201_10 := fx_ne (j := 10) e_dfX14_201 g_dfX14_198_10 (by decide)
  have g_dfX14_201_64 := fx_ne (j := 64) e_dfX14_201 g_dfX14_198_64 (by decide)
  have g_dfX14_201_65 := fx_ne (j := 65) e_dfX14_201 g_dfX14_198_65 (by decide)
  have g_dfX14_201_87 := fx_ne (j := 87) e_dfX14_201 g_dfX14_198_87 (by decide)
  have g_dfX14_201_102 := fx_ne (j := 102) e_dfX14_201 g_dfX14_198_102 (by decide)
  have g_dfX14_201_124 := fx_ne (j := 124) e_dfX14_201 g_dfX14_198_124 (by decide)
  refine lv_aload_n hx hb dX14_init_604 rfl (lv_at hl 0 rfl) ?_
  refine lv_sipush (v := 1200) hx hb dX14_init_605 (by decide) ?_
  refine va_newa (atype := .int) (ty := .int) (a0 := (1200, .inl (fun _ => 0))) (N' := 1200) hx hb (hts (.arrayClass .int) kw_6) rfl hK hP hD hS hA (fun _ => rfl) (by decide) (by decide) (by decide) (Nat.le_of_ble_eq_true rfl) (Nat.le_of_ble_eq_true rfl) dX14_init_608 (fun q_202 cA_203 H hK hP hD hS => ?_)
  have hP := hP.sub (ws' := [(h0, .inr (12, dfX14_201)), (q_4, .inl (cA_5, 16000, .inl (fun _ => 0))), (q_7, .inr (13, [])), (q_123, .inl (cA_124, 8, .inr (.inl (fun _ => 0)))), (q_193, .inl (cA_194, 12, .inl (fun _ => 0)))]) [0, 1, 2, 3, 4] rfl
  have hD := hD.sub (ws' := [(h0, .inr (12, dfX14_201)), (q_4, .inl (cA_5, 16000, .inl (fun _ => 0))), (q_7, .inr (13, [])), (q_123, .inl (cA_124, 8, .inr (.inl (fun _ => 0)))), (q_193, .inl (cA_194, 12, .inl (fun _ => 0)))]) [0, 1, 2, 3, 4] (by decide) rfl
  have hK := hK.sub (tys' := [(cA_5, .byte), (cA_124, .long), (cA_194, .int)]) [0, 1, 2] rfl
  refine W.widen (k := 80) (n := 844811) (Nat.le_of_ble_eq_true rfl) (Nat.le_of_ble_eq_true rfl) ?_
  refine va_putF (D := (dC, dI)) (ci := 12) (v := .ref q_202) (ty := (.array .int)) (C := RX14) (T := TX14) (N := 143) hx hb hts inX14 tyX14 tyX14_ok nmX14 hown hK hP hD hS 0 rfl rfl 127 (by decide) (hts _ kw_355) (fun _ h9 => h9) rfl hin rfl (by decide +kernel) rfl rfl (by rw [L_dfX14_201]; decide) dX14_init_610 (fun H locs hP hD hS => ?_)
  obtain ⟨dfX14_204, e_dfX14_204⟩ : ∃ z, z = dfX14_201.set 127 (.ref q_202) := ⟨_, rfl⟩
  have hP : va_P (dC, dI) cl0 [(h0, .inr (12, dfX14_204)), (q_4, .inl (cA_5, 16000, .inl (fun _ => 0))), (q_7, .inr (13, [])), (q_123, .inl (cA_124, 8, .inr (.inl (fun _ => 0)))), (q_193, .inl (cA_194, 12, .inl (fun _ => 0)))] H := by rw [e_dfX14_204]; exact hP
  have hD : va_D A [(h0, .inr (12, dfX14_204)), (q_4, .inl (cA_5, 16000, .inl (fun _ => 0))), (q_7, .inr (13, [])), (q_123, .inl (cA_124, 8, .inr (.inl (fun _ => 0)))), (q_193, .inl (cA_194, 12, .inl (fun _ => 0)))] := by rw [e_dfX14_204]; exact hD
  have L_dfX14_204 : dfX14_204.length = 143 := fx_len e_dfX14_204 L_dfX14_201
  have g_dfX14_204_1 := fx_ne (j := 1) e_dfX14_204 g_dfX14_201_1 (by decide)
  have g_dfX14_204_4 := fx_ne (j := 4) e_dfX14_204 g_dfX14_201_4 (by decide)
  have g_dfX14_204_5 := fx_ne (j := 5) e_dfX14_204 g_dfX14_201_5 (by decide)
  have g_dfX14_204_9 := fx_ne (j := 9) e_dfX14_204 g_dfX14_201_9 (by decide)
  have g_dfX14_204_78 := fx_ne (j := 78) e_dfX14_204 g_dfX14_201_78 (by decide)
  have g_dfX14_204_80 := fx_ne (j := 80) e_dfX14_204 g_dfX14_201_80 (by decide)
  have g_dfX14_204_85 := fx_ne (j := 85) e_dfX14_204 g_dfX14_201_85 (by decide)
  have g_dfX14_204_88 := fx_ne (j := 88) e_dfX14_204 g_dfX14_201_88 (by decide)
  have g_dfX14_204_96 := fx_ne (j := 96) e_dfX14_204 g_dfX14_201_96 (by decide)
  have g_dfX14_204_100 := fx_ne (j := 100) e_dfX14_204 g_dfX14_201_100 (by decide)
  have g_dfX14_204_101 := fx_ne (j := 101) e_dfX14_204 g_dfX14_201_101 (by decide)
  have g_dfX14_204_3 := fx_ne (j := 3) e_dfX14_204 g_dfX14_201_3 (by decide)
  have g_dfX14_204_6 := fx_ne (j := 6) e_dfX14_204 g_dfX14_201_6 (by decide)
  have g_dfX14_204_10 := fx_ne (j := 10) e_dfX14_204 g_dfX14_201_10 (by decide)
  have g_dfX14_204_64 := fx_ne (j := 64) e_dfX14_204 g_dfX14_201_64 (by decide)
  have g_dfX14_204_65 := fx_ne (j := 65) e_dfX14_204 g_dfX14_201_65 (by decide)
  have g_dfX14_204_87 := fx_ne (j := 87) e_dfX14_204 g_dfX14_201_87 (by decide)
  have g_dfX14_204_102 := fx_ne (j := 102) e_dfX14_204 g_dfX14_201_102 (by decide)
  have g_dfX14_204_124 := fx_ne (j := 124) e_dfX14_204 g_dfX14_201_124 (by decide)
  refine lv_aload_n hx hb dX14_init_613 rfl (lv_at hl 0 rfl) ?_
  refine lv_sipush (v := 1200) hx hb dX14_init_614 (by decide) ?_
  refine va_newa (atype := .boolean) (ty := .boolean) (a0 := (1200, .inl (fun _ => 0))) (N' := 1200) hx hb (hts (.arrayClass .boolean) kw_9) rfl hK hP hD hS hA (fun _ => rfl) (by decide) (by decide) (by decide) (Nat.le_of_ble_eq_true rfl) (Nat.le_of_ble_eq_true rfl) dX14_init_617 (fun q_205 cA_206 H hK hP hD hS => ?_)
  have hP := hP.sub (ws' := [(h0, .inr (12, dfX14_204)), (q_4, .inl (cA_5, 16000, .inl (fun _ => 0))), (q_7, .inr (13, [])), (q_123, .inl (cA_124, 8, .inr (.inl (fun _ => 0)))), (q_193, .inl (cA_194, 12, .inl (fun _ => 0)))]) [0, 1, 2, 3, 4] rfl
  have hD := hD.sub (ws' := [(h0, .inr (12, dfX14_204)), (q_4, .inl (cA_5, 16000, .inl (fun _ => 0))), (q_7, .inr (13, [])), (q_123, .inl (cA_124, 8, .inr (.inl (fun _ => 0)))), (q_193, .inl (cA_194, 12, .inl (fun _ => 0)))]) [0, 1, 2, 3, 4] (by decide) rfl
  have hK := hK.sub (tys' := [(cA_5, .byte), (cA_124, .long), (cA_194, .int)]) [0, 1, 2] rfl
  refine W.widen (k := 81) (n := 846011) (Nat.le_of_ble_eq_true rfl) (Nat.le_of_ble_eq_true rfl) ?_
  refine va_putF (D := (dC, dI)) (ci := 12) (v := .ref q_205) (ty := (.array .boolean)) (C := RX14) (T := TX14) (N := 143) hx hb hts inX14 tyX14 tyX14_ok nmX14 hown hK hP hD hS 0 rfl rfl 128 (by decide) (hts _ kw_356) (fun _ h9 => h9) rfl hin rfl (by decide +kernel) rfl rfl (by rw [L_dfX14_204]; decide) dX14_init_619 (fun H locs hP hD hS => ?_)
  obtain ⟨dfX14_207, e_dfX14_207⟩ : ∃ z, z = dfX14_204.set 128 (.ref q_205) := ⟨_, rfl⟩
  have hP : va_P (dC, dI) cl0 [(h0, .inr (12, dfX14_207)), (q_4, .inl (cA_5, 16000, .inl (fun _ => 0))), (q_7, .inr (13, [])), (q_123, .inl (cA_124, 8, .inr (.inl (fun _ => 0)))), (q_193, .inl (cA_194, 12, .inl (fun _ => 0)))] H := by rw [e_dfX14_207]; exact hP
  have hD : va_D A [(h0, .inr (12, dfX14_207)), (q_4, .inl (cA_5, 16000, .inl (fun _ => 0))), (q_7, .inr (13, [])), (q_123, .inl (cA_124, 8, .inr (.inl (fun _ => 0)))), (q_193, .inl (cA_194, 12, .inl (fun _ => 0)))] := by rw [e_dfX14_207]; exact hD
  have L_dfX14_207 : dfX14_207.length = 143 := fx_len e_dfX14_207 L_dfX14_204
  have g_dfX14_207_1 := fx_ne (j := 1) e_dfX14_207 g_dfX14_204_1 (by decide)
  have g_dfX14_207_4 := fx_ne (j := 4) e_dfX14_207 g_dfX14_204_4 (by decide)
  have g_dfX14_207_5 := fx_ne (j := 5) e_dfX14_207 g_dfX14_204_5 (by decide)
  have g_dfX14_207_9 := fx_ne (j := 9) e_dfX14_207 g_dfX14_204_9 (by decide)
  have g_dfX14_207_78 := fx_ne (j := 78) e_dfX14_207 g_dfX14_204_78 (by decide)
  have g_dfX14_207_80 := fx_ne (j := 80) e_dfX14_207 g_dfX14_204_80 (by decide)
  have g_dfX14_207_85 := fx_ne (j := 85) e_dfX14_207 g_dfX14_204_85 (by decide)
  have g_dfX14_207_88 := fx_ne (j := 88) e_dfX14_207 g_dfX14_204_88 (by decide)
  have g_dfX14_207_96 := fx_ne (j := 96) e_dfX14_207 g_dfX14_204_96 (by decide)
  have g_dfX14_207_100 := fx_ne (j := 100) e_dfX14_207 g_dfX14_204_100 (by decide)
  have g_dfX14_207_101 := fx_ne (j := 101) e_dfX14_207 g_dfX14_204_101 (by decide)
  have g_dfX14_207_3 := fx_ne (j := 3) e_dfX14_207 g_dfX14_204_3 (by decide)
  have g_dfX14_207_6 := fx_ne (j := 6) e_dfX14_207 g_dfX14_204_6 (by decide)
  have g_dfX14_207_10 := fx_ne (j := 10) e_dfX14_207 g_dfX14_204_10 (by decide)
  have g_dfX14_207_64 := fx_ne (j := 64) e_dfX14_207 g_dfX14_204_64 (by decide)
  have g_dfX14_207_65 := fx_ne (j := 65) e_dfX14_207 g_dfX14_204_65 (by decide)
  have g_dfX14_207_87 := fx_ne (j := 87) e_dfX14_207 g_dfX14_204_87 (by decide)
  have g_dfX14_207_102 := fx_ne (j := 102) e_dfX14_207 g_dfX14_204_102 (by decide)
  have g_dfX14_207_124 := fx_ne (j := 124) e_dfX14_207 g_dfX14_204_124 (by decide)
  refine lv_aload_n hx hb dX14_init_622 rfl (lv_at hl 0 rfl) ?_
  refine lv_bipush (v := 16) hx hb dX14_init_623 (by decide) ?_
  refine va_newa (atype := .int) (ty := .int) (a0 := (16, .inl (fun _ => 0))) (N' := 16) hx hb (hts (.arrayClass .int) kw_6) rfl hK hP hD hS hA (fun _ => rfl) (by decide) (by decide) (by decide) (Nat.le_of_ble_eq_true rfl) (Nat.le_of_ble_eq_true rfl) dX14_init_625 (fun q_208 cA_209 H hK hP hD hS => ?_)
  have hP := hP.sub (ws' := [(h0, .inr (12, dfX14_207)), (q_4, .inl (cA_5, 16000, .inl (fun _ => 0))), (q_7, .inr (13, [])), (q_123, .inl (cA_124, 8, .inr (.inl (fun _ => 0)))), (q_193, .inl (cA_194, 12, .inl (fun _ => 0)))]) [0, 1, 2, 3, 4] rfl
  have hD := hD.sub (ws' := [(h0, .inr (12, dfX14_207)), (q_4, .inl (cA_5, 16000, .inl (fun _ => 0))), (q_7, .inr (13, [])), (q_123, .inl (cA_124, 8, .inr (.inl (fun _ => 0)))), (q_193, .inl (cA_194, 12, .inl (fun _ => 0)))]) [0, 1, 2, 3, 4] (by decide) rfl
  have hK := hK.sub (tys' := [(cA_5, .byte), (cA_124, .long), (cA_194, .int)]) [0, 1, 2] rfl
  refine W.widen (k := 82) (n := 846027) (Nat.le_of_ble_eq_true rfl) (Nat.le_of_ble_eq_true rfl) ?_
  refine va_putF (D := (dC, dI)) (ci := 12) (v := .ref q_208) (ty := (.array .int)) (C := RX14) (T := TX14) (N := 143) hx hb hts inX14 tyX14 tyX14_ok nmX14 hown hK hP hD hS 0 rfl rfl 130 (by decide) (hts _ kw_357) (fun _ h9 => h9) rfl hin rfl (by decide +kernel) rfl rfl (by rw [L_dfX14_207]; decide) dX14_init_627 (fun H locs hP hD hS => ?_)
  obtain ⟨dfX14_210, e_dfX14_210⟩ : ∃ z, z = dfX14_207.set 130 (.ref q_208) := ⟨_, rfl⟩
  have hP : va_P (dC, dI) cl0 [(h0, .inr (12, dfX14_210)), (q_4, .inl (cA_5, 16000, .inl (fun _ => 0))), (q_7, .inr (13, [])), (q_123, .inl (cA_124, 8, .inr (.inl (fun _ => 0)))), (q_193, .inl (cA_194, 12, .inl (fun _ => 0)))] H := by rw [e_dfX14_210]; exact hP
  have hD : va_D A [(h0, .inr (12, dfX14_210)), (q_4, .inl (cA_5, 16000, .inl (fun _ => 0))), (q_7, .inr (13, [])), (q_123, .inl (cA_124, 8, .inr (.inl (fun _ => 0)))), (q_193, .inl (cA_194, 12, .inl (fun _ => 0)))] := by rw [e_dfX14_210]; exact hD
  have L_dfX14_210 : dfX14_210.length = 143 := fx_len e_dfX14_210 L_dfX14_207
  have g_dfX14_210_1 := fx_ne (j := 1) e_dfX14_210 g_dfX14_207_1 (by decide)
  have g_dfX14_210_4 := fx_ne (j := 4) e_dfX14_210 g_dfX14_207_4 (by decide)
  have g_dfX14_210_5 := fx_ne (j := 5) e_dfX14_210 g_dfX14_207_5 (by decide)
  have g_dfX14_210_9 := fx_ne (j := 9) e_dfX14_210 g_dfX14_207_9 (by decide)
  have g_dfX14_210_78 := fx_ne (j := 78) e_dfX14_210 g_dfX14_207_78 (by decide)
  have g_dfX14_210_80 := fx_ne (j := 80) e_dfX14_210 g_dfX14_207_80 (by decide)
  have g_dfX14_210_85 := fx_ne (j := 85) e_dfX14_210 g_dfX14_207_85 (by decide)
  have g_dfX14_210_88 := fx_ne (j := 88) e_dfX14_210 g_dfX14_207_88 (by decide)
  have g_dfX14_210_96 := fx_ne (j := 96) e_dfX14_210 g_dfX14_207_96 (by decide)
  have g_dfX14_210_100 := fx_ne (j := 100) e_dfX14_210 g_dfX14_207_100 (by decide)
  have g_dfX14_210_101 := fx_ne (j := 101) e_dfX14_210 g_dfX14_207_101 (by decide)
  have g_dfX14_210_3 := fx_ne (j := 3) e_dfX14_210 g_dfX14_207_3 (by decide)
  have g_dfX14_210_6 := fx_ne (j := 6) e_dfX14_210 g_dfX14_207_6 (by decide)
  have g_dfX14_210_10 := fx_ne (j := 10) e_dfX14_210 g_dfX14_207_10 (by decide)
  have g_dfX14_210_64 := fx_ne (j := 64) e_dfX14_210 g_dfX14_207_64 (by decide)
  have g_dfX14_210_65 := fx_ne (j := 65) e_dfX14_210 g_dfX14_207_65 (by decide)
  have g_dfX14_210_87 := fx_ne (j := 87) e_dfX14_210 g_dfX14_207_87 (by decide)
  have g_dfX14_210_102 := fx_ne (j := 102) e_dfX14_210 g_dfX14_207_102 (by decide)
  have g_dfX14_210_124 := fx_ne (j := 124) e_dfX14_210 g_dfX14_207_124 (by decide)
  refine lv_aload_n hx hb dX14_init_630 rfl (lv_at hl 0 rfl) ?_
  refine lv_bipush (v := 16) hx hb dX14_init_631 (by decide) ?_
  refine va_newa (atype := .int) (ty := .int) (a0 := (16, .inl (fun _ => 0))) (N' := 16) hx hb (hts (.arrayClass .int) kw_6) rfl hK hP hD hS hA (fun _ => rfl) (by decide) (by decide) (by decide) (Nat.le_of_ble_eq_true rfl) (Nat.le_of_ble_eq_true rfl) dX14_init_633 (fun q_211 cA_212 H hK hP hD hS => ?_)
  have hP := hP.sub (ws' := [(h0, .inr (12, dfX14_210)), (q_4, .inl (cA_5, 16000, .inl (fun _ => 0))), (q_7, .inr (13, [])), (q_123, .inl (cA_124, 8, .inr (.inl (fun _ => 0)))), (q_193, .inl (cA_194, 12, .inl (fun _ => 0)))]) [0, 1, 2, 3, 4] rfl
  have hD := hD.sub (ws' := [(h0, .inr (12, dfX14_210)), (q_4, .inl (cA_5, 16000, .inl (fun _ => 0))), (q_7, .inr (13, [])), (q_123, .inl (cA_124, 8, .inr (.inl (fun _ => 0)))), (q_193, .inl (cA_194, 12, .inl (fun _ => 0)))]) [0, 1, 2, 3, 4] (by decide) rfl
  have hK := hK.sub (tys' := [(cA_5, .byte), (cA_124, .long), (cA_194, .int)]) [0, 1, 2] rfl
  refine W.widen (k := 83) (n := 846043) (Nat.le_of_ble_eq_true rfl) (Nat.le_of_ble_eq_true rfl) ?_
  refine va_putF (D := (dC, dI)) (ci := 12) (v := .ref q_211) (ty := (.array .int)) (C := RX14) (T := TX14) (N := 143) hx hb hts inX14 tyX14 tyX14_ok nmX14 hown hK hP hD hS 0 rfl rfl 131 (by decide) (hts _ kw_358) (fun _ h9 => h9) rfl hin rfl (by decide +kernel) rfl rfl (by rw [L_dfX14_210]; decide) dX14_init_635 (fun H locs hP hD hS => ?_)
  obtain ⟨dfX14_213, e_dfX14_213⟩ : ∃ z, z = dfX14_210.set 131 (.ref q_211) := ⟨_, rfl⟩
  have hP : va_P (dC, dI) cl0 [(h0, .inr (12, dfX14_213)), (q_4, .inl (cA_5, 16000, .inl (fun _ => 0))), (q_7, .inr (13, [])), (q_123, .inl (cA_124, 8, .inr (.inl (fun _ => 0)))), (q_193, .inl (cA_194, 12, .inl (fun _ => 0)))] H := by rw [e_dfX14_213]; exact hP
  have hD : va_D A [(h0, .inr (12, dfX14_213)), (q_4, .inl (cA_5, 16000, .inl (fun _ => 0))), (q_7, .inr (13, [])), (q_123, .inl (cA_124, 8, .inr (.inl (fun _ => 0)))), (q_193, .inl (cA_194, 12, .inl (fun _ => 0)))] := by rw [e_dfX14_213]; exact hD
  have L_dfX14_213 : dfX14_213.length = 143 := fx_len e_dfX14_213 L_dfX14_210
  have g_dfX14_213_1 := fx_ne (j := 1) e_dfX14_213 g_dfX14_210_1 (by decide)
  have g_dfX14_213_4 := fx_ne (j := 4) e_dfX14_213 g_dfX14_210_4 (by decide)
  have g_dfX14_213_5 := fx_ne (j := 5) e_dfX14_213 g_dfX14_210_5 (by decide)
  have g_dfX14_213_9 := fx_ne (j := 9) e_dfX14_213 g_dfX14_210_9 (by decide)
  have g_dfX14_213_78 := fx_ne (j := 78) e_dfX14_213 g_dfX14_210_78 (by decide)
  have g_dfX14_213_80 := fx_ne (j := 80) e_dfX14_213 g_dfX14_210_80 (by decide)
  have g_dfX14_213_85 := fx_ne (j := 85) e_dfX14_213 g_dfX14_210_85 (by decide)
  have g_dfX14_213_88 := fx_ne (j := 88) e_dfX14_213 g_dfX14_210_88 (by decide)
  have g_dfX14_213_96 := fx_ne (j := 96) e_dfX14_213 g_dfX14_210_96 (by decide)
  have g_dfX14_213_100 := fx_ne (j := 100) e_dfX14_213 g_dfX14_210_100 (by decide)
  have g_dfX14_213_101 := fx_ne (j := 101) e_dfX14_213 g_dfX14_210_101 (by decide)
  have g_dfX14_213_3 := fx_ne (j := 3) e_dfX14_213 g_dfX14_210_3 (by decide)
  have g_dfX14_213_6 := fx_ne (j := 6) e_dfX14_213 g_dfX14_210_6 (by decide)
  have g_dfX14_213_10 := fx_ne (j := 10) e_dfX14_213 g_dfX14_210_10 (by decide)
  have g_dfX14_213_64 := fx_ne (j := 64) e_dfX14_213 g_dfX14_210_64 (by decide)
  have g_dfX14_213_65 := fx_ne (j := 65) e_dfX14_213 g_dfX14_210_65 (by decide)
  have g_dfX14_213_87 := fx_ne (j := 87) e_dfX14_213 g_dfX14_210_87 (by decide)
  have g_dfX14_213_102 := fx_ne (j := 102) e_dfX14_213 g_dfX14_210_102 (by decide)
  have g_dfX14_213_124 := fx_ne (j := 124) e_dfX14_213 g_dfX14_210_124 (by decide)
  refine lv_aload_n hx hb dX14_init_638 rfl (lv_at hl 0 rfl) ?_
  refine lv_bipush (v := 16) hx hb dX14_init_639 (by decide) ?_
  refine va_newa (atype := .int) (ty := .int) (a0 := (16, .inl (fun _ => 0))) (N' := 16) hx hb (hts (.arrayClass .int) kw_6) rfl hK hP hD hS hA (fun _ => rfl) (by decide) (by decide) (by decide) (Nat.le_of_ble_eq_true rfl) (Nat.le_of_ble_eq_true rfl) dX14_init_641 (fun q_214 cA_215 H hK hP hD hS => ?_)
  have hP := hP.sub (ws' := [(h0, .inr (12, dfX14_213)), (q_4, .inl (cA_5, 16000, .inl (fun _ => 0))), (q_7, .inr (13, [])), (q_123, .inl (cA_124, 8, .inr (.inl (fun _ => 0)))), (q_193, .inl (cA_194, 12, .inl (fun _ => 0)))]) [0, 1, 2, 3, 4] rfl
  have hD := hD.sub (ws' := [(h0, .inr (12, dfX14_213)), (q_4, .inl (cA_5, 16000, .inl (fun _ => 0))), (q_7, .inr (13, [])), (q_123, .inl (cA_124, 8, .inr (.inl (fun _ => 0)))), (q_193, .inl (cA_194, 12, .inl (fun _ => 0)))]) [0, 1, 2, 3, 4] (by decide) rfl
  have hK := hK.sub (tys' := [(cA_5, .byte), (cA_124, .long), (cA_194, .int)]) [0, 1, 2] rfl
  refine W.widen (k := 84) (n := 846059) (Nat.le_of_ble_eq_true rfl) (Nat.le_of_ble_eq_true rfl) ?_
  refine va_putF (D := (dC, dI)) (ci := 12) (v := .ref q_214) (ty := (.array .int)) (C := RX14) (T := TX14) (N := 143) hx hb hts inX14 tyX14 tyX14_ok nmX14 hown hK hP hD hS 0 rfl rfl 132 (by decide) (hts _ kw_359) (fun _ h9 => h9) rfl hin rfl (by decide +kernel) rfl rfl (by rw [L_dfX14_213]; decide) dX14_init_643 (fun H locs hP hD hS => ?_)
  obtain ⟨dfX14_216, e_dfX14_216⟩ : ∃ z, z = dfX14_213.set 132 (.ref q_214) := ⟨_, rfl⟩
  have hP : va_P (dC, dI) cl0 [(h0, .inr (12, dfX14_216)), (q_4, .inl (cA_5, 16000, .inl (fun _ => 0))), (q_7, .inr (13, [])), (q_123, .inl (cA_124, 8, .inr (.inl (fun _ => 0)))), (q_193, .inl (cA_194, 12, .inl (fun _ => 0)))] H := by rw [e_dfX14_216]; exact hP
  have hD : va_D A [(h0, .inr (12, dfX14_216)), (q_4, .inl (cA_5, 16000, .inl (fun _ => 0))), (q_7, .inr (13, [])), (q_123, .inl (cA_124, 8, .inr (.inl (fun _ => 0)))), (q_193, .inl (cA_194, 12, .inl (fun _ => 0)))] := by rw [e_dfX14_216]; exact hD
  have L_dfX14_216 : dfX14_216.length = 143 := fx_len e_dfX14_216 L_dfX14_213
  have g_dfX14_216_1 := fx_ne (j := 1) e_dfX14_216 g_dfX14_213_1 (by decide)
  have g_dfX14_216_4 := fx_ne (j := 4) e_dfX14_216 g_dfX14_213_4 (by decide)
  have g_dfX14_216_5 := fx_ne (j := 5) e_dfX14_216 g_dfX14_213_5 (by decide)
  have g_dfX14_216_9 := fx_ne (j := 9) e_dfX14_216 g_dfX14_213_9 (by decide)
  have g_dfX14_216_78 := fx_ne (j := 78) e_dfX14_216 g_dfX14_213_78 (by decide)
  have g_dfX14_216_80 := fx_ne (j := 80) e_dfX14_216 g_dfX14_213_80 (by decide)
  have g_dfX14_216_85 := fx_ne (j := 85) e_dfX14_216 g_dfX14_213_85 (by decide)
  have g_dfX14_216_88 := fx_ne (j := 88) e_dfX14_216 g_dfX14_213_88 (by decide)
  have g_dfX14_216_96 := fx_ne (j := 96) e_dfX14_216 g_dfX14_213_96 (by decide)
  have g_dfX14_216_100 := fx_ne (j := 100) e_dfX14_216 g_dfX14_213_100 (by decide)
  have g_dfX14_216_101 := fx_ne (j := 101) e_dfX14_216 g_dfX14_213_101 (by decide)
  have g_dfX14_216_3 := fx_ne (j := 3) e_dfX14_216 g_dfX14_213_3 (by decide)
  have g_dfX14_216_6 := fx_ne (j := 6) e_dfX14_216 g_dfX14_213_6 (by decide)
  have g_dfX14_216_10 := fx_ne (j := 10) e_dfX14_216 g_dfX14_213_10 (by decide)
  have g_dfX14_216_64 := fx_ne (j := 64) e_dfX14_216 g_dfX14_213_64 (by decide)
  have g_dfX14_216_65 := fx_ne (j := 65) e_dfX14_216 g_dfX14_213_65 (by decide)
  have g_dfX14_216_87 := fx_ne (j := 87) e_dfX14_216 g_dfX14_213_87 (by decide)
  have g_dfX14_216_102 := fx_ne (j := 102) e_dfX14_216 g_dfX14_213_102 (by decide)
  have g_dfX14_216_124 := fx_ne (j := 124) e_dfX14_216 g_dfX14_213_124 (by decide)
  refine lv_aload_n hx hb dX14_init_646 rfl (lv_at hl 0 rfl) ?_
  refine lv_bipush (v := 16) hx hb dX14_init_647 (by decide) ?_
  refine va_newa (atype := .int) (ty := .int) (a0 := (16, .inl (fun _ => 0))) (N' := 16) hx hb (hts (.arrayClass .int) kw_6) rfl hK hP hD hS hA (fun _ => rfl) (by decide) (by decide) (by decide) (Nat.le_of_ble_eq_true rfl) (Nat.le_of_ble_eq_true rfl) dX14_init_649 (fun q_217 cA_218 H hK hP hD hS => ?_)
  have hP := hP.sub (ws' := [(h0, .inr (12, dfX14_216)), (q_4, .inl (cA_5, 16000, .inl (fun _ => 0))), (q_7, .inr (13, [])), (q_123, .inl (cA_124, 8, .inr (.inl (fun _ => 0)))), (q_193, .inl (cA_194, 12, .inl (fun _ => 0)))]) [0, 1, 2, 3, 4] rfl
  have hD := hD.sub (ws' := [(h0, .inr (12, dfX14_216)), (q_4, .inl (cA_5, 16000, .inl (fun _ => 0))), (q_7, .inr (13, [])), (q_123, .inl (cA_124, 8, .inr (.inl (fun _ => 0)))), (q_193, .inl (cA_194, 12, .inl (fun _ => 0)))]) [0, 1, 2, 3, 4] (by decide) rfl
  have hK := hK.sub (tys' := [(cA_5, .byte), (cA_124, .long), (cA_194, .int)]) [0, 1, 2] rfl
  refine W.widen (k := 85) (n := 846075) (Nat.le_of_ble_eq_true rfl) (Nat.le_of_ble_eq_true rfl) ?_
  refine va_putF (D := (dC, dI)) (ci := 12) (v := .ref q_217) (ty := (.array .int)) (C := RX14) (T := TX14) (N := 143) hx hb hts inX14 tyX14 tyX14_ok nmX14 hown hK hP hD hS 0 rfl rfl 133 (by decide) (hts _ kw_360) (fun _ h9 => h9) rfl hin rfl (by decide +kernel) rfl rfl (by rw [L_dfX14_216]; decide) dX14_init_651 (fun H locs hP hD hS => ?_)
  obtain ⟨dfX14_219, e_dfX14_219⟩ : ∃ z, z = dfX14_216.set 133 (.ref q_217) := ⟨_, rfl⟩
  have hP : va_P (dC, dI) cl0 [(h0, .inr (12, dfX14_219)), (q_4, .inl (cA_5, 16000, .inl (fun _ => 0))), (q_7, .inr (13, [])), (q_123, .inl (cA_124, 8, .inr (.inl (fun _ => 0)))), (q_193, .inl (cA_194, 12, .inl (fun _ => 0)))] H := by rw [e_dfX14_219]; exact hP
  have hD : va_D A [(h0, .inr (12, dfX14_219)), (q_4, .inl (cA_5, 16000, .inl (fun _ => 0))), (q_7, .inr (13, [])), (q_123, .inl (cA_124, 8, .inr (.inl (fun _ => 0)))), (q_193, .inl (cA_194, 12, .inl (fun _ => 0)))] := by rw [e_dfX14_219]; exact hD
  have L_dfX14_219 : dfX14_219.length = 143 := fx_len e_dfX14_219 L_dfX14_216
  have g_dfX14_219_1 := fx_ne (j := 1) e_dfX14_219 g_dfX14_216_1 (by decide)
  have g_dfX14_219_4 := fx_ne (j := 4) e_dfX14_219 g_dfX14_216_4 (by decide)
  have g_dfX14_219_5 := fx_ne (j := 5) e_dfX14_219 g_dfX14_216_5 (by decide)
  have g_dfX14_219_9 := fx_ne (j := 9) e_dfX14_219 g_dfX14_216_9 (by decide)
  have g_dfX14_219_78 := fx_ne (j := 78) e_dfX14_219 g_dfX14_216_78 (by decide)
  have g_dfX14_219_80 := fx_ne (j := 80) e_dfX14_219 g_dfX14_216_80 (by decide)
  have g_dfX14_219_85 := fx_ne (j := 85) e_dfX14_219 g_dfX14_216_85 (by decide)
  have g_dfX14_219_88 := fx_ne (j := 88) e_dfX14_219 g_dfX14_216_88 (by decide)
  have g_dfX14_219_96 := fx_ne (j := 96) e_dfX14_219 g_dfX14_216_96 (by decide)
  have g_dfX14_219_100 := fx_ne (j := 100) e_dfX14_219 g_dfX14_216_100 (by decide)
  have g_dfX14_219_101 := fx_ne (j := 101) e_dfX14_219 g_dfX14_216_101 (by decide)
  have g_dfX14_219_3 := fx_ne (j := 3) e_dfX14_219 g_dfX14_216_3 (by decide)
  have g_dfX14_219_6 := fx_ne (j := 6) e_dfX14_219 g_dfX14_216_6 (by decide)
  have g_dfX14_219_10 := fx_ne (j := 10) e_dfX14_219 g_dfX14_216_10 (by decide)
  have g_dfX14_219_64 := fx_ne (j := 64) e_dfX14_219 g_dfX14_216_64 (by decide)
  have g_dfX14_219_65 := fx_ne (j := 65) e_dfX14_219 g_dfX14_216_65 (by decide)
  have g_dfX14_219_87 := fx_ne (j := 87) e_dfX14_219 g_dfX14_216_87 (by decide)
  have g_dfX14_219_102 := fx_ne (j := 102) e_dfX14_219 g_dfX14_216_102 (by decide)
  have g_dfX14_219_124 := fx_ne (j := 124) e_dfX14_219 g_dfX14_216_124 (by decide)
  refine lv_aload_n hx hb dX14_init_654 rfl (lv_at hl 0 rfl) ?_
  refine lv_bipush (v := 16) hx hb dX14_init_655 (by decide) ?_
  refine va_newa (atype := .boolean) (ty := .boolean) (a0 := (16, .inl (fun _ => 0))) (N' := 16) hx hb (hts (.arrayClass .boolean) kw_9) rfl hK hP hD hS hA (fun _ => rfl) (by decide) (by decide) (by decide) (Nat.le_of_ble_eq_true rfl) (Nat.le_of_ble_eq_true rfl) dX14_init_657 (fun q_220 cA_221 H hK hP hD hS => ?_)
  have hP := hP.sub (ws' := [(h0, .inr (12, dfX14_219)), (q_4, .inl (cA_5, 16000, .inl (fun _ => 0))), (q_7, .inr (13, [])), (q_123, .inl (cA_124, 8, .inr (.inl (fun _ => 0)))), (q_193, .inl (cA_194, 12, .inl (fun _ => 0)))]) [0, 1, 2, 3, 4] rfl
  have hD := hD.sub (ws' := [(h0, .inr (12, dfX14_219)), (q_4, .inl (cA_5, 16000, .inl (fun _ => 0))), (q_7, .inr (13, [])), (q_123, .inl (cA_124, 8, .inr (.inl (fun _ => 0)))), (q_193, .inl (cA_194, 12, .inl (fun _ => 0)))]) [0, 1, 2, 3, 4] (by decide) rfl
  have hK := hK.sub (tys' := [(cA_5, .byte), (cA_124, .long), (cA_194, .int)]) [0, 1, 2] rfl
  refine W.widen (k := 86) (n := 846091) (Nat.le_of_ble_eq_true rfl) (Nat.le_of_ble_eq_true rfl) ?_
  refine va_putF (D := (dC, dI)) (ci := 12) (v := .ref q_220) (ty := (.array .boolean)) (C := RX14) (T := TX14) (N := 143) hx hb hts inX14 tyX14 tyX14_ok nmX14 hown hK hP hD hS 0 rfl rfl 134 (by decide) (hts _ kw_361) (fun _ h9 => h9) rfl hin rfl (by decide +kernel) rfl rfl (by rw [L_dfX14_219]; decide) dX14_init_659 (fun H locs hP hD hS => ?_)
  obtain ⟨dfX14_222, e_dfX14_222⟩ : ∃ z, z = dfX14_219.set 134 (.ref q_220) := ⟨_, rfl⟩
  have hP : va_P (dC, dI) cl0 [(h0, .inr (12, dfX14_222)), (q_4, .inl (cA_5, 16000, .inl (fun _ => 0))), (q_7, .inr (13, [])), (q_123, .inl (cA_124, 8, .inr (.inl (fun _ => 0)))), (q_193, .inl (cA_194, 12, .inl (fun _ => 0)))] H := by rw [e_dfX14_222]; exact hP
  have hD : va_D A [(h0, .inr (12, dfX14_222)), (q_4, .inl (cA_5, 16000, .inl (fun _ => 0))), (q_7, .inr (13, [])), (q_123, .inl (cA_124, 8, .inr (.inl (fun _ => 0)))), (q_193, .inl (cA_194, 12, .inl (fun _ => 0)))] := by rw [e_dfX14_222]; exact hD
  have L_dfX14_222 : dfX14_222.length = 143 := fx_len e_dfX14_222 L_dfX14_219
  have g_dfX14_222_1 := fx_ne (j := 1) e_dfX14_222 g_dfX14_219_1 (by decide)
  have g_dfX14_222_4 := fx_ne (j := 4) e_dfX14_222 g_dfX14_219_4 (by decide)
  have g_dfX14_222_5 := fx_ne (j := 5) e_dfX14_222 g_dfX14_219_5 (by decide)
  have g_dfX14_222_9 := fx_ne (j := 9) e_dfX14_222 g_dfX14_219_9 (by decide)
  have g_dfX14_222_78 := fx_ne (j := 78) e_dfX14_222 g_dfX14_219_78 (by decide)
  have g_dfX14_222_80 := fx_ne (j := 80) e_dfX14_222 g_dfX14_219_80 (by decide)
  have g_dfX14_222_85 := fx_ne (j := 85) e_dfX14_222 g_dfX14_219_85 (by decide)
  have g_dfX14_222_88 := fx_ne (j := 88) e_dfX14_222 g_dfX14_219_88 (by decide)
  have g_dfX14_222_96 := fx_ne (j := 96) e_dfX14_222 g_dfX14_219_96 (by decide)
  have g_dfX14_222_100 := fx_ne (j := 100) e_dfX14_222 g_dfX14_219_100 (by decide)
  have g_dfX14_222_101 := fx_ne (j := 101) e_dfX14_222 g_dfX14_219_101 (by decide)
  have g_dfX14_222_3 := fx_ne (j := 3) e_dfX14_222 g_dfX14_219_3 (by decide)
  have g_dfX14_222_6 := fx_ne (j := 6) e_dfX14_222 g_dfX14_219_6 (by decide)
  have g_dfX14_222_10 := fx_ne (j := 10) e_dfX14_222 g_dfX14_219_10 (by decide)
  have g_dfX14_222_64 := fx_ne (j := 64) e_dfX14_222 g_dfX14_219_64 (by decide)
  have g_dfX14_222_65 := fx_ne (j := 65) e_dfX14_222 g_dfX14_219_65 (by decide)
  have g_dfX14_222_87 := fx_ne (j := 87) e_dfX14_222 g_dfX14_219_87 (by decide)
  have g_dfX14_222_102 := fx_ne (j := 102) e_dfX14_222 g_dfX14_219_102 (by decide)
  have g_dfX14_222_124 := fx_ne (j := 124) e_dfX14_222 g_dfX14_219_124 (by decide)
  refine lv_aload_n hx hb dX14_init_662 rfl (lv_at hl 0 rfl) ?_
  refine lv_sipush (v := 1201) hx hb dX14_init_663 (by decide) ?_
  refine va_newa (atype := .boolean) (ty := .boolean) (a0 := (1201, .inl (fun _ => 0))) (N' := 1201) hx hb (hts (.arrayClass .boolean) kw_9) rfl hK hP hD hS hA (fun _ => rfl) (by decide) (by decide) (by decide) (Nat.le_of_ble_eq_true rfl) (Nat.le_of_ble_eq_true rfl) dX14_init_666 (fun q_223 cA_224 H hK hP hD hS => ?_)
  have hP := hP.sub (ws' := [(h0, .inr (12, dfX14_222)), (q_4, .inl (cA_5, 16000, .inl (fun _ => 0))), (q_7, .inr (13, [])), (q_123, .inl (cA_124, 8, .inr (.inl (fun _ => 0)))), (q_193, .inl (cA_194, 12, .inl (fun _ => 0)))]) [0, 1, 2, 3, 4] rfl
  have hD := hD.sub (ws' := [(h0, .inr (12, dfX14_222)), (q_4, .inl (cA_5, 16000, .inl (fun _ => 0))), (q_7, .inr (13, [])), (q_123, .inl (cA_124, 8, .inr (.inl (fun _ => 0)))), (q_193, .inl (cA_194, 12, .inl (fun _ => 0)))]) [0, 1, 2, 3, 4] (by decide) rfl
  have hK := hK.sub (tys' := [(cA_5, .byte), (cA_124, .long), (cA_194, .int)]) [0, 1, 2] rfl
  refine W.widen (k := 87) (n := 847292) (Nat.le_of_ble_eq_true rfl) (Nat.le_of_ble_eq_true rfl) ?_
  refine va_putF (D := (dC, dI)) (ci := 12) (v := .ref q_223) (ty := (.array .boolean)) (C := RX14) (T := TX14) (N := 143) hx hb hts inX14 tyX14 tyX14_ok nmX14 hown hK hP hD hS 0 rfl rfl 136 (by decide) (hts _ kw_362) (fun _ h9 => h9) rfl hin rfl (by decide +kernel) rfl rfl (by rw [L_dfX14_222]; decide) dX14_init_668 (fun H locs hP hD hS => ?_)
  obtain ⟨dfX14_225, e_dfX14_225⟩ : ∃ z, z = dfX14_222.set 136 (.ref q_223) := ⟨_, rfl⟩
  have hP : va_P (dC, dI) cl0 [(h0, .inr (12, dfX14_225)), (q_4, .inl (cA_5, 16000, .inl (fun _ => 0))), (q_7, .inr (13, [])), (q_123, .inl (cA_124, 8, .inr (.inl (fun _ => 0)))), (q_193, .inl (cA_194, 12, .inl (fun _ => 0)))] H := by rw [e_dfX14_225]; exact hP
  have hD : va_D A [(h0, .inr (12, dfX14_225)), (q_4, .inl (cA_5, 16000, .inl (fun _ => 0))), (q_7, .inr (13, [])), (q_123, .inl (cA_124, 8, .inr (.inl (fun _ => 0)))), (q_193, .inl (cA_194, 12, .inl (fun _ => 0)))] := by rw [e_dfX14_225]; exact hD
  have L_dfX14_225 : dfX14_225.length = 143 := fx_len e_dfX14_225 L_dfX14_222
  have g_dfX14_225_1 := fx_ne (j := 1) e_dfX14_225 g_dfX14_222_1 (by decide)
  have g_dfX14_225_4 := fx_ne (j := 4) e_dfX14_225 g_dfX14_222_4 (by decide)
  have g_dfX14_225_5 := fx_ne (j := 5) e_dfX14_225 g_dfX14_222_5 (by decide)
  have g_dfX14_225_9 := fx_ne (j := 9) e_dfX14_225 g_dfX14_222_9 (by decide)
  have g_dfX14_225_78 := fx_ne (j := 78) e_dfX14_225 g_dfX14_222_78 (by decide)
  have g_dfX14_225_80 := fx_ne (j := 80) e_dfX14_225 g_dfX14_222_80 (by decide)
  have g_dfX14_225_85 := fx_ne (j := 85) e_dfX14_225 g_dfX14_222_85 (by decide)
  have g_dfX14_225_88 := fx_ne (j := 88) e_dfX14_225 g_dfX14_222_88 (by decide)
  have g_dfX14_225_96 := fx_ne (j := 96) e_dfX14_225 g_dfX14_222_96 (by decide)
  have g_dfX14_225_100 := fx_ne (j := 100) e_dfX14_225 g_dfX14_222_100 (by decide)
  have g_dfX14_225_101 := fx_ne (j := 101) e_dfX14_225 g_dfX14_222_101 (by decide)
  have g_dfX14_225_3 := fx_ne (j := 3) e_dfX14_225 g_dfX14_222_3 (by decide)
  have g_dfX14_225_6 := fx_ne (j := 6) e_dfX14_225 g_dfX14_222_6 (by decide)
  have g_dfX14_225_10 := fx_ne (j := 10) e_dfX14_225 g_dfX14_222_10 (by decide)
  have g_dfX14_225_64 := fx_ne (j := 64) e_dfX14_225 g_dfX14_222_64 (by decide)
  have g_dfX14_225_65 := fx_ne (j := 65) e_dfX14_225 g_dfX14_222_65 (by decide)
  have g_dfX14_225_87 := fx_ne (j := 87) e_dfX14_225 g_dfX14_222_87 (by decide)
  have g_dfX14_225_102 := fx_ne (j := 102) e_dfX14_225 g_dfX14_222_102 (by decide)
  have g_dfX14_225_124 := fx_ne (j := 124) e_dfX14_225 g_dfX14_222_124 (by decide)
  refine lv_aload_n hx hb dX14_init_671 rfl (lv_at hl 0 rfl) ?_
  refine lv_sipush (v := 1200) hx hb dX14_init_672 (by decide) ?_
  refine va_newa (atype := .boolean) (ty := .boolean) (a0 := (1200, .inl (fun _ => 0))) (N' := 1200) hx hb (hts (.arrayClass .boolean) kw_9) rfl hK hP hD hS hA (fun _ => rfl) (by decide) (by decide) (by decide) (Nat.le_of_ble_eq_true rfl) (Nat.le_of_ble_eq_true rfl) dX14_init_675 (fun q_226 cA_227 H hK hP hD hS => ?_)
  have hP := hP.sub (ws' := [(h0, .inr (12, dfX14_225)), (q_4, .inl (cA_5, 16000, .inl (fun _ => 0))), (q_7, .inr (13, [])), (q_123, .inl (cA_124, 8, .inr (.inl (fun _ => 0)))), (q_193, .inl (cA_194, 12, .inl (fun _ => 0)))]) [0, 1, 2, 3, 4] rfl
  have hD := hD.sub (ws' := [(h0, .inr (12, dfX14_225)), (q_4, .inl (cA_5, 16000, .inl (fun _ => 0))), (q_7, .inr (13, [])), (q_123, .inl (cA_124, 8, .inr (.inl (fun _ => 0)))), (q_193, .inl (cA_194, 12, .inl (fun _ => 0)))]) [0, 1, 2, 3, 4] (by decide) rfl
  have hK := hK.sub (tys' := [(cA_5, .byte), (cA_124, .long), (cA_194, .int)]) [0, 1, 2] rfl
  refine W.widen (k := 88) (n := 848492) (Nat.le_of_ble_eq_true rfl) (Nat.le_of_ble_eq_true rfl) ?_
  refine va_putF (D := (dC, dI)) (ci := 12) (v := .ref q_226) (ty := (.array .boolean)) (C := RX14) (T := TX14) (N := 143) hx hb hts inX14 tyX14 tyX14_ok nmX14 hown hK hP hD hS 0 rfl rfl 137 (by decide) (hts _ kw_363) (fun _ h9 => h9) rfl hin rfl (by decide +kernel) rfl rfl (by rw [L_dfX14_225]; decide) dX14_init_677 (fun H locs hP hD hS => ?_)
  obtain ⟨dfX14_228, e_dfX14_228⟩ : ∃ z, z = dfX14_225.set 137 (.ref q_226) := ⟨_, rfl⟩
  have hP : va_P (dC, dI) cl0 [(h0, .inr (12, dfX14_228)), (q_4, .inl (cA_5, 16000, .inl (fun _ => 0))), (q_7, .inr (13, [])), (q_123, .inl (cA_124, 8, .inr (.inl (fun _ => 0)))), (q_193, .inl (cA_194, 12, .inl (fun _ => 0)))] H := by rw [e_dfX14_228]; exact hP
  have hD : va_D A [(h0, .inr (12, dfX14_228)), (q_4, .inl (cA_5, 16000, .inl (fun _ => 0))), (q_7, .inr (13, [])), (q_123, .inl (cA_124, 8, .inr (.inl (fun _ => 0)))), (q_193, .inl (cA_194, 12, .inl (fun _ => 0)))] := by rw [e_dfX14_228]; exact hD
  have L_dfX14_228 : dfX14_228.length = 143 := fx_len e_dfX14_228 L_dfX14_225
  have g_dfX14_228_1 := fx_ne (j := 1) e_dfX14_228 g_dfX14_225_1 (by decide)
  have g_dfX14_228_4 := fx_ne (j := 4) e_dfX14_228 g_dfX14_225_4 (by decide)
  have g_dfX14_228_5 := fx_ne (j := 5) e_dfX14_228 g_dfX14_225_5 (by decide)
  have g_dfX14_228_9 := fx_ne (j := 9) e_dfX14_228 g_dfX14_225_9 (by decide)
  have g_dfX14_228_78 := fx_ne (j := 78) e_dfX14_228 g_dfX14_225_78 (by decide)
  have g_dfX14_228_80 := fx_ne (j := 80) e_dfX14_228 g_dfX14_225_80 (by decide)
  have g_dfX14_228_85 := fx_ne (j := 85) e_dfX14_228 g_dfX14_225_85 (by decide)
  have g_dfX14_228_88 := fx_ne (j := 88) e_dfX14_228 g_dfX14_225_88 (by decide)
  have g_dfX14_228_96 := fx_ne (j := 96) e_dfX14_228 g_dfX14_225_96 (by decide)
  have g_dfX14_228_100 := fx_ne (j := 100) e_dfX14_228 g_dfX14_225_100 (by decide)
  have g_dfX14_228_101 := fx_ne (j := 101) e_dfX14_228 g_dfX14_225_101 (by decide)
  have g_dfX14_228_3 := fx_ne (j := 3) e_dfX14_228 g_dfX14_225_3 (by decide)
  have g_dfX14_228_6 := fx_ne (j := 6) e_dfX14_228 g_dfX14_225_6 (by decide)
  have g_dfX14_228_10 := fx_ne (j := 10) e_dfX14_228 g_dfX14_225_10 (by decide)
  have g_dfX14_228_64 := fx_ne (j := 64) e_dfX14_228 g_dfX14_225_64 (by decide)
  have g_dfX14_228_65 := fx_ne (j := 65) e_dfX14_228 g_dfX14_225_65 (by decide)
  have g_dfX14_228_87 := fx_ne (j := 87) e_dfX14_228 g_dfX14_225_87 (by decide)
  have g_dfX14_228_102 := fx_ne (j := 102) e_dfX14_228 g_dfX14_225_102 (by decide)
  have g_dfX14_228_124 := fx_ne (j := 124) e_dfX14_228 g_dfX14_225_124 (by decide)
  refine lv_aload_n hx hb dX14_init_680 rfl (lv_at hl 0 rfl) ?_
  refine lv_sipush (v := 1200) hx hb dX14_init_681 (by decide) ?_
  refine va_newa (atype := .int) (ty := .int) (a0 := (1200, .inl (fun _ => 0))) (N' := 1200) hx hb (hts (.arrayClass .int) kw_6) rfl hK hP hD hS hA (fun _ => rfl) (by decide) (by decide) (by decide) (Nat.le_of_ble_eq_true rfl) (Nat.le_of_ble_eq_true rfl) dX14_init_684 (fun q_229 cA_230 H hK hP hD hS => ?_)
  have hP := hP.sub (ws' := [(h0, .inr (12, dfX14_228)), (q_4, .inl (cA_5, 16000, .inl (fun _ => 0))), (q_7, .inr (13, [])), (q_123, .inl (cA_124, 8, .inr (.inl (fun _ => 0)))), (q_193, .inl (cA_194, 12, .inl (fun _ => 0)))]) [0, 1, 2, 3, 4] rfl
  have hD := hD.sub (ws' := [(h0, .inr (12, dfX14_228)), (q_4, .inl (cA_5, 16000, .inl (fun _ => 0))), (q_7, .inr (13, [])), (q_123, .inl (cA_124, 8, .inr (.inl (fun _ => 0)))), (q_193, .inl (cA_194, 12, .inl (fun _ => 0)))]) [0, 1, 2, 3, 4] (by decide) rfl
  have hK := hK.sub (tys' := [(cA_5, .byte), (cA_124, .long), (cA_194, .int)]) [0, 1, 2] rfl
  refine W.widen (k := 89) (n := 849692) (Nat.le_of_ble_eq_true rfl) (Nat.le_of_ble_eq_true rfl) ?_
  refine va_putF (D := (dC, dI)) (ci := 12) (v := .ref q_229) (ty := (.array .int)) (C := RX14) (T := TX14) (N := 143) hx hb hts inX14 tyX14 tyX14_ok nmX14 hown hK hP hD hS 0 rfl rfl 138 (by decide) (hts _ kw_364) (fun _ h9 => h9) rfl hin rfl (by decide +kernel) rfl rfl (by rw [L_dfX14_228]; decide) dX14_init_686 (fun H locs hP hD hS => ?_)
  obtain ⟨dfX14_231, e_dfX14_231⟩ : ∃ z, z = dfX14_228.set 138 (.ref q_229) := ⟨_, rfl⟩
  have hP : va_P (dC, dI) cl0 [(h0, .inr (12, dfX14_231)), (q_4, .inl (cA_5, 16000, .inl (fun _ => 0))), (q_7, .inr (13, [])), (q_123, .inl (cA_124, 8, .inr (.inl (fun _ => 0)))), (q_193, .inl (cA_194, 12, .inl (fun _ => 0)))] H := by rw [e_dfX14_231]; exact hP
  have hD : va_D A [(h0, .inr (12, dfX14_231)), (q_4, .inl (cA_5, 16000, .inl (fun _ => 0))), (q_7, .inr (13, [])), (q_123, .inl (cA_124, 8, .inr (.inl (fun _ => 0)))), (q_193, .inl (cA_194, 12, .inl (fun _ => 0)))] := by rw [e_dfX14_231]; exact hD
  have L_dfX14_231 : dfX14_231.length = 143 := fx_len e_dfX14_231 L_dfX14_228
  have g_dfX14_231_1 := fx_ne (j := 1) e_dfX14_231 g_dfX14_228_1 (by decide)
  have g_dfX14_231_4 := fx_ne (j := 4) e_dfX14_231 g_dfX14_228_4 (by decide)
  have g_dfX14_231_5 := fx_ne (j := 5) e_dfX14_231 g_dfX14_228_5 (by decide)
  have g_dfX14_231_9 := fx_ne (j := 9) e_dfX14_231 g_dfX14_228_9 (by decide)
  have g_dfX14_231_78 := fx_ne (j := 78) e_dfX14_231 g_dfX14_228_78 (by decide)
  have g_dfX14_231_80 := fx_ne (j := 80) e_dfX14_231 g_dfX14_228_80 (by decide)
  have g_dfX14_231_85 := fx_ne (j := 85) e_dfX14_231 g_dfX14_228_85 (by decide)
  have g_dfX14_231_88 := fx_ne (j := 88) e_dfX14_231 g_dfX14_228_88 (by decide)
  have g_dfX14_231_96 := fx_ne (j := 96) e_dfX14_231 g_dfX14_228_96 (by decide)
  have g_dfX14_231_100 := fx_ne (j := 100) e_dfX14_231 g_dfX14_228_100 (by decide)
  have g_dfX14_231_101 := fx_ne (j := 101) e_dfX14_231 g_dfX14_228_101 (by decide)
  have g_dfX14_231_3 := fx_ne (j := 3) e_dfX14_231 g_dfX14_228_3 (by decide)
  have g_dfX14_231_6 := fx_ne (j := 6) e_dfX14_231 g_dfX14_228_6 (by decide)
  have g_dfX14_231_10 := fx_ne (j := 10) e_dfX14_231 g_dfX14_228_10 (by decide)
  have g_dfX14_231_64 := fx_ne (j := 64) e_dfX14_231 g_dfX14_228_64 (by decide)
  have g_dfX14_231_65 := fx_ne (j := 65) e_dfX14_231 g_dfX14_228_65 (by decide)
  have g_dfX14_231_87 := fx_ne (j := 87) e_dfX14_231 g_dfX14_228_87 (by decide)
  have g_dfX14_231_102 := fx_ne (j := 102) e_dfX14_231 g_dfX14_228_102 (by decide)
  have g_dfX14_231_124 := fx_ne (j := 124) e_dfX14_231 g_dfX14_228_124 (by decide)
  refine lv_aload_n hx hb dX14_init_689 rfl (lv_at hl 0 rfl) ?_
  refine lv_sipush (v := 1200) hx hb dX14_init_690 (by decide) ?_
  refine va_newa (atype := .int) (ty := .int) (a0 := (1200, .inl (fun _ => 0))) (N' := 1200) hx hb (hts (.arrayClass .int) kw_6) rfl hK hP hD hS hA (fun _ => rfl) (by decide) (by decide) (by decide) (Nat.le_of_ble_eq_true rfl) (Nat.le_of_ble_eq_true rfl) dX14_init_693 (fun q_232 cA_233 H hK hP hD hS => ?_)
  have hP := hP.sub (ws' := [(h0, .inr (12, dfX14_231)), (q_4, .inl (cA_5, 16000, .inl (fun _ => 0))), (q_7, .inr (13, [])), (q_123, .inl (cA_124, 8, .inr (.inl (fun _ => 0)))), (q_193, .inl (cA_194, 12, .inl (fun _ => 0)))]) [0, 1, 2, 3, 4] rfl
  have hD := hD.sub (ws' := [(h0, .inr (12, dfX14_231)), (q_4, .inl (cA_5, 16000, .inl (fun _ => 0))), (q_7, .inr (13, [])), (q_123, .inl (cA_124, 8, .inr (.inl (fun _ => 0)))), (q_193, .inl (cA_194, 12, .inl (fun _ => 0)))]) [0, 1, 2, 3, 4] (by decide) rfl
  have hK := hK.sub (tys' := [(cA_5, .byte), (cA_124, .long), (cA_194, .int)]) [0, 1, 2] rfl
  refine W.widen (k := 90) (n := 850892) (Nat.le_of_ble_eq_true rfl) (Nat.le_of_ble_eq_true rfl) ?_
  refine va_putF (D := (dC, dI)) (ci := 12) (v := .ref q_232) (ty := (.array .int)) (C := RX14) (T := TX14) (N := 143) hx hb hts inX14 tyX14 tyX14_ok nmX14 hown hK hP hD hS 0 rfl rfl 140 (by decide) (hts _ kw_365) (fun _ h9 => h9) rfl hin rfl (by decide +kernel) rfl rfl (by rw [L_dfX14_231]; decide) dX14_init_695 (fun H locs hP hD hS => ?_)
  obtain ⟨dfX14_234, e_dfX14_234⟩ : ∃ z, z = dfX14_231.set 140 (.ref q_232) := ⟨_, rfl⟩
  have hP : va_P (dC, dI) cl0 [(h0, .inr (12, dfX14_234)), (q_4, .inl (cA_5, 16000, .inl (fun _ => 0))), (q_7, .inr (13, [])), (q_123, .inl (cA_124, 8, .inr (.inl (fun _ => 0)))), (q_193, .inl (cA_194, 12, .inl (fun _ => 0)))] H := by rw [e_dfX14_234]; exact hP
  have hD : va_D A [(h0, .inr (12, dfX14_234)), (q_4, .inl (cA_5, 16000, .inl (fun _ => 0))), (q_7, .inr (13, [])), (q_123, .inl (cA_124, 8, .inr (.inl (fun _ => 0)))), (q_193, .inl (cA_194, 12, .inl (fun _ => 0)))] := by rw [e_dfX14_234]; exact hD
  have L_dfX14_234 : dfX14_234.length = 143 := fx_len e_dfX14_234 L_dfX14_231
  have g_dfX14_234_1 := fx_ne (j := 1) e_dfX14_234 g_dfX14_231_1 (by decide)
  have g_dfX14_234_4 := fx_ne (j := 4) e_dfX14_234 g_dfX14_231_4 (by decide)
  have g_dfX14_234_5 := fx_ne (j := 5) e_dfX14_234 g_dfX14_231_5 (by decide)
  have g_dfX14_234_9 := fx_ne (j := 9) e_dfX14_234 g_dfX14_231_9 (by decide)
  have g_dfX14_234_78 := fx_ne (j := 78) e_dfX14_234 g_dfX14_231_78 (by decide)
  have g_dfX14_234_80 := fx_ne (j := 80) e_dfX14_234 g_dfX14_231_80 (by decide)
  have g_dfX14_234_85 := fx_ne (j := 85) e_dfX14_234 g_dfX14_231_85 (by decide)
  have g_dfX14_234_88 := fx_ne (j := 88) e_dfX14_234 g_dfX14_231_88 (by decide)
  have g_dfX14_234_96 := fx_ne (j := 96) e_dfX14_234 g_dfX14_231_96 (by decide)
  have g_dfX14_234_100 := fx_ne (j := 100) e_dfX14_234 g_dfX14_231_100 (by decide)
  have g_dfX14_234_101 := fx_ne (j := 101) e_dfX14_234 g_dfX14_231_101 (by decide)
  have g_dfX14_234_3 := fx_ne (j := 3) e_dfX14_234 g_dfX14_231_3 (by decide)
  have g_dfX14_234_6 := fx_ne (j := 6) e_dfX14_234 g_dfX14_231_6 (by decide)
  have g_dfX14_234_10 := fx_ne (j := 10) e_dfX14_234 g_dfX14_231_10 (by decide)
  have g_dfX14_234_64 := fx_ne (j := 64) e_dfX14_234 g_dfX14_231_64 (by decide)
  have g_dfX14_234_65 := fx_ne (j := 65) e_dfX14_234 g_dfX14_231_65 (by decide)
  have g_dfX14_234_87 := fx_ne (j := 87) e_dfX14_234 g_dfX14_231_87 (by decide)
  have g_dfX14_234_102 := fx_ne (j := 102) e_dfX14_234 g_dfX14_231_102 (by decide)
  have g_dfX14_234_124 := fx_ne (j := 124) e_dfX14_234 g_dfX14_231_124 (by decide)
  refine lv_aload_n hx hb dX14_init_698 rfl (lv_at hl 0 rfl) ?_
  refine lv_sipush (v := 1201) hx hb dX14_init_699 (by decide) ?_
  refine va_newa (atype := .int) (ty := .int) (a0 := (1201, .inl (fun _ => 0))) (N' := 1201) hx hb (hts (.arrayClass .int) kw_6) rfl hK hP hD hS hA (fun _ => rfl) (by decide) (by decide) (by decide) (Nat.le_of_ble_eq_true rfl) (Nat.le_of_ble_eq_true rfl) dX14_init_702 (fun q_235 cA_236 H hK hP hD hS => ?_)
  have hP := hP.sub (ws' := [(h0, .inr (12, dfX14_234)), (q_4, .inl (cA_5, 16000, .inl (fun _ => 0))), (q_7, .inr (13, [])), (q_123, .inl (cA_124, 8, .inr (.inl (fun _ => 0)))), (q_193, .inl (cA_194, 12, .inl (fun _ => 0)))]) [0, 1, 2, 3, 4] rfl
  have hD := hD.sub (ws' := [(h0, .inr (12, dfX14_234)), (q_4, .inl (cA_5, 16000, .inl (fun _ => 0))), (q_7, .inr (13, [])), (q_123, .inl (cA_124, 8, .inr (.inl (fun _ => 0)))), (q_193, .inl (cA_194, 12, .inl (fun _ => 0)))]) [0, 1, 2, 3, 4] (by decide) rfl
  have hK := hK.sub (tys' := [(cA_5, .byte), (cA_124, .long), (cA_194, .int)]) [0, 1, 2] rfl
  refine W.widen (k := 91) (n := 852093) (Nat.le_of_ble_eq_true rfl) (Nat.le_of_ble_eq_true rfl) ?_
  refine va_putF (D := (dC, dI)) (ci := 12) (v := .ref q_235) (ty := (.array .int)) (C := RX14) (T := TX14) (N := 143) hx hb hts inX14 tyX14 tyX14_ok nmX14 hown hK hP hD hS 0 rfl rfl 141 (by decide) (hts _ kw_366) (fun _ h9 => h9) rfl hin rfl (by decide +kernel) rfl rfl (by rw [L_dfX14_234]; decide) dX14_init_704 (fun H locs hP hD hS => ?_)
  obtain ⟨dfX14_237, e_dfX14_237⟩ : ∃ z, z = dfX14_234.set 141 (.ref q_235) := ⟨_, rfl⟩
  have hP : va_P (dC, dI) cl0 [(h0, .inr (12, dfX14_237)), (q_4, .inl (cA_5, 16000, .inl (fun _ => 0))), (q_7, .inr (13, [])), (q_123, .inl (cA_124, 8, .inr (.inl (fun _ => 0)))), (q_193, .inl (cA_194, 12, .inl (fun _ => 0)))] H := by rw [e_dfX14_237]; exact hP
  have hD : va_D A [(h0, .inr (12, dfX14_237)), (q_4, .inl (cA_5, 16000, .inl (fun _ => 0))), (q_7, .inr (13, [])), (q_123, .inl (cA_124, 8, .inr (.inl (fun _ => 0)))), (q_193, .inl (cA_194, 12, .inl (fun _ => 0)))] := by rw [e_dfX14_237]; exact hD
  have L_dfX14_237 : dfX14_237.length = 143 := fx_len e_dfX14_237 L_dfX14_234
  have g_dfX14_237_1 := fx_ne (j := 1) e_dfX14_237 g_dfX14_234_1 (by decide)
  have g_dfX14_237_4 := fx_ne (j := 4) e_dfX14_237 g_dfX14_234_4 (by decide)
  have g_dfX14_237_5 := fx_ne (j := 5) e_dfX14_237 g_dfX14_234_5 (by decide)
  have g_dfX14_237_9 := fx_ne (j := 9) e_dfX14_237 g_dfX14_234_9 (by decide)
  have g_dfX14_237_78 := fx_ne (j := 78) e_dfX14_237 g_dfX14_234_78 (by decide)
  have g_dfX14_237_80 := fx_ne (j := 80) e_dfX14_237 g_dfX14_234_80 (by decide)
  have g_dfX14_237_85 := fx_ne (j := 85) e_dfX14_237 g_dfX14_234_85 (by decide)
  have g_dfX14_237_88 := fx_ne (j := 88) e_dfX14_237 g_dfX14_234_88 (by decide)
  have g_dfX14_237_96 := fx_ne (j := 96) e_dfX14_237 g_dfX14_234_96 (by decide)
  have g_dfX14_237_100 := fx_ne (j := 100) e_dfX14_237 g_dfX14_234_100 (by decide)
  have g_dfX14_237_101 := fx_ne (j := 101) e_dfX14_237 g_dfX14_234_101 (by decide)
  have g_dfX14_237_3 := fx_ne (j := 3) e_dfX14_237 g_dfX14_234_3 (by decide)
  have g_dfX14_237_6 := fx_ne (j := 6) e_dfX14_237 g_dfX14_234_6 (by decide)
  have g_dfX14_237_10 := fx_ne (j := 10) e_dfX14_237 g_dfX14_234_10 (by decide)
  have g_dfX14_237_64 := fx_ne (j := 64) e_dfX14_237 g_dfX14_234_64 (by decide)
  have g_dfX14_237_65 := fx_ne (j := 65) e_dfX14_237 g_dfX14_234_65 (by decide)
  have g_dfX14_237_87 := fx_ne (j := 87) e_dfX14_237 g_dfX14_234_87 (by decide)
  have g_dfX14_237_102 := fx_ne (j := 102) e_dfX14_237 g_dfX14_234_102 (by decide)
  have g_dfX14_237_124 := fx_ne (j := 124) e_dfX14_237 g_dfX14_234_124 (by decide)
  refine lv_aload_n hx hb dX14_init_707 rfl (lv_at hl 0 rfl) ?_
  refine lv_sipush (v := 1200) hx hb dX14_init_708 (by decide) ?_
  refine va_newa (atype := .int) (ty := .int) (a0 := (1200, .inl (fun _ => 0))) (N' := 1200) hx hb (hts (.arrayClass .int) kw_6) rfl hK hP hD hS hA (fun _ => rfl) (by decide) (by decide) (by decide) (Nat.le_of_ble_eq_true rfl) (Nat.le_of_ble_eq_true rfl) dX14_init_711 (fun q_238 cA_239 H hK hP hD hS => ?_)
  have hP := hP.sub (ws' := [(h0, .inr (12, dfX14_237)), (q_4, .inl (cA_5, 16000, .inl (fun _ => 0))), (q_7, .inr (13, [])), (q_123, .inl (cA_124, 8, .inr (.inl (fun _ => 0)))), (q_193, .inl (cA_194, 12, .inl (fun _ => 0)))]) [0, 1, 2, 3, 4] rfl
  have hD := hD.sub (ws' := [(h0, .inr (12, dfX14_237)), (q_4, .inl (cA_5, 16000, .inl (fun _ => 0))), (q_7, .inr (13, [])), (q_123, .inl (cA_124, 8, .inr (.inl (fun _ => 0)))), (q_193, .inl (cA_194, 12, .inl (fun _ => 0)))]) [0, 1, 2, 3, 4] (by decide) rfl
  have hK := hK.sub (tys' := [(cA_5, .byte), (cA_124, .long), (cA_194, .int)]) [0, 1, 2] rfl
  refine W.widen (k := 92) (n := 853293) (Nat.le_of_ble_eq_true rfl) (Nat.le_of_ble_eq_true rfl) ?_
  refine va_putF (D := (dC, dI)) (ci := 12) (v := .ref q_238) (ty := (.array .int)) (C := RX14) (T := TX14) (N := 143) hx hb hts inX14 tyX14 tyX14_ok nmX14 hown hK hP hD hS 0 rfl rfl 142 (by decide) (hts _ kw_367) (fun _ h9 => h9) rfl hin rfl (by decide +kernel) rfl rfl (by rw [L_dfX14_237]; decide) dX14_init_713 (fun H locs hP hD hS => ?_)
  obtain ⟨dfX14_240, e_dfX14_240⟩ : ∃ z, z = dfX14_237.set 142 (.ref q_238) := ⟨_, rfl⟩
  have hP : va_P (dC, dI) cl0 [(h0, .inr (12, dfX14_240)), (q_4, .inl (cA_5, 16000, .inl (fun _ => 0))), (q_7, .inr (13, [])), (q_123, .inl (cA_124, 8, .inr (.inl (fun _ => 0)))), (q_193, .inl (cA_194, 12, .inl (fun _ => 0)))] H := by rw [e_dfX14_240]; exact hP
  have hD : va_D A [(h0, .inr (12, dfX14_240)), (q_4, .inl (cA_5, 16000, .inl (fun _ => 0))), (q_7, .inr (13, [])), (q_123, .inl (cA_124, 8, .inr (.inl (fun _ => 0)))), (q_193, .inl (cA_194, 12, .inl (fun _ => 0)))] := by rw [e_dfX14_240]; exact hD
  have L_dfX14_240 : dfX14_240.length = 143 := fx_len e_dfX14_240 L_dfX14_237
  have g_dfX14_240_1 := fx_ne (j := 1) e_dfX14_240 g_dfX14_237_1 (by decide)
  have g_dfX14_240_4 := fx_ne (j := 4) e_dfX14_240 g_dfX14_237_4 (by decide)
  have g_dfX14_240_5 := fx_ne (j := 5) e_dfX14_240 g_dfX14_237_5 (by decide)
  have g_dfX14_240_9 := fx_ne (j := 9) e_dfX14_240 g_dfX14_237_9 (by decide)
  have g_dfX14_240_78 := fx_ne (j := 78) e_dfX14_240 g_dfX14_237_78 (by decide)
  have g_dfX14_240_80 := fx_ne (j := 80) e_dfX14_240 g_dfX14_237_80 (by decide)
  have g_dfX14_240_85 := fx_ne (j := 85) e_dfX14_240 g_dfX14_237_85 (by decide)
  have g_dfX14_240_88 := fx_ne (j := 88) e_dfX14_240 g_dfX14_237_88 (by decide)
  have g_dfX14_240_96 := fx_ne (j := 96) e_dfX14_240 g_dfX14_237_96 (by decide)
  have g_dfX14_240_100 := fx_ne (j := 100) e_dfX14_240 g_dfX14_237_100 (by decide)
  have g_dfX14_240_101 := fx_ne (j := 101) e_dfX14_240 g_dfX14_237_101 (by decide)
  have g_dfX14_240_3 := fx_ne (j := 3) e_dfX14_240 g_dfX14_237_3 (by decide)
  have g_dfX14_240_6 := fx_ne (j := 6) e_dfX14_240 g_dfX14_237_6 (by decide)
  have g_dfX14_240_10 := fx_ne (j := 10) e_dfX14_240 g_dfX14_237_10 (by decide)
  have g_dfX14_240_64 := fx_ne (j := 64) e_dfX14_240 g_dfX14_237_64 (by decide)
  have g_dfX14_240_65 := fx_ne (j := 65) e_dfX14_240 g_dfX14_237_65 (by decide)
  have g_dfX14_240_87 := fx_ne (j := 87) e_dfX14_240 g_dfX14_237_87 (by decide)
  have g_dfX14_240_102 := fx_ne (j := 102) e_dfX14_240 g_dfX14_237_102 (by decide)
  have g_dfX14_240_124 := fx_ne (j := 124) e_dfX14_240 g_dfX14_237_124 (by decide)
  refine W.widen (k := 92) (n := 853293) (Nat.le_of_ble_eq_true rfl) (Nat.le_of_ble_eq_true rfl) ?_
  have hP9 := hP.sub (ws' := [(h0, .inr (12, dfX14_240)), (q_4, .inl (cA_5, 16000, .inl (fun _ => 0))), (q_7, .inr (13, [])), (q_123, .inl (cA_124, 8, .inr (.inl (fun _ => 0)))), (q_193, .inl (cA_194, 12, .inl (fun _ => 0)))]) [0, 1, 2, 3, 4] rfl
  have hD9 := hD.sub (ws' := [(h0, .inr (12, dfX14_240)), (q_4, .inl (cA_5, 16000, .inl (fun _ => 0))), (q_7, .inr (13, [])), (q_123, .inl (cA_124, 8, .inr (.inl (fun _ => 0)))), (q_193, .inl (cA_194, 12, .inl (fun _ => 0)))]) [0, 1, 2, 3, 4] (by decide) rfl
  have hK9 := hK.sub (tys' := [(cA_5, .byte), (cA_124, .long), (cA_194, .int)]) [0, 1, 2] rfl
  exact W.vret hx hb hr (fun t9 ht9 hW9 => ⟨⟨(), rfl, trivial, dfX14_240, q_4, cA_5, q_7, q_123, cA_124, q_193, cA_194, L_dfX14_240, g_dfX14_240_1, g_dfX14_240_3, g_dfX14_240_4, g_dfX14_240_5, g_dfX14_240_6, g_dfX14_240_9, g_dfX14_240_10, g_dfX14_240_64, g_dfX14_240_65, g_dfX14_240_78, g_dfX14_240_80, g_dfX14_240_85, g_dfX14_240_87, g_dfX14_240_88, g_dfX14_240_96, g_dfX14_240_100, g_dfX14_240_101, g_dfX14_240_102, g_dfX14_240_124, by rw [ht9]; exact hP9, va_K.moved hW9.alike hK9, hD9⟩, hS.F ht9⟩) hS.2.2 dX14_init_716
