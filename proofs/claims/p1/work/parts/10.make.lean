set_option maxHeartbeats 4000000 in
set_option maxRecDepth 100000 in
theorem m_X0_init (l : Launch) (dC : Nat → ClassId) (dI : Nat → Nat → Nat) (sz : Nat) (h0 : Nat)  : Met l yX0_init (wt yX0_init cX0_init 1 none) ({ frames := 1, cells := 1, slots := 64, locals := 12 }) (va_Pc [.ref h0] (st_U dC dI sz [(h0, .inr (0, dfX0))] [])) (va_Qv (fun _ : Unit => True) (fun (_ : Unit) (t : State) => ∃ (fs1 : List Value), ∃ (hd : Nat), ∃ (cB : ClassId), (fs1.length = 2) ∧ (fs1[0]? = some (.ref hd)) ∧ (fs1[1]? = some (.int 0)) ∧ va_P (dC, dI) cl0 [(h0, .inr (0, fs1)), (hd, .inl (cB, 64, .inl (fun _ => 0)))] t.heap ∧ va_K (dC, dI) cl0 [(cB, .byte)] t ∧ va_D (va_A [(h0, .inr (0, dfX0))] sz) [(h0, .inr (0, fs1)), (hd, .inl (cB, 64, .inl (fun _ => 0)))]) (va_A [(h0, .inr (0, dfX0))] sz)) 1 64 (va_A [(h0, .inr (0, dfX0))] sz) := by
  refine Met.ofW (cc := cX0_init) (maxL := 1) (ret := none) (by decide) rfl ?_
  intro p e s m args below meth c s₁ B hml hv
  obtain ⟨rfl, hsz, hP, hK, hD0, hex⟩ := hv
  have hx := B.exec
  have hb := B.bytes
  have hr := B.returns
  have hts0 := atoms_spec (ws := wt yX0_init cX0_init 1 none) B.pre
  have hts : ∀ w ∈ tb, w.before _ s = true := fun w h => hts0 w (List.mem_cons_of_mem _ h)
  have hown : s.vm.findClass RX0 = some m.cls := findClass_of_methodNamed B.named
  have hlocks := B.notSynchronized
  have hin : meth.name = "<init>" := (name_of_methodNamed B.named B.method).1
  subst hsz
  have hD := hD0.self (sz := s.heap.size)
  generalize hAe : va_A [(h0, .inr (0, dfX0))] s.heap.size = A at hD ⊢
  have hA : ∀ q : Nat, s.heap.size ≤ q → A q := fun q h => by rw [← hAe]; exact Or.inr h
  have hS : va_S A s.heap s.heap [] := va_S.rf
  have hl := lv_entry ([.ref h0]) (n := 1) (Nat.le_of_ble_eq_true rfl)
  rw [lg_entry_eq]
  generalize (lg_sl ([.ref h0]) ++ List.replicate (1 - (lg_sl ([.ref h0])).length) Slot.unset).toArray = ls at hl ⊢
  have hl : lv_has ls 1 [(0, .ref h0)] := hl
  refine lv_aload_n hx hb dX0_init_0 rfl (lv_at hl 0 rfl) ?_
  refine W.objInit hx hb hown (hts _ kw_0) (hts _ kw_1) (hts _ kw_2) rfl (by rw [hml]; exact hl.1) rfl dX0_init_1 (Nat.le_of_ble_eq_true rfl) (Nat.le_of_ble_eq_true rfl) ?_
  refine W.eq (g2 := F0 m 4 ls []) rfl ?_
  refine lv_aload_n hx hb dX0_init_4 rfl (lv_at hl 0 rfl) ?_
  refine lv_bipush (v := 64) hx hb dX0_init_5 (by decide) ?_
  refine va_newa (atype := .byte) (ty := .byte) (a0 := (64, .inl (fun _ => 0))) (N' := 64) hx hb (hts (.arrayClass .byte) kw_3) rfl hK hP hD hS hA (fun _ => rfl) (by decide) (by decide) (by decide) (Nat.le_of_ble_eq_true rfl) (Nat.le_of_ble_eq_true rfl) dX0_init_7 (fun q_1 cA_2 H hK hP hD hS => ?_)
  have hP : va_P (dC, dI) cl0 [(h0, .inr (0, dfX0)), (q_1, .inl (cA_2, 64, .inl (fun _ => 0)))] H := hP
  have hD : va_D A [(h0, .inr (0, dfX0)), (q_1, .inl (cA_2, 64, .inl (fun _ => 0)))] := hD
  have hK : va_K (dC, dI) cl0 [(cA_2, .byte)] s := hK
  refine W.widen (k := 1) (n := 64) (Nat.le_of_ble_eq_true rfl) (Nat.le_of_ble_eq_true rfl) ?_
  refine va_put (D := (dC, dI)) (ci := 0) (v := .ref q_1) (ty := (.array .byte)) (C := RX0) (T := TX0) (N := 2) hx hb hts inX0 tyX0 tyX0_ok nmX0 hown hK hP hD hS 0 rfl rfl 0 (by decide) (hts _ kw_4) (fun _ h9 => h9) rfl (by decide +kernel) rfl rfl (by rw [L_dfX0]; decide) dX0_init_9 (fun H locs hP hD hS => ?_)
  obtain ⟨dfX0_3, e_dfX0_3⟩ : ∃ z, z = dfX0.set 0 (.ref q_1) := ⟨_, rfl⟩
  have hP : va_P (dC, dI) cl0 [(h0, .inr (0, dfX0_3)), (q_1, .inl (cA_2, 64, .inl (fun _ => 0)))] H := by rw [e_dfX0_3]; exact hP
  have hD : va_D A [(h0, .inr (0, dfX0_3)), (q_1, .inl (cA_2, 64, .inl (fun _ => 0)))] := by rw [e_dfX0_3]; exact hD
  have L_dfX0_3 : dfX0_3.length = 2 := fx_len e_dfX0_3 L_dfX0
  have g_dfX0_3_1 := fx_ne (j := 1) e_dfX0_3 g_dfX0_1 (by decide)
  have g_dfX0_3_0 := fx_self e_dfX0_3 (by rw [L_dfX0]; decide)
  refine W.widen (k := 1) (n := 64) (Nat.le_of_ble_eq_true rfl) (Nat.le_of_ble_eq_true rfl) ?_
  have hP9 := hP.sub (ws' := [(h0, .inr (0, dfX0_3)), (q_1, .inl (cA_2, 64, .inl (fun _ => 0)))]) [0, 1] rfl
  have hD9 := hD.sub (ws' := [(h0, .inr (0, dfX0_3)), (q_1, .inl (cA_2, 64, .inl (fun _ => 0)))]) [0, 1] (by decide) rfl
  have hK9 := hK.sub (tys' := [(cA_2, .byte)]) [0] rfl
  exact W.vret hx hb hr (fun t9 ht9 hW9 => ⟨⟨(), rfl, trivial, dfX0_3, q_1, cA_2, L_dfX0_3, g_dfX0_3_0, g_dfX0_3_1, by rw [ht9]; exact hP9, va_K.moved hW9.alike hK9, hD9⟩, hS.F ht9⟩) hS.2.2 dX0_init_12
set_option maxHeartbeats 4000000 in
set_option maxRecDepth 100000 in
theorem m_X4_init (l : Launch) (dC : Nat → ClassId) (dI : Nat → Nat → Nat) (sz : Nat) (h0 : Nat)  : Met l yX4_init (wt yX4_init cX4_init 1 none) ({ frames := 1, cells := 3, slots := 0, locals := 12 }) (va_Pc [.ref h0] (st_U dC dI sz [(h0, .inr (4, dfX4))] [])) (va_Qv (fun _ : Unit => True) (fun (_ : Unit) (_ : State) => True) (va_A [(h0, .inr (4, dfX4))] sz)) 3 0 (va_A [(h0, .inr (4, dfX4))] sz) := by
  refine Met.ofW (cc := cX4_init) (maxL := 1) (ret := none) (by decide) rfl ?_
  intro p e s m args below meth c s₁ B hml hv
  obtain ⟨rfl, hsz, hP, hK, hD0, hex⟩ := hv
  have hx := B.exec
  have hb := B.bytes
  have hr := B.returns
  have hts0 := atoms_spec (ws := wt yX4_init cX4_init 1 none) B.pre
  have hts : ∀ w ∈ tb, w.before _ s = true := fun w h => hts0 w (List.mem_cons_of_mem _ h)
  have hown : s.vm.findClass RX4 = some m.cls := findClass_of_methodNamed B.named
  have hlocks := B.notSynchronized
  have hin : meth.name = "<init>" := (name_of_methodNamed B.named B.method).1
  subst hsz
  have hD := hD0.self (sz := s.heap.size)
  generalize hAe : va_A [(h0, .inr (4, dfX4))] s.heap.size = A at hD ⊢
  have hA : ∀ q : Nat, s.heap.size ≤ q → A q := fun q h => by rw [← hAe]; exact Or.inr h
  have hS : va_S A s.heap s.heap [] := va_S.rf
  have hl := lv_entry ([.ref h0]) (n := 1) (Nat.le_of_ble_eq_true rfl)
  rw [lg_entry_eq]
  generalize (lg_sl ([.ref h0]) ++ List.replicate (1 - (lg_sl ([.ref h0])).length) Slot.unset).toArray = ls at hl ⊢
  have hl : lv_has ls 1 [(0, .ref h0)] := hl
  refine lv_aload_n hx hb dX4_init_0 rfl (lv_at hl 0 rfl) ?_
  refine W.objInit hx hb hown (hts _ kw_5) (hts _ kw_1) (hts _ kw_2) rfl (by rw [hml]; exact hl.1) rfl dX4_init_1 (Nat.le_of_ble_eq_true rfl) (Nat.le_of_ble_eq_true rfl) ?_
  refine W.eq (g2 := F0 m 4 ls []) rfl ?_
  refine lv_aload_n hx hb dX4_init_4 rfl (lv_at hl 0 rfl) ?_
  refine lv_iconst (v := 0) hx hb dX4_init_5 (by decide) ?_
  refine va_newa (atype := .int) (ty := .int) (a0 := (0, .inl (fun _ => 0))) (N' := 0) hx hb (hts (.arrayClass .int) kw_6) rfl hK hP hD hS hA (fun _ => rfl) (by decide) (by decide) (by decide) (Nat.le_of_ble_eq_true rfl) (Nat.le_of_ble_eq_true rfl) dX4_init_6 (fun q_1 cA_2 H hK hP hD hS => ?_)
  have hP := hP.sub (ws' := [(h0, .inr (4, dfX4))]) [0] rfl
  have hD := hD.sub (ws' := [(h0, .inr (4, dfX4))]) [0] (by decide) rfl
  have hK := hK.sub (tys' := []) [] rfl
  refine W.widen (k := 1) (n := 0) (Nat.le_of_ble_eq_true rfl) (Nat.le_of_ble_eq_true rfl) ?_
  refine va_put (D := (dC, dI)) (ci := 4) (v := .ref q_1) (ty := (.array .int)) (C := RX4) (T := TX4) (N := 8) hx hb hts inX4 tyX4 tyX4_ok nmX4 hown hK hP hD hS 0 rfl rfl 0 (by decide) (hts _ kw_7) (fun _ h9 => h9) rfl (by decide +kernel) rfl rfl (by rw [L_dfX4]; decide) dX4_init_8 (fun H locs hP hD hS => ?_)
  obtain ⟨dfX4_3, e_dfX4_3⟩ : ∃ z, z = dfX4.set 0 (.ref q_1) := ⟨_, rfl⟩
  have hP : va_P (dC, dI) cl0 [(h0, .inr (4, dfX4_3))] H := by rw [e_dfX4_3]; exact hP
  have hD : va_D A [(h0, .inr (4, dfX4_3))] := by rw [e_dfX4_3]; exact hD
  have L_dfX4_3 : dfX4_3.length = 8 := fx_len e_dfX4_3 L_dfX4
  refine lv_aload_n hx hb dX4_init_11 rfl (lv_at hl 0 rfl) ?_
  refine lv_iconst (v := 0) hx hb dX4_init_12 (by decide) ?_
  refine va_newa (atype := .int) (ty := .int) (a0 := (0, .inl (fun _ => 0))) (N' := 0) hx hb (hts (.arrayClass .int) kw_6) rfl hK hP hD hS hA (fun _ => rfl) (by decide) (by decide) (by decide) (Nat.le_of_ble_eq_true rfl) (Nat.le_of_ble_eq_true rfl) dX4_init_13 (fun q_4 cA_5 H hK hP hD hS => ?_)
  have hP := hP.sub (ws' := [(h0, .inr (4, dfX4_3))]) [0] rfl
  have hD := hD.sub (ws' := [(h0, .inr (4, dfX4_3))]) [0] (by decide) rfl
  have hK := hK.sub (tys' := []) [] rfl
  refine W.widen (k := 2) (n := 0) (Nat.le_of_ble_eq_true rfl) (Nat.le_of_ble_eq_true rfl) ?_
  refine va_put (D := (dC, dI)) (ci := 4) (v := .ref q_4) (ty := (.array .int)) (C := RX4) (T := TX4) (N := 8) hx hb hts inX4 tyX4 tyX4_ok nmX4 hown hK hP hD hS 0 rfl rfl 1 (by decide) (hts _ kw_8) (fun _ h9 => h9) rfl (by decide +kernel) rfl rfl (by rw [L_dfX4_3]; decide) dX4_init_15 (fun H locs hP hD hS => ?_)
  obtain ⟨dfX4_6, e_dfX4_6⟩ : ∃ z, z = dfX4_3.set 1 (.ref q_4) := ⟨_, rfl⟩
  have hP : va_P (dC, dI) cl0 [(h0, .inr (4, dfX4_6))] H := by rw [e_dfX4_6]; exact hP
  have hD : va_D A [(h0, .inr (4, dfX4_6))] := by rw [e_dfX4_6]; exact hD
  have L_dfX4_6 : dfX4_6.length = 8 := fx_len e_dfX4_6 L_dfX4_3
  refine lv_aload_n hx hb dX4_init_18 rfl (lv_at hl 0 rfl) ?_
  refine lv_iconst (v := 0) hx hb dX4_init_19 (by decide) ?_
  refine va_newa (atype := .boolean) (ty := .boolean) (a0 := (0, .inl (fun _ => 0))) (N' := 0) hx hb (hts (.arrayClass .boolean) kw_9) rfl hK hP hD hS hA (fun _ => rfl) (by decide) (by decide) (by decide) (Nat.le_of_ble_eq_true rfl) (Nat.le_of_ble_eq_true rfl) dX4_init_20 (fun q_7 cA_8 H hK hP hD hS => ?_)
  have hP := hP.sub (ws' := [(h0, .inr (4, dfX4_6))]) [0] rfl
  have hD := hD.sub (ws' := [(h0, .inr (4, dfX4_6))]) [0] (by decide) rfl
  have hK := hK.sub (tys' := []) [] rfl
  refine W.widen (k := 3) (n := 0) (Nat.le_of_ble_eq_true rfl) (Nat.le_of_ble_eq_true rfl) ?_
  refine va_put (D := (dC, dI)) (ci := 4) (v := .ref q_7) (ty := (.array .boolean)) (C := RX4) (T := TX4) (N := 8) hx hb hts inX4 tyX4 tyX4_ok nmX4 hown hK hP hD hS 0 rfl rfl 2 (by decide) (hts _ kw_10) (fun _ h9 => h9) rfl (by decide +kernel) rfl rfl (by rw [L_dfX4_6]; decide) dX4_init_22 (fun H locs hP hD hS => ?_)
  obtain ⟨dfX4_9, e_dfX4_9⟩ : ∃ z, z = dfX4_6.set 2 (.ref q_7) := ⟨_, rfl⟩
  have hP : va_P (dC, dI) cl0 [(h0, .inr (4, dfX4_9))] H := by rw [e_dfX4_9]; exact hP
  have hD : va_D A [(h0, .inr (4, dfX4_9))] := by rw [e_dfX4_9]; exact hD
  have L_dfX4_9 : dfX4_9.length = 8 := fx_len e_dfX4_9 L_dfX4_6
  refine W.widen (k := 3) (n := 0) (Nat.le_of_ble_eq_true rfl) (Nat.le_of_ble_eq_true rfl) ?_
  exact W.vret hx hb hr (fun t9 ht9 hW9 => ⟨⟨(), rfl, trivial, trivial⟩, hS.F ht9⟩) hS.2.2 dX4_init_25
set_option maxHeartbeats 4000000 in
set_option maxRecDepth 100000 in
theorem m_X8_init (l : Launch) (dC : Nat → ClassId) (dI : Nat → Nat → Nat) (sz : Nat) (h0 : Nat)  : Met l yX8_init (wt yX8_init cX8_init 4 none) ({ frames := 1, cells := 7, slots := 0, locals := 12 }) (va_Pc [.ref h0, .int 0, .int 0, .int 0] (st_U dC dI sz [(h0, .inr (7, dfX8))] [])) (va_Qv (fun _ : Unit => True) (fun (_ : Unit) (_ : State) => True) (va_A [(h0, .inr (7, dfX8))] sz)) 7 0 (va_A [(h0, .inr (7, dfX8))] sz) := by
  refine Met.ofW (cc := cX8_init) (maxL := 4) (ret := none) (by decide) rfl ?_
  intro p e s m args below meth c s₁ B hml hv
  obtain ⟨rfl, hsz, hP, hK, hD0, hex⟩ := hv
  have hx := B.exec
  have hb := B.bytes
  have hr := B.returns
  have hts0 := atoms_spec (ws := wt yX8_init cX8_init 4 none) B.pre
  have hts : ∀ w ∈ tb, w.before _ s = true := fun w h => hts0 w (List.mem_cons_of_mem _ h)
  have hown : s.vm.findClass RX8 = some m.cls := findClass_of_methodNamed B.named
  have hlocks := B.notSynchronized
  have hin : meth.name = "<init>" := (name_of_methodNamed B.named B.method).1
  subst hsz
  have hD := hD0.self (sz := s.heap.size)
  generalize hAe : va_A [(h0, .inr (7, dfX8))] s.heap.size = A at hD ⊢
  have hA : ∀ q : Nat, s.heap.size ≤ q → A q := fun q h => by rw [← hAe]; exact Or.inr h
  have hS : va_S A s.heap s.heap [] := va_S.rf
  have hl := lv_entry ([.ref h0, .int 0, .int 0, .int 0]) (n := 4) (Nat.le_of_ble_eq_true rfl)
  rw [lg_entry_eq]
  generalize (lg_sl ([.ref h0, .int 0, .int 0, .int 0]) ++ List.replicate (4 - (lg_sl ([.ref h0, .int 0, .int 0, .int 0])).length) Slot.unset).toArray = ls at hl ⊢
  have hl : lv_has ls 4 [(0, .ref h0), (1, .int 0), (2, .int 0), (3, .int 0)] := hl
  refine lv_aload_n hx hb dX8_init_0 rfl (lv_at hl 0 rfl) ?_
  refine W.objInit hx hb hown (hts _ kw_11) (hts _ kw_1) (hts _ kw_2) rfl (by rw [hml]; exact hl.1) rfl dX8_init_1 (Nat.le_of_ble_eq_true rfl) (Nat.le_of_ble_eq_true rfl) ?_
  refine W.eq (g2 := F0 m 4 ls []) rfl ?_
  refine lv_aload_n hx hb dX8_init_4 rfl (lv_at hl 0 rfl) ?_
  refine lv_iload_n hx hb dX8_init_5 rfl (lv_at hl 1 rfl) ?_
  refine va_newa (atype := .int) (ty := .int) (a0 := (0, .inl (fun _ => 0))) (N' := 0) hx hb (hts (.arrayClass .int) kw_6) rfl hK hP hD hS hA (fun _ => rfl) (by decide) (by decide) (by decide) (Nat.le_of_ble_eq_true rfl) (Nat.le_of_ble_eq_true rfl) dX8_init_6 (fun q_1 cA_2 H hK hP hD hS => ?_)
  have hP := hP.sub (ws' := [(h0, .inr (7, dfX8))]) [0] rfl
  have hD := hD.sub (ws' := [(h0, .inr (7, dfX8))]) [0] (by decide) rfl
  have hK := hK.sub (tys' := []) [] rfl
  refine W.widen (k := 1) (n := 0) (Nat.le_of_ble_eq_true rfl) (Nat.le_of_ble_eq_true rfl) ?_
  refine va_put (D := (dC, dI)) (ci := 7) (v := .ref q_1) (ty := (.array .int)) (C := RX8) (T := TX8) (N := 15) hx hb hts inX8 tyX8 tyX8_ok nmX8 hown hK hP hD hS 0 rfl rfl 0 (by decide) (hts _ kw_12) (fun _ h9 => h9) rfl (by decide +kernel) rfl rfl (by rw [L_dfX8]; decide) dX8_init_8 (fun H locs hP hD hS => ?_)
  obtain ⟨dfX8_3, e_dfX8_3⟩ : ∃ z, z = dfX8.set 0 (.ref q_1) := ⟨_, rfl⟩
  have hP : va_P (dC, dI) cl0 [(h0, .inr (7, dfX8_3))] H := by rw [e_dfX8_3]; exact hP
  have hD : va_D A [(h0, .inr (7, dfX8_3))] := by rw [e_dfX8_3]; exact hD
  have L_dfX8_3 : dfX8_3.length = 15 := fx_len e_dfX8_3 L_dfX8
  refine lv_aload_n hx hb dX8_init_11 rfl (lv_at hl 0 rfl) ?_
  refine lv_iload_n hx hb dX8_init_12 rfl (lv_at hl 1 rfl) ?_
  refine va_newa (atype := .long) (ty := .long) (a0 := (0, .inr (.inl (fun _ => 0)))) (N' := 0) hx hb (hts (.arrayClass .long) kw_13) rfl hK hP hD hS hA (fun _ => rfl) (by decide) (by decide) (by decide) (Nat.le_of_ble_eq_true rfl) (Nat.le_of_ble_eq_true rfl) dX8_init_13 (fun q_4 cA_5 H hK hP hD hS => ?_)
  have hP := hP.sub (ws' := [(h0, .inr (7, dfX8_3))]) [0] rfl
  have hD := hD.sub (ws' := [(h0, .inr (7, dfX8_3))]) [0] (by decide) rfl
  have hK := hK.sub (tys' := []) [] rfl
  refine W.widen (k := 2) (n := 0) (Nat.le_of_ble_eq_true rfl) (Nat.le_of_ble_eq_true rfl) ?_
  refine va_put (D := (dC, dI)) (ci := 7) (v := .ref q_4) (ty := (.array .long)) (C := RX8) (T := TX8) (N := 15) hx hb hts inX8 tyX8 tyX8_ok nmX8 hown hK hP hD hS 0 rfl rfl 1 (by decide) (hts _ kw_14) (fun _ h9 => h9) rfl (by decide +kernel) rfl rfl (by rw [L_dfX8_3]; decide) dX8_init_15 (fun H locs hP hD hS => ?_)
  obtain ⟨dfX8_6, e_dfX8_6⟩ : ∃ z, z = dfX8_3.set 1 (.ref q_4) := ⟨_, rfl⟩
  have hP : va_P (dC, dI) cl0 [(h0, .inr (7, dfX8_6))] H := by rw [e_dfX8_6]; exact hP
  have hD : va_D A [(h0, .inr (7, dfX8_6))] := by rw [e_dfX8_6]; exact hD
  have L_dfX8_6 : dfX8_6.length = 15 := fx_len e_dfX8_6 L_dfX8_3
  refine lv_aload_n hx hb dX8_init_18 rfl (lv_at hl 0 rfl) ?_
  refine lv_iload_n hx hb dX8_init_19 rfl (lv_at hl 2 rfl) ?_
  refine va_newa (atype := .int) (ty := .int) (a0 := (0, .inl (fun _ => 0))) (N' := 0) hx hb (hts (.arrayClass .int) kw_6) rfl hK hP hD hS hA (fun _ => rfl) (by decide) (by decide) (by decide) (Nat.le_of_ble_eq_true rfl) (Nat.le_of_ble_eq_true rfl) dX8_init_20 (fun q_7 cA_8 H hK hP hD hS => ?_)
  have hP := hP.sub (ws' := [(h0, .inr (7, dfX8_6))]) [0] rfl
  have hD := hD.sub (ws' := [(h0, .inr (7, dfX8_6))]) [0] (by decide) rfl
  have hK := hK.sub (tys' := []) [] rfl
  refine W.widen (k := 3) (n := 0) (Nat.le_of_ble_eq_true rfl) (Nat.le_of_ble_eq_true rfl) ?_
  refine va_put (D := (dC, dI)) (ci := 7) (v := .ref q_7) (ty := (.array .int)) (C := RX8) (T := TX8) (N := 15) hx hb hts inX8 tyX8 tyX8_ok nmX8 hown hK hP hD hS 0 rfl rfl 3 (by decide) (hts _ kw_15) (fun _ h9 => h9) rfl (by decide +kernel) rfl rfl (by rw [L_dfX8_6]; decide) dX8_init_22 (fun H locs hP hD hS => ?_)
  obtain ⟨dfX8_9, e_dfX8_9⟩ : ∃ z, z = dfX8_6.set 3 (.ref q_7) := ⟨_, rfl⟩
  have hP : va_P (dC, dI) cl0 [(h0, .inr (7, dfX8_9))] H := by rw [e_dfX8_9]; exact hP
  have hD : va_D A [(h0, .inr (7, dfX8_9))] := by rw [e_dfX8_9]; exact hD
  have L_dfX8_9 : dfX8_9.length = 15 := fx_len e_dfX8_9 L_dfX8_6
  refine lv_aload_n hx hb dX8_init_25 rfl (lv_at hl 0 rfl) ?_
  refine lv_iload_n hx hb dX8_init_26 rfl (lv_at hl 3 rfl) ?_
  refine va_newa (atype := .int) (ty := .int) (a0 := (0, .inl (fun _ => 0))) (N' := 0) hx hb (hts (.arrayClass .int) kw_6) rfl hK hP hD hS hA (fun _ => rfl) (by decide) (by decide) (by decide) (Nat.le_of_ble_eq_true rfl) (Nat.le_of_ble_eq_true rfl) dX8_init_27 (fun q_10 cA_11 H hK hP hD hS => ?_)
  have hP := hP.sub (ws' := [(h0, .inr (7, dfX8_9))]) [0] rfl
  have hD := hD.sub (ws' := [(h0, .inr (7, dfX8_9))]) [0] (by decide) rfl
  have hK := hK.sub (tys' := []) [] rfl
  refine W.widen (k := 4) (n := 0) (Nat.le_of_ble_eq_true rfl) (Nat.le_of_ble_eq_true rfl) ?_
  refine va_put (D := (dC, dI)) (ci := 7) (v := .ref q_10) (ty := (.array .int)) (C := RX8) (T := TX8) (N := 15) hx hb hts inX8 tyX8 tyX8_ok nmX8 hown hK hP hD hS 0 rfl rfl 5 (by decide) (hts _ kw_16) (fun _ h9 => h9) rfl (by decide +kernel) rfl rfl (by rw [L_dfX8_9]; decide) dX8_init_29 (fun H locs hP hD hS => ?_)
  obtain ⟨dfX8_12, e_dfX8_12⟩ : ∃ z, z = dfX8_9.set 5 (.ref q_10) := ⟨_, rfl⟩
  have hP : va_P (dC, dI) cl0 [(h0, .inr (7, dfX8_12))] H := by rw [e_dfX8_12]; exact hP
  have hD : va_D A [(h0, .inr (7, dfX8_12))] := by rw [e_dfX8_12]; exact hD
  have L_dfX8_12 : dfX8_12.length = 15 := fx_len e_dfX8_12 L_dfX8_9
  refine lv_aload_n hx hb dX8_init_32 rfl (lv_at hl 0 rfl) ?_
  refine lv_iload_n hx hb dX8_init_33 rfl (lv_at hl 3 rfl) ?_
  refine va_newa (atype := .int) (ty := .int) (a0 := (0, .inl (fun _ => 0))) (N' := 0) hx hb (hts (.arrayClass .int) kw_6) rfl hK hP hD hS hA (fun _ => rfl) (by decide) (by decide) (by decide) (Nat.le_of_ble_eq_true rfl) (Nat.le_of_ble_eq_true rfl) dX8_init_34 (fun q_13 cA_14 H hK hP hD hS => ?_)
  have hP := hP.sub (ws' := [(h0, .inr (7, dfX8_12))]) [0] rfl
  have hD := hD.sub (ws' := [(h0, .inr (7, dfX8_12))]) [0] (by decide) rfl
  have hK := hK.sub (tys' := []) [] rfl
  refine W.widen (k := 5) (n := 0) (Nat.le_of_ble_eq_true rfl) (Nat.le_of_ble_eq_true rfl) ?_
  refine va_put (D := (dC, dI)) (ci := 7) (v := .ref q_13) (ty := (.array .int)) (C := RX8) (T := TX8) (N := 15) hx hb hts inX8 tyX8 tyX8_ok nmX8 hown hK hP hD hS 0 rfl rfl 6 (by decide) (hts _ kw_17) (fun _ h9 => h9) rfl (by decide +kernel) rfl rfl (by rw [L_dfX8_12]; decide) dX8_init_36 (fun H locs hP hD hS => ?_)
  obtain ⟨dfX8_15, e_dfX8_15⟩ : ∃ z, z = dfX8_12.set 6 (.ref q_13) := ⟨_, rfl⟩
  have hP : va_P (dC, dI) cl0 [(h0, .inr (7, dfX8_15))] H := by rw [e_dfX8_15]; exact hP
  have hD : va_D A [(h0, .inr (7, dfX8_15))] := by rw [e_dfX8_15]; exact hD
  have L_dfX8_15 : dfX8_15.length = 15 := fx_len e_dfX8_15 L_dfX8_12
  refine lv_aload_n hx hb dX8_init_39 rfl (lv_at hl 0 rfl) ?_
  refine lv_iload_n hx hb dX8_init_40 rfl (lv_at hl 3 rfl) ?_
  refine va_newa (atype := .int) (ty := .int) (a0 := (0, .inl (fun _ => 0))) (N' := 0) hx hb (hts (.arrayClass .int) kw_6) rfl hK hP hD hS hA (fun _ => rfl) (by decide) (by decide) (by decide) (Nat.le_of_ble_eq_true rfl) (Nat.le_of_ble_eq_true rfl) dX8_init_41 (fun q_16 cA_17 H hK hP hD hS => ?_)
  have hP := hP.sub (ws' := [(h0, .inr (7, dfX8_15))]) [0] rfl
  have hD := hD.sub (ws' := [(h0, .inr (7, dfX8_15))]) [0] (by decide) rfl
  have hK := hK.sub (tys' := []) [] rfl
  refine W.widen (k := 6) (n := 0) (Nat.le_of_ble_eq_true rfl) (Nat.le_of_ble_eq_true rfl) ?_
  refine va_put (D := (dC, dI)) (ci := 7) (v := .ref q_16) (ty := (.array .int)) (C := RX8) (T := TX8) (N := 15) hx hb hts inX8 tyX8 tyX8_ok nmX8 hown hK hP hD hS 0 rfl rfl 7 (by decide) (hts _ kw_18) (fun _ h9 => h9) rfl (by decide +kernel) rfl rfl (by rw [L_dfX8_15]; decide) dX8_init_43 (fun H locs hP hD hS => ?_)
  obtain ⟨dfX8_18, e_dfX8_18⟩ : ∃ z, z = dfX8_15.set 7 (.ref q_16) := ⟨_, rfl⟩
  have hP : va_P (dC, dI) cl0 [(h0, .inr (7, dfX8_18))] H := by rw [e_dfX8_18]; exact hP
  have hD : va_D A [(h0, .inr (7, dfX8_18))] := by rw [e_dfX8_18]; exact hD
  have L_dfX8_18 : dfX8_18.length = 15 := fx_len e_dfX8_18 L_dfX8_15
  refine lv_aload_n hx hb dX8_init_46 rfl (lv_at hl 0 rfl) ?_
  refine lv_iload_n hx hb dX8_init_47 rfl (lv_at hl 3 rfl) ?_
  refine va_newa (atype := .int) (ty := .int) (a0 := (0, .inl (fun _ => 0))) (N' := 0) hx hb (hts (.arrayClass .int) kw_6) rfl hK hP hD hS hA (fun _ => rfl) (by decide) (by decide) (by decide) (Nat.le_of_ble_eq_true rfl) (Nat.le_of_ble_eq_true rfl) dX8_init_48 (fun q_19 cA_20 H hK hP hD hS => ?_)
  have hP := hP.sub (ws' := [(h0, .inr (7, dfX8_18))]) [0] rfl
  have hD := hD.sub (ws' := [(h0, .inr (7, dfX8_18))]) [0] (by decide) rfl
  have hK := hK.sub (tys' := []) [] rfl
  refine W.widen (k := 7) (n := 0) (Nat.le_of_ble_eq_true rfl) (Nat.le_of_ble_eq_true rfl) ?_
  refine va_put (D := (dC, dI)) (ci := 7) (v := .ref q_19) (ty := (.array .int)) (C := RX8) (T := TX8) (N := 15) hx hb hts inX8 tyX8 tyX8_ok nmX8 hown hK hP hD hS 0 rfl rfl 8 (by decide) (hts _ kw_19) (fun _ h9 => h9) rfl (by decide +kernel) rfl rfl (by rw [L_dfX8_18]; decide) dX8_init_50 (fun H locs hP hD hS => ?_)
  obtain ⟨dfX8_21, e_dfX8_21⟩ : ∃ z, z = dfX8_18.set 8 (.ref q_19) := ⟨_, rfl⟩
  have hP : va_P (dC, dI) cl0 [(h0, .inr (7, dfX8_21))] H := by rw [e_dfX8_21]; exact hP
  have hD : va_D A [(h0, .inr (7, dfX8_21))] := by rw [e_dfX8_21]; exact hD
  have L_dfX8_21 : dfX8_21.length = 15 := fx_len e_dfX8_21 L_dfX8_18
  refine W.widen (k := 7) (n := 0) (Nat.le_of_ble_eq_true rfl) (Nat.le_of_ble_eq_true rfl) ?_
  exact W.vret hx hb hr (fun t9 ht9 hW9 => ⟨⟨(), rfl, trivial, trivial⟩, hS.F ht9⟩) hS.2.2 dX8_init_53
set_option maxHeartbeats 4000000 in
set_option maxRecDepth 100000 in
theorem m_X1_init (l : Launch) (dC : Nat → ClassId) (dI : Nat → Nat → Nat) (sz : Nat) (h0 : Nat)  : Met l yX1_init (wt yX1_init cX1_init 1 none) ({ frames := 2, cells := 8, slots := 56, locals := 32 }) (va_Pc [.ref h0] (st_U dC dI sz [(h0, .inr (1, dfX1))] [])) (va_Qv (fun _ : Unit => True) (fun (_ : Unit) (_ : State) => True) (va_A [(h0, .inr (1, dfX1))] sz)) 8 56 (va_A [(h0, .inr (1, dfX1))] sz) := by
  refine Met.ofW (cc := cX1_init) (maxL := 1) (ret := none) (by decide) rfl ?_
  intro p e s m args below meth c s₁ B hml hv
  obtain ⟨rfl, hsz, hP, hK, hD0, hex⟩ := hv
  have hx := B.exec
  have hb := B.bytes
  have hr := B.returns
  have hts0 := atoms_spec (ws := wt yX1_init cX1_init 1 none) B.pre
  have hts : ∀ w ∈ tb, w.before _ s = true := fun w h => hts0 w (List.mem_cons_of_mem _ h)
  have hown : s.vm.findClass RX1 = some m.cls := findClass_of_methodNamed B.named
  have hlocks := B.notSynchronized
  have hin : meth.name = "<init>" := (name_of_methodNamed B.named B.method).1
  subst hsz
  have hD := hD0.self (sz := s.heap.size)
  generalize hAe : va_A [(h0, .inr (1, dfX1))] s.heap.size = A at hD ⊢
  have hA : ∀ q : Nat, s.heap.size ≤ q → A q := fun q h => by rw [← hAe]; exact Or.inr h
  have hS : va_S A s.heap s.heap [] := va_S.rf
  have hl := lv_entry ([.ref h0]) (n := 1) (Nat.le_of_ble_eq_true rfl)
  rw [lg_entry_eq]
  generalize (lg_sl ([.ref h0]) ++ List.replicate (1 - (lg_sl ([.ref h0])).length) Slot.unset).toArray = ls at hl ⊢
  have hl : lv_has ls 1 [(0, .ref h0)] := hl
  refine lv_aload_n hx hb dX1_init_0 rfl (lv_at hl 0 rfl) ?_
  refine W.objInit hx hb hown (hts _ kw_20) (hts _ kw_1) (hts _ kw_2) rfl (by rw [hml]; exact hl.1) rfl dX1_init_1 (Nat.le_of_ble_eq_true rfl) (Nat.le_of_ble_eq_true rfl) ?_
  refine W.eq (g2 := F0 m 4 ls []) rfl ?_
  refine lv_aload_n hx hb dX1_init_4 rfl (lv_at hl 0 rfl) ?_
  refine va_new (ci := 4) (fs := dfX4) (C := RX4) (T := TX4) (N := 8) hx hb hts inX4 tyX4 tyX4_ok hown (hts _ kw_21) (hts _ kw_22) (hts _ kw_23) hK hP hD hS hA rfl dfX4_ok (Nat.le_of_ble_eq_true rfl) (Nat.le_of_ble_eq_true rfl) dX1_init_5 (fun q_1 H hP hD hS => ?_)
  have hP : va_P (dC, dI) cl0 [(h0, .inr (1, dfX1)), (q_1, .inr (4, dfX4))] H := hP
  have hD : va_D A [(h0, .inr (1, dfX1)), (q_1, .inr (4, dfX4))] := hD
  refine W.widen (k := 1) (n := 8) (Nat.le_of_ble_eq_true rfl) (Nat.le_of_ble_eq_true rfl) ?_
  refine lv_dup hx hb dX1_init_8 rfl ?_
  have hPc := hP.sub (ws' := [(q_1, .inr (4, dfX4))]) [1] rfl
  have hDc := hD.sub (ws' := [(q_1, .inr (4, dfX4))]) [1] (by decide) rfl
  have hKc := hK.sub (tys' := []) [] rfl
  have hFc := va_free (wc := [(q_1, .inr (4, dfX4))]) hD hS hA [1] rfl
  refine va_callv (va_runIN (As := []) (rest := [.ref q_1, .ref h0]) ⟨hx, hb, hml, hown, hts⟩ (m_X4_init l dC dI H.size q_1 ) ⟨va_cnB 0 hts (gd_I kw_24) rfl rfl rfl (nw_of (by exact nn_X1_11) hex) (hts _ kw_23) (by decide +kernel) ⟨Nat.le_of_ble_eq_true rfl, Nat.le_of_ble_eq_true rfl⟩, rfl, hts _ kw_25⟩ ⟨st_blind, fun U hU hW9 => st_mk hU hW9 hPc hKc hDc hex⟩ rfl rfl hl.1 rfl (lv_room (Nat.le_of_ble_eq_true rfl)) dX1_init_9 ⟨Nat.le_of_ble_eq_true rfl, Nat.le_of_ble_eq_true rfl⟩) hS (fun q _ h => hFc q h) hFc (fun  u9 t9 H1 locs ht9 hvm9 hw9 hB9 hz9 hk9 hS => ?_)
  have hP1 : va_P (dC, dI) cl0 [] H1 := fun k q h => by simp at h
  have hD1 : va_D (va_A [(q_1, .inr (4, dfX4))] H.size) [] := ⟨fun i j p q h => by simp at h, fun k q h => by simp at h⟩
  obtain ⟨hP, hD⟩ := va_join (wr := [(h0, .inr (1, dfX1))]) (w1 := []) hP hD [1] [0] rfl rfl (by decide) (by decide) hk9 hFc hP1 hD1
  generalize H1 = H at hP hS ⊢
  have hP : va_P (dC, dI) cl0 [(h0, .inr (1, dfX1))] H := hP
  have hD : va_D A [(h0, .inr (1, dfX1))] := hD
  refine W.widen (k := 4) (n := 8) (by omega) (by omega) ?_
  refine va_putF (D := (dC, dI)) (ci := 1) (v := .ref q_1) (ty := (.object "CodeFoundry$Heights")) (C := RX1) (T := TX1) (N := 10) hx hb hts inX1 tyX1 tyX1_ok nmX1 hown hK hP hD hS 0 rfl rfl 0 (by decide) (hts _ kw_26) (fun _ h9 => h9) rfl hin rfl (by decide +kernel) rfl rfl (by rw [L_dfX1]; decide) dX1_init_12 (fun H locs hP hD hS => ?_)
  obtain ⟨dfX1_2, e_dfX1_2⟩ : ∃ z, z = dfX1.set 0 (.ref q_1) := ⟨_, rfl⟩
  have hP : va_P (dC, dI) cl0 [(h0, .inr (1, dfX1_2))] H := by rw [e_dfX1_2]; exact hP
  have hD : va_D A [(h0, .inr (1, dfX1_2))] := by rw [e_dfX1_2]; exact hD
  have L_dfX1_2 : dfX1_2.length = 10 := fx_len e_dfX1_2 L_dfX1
  refine lv_aload_n hx hb dX1_init_15 rfl (lv_at hl 0 rfl) ?_
  refine lv_iconst (v := 0) hx hb dX1_init_16 (by decide) ?_
  refine va_newa (atype := .byte) (ty := .byte) (a0 := (0, .inl (fun _ => 0))) (N' := 0) hx hb (hts (.arrayClass .byte) kw_3) rfl hK hP hD hS hA (fun _ => rfl) (by decide) (by decide) (by decide) (Nat.le_of_ble_eq_true rfl) (Nat.le_of_ble_eq_true rfl) dX1_init_17 (fun q_3 cA_4 H hK hP hD hS => ?_)
  have hP := hP.sub (ws' := [(h0, .inr (1, dfX1_2))]) [0] rfl
  have hD := hD.sub (ws' := [(h0, .inr (1, dfX1_2))]) [0] (by decide) rfl
  have hK := hK.sub (tys' := []) [] rfl
  refine W.widen (k := 5) (n := 8) (Nat.le_of_ble_eq_true rfl) (Nat.le_of_ble_eq_true rfl) ?_
  refine va_put (D := (dC, dI)) (ci := 1) (v := .ref q_3) (ty := (.array .byte)) (C := RX1) (T := TX1) (N := 10) hx hb hts inX1 tyX1 tyX1_ok nmX1 hown hK hP hD hS 0 rfl rfl 1 (by decide) (hts _ kw_27) (fun _ h9 => h9) rfl (by decide +kernel) rfl rfl (by rw [L_dfX1_2]; decide) dX1_init_19 (fun H locs hP hD hS => ?_)
  obtain ⟨dfX1_5, e_dfX1_5⟩ : ∃ z, z = dfX1_2.set 1 (.ref q_3) := ⟨_, rfl⟩
  have hP : va_P (dC, dI) cl0 [(h0, .inr (1, dfX1_5))] H := by rw [e_dfX1_5]; exact hP
  have hD : va_D A [(h0, .inr (1, dfX1_5))] := by rw [e_dfX1_5]; exact hD
  have L_dfX1_5 : dfX1_5.length = 10 := fx_len e_dfX1_5 L_dfX1_2
  refine lv_aload_n hx hb dX1_init_22 rfl (lv_at hl 0 rfl) ?_
  refine lv_iconst (v := 0) hx hb dX1_init_23 (by decide) ?_
  refine va_newa (atype := .boolean) (ty := .boolean) (a0 := (0, .inl (fun _ => 0))) (N' := 0) hx hb (hts (.arrayClass .boolean) kw_9) rfl hK hP hD hS hA (fun _ => rfl) (by decide) (by decide) (by decide) (Nat.le_of_ble_eq_true rfl) (Nat.le_of_ble_eq_true rfl) dX1_init_24 (fun q_6 cA_7 H hK hP hD hS => ?_)
  have hP := hP.sub (ws' := [(h0, .inr (1, dfX1_5))]) [0] rfl
  have hD := hD.sub (ws' := [(h0, .inr (1, dfX1_5))]) [0] (by decide) rfl
  have hK := hK.sub (tys' := []) [] rfl
  refine W.widen (k := 6) (n := 8) (Nat.le_of_ble_eq_true rfl) (Nat.le_of_ble_eq_true rfl) ?_
  refine va_put (D := (dC, dI)) (ci := 1) (v := .ref q_6) (ty := (.array .boolean)) (C := RX1) (T := TX1) (N := 10) hx hb hts inX1 tyX1 tyX1_ok nmX1 hown hK hP hD hS 0 rfl rfl 2 (by decide) (hts _ kw_28) (fun _ h9 => h9) rfl (by decide +kernel) rfl rfl (by rw [L_dfX1_5]; decide) dX1_init_26 (fun H locs hP hD hS => ?_)
  obtain ⟨dfX1_8, e_dfX1_8⟩ : ∃ z, z = dfX1_5.set 2 (.ref q_6) := ⟨_, rfl⟩
  have hP : va_P (dC, dI) cl0 [(h0, .inr (1, dfX1_8))] H := by rw [e_dfX1_8]; exact hP
  have hD : va_D A [(h0, .inr (1, dfX1_8))] := by rw [e_dfX1_8]; exact hD
  have L_dfX1_8 : dfX1_8.length = 10 := fx_len e_dfX1_8 L_dfX1_5
  refine lv_aload_n hx hb dX1_init_29 rfl (lv_at hl 0 rfl) ?_
  refine lv_iconst (v := 0) hx hb dX1_init_30 (by decide) ?_
  refine va_newa (atype := .boolean) (ty := .boolean) (a0 := (0, .inl (fun _ => 0))) (N' := 0) hx hb (hts (.arrayClass .boolean) kw_9) rfl hK hP hD hS hA (fun _ => rfl) (by decide) (by decide) (by decide) (Nat.le_of_ble_eq_true rfl) (Nat.le_of_ble_eq_true rfl) dX1_init_31 (fun q_9 cA_10 H hK hP hD hS => ?_)
  have hP := hP.sub (ws' := [(h0, .inr (1, dfX1_8))]) [0] rfl
  have hD := hD.sub (ws' := [(h0, .inr (1, dfX1_8))]) [0] (by decide) rfl
  have hK := hK.sub (tys' := []) [] rfl
  refine W.widen (k := 7) (n := 8) (Nat.le_of_ble_eq_true rfl) (Nat.le_of_ble_eq_true rfl) ?_
  refine va_put (D := (dC, dI)) (ci := 1) (v := .ref q_9) (ty := (.array .boolean)) (C := RX1) (T := TX1) (N := 10) hx hb hts inX1 tyX1 tyX1_ok nmX1 hown hK hP hD hS 0 rfl rfl 3 (by decide) (hts _ kw_29) (fun _ h9 => h9) rfl (by decide +kernel) rfl rfl (by rw [L_dfX1_8]; decide) dX1_init_33 (fun H locs hP hD hS => ?_)
  obtain ⟨dfX1_11, e_dfX1_11⟩ : ∃ z, z = dfX1_8.set 3 (.ref q_9) := ⟨_, rfl⟩
  have hP : va_P (dC, dI) cl0 [(h0, .inr (1, dfX1_11))] H := by rw [e_dfX1_11]; exact hP
  have hD : va_D A [(h0, .inr (1, dfX1_11))] := by rw [e_dfX1_11]; exact hD
  have L_dfX1_11 : dfX1_11.length = 10 := fx_len e_dfX1_11 L_dfX1_8
  refine lv_aload_n hx hb dX1_init_36 rfl (lv_at hl 0 rfl) ?_
  refine lv_bipush (v := 48) hx hb dX1_init_37 (by decide) ?_
  refine va_newa (atype := .byte) (ty := .byte) (a0 := (48, .inl (fun _ => 0))) (N' := 48) hx hb (hts (.arrayClass .byte) kw_3) rfl hK hP hD hS hA (fun _ => rfl) (by decide) (by decide) (by decide) (Nat.le_of_ble_eq_true rfl) (Nat.le_of_ble_eq_true rfl) dX1_init_39 (fun q_12 cA_13 H hK hP hD hS => ?_)
  have hP := hP.sub (ws' := [(h0, .inr (1, dfX1_11))]) [0] rfl
  have hD := hD.sub (ws' := [(h0, .inr (1, dfX1_11))]) [0] (by decide) rfl
  have hK := hK.sub (tys' := []) [] rfl
  refine W.widen (k := 8) (n := 56) (Nat.le_of_ble_eq_true rfl) (Nat.le_of_ble_eq_true rfl) ?_
  refine va_putF (D := (dC, dI)) (ci := 1) (v := .ref q_12) (ty := (.array .byte)) (C := RX1) (T := TX1) (N := 10) hx hb hts inX1 tyX1 tyX1_ok nmX1 hown hK hP hD hS 0 rfl rfl 4 (by decide) (hts _ kw_30) (fun _ h9 => h9) rfl hin rfl (by decide +kernel) rfl rfl (by rw [L_dfX1_11]; decide) dX1_init_41 (fun H locs hP hD hS => ?_)
  obtain ⟨dfX1_14, e_dfX1_14⟩ : ∃ z, z = dfX1_11.set 4 (.ref q_12) := ⟨_, rfl⟩
  have hP : va_P (dC, dI) cl0 [(h0, .inr (1, dfX1_14))] H := by rw [e_dfX1_14]; exact hP
  have hD : va_D A [(h0, .inr (1, dfX1_14))] := by rw [e_dfX1_14]; exact hD
  have L_dfX1_14 : dfX1_14.length = 10 := fx_len e_dfX1_14 L_dfX1_11
  refine W.widen (k := 8) (n := 56) (Nat.le_of_ble_eq_true rfl) (Nat.le_of_ble_eq_true rfl) ?_
  exact W.vret hx hb hr (fun t9 ht9 hW9 => ⟨⟨(), rfl, trivial, trivial⟩, hS.F ht9⟩) hS.2.2 dX1_init_44
set_option maxHeartbeats 4000000 in
set_option maxRecDepth 100000 in
theorem m_X7_init (l : Launch) (dC : Nat → ClassId) (dI : Nat → Nat → Nat) (sz : Nat) (h0 : Nat)  : Met l yX7_init (wt yX7_init cX7_init 1 none) ({ frames := 1, cells := 5, slots := 596, locals := 12 }) (va_Pc [.ref h0] (st_U dC dI sz [(h0, .inr (6, dfX7))] [])) (va_Qv (fun _ : Unit => True) (fun (_ : Unit) (t : State) => ∃ (fs1 : List Value), (fs1.length = 17) ∧ va_P (dC, dI) cl0 [(h0, .inr (6, fs1))] t.heap ∧ va_K (dC, dI) cl0 [] t ∧ va_D (va_A [(h0, .inr (6, dfX7))] sz) [(h0, .inr (6, fs1))]) (va_A [(h0, .inr (6, dfX7))] sz)) 5 596 (va_A [(h0, .inr (6, dfX7))] sz) := by
  refine Met.ofW (cc := cX7_init) (maxL := 1) (ret := none) (by decide) rfl ?_
  intro p e s m args below meth c s₁ B hml hv
  obtain ⟨rfl, hsz, hP, hK, hD0, hex⟩ := hv
  have hx := B.exec
  have hb := B.bytes
  have hr := B.returns
  have hts0 := atoms_spec (ws := wt yX7_init cX7_init 1 none) B.pre
  have hts : ∀ w ∈ tb, w.before _ s = true := fun w h => hts0 w (List.mem_cons_of_mem _ h)
  have hown : s.vm.findClass RX7 = some m.cls := findClass_of_methodNamed B.named
  have hlocks := B.notSynchronized
  have hin : meth.name = "<init>" := (name_of_methodNamed B.named B.method).1
  subst hsz
  have hD := hD0.self (sz := s.heap.size)
  generalize hAe : va_A [(h0, .inr (6, dfX7))] s.heap.size = A at hD ⊢
  have hA : ∀ q : Nat, s.heap.size ≤ q → A q := fun q h => by rw [← hAe]; exact Or.inr h
  have hS : va_S A s.heap s.heap [] := va_S.rf
  have hl := lv_entry ([.ref h0]) (n := 1) (Nat.le_of_ble_eq_true rfl)
  rw [lg_entry_eq]
  generalize (lg_sl ([.ref h0]) ++ List.replicate (1 - (lg_sl ([.ref h0])).length) Slot.unset).toArray = ls at hl ⊢
  have hl : lv_has ls 1 [(0, .ref h0)] := hl
  refine lv_aload_n hx hb dX7_init_0 rfl (lv_at hl 0 rfl) ?_
  refine W.objInit hx hb hown (hts _ kw_31) (hts _ kw_1) (hts _ kw_2) rfl (by rw [hml]; exact hl.1) rfl dX7_init_1 (Nat.le_of_ble_eq_true rfl) (Nat.le_of_ble_eq_true rfl) ?_
  refine W.eq (g2 := F0 m 4 ls []) rfl ?_
  refine lv_aload_n hx hb dX7_init_4 rfl (lv_at hl 0 rfl) ?_
  refine lv_iconst (v := 0) hx hb dX7_init_5 (by decide) ?_
  refine va_newa (atype := .byte) (ty := .byte) (a0 := (0, .inl (fun _ => 0))) (N' := 0) hx hb (hts (.arrayClass .byte) kw_3) rfl hK hP hD hS hA (fun _ => rfl) (by decide) (by decide) (by decide) (Nat.le_of_ble_eq_true rfl) (Nat.le_of_ble_eq_true rfl) dX7_init_6 (fun q_1 cA_2 H hK hP hD hS => ?_)
  have hP := hP.sub (ws' := [(h0, .inr (6, dfX7))]) [0] rfl
  have hD := hD.sub (ws' := [(h0, .inr (6, dfX7))]) [0] (by decide) rfl
  have hK := hK.sub (tys' := []) [] rfl
  refine W.widen (k := 1) (n := 0) (Nat.le_of_ble_eq_true rfl) (Nat.le_of_ble_eq_true rfl) ?_
  refine va_put (D := (dC, dI)) (ci := 6) (v := .ref q_1) (ty := (.array .byte)) (C := RX7) (T := TX7) (N := 17) hx hb hts inX7 tyX7 tyX7_ok nmX7 hown hK hP hD hS 0 rfl rfl 0 (by decide) (hts _ kw_32) (fun _ h9 => h9) rfl (by decide +kernel) rfl rfl (by rw [L_dfX7]; decide) dX7_init_8 (fun H locs hP hD hS => ?_)
  obtain ⟨dfX7_3, e_dfX7_3⟩ : ∃ z, z = dfX7.set 0 (.ref q_1) := ⟨_, rfl⟩
  have hP : va_P (dC, dI) cl0 [(h0, .inr (6, dfX7_3))] H := by rw [e_dfX7_3]; exact hP
  have hD : va_D A [(h0, .inr (6, dfX7_3))] := by rw [e_dfX7_3]; exact hD
  have L_dfX7_3 : dfX7_3.length = 17 := fx_len e_dfX7_3 L_dfX7
  refine lv_aload_n hx hb dX7_init_11 rfl (lv_at hl 0 rfl) ?_
  refine lv_iconst (v := (-1)) hx hb dX7_init_12 (by decide) ?_
  refine va_put (D := (dC, dI)) (ci := 6) (v := .int (-1)) (ty := .int) (C := RX7) (T := TX7) (N := 17) hx hb hts inX7 tyX7 tyX7_ok nmX7 hown hK hP hD hS 0 rfl rfl 3 (by decide) (hts _ kw_33) (fun _ h9 => h9) rfl (by decide +kernel) rfl rfl (by rw [L_dfX7_3]; decide) dX7_init_13 (fun H locs hP hD hS => ?_)
  obtain ⟨dfX7_4, e_dfX7_4⟩ : ∃ z, z = dfX7_3.set 3 (.int (-1)) := ⟨_, rfl⟩
  have hP : va_P (dC, dI) cl0 [(h0, .inr (6, dfX7_4))] H := by rw [e_dfX7_4]; exact hP
  have hD : va_D A [(h0, .inr (6, dfX7_4))] := by rw [e_dfX7_4]; exact hD
  have L_dfX7_4 : dfX7_4.length = 17 := fx_len e_dfX7_4 L_dfX7_3
  refine lv_aload_n hx hb dX7_init_16 rfl (lv_at hl 0 rfl) ?_
  refine lv_sipush (v := 500) hx hb dX7_init_17 (by decide) ?_
  refine va_newa (atype := .int) (ty := .int) (a0 := (500, .inl (fun _ => 0))) (N' := 500) hx hb (hts (.arrayClass .int) kw_6) rfl hK hP hD hS hA (fun _ => rfl) (by decide) (by decide) (by decide) (Nat.le_of_ble_eq_true rfl) (Nat.le_of_ble_eq_true rfl) dX7_init_20 (fun q_5 cA_6 H hK hP hD hS => ?_)
  have hP := hP.sub (ws' := [(h0, .inr (6, dfX7_4))]) [0] rfl
  have hD := hD.sub (ws' := [(h0, .inr (6, dfX7_4))]) [0] (by decide) rfl
  have hK := hK.sub (tys' := []) [] rfl
  refine W.widen (k := 2) (n := 500) (Nat.le_of_ble_eq_true rfl) (Nat.le_of_ble_eq_true rfl) ?_
  refine va_putF (D := (dC, dI)) (ci := 6) (v := .ref q_5) (ty := (.array .int)) (C := RX7) (T := TX7) (N := 17) hx hb hts inX7 tyX7 tyX7_ok nmX7 hown hK hP hD hS 0 rfl rfl 4 (by decide) (hts _ kw_34) (fun _ h9 => h9) rfl hin rfl (by decide +kernel) rfl rfl (by rw [L_dfX7_4]; decide) dX7_init_22 (fun H locs hP hD hS => ?_)
  obtain ⟨dfX7_7, e_dfX7_7⟩ : ∃ z, z = dfX7_4.set 4 (.ref q_5) := ⟨_, rfl⟩
  have hP : va_P (dC, dI) cl0 [(h0, .inr (6, dfX7_7))] H := by rw [e_dfX7_7]; exact hP
  have hD : va_D A [(h0, .inr (6, dfX7_7))] := by rw [e_dfX7_7]; exact hD
  have L_dfX7_7 : dfX7_7.length = 17 := fx_len e_dfX7_7 L_dfX7_4
  refine lv_aload_n hx hb dX7_init_25 rfl (lv_at hl 0 rfl) ?_
  refine lv_bipush (v := 48) hx hb dX7_init_26 (by decide) ?_
  refine va_newa (atype := .int) (ty := .int) (a0 := (48, .inl (fun _ => 0))) (N' := 48) hx hb (hts (.arrayClass .int) kw_6) rfl hK hP hD hS hA (fun _ => rfl) (by decide) (by decide) (by decide) (Nat.le_of_ble_eq_true rfl) (Nat.le_of_ble_eq_true rfl) dX7_init_28 (fun q_8 cA_9 H hK hP hD hS => ?_)
  have hP := hP.sub (ws' := [(h0, .inr (6, dfX7_7))]) [0] rfl
  have hD := hD.sub (ws' := [(h0, .inr (6, dfX7_7))]) [0] (by decide) rfl
  have hK := hK.sub (tys' := []) [] rfl
  refine W.widen (k := 3) (n := 548) (Nat.le_of_ble_eq_true rfl) (Nat.le_of_ble_eq_true rfl) ?_
  refine va_putF (D := (dC, dI)) (ci := 6) (v := .ref q_8) (ty := (.array .int)) (C := RX7) (T := TX7) (N := 17) hx hb hts inX7 tyX7 tyX7_ok nmX7 hown hK hP hD hS 0 rfl rfl 9 (by decide) (hts _ kw_35) (fun _ h9 => h9) rfl hin rfl (by decide +kernel) rfl rfl (by rw [L_dfX7_7]; decide) dX7_init_30 (fun H locs hP hD hS => ?_)
  obtain ⟨dfX7_10, e_dfX7_10⟩ : ∃ z, z = dfX7_7.set 9 (.ref q_8) := ⟨_, rfl⟩
  have hP : va_P (dC, dI) cl0 [(h0, .inr (6, dfX7_10))] H := by rw [e_dfX7_10]; exact hP
  have hD : va_D A [(h0, .inr (6, dfX7_10))] := by rw [e_dfX7_10]; exact hD
  have L_dfX7_10 : dfX7_10.length = 17 := fx_len e_dfX7_10 L_dfX7_7
  refine lv_aload_n hx hb dX7_init_33 rfl (lv_at hl 0 rfl) ?_
  refine lv_bipush (v := 24) hx hb dX7_init_34 (by decide) ?_
  refine va_newa (atype := .int) (ty := .int) (a0 := (24, .inl (fun _ => 0))) (N' := 24) hx hb (hts (.arrayClass .int) kw_6) rfl hK hP hD hS hA (fun _ => rfl) (by decide) (by decide) (by decide) (Nat.le_of_ble_eq_true rfl) (Nat.le_of_ble_eq_true rfl) dX7_init_36 (fun q_11 cA_12 H hK hP hD hS => ?_)
  have hP := hP.sub (ws' := [(h0, .inr (6, dfX7_10))]) [0] rfl
  have hD := hD.sub (ws' := [(h0, .inr (6, dfX7_10))]) [0] (by decide) rfl
  have hK := hK.sub (tys' := []) [] rfl
  refine W.widen (k := 4) (n := 572) (Nat.le_of_ble_eq_true rfl) (Nat.le_of_ble_eq_true rfl) ?_
  refine va_putF (D := (dC, dI)) (ci := 6) (v := .ref q_11) (ty := (.array .int)) (C := RX7) (T := TX7) (N := 17) hx hb hts inX7 tyX7 tyX7_ok nmX7 hown hK hP hD hS 0 rfl rfl 10 (by decide) (hts _ kw_36) (fun _ h9 => h9) rfl hin rfl (by decide +kernel) rfl rfl (by rw [L_dfX7_10]; decide) dX7_init_38 (fun H locs hP hD hS => ?_)
  obtain ⟨dfX7_13, e_dfX7_13⟩ : ∃ z, z = dfX7_10.set 10 (.ref q_11) := ⟨_, rfl⟩
  have hP : va_P (dC, dI) cl0 [(h0, .inr (6, dfX7_13))] H := by rw [e_dfX7_13]; exact hP
  have hD : va_D A [(h0, .inr (6, dfX7_13))] := by rw [e_dfX7_13]; exact hD
  have L_dfX7_13 : dfX7_13.length = 17 := fx_len e_dfX7_13 L_dfX7_10
  refine lv_aload_n hx hb dX7_init_41 rfl (lv_at hl 0 rfl) ?_
  refine lv_bipush (v := 24) hx hb dX7_init_42 (by decide) ?_
  refine va_newa (atype := .int) (ty := .int) (a0 := (24, .inl (fun _ => 0))) (N' := 24) hx hb (hts (.arrayClass .int) kw_6) rfl hK hP hD hS hA (fun _ => rfl) (by decide) (by decide) (by decide) (Nat.le_of_ble_eq_true rfl) (Nat.le_of_ble_eq_true rfl) dX7_init_44 (fun q_14 cA_15 H hK hP hD hS => ?_)
  have hP := hP.sub (ws' := [(h0, .inr (6, dfX7_13))]) [0] rfl
  have hD := hD.sub (ws' := [(h0, .inr (6, dfX7_13))]) [0] (by decide) rfl
  have hK := hK.sub (tys' := []) [] rfl
  refine W.widen (k := 5) (n := 596) (Nat.le_of_ble_eq_true rfl) (Nat.le_of_ble_eq_true rfl) ?_
  refine va_putF (D := (dC, dI)) (ci := 6) (v := .ref q_14) (ty := (.array .int)) (C := RX7) (T := TX7) (N := 17) hx hb hts inX7 tyX7 tyX7_ok nmX7 hown hK hP hD hS 0 rfl rfl 11 (by decide) (hts _ kw_37) (fun _ h9 => h9) rfl hin rfl (by decide +kernel) rfl rfl (by rw [L_dfX7_13]; decide) dX7_init_46 (fun H locs hP hD hS => ?_)
  obtain ⟨dfX7_16, e_dfX7_16⟩ : ∃ z, z = dfX7_13.set 11 (.ref q_14) := ⟨_, rfl⟩
  have hP : va_P (dC, dI) cl0 [(h0, .inr (6, dfX7_16))] H := by rw [e_dfX7_16]; exact hP
  have hD : va_D A [(h0, .inr (6, dfX7_16))] := by rw [e_dfX7_16]; exact hD
  have L_dfX7_16 : dfX7_16.length = 17 := fx_len e_dfX7_16 L_dfX7_13
  refine W.widen (k := 5) (n := 596) (Nat.le_of_ble_eq_true rfl) (Nat.le_of_ble_eq_true rfl) ?_
  have hP9 := hP.sub (ws' := [(h0, .inr (6, dfX7_16))]) [0] rfl
  have hD9 := hD.sub (ws' := [(h0, .inr (6, dfX7_16))]) [0] (by decide) rfl
  have hK9 := hK.sub (tys' := []) [] rfl
  exact W.vret hx hb hr (fun t9 ht9 hW9 => ⟨⟨(), rfl, trivial, dfX7_16, L_dfX7_16, by rw [ht9]; exact hP9, va_K.moved hW9.alike hK9, hD9⟩, hS.F ht9⟩) hS.2.2 dX7_init_49
set_option maxHeartbeats 4000000 in
set_option maxRecDepth 100000 in
theorem m_X2_init (l : Launch) (dC : Nat → ClassId) (dI : Nat → Nat → Nat) (sz : Nat) (h0 : Nat)  : Met l yX2_init (wt yX2_init cX2_init 1 none) ({ frames := 2, cells := 7, slots := 1814, locals := 32 }) (va_Pc [.ref h0] (st_U dC dI sz [(h0, .inr (2, dfX2))] [])) (va_Qv (fun _ : Unit => True) (fun (_ : Unit) (t : State) => ∃ (fs1 : List Value), ∃ (hr : Nat), ∃ (fs2 : List Value), (fs1.length = 12) ∧ (fs1[0]? = some (.ref hr)) ∧ (fs2.length = 17) ∧ va_P (dC, dI) cl0 [(h0, .inr (2, fs1)), (hr, .inr (6, fs2))] t.heap ∧ va_K (dC, dI) cl0 [] t ∧ va_D (va_A [(h0, .inr (2, dfX2))] sz) [(h0, .inr (2, fs1)), (hr, .inr (6, fs2))]) (va_A [(h0, .inr (2, dfX2))] sz)) 7 1814 (va_A [(h0, .inr (2, dfX2))] sz) := by
  refine Met.ofW (cc := cX2_init) (maxL := 1) (ret := none) (by decide) rfl ?_
  intro p e s m args below meth c s₁ B hml hv
  obtain ⟨rfl, hsz, hP, hK, hD0, hex⟩ := hv
  have hx := B.exec
  have hb := B.bytes
  have hr := B.returns
  have hts0 := atoms_spec (ws := wt yX2_init cX2_init 1 none) B.pre
  have hts : ∀ w ∈ tb, w.before _ s = true := fun w h => hts0 w (List.mem_cons_of_mem _ h)
  have hown : s.vm.findClass RX2 = some m.cls := findClass_of_methodNamed B.named
  have hlocks := B.notSynchronized
  have hin : meth.name = "<init>" := (name_of_methodNamed B.named B.method).1
  subst hsz
  have hD := hD0.self (sz := s.heap.size)
  generalize hAe : va_A [(h0, .inr (2, dfX2))] s.heap.size = A at hD ⊢
  have hA : ∀ q : Nat, s.heap.size ≤ q → A q := fun q h => by rw [← hAe]; exact Or.inr h
  have hS : va_S A s.heap s.heap [] := va_S.rf
  have hl := lv_entry ([.ref h0]) (n := 1) (Nat.le_of_ble_eq_true rfl)
  rw [lg_entry_eq]
  generalize (lg_sl ([.ref h0]) ++ List.replicate (1 - (lg_sl ([.ref h0])).length) Slot.unset).toArray = ls at hl ⊢
  have hl : lv_has ls 1 [(0, .ref h0)] := hl
  refine lv_aload_n hx hb dX2_init_0 rfl (lv_at hl 0 rfl) ?_
  refine W.objInit hx hb hown (hts _ kw_38) (hts _ kw_1) (hts _ kw_2) rfl (by rw [hml]; exact hl.1) rfl dX2_init_1 (Nat.le_of_ble_eq_true rfl) (Nat.le_of_ble_eq_true rfl) ?_
  refine W.eq (g2 := F0 m 4 ls []) rfl ?_
  refine lv_aload_n hx hb dX2_init_4 rfl (lv_at hl 0 rfl) ?_
  refine va_new (ci := 6) (fs := dfX7) (C := RX7) (T := TX7) (N := 17) hx hb hts inX7 tyX7 tyX7_ok hown (hts _ kw_39) (hts _ kw_40) (hts _ kw_41) hK hP hD hS hA rfl dfX7_ok (Nat.le_of_ble_eq_true rfl) (Nat.le_of_ble_eq_true rfl) dX2_init_5 (fun q_1 H hP hD hS => ?_)
  have hP : va_P (dC, dI) cl0 [(h0, .inr (2, dfX2)), (q_1, .inr (6, dfX7))] H := hP
  have hD : va_D A [(h0, .inr (2, dfX2)), (q_1, .inr (6, dfX7))] := hD
  refine W.widen (k := 1) (n := 17) (Nat.le_of_ble_eq_true rfl) (Nat.le_of_ble_eq_true rfl) ?_
  refine lv_dup hx hb dX2_init_8 rfl ?_
  have hPc := hP.sub (ws' := [(q_1, .inr (6, dfX7))]) [1] rfl
  have hDc := hD.sub (ws' := [(q_1, .inr (6, dfX7))]) [1] (by decide) rfl
  have hKc := hK.sub (tys' := []) [] rfl
  have hFc := va_free (wc := [(q_1, .inr (6, dfX7))]) hD hS hA [1] rfl
  refine va_callv (va_runIN (As := []) (rest := [.ref q_1, .ref h0]) ⟨hx, hb, hml, hown, hts⟩ (m_X7_init l dC dI H.size q_1 ) ⟨va_cnB 0 hts (gd_I kw_42) rfl rfl rfl (nw_of (by exact nn_X2_11) hex) (hts _ kw_41) (by decide +kernel) ⟨Nat.le_of_ble_eq_true rfl, Nat.le_of_ble_eq_true rfl⟩, rfl, hts _ kw_43⟩ ⟨st_blind, fun U hU hW9 => st_mk hU hW9 hPc hKc hDc hex⟩ rfl rfl hl.1 rfl (lv_room (Nat.le_of_ble_eq_true rfl)) dX2_init_9 ⟨Nat.le_of_ble_eq_true rfl, Nat.le_of_ble_eq_true rfl⟩) hS (fun q _ h => hFc q h) hFc (fun  u9 t9 H1 locs ht9 hvm9 hw9 hB9 hz9 hk9 hS => ?_)
  obtain ⟨fs1_2, L_fs1_2, hP1, hK1, hD1⟩ := hB9
  rw [ht9] at hP1
  have hK1 := va_K.moved hvm9.symm hK1
  obtain ⟨hP, hD⟩ := va_join (wr := [(h0, .inr (2, dfX2))]) (w1 := [(q_1, .inr (6, fs1_2))]) hP hD [1] [0] rfl rfl (by decide) (by decide) hk9 hFc hP1 hD1
  have hK := (hK.sub (tys' := []) [] rfl).app hK1
  generalize H1 = H at hP hS ⊢
  have hP : va_P (dC, dI) cl0 [(h0, .inr (2, dfX2)), (q_1, .inr (6, fs1_2))] H := hP
  have hD : va_D A [(h0, .inr (2, dfX2)), (q_1, .inr (6, fs1_2))] := hD
  have hK : va_K (dC, dI) cl0 [] s := hK
  refine W.widen (k := 6) (n := 613) (by omega) (by omega) ?_
  refine va_putF (D := (dC, dI)) (ci := 2) (v := .ref q_1) (ty := (.object "CodeFoundry$Reader")) (C := RX2) (T := TX2) (N := 12) hx hb hts inX2 tyX2 tyX2_ok nmX2 hown hK hP hD hS 0 rfl rfl 0 (by decide) (hts _ kw_44) (fun _ h9 => h9) rfl hin rfl (by decide +kernel) rfl rfl (by rw [L_dfX2]; decide) dX2_init_12 (fun H locs hP hD hS => ?_)
  obtain ⟨dfX2_3, e_dfX2_3⟩ : ∃ z, z = dfX2.set 0 (.ref q_1) := ⟨_, rfl⟩
  have hP : va_P (dC, dI) cl0 [(h0, .inr (2, dfX2_3)), (q_1, .inr (6, fs1_2))] H := by rw [e_dfX2_3]; exact hP
  have hD : va_D A [(h0, .inr (2, dfX2_3)), (q_1, .inr (6, fs1_2))] := by rw [e_dfX2_3]; exact hD
  have L_dfX2_3 : dfX2_3.length = 12 := fx_len e_dfX2_3 L_dfX2
  have g_dfX2_3_0 := fx_self e_dfX2_3 (by rw [L_dfX2]; decide)
  refine lv_aload_n hx hb dX2_init_15 rfl (lv_at hl 0 rfl) ?_
  refine lv_sipush (v := 1201) hx hb dX2_init_16 (by decide) ?_
  refine va_newa (atype := .int) (ty := .int) (a0 := (1201, .inl (fun _ => 0))) (N' := 1201) hx hb (hts (.arrayClass .int) kw_6) rfl hK hP hD hS hA (fun _ => rfl) (by decide) (by decide) (by decide) (Nat.le_of_ble_eq_true rfl) (Nat.le_of_ble_eq_true rfl) dX2_init_19 (fun q_4 cA_5 H hK hP hD hS => ?_)
  have hP := hP.sub (ws' := [(h0, .inr (2, dfX2_3)), (q_1, .inr (6, fs1_2))]) [0, 1] rfl
  have hD := hD.sub (ws' := [(h0, .inr (2, dfX2_3)), (q_1, .inr (6, fs1_2))]) [0, 1] (by decide) rfl
  have hK := hK.sub (tys' := []) [] rfl
  refine W.widen (k := 7) (n := 1814) (Nat.le_of_ble_eq_true rfl) (Nat.le_of_ble_eq_true rfl) ?_
  refine va_putF (D := (dC, dI)) (ci := 2) (v := .ref q_4) (ty := (.array .int)) (C := RX2) (T := TX2) (N := 12) hx hb hts inX2 tyX2 tyX2_ok nmX2 hown hK hP hD hS 0 rfl rfl 7 (by decide) (hts _ kw_45) (fun _ h9 => h9) rfl hin rfl (by decide +kernel) rfl rfl (by rw [L_dfX2_3]; decide) dX2_init_21 (fun H locs hP hD hS => ?_)
  obtain ⟨dfX2_6, e_dfX2_6⟩ : ∃ z, z = dfX2_3.set 7 (.ref q_4) := ⟨_, rfl⟩
  have hP : va_P (dC, dI) cl0 [(h0, .inr (2, dfX2_6)), (q_1, .inr (6, fs1_2))] H := by rw [e_dfX2_6]; exact hP
  have hD : va_D A [(h0, .inr (2, dfX2_6)), (q_1, .inr (6, fs1_2))] := by rw [e_dfX2_6]; exact hD
  have L_dfX2_6 : dfX2_6.length = 12 := fx_len e_dfX2_6 L_dfX2_3
  have g_dfX2_6_0 := fx_ne (j := 0) e_dfX2_6 g_dfX2_3_0 (by decide)
  refine W.widen (k := 7) (n := 1814) (Nat.le_of_ble_eq_true rfl) (Nat.le_of_ble_eq_true rfl) ?_
  have hP9 := hP.sub (ws' := [(h0, .inr (2, dfX2_6)), (q_1, .inr (6, fs1_2))]) [0, 1] rfl
  have hD9 := hD.sub (ws' := [(h0, .inr (2, dfX2_6)), (q_1, .inr (6, fs1_2))]) [0, 1] (by decide) rfl
  have hK9 := hK.sub (tys' := []) [] rfl
  exact W.vret hx hb hr (fun t9 ht9 hW9 => ⟨⟨(), rfl, trivial, dfX2_6, q_1, fs1_2, L_dfX2_6, g_dfX2_6_0, L_fs1_2, by rw [ht9]; exact hP9, va_K.moved hW9.alike hK9, hD9⟩, hS.F ht9⟩) hS.2.2 dX2_init_24
set_option maxHeartbeats 4000000 in
set_option maxRecDepth 100000 in
theorem m_X11_init (l : Launch) (dC : Nat → ClassId) (dI : Nat → Nat → Nat) (sz : Nat) (h0 : Nat)  : Met l yX11_init (wt yX11_init cX11_init 1 none) ({ frames := 2, cells := 18, slots := 1302, locals := 32 }) (va_Pc [.ref h0] (st_U dC dI sz [(h0, .inr (9, dfX11))] [])) (va_Qv (fun _ : Unit => True) (fun (_ : Unit) (_ : State) => True) (va_A [(h0, .inr (9, dfX11))] sz)) 18 1302 (va_A [(h0, .inr (9, dfX11))] sz) := by
  refine Met.ofW (cc := cX11_init) (maxL := 1) (ret := none) (by decide) rfl ?_
  intro p e s m args below meth c s₁ B hml hv
  obtain ⟨rfl, hsz, hP, hK, hD0, hex⟩ := hv
  have hx := B.exec
  have hb := B.bytes
  have hr := B.returns
  have hts0 := atoms_spec (ws := wt yX11_init cX11_init 1 none) B.pre
  have hts : ∀ w ∈ tb, w.before _ s = true := fun w h => hts0 w (List.mem_cons_of_mem _ h)
  have hown : s.vm.findClass RX11 = some m.cls := findClass_of_methodNamed B.named
  have hlocks := B.notSynchronized
  have hin : meth.name = "<init>" := (name_of_methodNamed B.named B.method).1
  subst hsz
  have hD := hD0.self (sz := s.heap.size)
  generalize hAe : va_A [(h0, .inr (9, dfX11))] s.heap.size = A at hD ⊢
  have hA : ∀ q : Nat, s.heap.size ≤ q → A q := fun q h => by rw [← hAe]; exact Or.inr h
  have hS : va_S A s.heap s.heap [] := va_S.rf
  have hl := lv_entry ([.ref h0]) (n := 1) (Nat.le_of_ble_eq_true rfl)
  rw [lg_entry_eq]
  generalize (lg_sl ([.ref h0]) ++ List.replicate (1 - (lg_sl ([.ref h0])).length) Slot.unset).toArray = ls at hl ⊢
  have hl : lv_has ls 1 [(0, .ref h0)] := hl
  refine lv_aload_n hx hb dX11_init_0 rfl (lv_at hl 0 rfl) ?_
  refine W.objInit hx hb hown (hts _ kw_46) (hts _ kw_1) (hts _ kw_2) rfl (by rw [hml]; exact hl.1) rfl dX11_init_1 (Nat.le_of_ble_eq_true rfl) (Nat.le_of_ble_eq_true rfl) ?_
  refine W.eq (g2 := F0 m 4 ls []) rfl ?_
  refine lv_aload_n hx hb dX11_init_4 rfl (lv_at hl 0 rfl) ?_
  refine va_new (ci := 0) (fs := dfX0) (C := RX0) (T := TX0) (N := 2) hx hb hts inX0 tyX0 tyX0_ok hown (hts _ kw_47) (hts _ kw_48) (hts _ kw_49) hK hP hD hS hA rfl dfX0_ok (Nat.le_of_ble_eq_true rfl) (Nat.le_of_ble_eq_true rfl) dX11_init_5 (fun q_1 H hP hD hS => ?_)
  have hP : va_P (dC, dI) cl0 [(h0, .inr (9, dfX11)), (q_1, .inr (0, dfX0))] H := hP
  have hD : va_D A [(h0, .inr (9, dfX11)), (q_1, .inr (0, dfX0))] := hD
  refine W.widen (k := 1) (n := 2) (Nat.le_of_ble_eq_true rfl) (Nat.le_of_ble_eq_true rfl) ?_
  refine lv_dup hx hb dX11_init_8 rfl ?_
  have hPc := hP.sub (ws' := [(q_1, .inr (0, dfX0))]) [1] rfl
  have hDc := hD.sub (ws' := [(q_1, .inr (0, dfX0))]) [1] (by decide) rfl
  have hKc := hK.sub (tys' := []) [] rfl
  have hFc := va_free (wc := [(q_1, .inr (0, dfX0))]) hD hS hA [1] rfl
  refine va_callv (va_runIN (As := []) (rest := [.ref q_1, .ref h0]) ⟨hx, hb, hml, hown, hts⟩ (m_X0_init l dC dI H.size q_1 ) ⟨va_cnB 0 hts (gd_I kw_50) rfl rfl rfl (nw_of (by exact nn_X11_11) hex) (hts _ kw_49) (by decide +kernel) ⟨Nat.le_of_ble_eq_true rfl, Nat.le_of_ble_eq_true rfl⟩, rfl, hts _ kw_51⟩ ⟨st_blind, fun U hU hW9 => st_mk hU hW9 hPc hKc hDc hex⟩ rfl rfl hl.1 rfl (lv_room (Nat.le_of_ble_eq_true rfl)) dX11_init_9 ⟨Nat.le_of_ble_eq_true rfl, Nat.le_of_ble_eq_true rfl⟩) hS (fun q _ h => hFc q h) hFc (fun  u9 t9 H1 locs ht9 hvm9 hw9 hB9 hz9 hk9 hS => ?_)
  obtain ⟨fs1_2, hd_3, cB_4, L_fs1_2, g_fs1_2_0, g_fs1_2_1, hP1, hK1, hD1⟩ := hB9
  rw [ht9] at hP1
  have hK1 := va_K.moved hvm9.symm hK1
  obtain ⟨hP, hD⟩ := va_join (wr := [(h0, .inr (9, dfX11))]) (w1 := [(q_1, .inr (0, fs1_2)), (hd_3, .inl (cB_4, 64, .inl (fun _ => 0)))]) hP hD [1] [0] rfl rfl (by decide) (by decide) hk9 hFc hP1 hD1
  have hK := (hK.sub (tys' := []) [] rfl).app hK1
  generalize H1 = H at hP hS ⊢
  have hP : va_P (dC, dI) cl0 [(h0, .inr (9, dfX11)), (q_1, .inr (0, fs1_2)), (hd_3, .inl (cB_4, 64, .inl (fun _ => 0)))] H := hP
  have hD : va_D A [(h0, .inr (9, dfX11)), (q_1, .inr (0, fs1_2)), (hd_3, .inl (cB_4, 64, .inl (fun _ => 0)))] := hD
  have hK : va_K (dC, dI) cl0 [(cB_4, .byte)] s := hK
  refine W.widen (k := 2) (n := 66) (by omega) (by omega) ?_
  refine va_putF (D := (dC, dI)) (ci := 9) (v := .ref q_1) (ty := (.object "CodeFoundry$Bytes")) (C := RX11) (T := TX11) (N := 18) hx hb hts inX11 tyX11 tyX11_ok nmX11 hown hK hP hD hS 0 rfl rfl 0 (by decide) (hts _ kw_52) (fun _ h9 => h9) rfl hin rfl (by decide +kernel) rfl rfl (by rw [L_dfX11]; decide) dX11_init_12 (fun H locs hP hD hS => ?_)
  obtain ⟨dfX11_5, e_dfX11_5⟩ : ∃ z, z = dfX11.set 0 (.ref q_1) := ⟨_, rfl⟩
  have hP : va_P (dC, dI) cl0 [(h0, .inr (9, dfX11_5)), (q_1, .inr (0, fs1_2)), (hd_3, .inl (cB_4, 64, .inl (fun _ => 0)))] H := by rw [e_dfX11_5]; exact hP
  have hD : va_D A [(h0, .inr (9, dfX11_5)), (q_1, .inr (0, fs1_2)), (hd_3, .inl (cB_4, 64, .inl (fun _ => 0)))] := by rw [e_dfX11_5]; exact hD
  have L_dfX11_5 : dfX11_5.length = 18 := fx_len e_dfX11_5 L_dfX11
  refine lv_aload_n hx hb dX11_init_15 rfl (lv_at hl 0 rfl) ?_
  refine va_new (ci := 0) (fs := dfX0) (C := RX0) (T := TX0) (N := 2) hx hb hts inX0 tyX0 tyX0_ok hown (hts _ kw_47) (hts _ kw_48) (hts _ kw_49) hK hP hD hS hA rfl dfX0_ok (Nat.le_of_ble_eq_true rfl) (Nat.le_of_ble_eq_true rfl) dX11_init_16 (fun q_6 H hP hD hS => ?_)
  have hP : va_P (dC, dI) cl0 [(h0, .inr (9, dfX11_5)), (q_1, .inr (0, fs1_2)), (hd_3, .inl (cB_4, 64, .inl (fun _ => 0))), (q_6, .inr (0, dfX0))] H := hP
  have hD : va_D A [(h0, .inr (9, dfX11_5)), (q_1, .inr (0, fs1_2)), (hd_3, .inl (cB_4, 64, .inl (fun _ => 0))), (q_6, .inr (0, dfX0))] := hD
  refine W.widen (k := 3) (n := 68) (Nat.le_of_ble_eq_true rfl) (Nat.le_of_ble_eq_true rfl) ?_
  refine lv_dup hx hb dX11_init_19 rfl ?_
  have hPc := hP.sub (ws' := [(q_6, .inr (0, dfX0))]) [3] rfl
  have hDc := hD.sub (ws' := [(q_6, .inr (0, dfX0))]) [3] (by decide) rfl
  have hKc := hK.sub (tys' := []) [] rfl
  have hFc := va_free (wc := [(q_6, .inr (0, dfX0))]) hD hS hA [3] rfl
  refine va_callv (va_runIN (As := []) (rest := [.ref q_6, .ref h0]) ⟨hx, hb, hml, hown, hts⟩ (m_X0_init l dC dI H.size q_6 ) ⟨va_cnB 0 hts (gd_I kw_50) rfl rfl rfl (nw_of (by exact nn_X11_11) hex) (hts _ kw_49) (by decide +kernel) ⟨Nat.le_of_ble_eq_true rfl, Nat.le_of_ble_eq_true rfl⟩, rfl, hts _ kw_51⟩ ⟨st_blind, fun U hU hW9 => st_mk hU hW9 hPc hKc hDc hex⟩ rfl rfl hl.1 rfl (lv_room (Nat.le_of_ble_eq_true rfl)) dX11_init_20 ⟨Nat.le_of_ble_eq_true rfl, Nat.le_of_ble_eq_true rfl⟩) hS (fun q _ h => hFc q h) hFc (fun  u9 t9 H1 locs ht9 hvm9 hw9 hB9 hz9 hk9 hS => ?_)
  obtain ⟨fs1_7, hd_8, cB_9, L_fs1_7, g_fs1_7_0, g_fs1_7_1, hP1, hK1, hD1⟩ := hB9
  rw [ht9] at hP1
  have hK1 := va_K.moved hvm9.symm hK1
  obtain ⟨hP, hD⟩ := va_join (wr := [(h0, .inr (9, dfX11_5)), (q_1, .inr (0, fs1_2)), (hd_3, .inl (cB_4, 64, .inl (fun _ => 0)))]) (w1 := [(q_6, .inr (0, fs1_7)), (hd_8, .inl (cB_9, 64, .inl (fun _ => 0)))]) hP hD [3] [0, 1, 2] rfl rfl (by decide) (by decide) hk9 hFc hP1 hD1
  have hK := (hK.sub (tys' := [(cB_4, .byte)]) [0] rfl).app hK1
  generalize H1 = H at hP hS ⊢
  have hP : va_P (dC, dI) cl0 [(h0, .inr (9, dfX11_5)), (q_1, .inr (0, fs1_2)), (hd_3, .inl (cB_4, 64, .inl (fun _ => 0))), (q_6, .inr (0, fs1_7)), (hd_8, .inl (cB_9, 64, .inl (fun _ => 0)))] H := hP
  have hD : va_D A [(h0, .inr (9, dfX11_5)), (q_1, .inr (0, fs1_2)), (hd_3, .inl (cB_4, 64, .inl (fun _ => 0))), (q_6, .inr (0, fs1_7)), (hd_8, .inl (cB_9, 64, .inl (fun _ => 0)))] := hD
  have hK : va_K (dC, dI) cl0 [(cB_4, .byte), (cB_9, .byte)] s := hK
  refine W.widen (k := 4) (n := 132) (by omega) (by omega) ?_
  refine va_putF (D := (dC, dI)) (ci := 9) (v := .ref q_6) (ty := (.object "CodeFoundry$Bytes")) (C := RX11) (T := TX11) (N := 18) hx hb hts inX11 tyX11 tyX11_ok nmX11 hown hK hP hD hS 0 rfl rfl 1 (by decide) (hts _ kw_53) (fun _ h9 => h9) rfl hin rfl (by decide +kernel) rfl rfl (by rw [L_dfX11_5]; decide) dX11_init_23 (fun H locs hP hD hS => ?_)
  obtain ⟨dfX11_10, e_dfX11_10⟩ : ∃ z, z = dfX11_5.set 1 (.ref q_6) := ⟨_, rfl⟩
  have hP : va_P (dC, dI) cl0 [(h0, .inr (9, dfX11_10)), (q_1, .inr (0, fs1_2)), (hd_3, .inl (cB_4, 64, .inl (fun _ => 0))), (q_6, .inr (0, fs1_7)), (hd_8, .inl (cB_9, 64, .inl (fun _ => 0)))] H := by rw [e_dfX11_10]; exact hP
  have hD : va_D A [(h0, .inr (9, dfX11_10)), (q_1, .inr (0, fs1_2)), (hd_3, .inl (cB_4, 64, .inl (fun _ => 0))), (q_6, .inr (0, fs1_7)), (hd_8, .inl (cB_9, 64, .inl (fun _ => 0)))] := by rw [e_dfX11_10]; exact hD
  have L_dfX11_10 : dfX11_10.length = 18 := fx_len e_dfX11_10 L_dfX11_5
  refine lv_aload_n hx hb dX11_init_26 rfl (lv_at hl 0 rfl) ?_
  refine va_new (ci := 0) (fs := dfX0) (C := RX0) (T := TX0) (N := 2) hx hb hts inX0 tyX0 tyX0_ok hown (hts _ kw_47) (hts _ kw_48) (hts _ kw_49) hK hP hD hS hA rfl dfX0_ok (Nat.le_of_ble_eq_true rfl) (Nat.le_of_ble_eq_true rfl) dX11_init_27 (fun q_11 H hP hD hS => ?_)
  have hP : va_P (dC, dI) cl0 [(h0, .inr (9, dfX11_10)), (q_1, .inr (0, fs1_2)), (hd_3, .inl (cB_4, 64, .inl (fun _ => 0))), (q_6, .inr (0, fs1_7)), (hd_8, .inl (cB_9, 64, .inl (fun _ => 0))), (q_11, .inr (0, dfX0))] H := hP
  have hD : va_D A [(h0, .inr (9, dfX11_10)), (q_1, .inr (0, fs1_2)), (hd_3, .inl (cB_4, 64, .inl (fun _ => 0))), (q_6, .inr (0, fs1_7)), (hd_8, .inl (cB_9, 64, .inl (fun _ => 0))), (q_11, .inr (0, dfX0))] := hD
  refine W.widen (k := 5) (n := 134) (Nat.le_of_ble_eq_true rfl) (Nat.le_of_ble_eq_true rfl) ?_
  refine lv_dup hx hb dX11_init_30 rfl ?_
  have hPc := hP.sub (ws' := [(q_11, .inr (0, dfX0))]) [5] rfl
  have hDc := hD.sub (ws' := [(q_11, .inr (0, dfX0))]) [5] (by decide) rfl
  have hKc := hK.sub (tys' := []) [] rfl
  have hFc := va_free (wc := [(q_11, .inr (0, dfX0))]) hD hS hA [5] rfl
  refine va_callv (va_runIN (As := []) (rest := [.ref q_11, .ref h0]) ⟨hx, hb, hml, hown, hts⟩ (m_X0_init l dC dI H.size q_11 ) ⟨va_cnB 0 hts (gd_I kw_50) rfl rfl rfl (nw_of (by exact nn_X11_11) hex) (hts _ kw_49) (by decide +kernel) ⟨Nat.le_of_ble_eq_true rfl, Nat.le_of_ble_eq_true rfl⟩, rfl, hts _ kw_51⟩ ⟨st_blind, fun U hU hW9 => st_mk hU hW9 hPc hKc hDc hex⟩ rfl rfl hl.1 rfl (lv_room (Nat.le_of_ble_eq_true rfl)) dX11_init_31 ⟨Nat.le_of_ble_eq_true rfl, Nat.le_of_ble_eq_true rfl⟩) hS (fun q _ h => hFc q h) hFc (fun  u9 t9 H1 locs ht9 hvm9 hw9 hB9 hz9 hk9 hS => ?_)
  obtain ⟨fs1_12, hd_13, cB_14, L_fs1_12, g_fs1_12_0, g_fs1_12_1, hP1, hK1, hD1⟩ := hB9
  rw [ht9] at hP1
  have hK1 := va_K.moved hvm9.symm hK1
  obtain ⟨hP, hD⟩ := va_join (wr := [(h0, .inr (9, dfX11_10)), (q_1, .inr (0, fs1_2)), (hd_3, .inl (cB_4, 64, .inl (fun _ => 0))), (q_6, .inr (0, fs1_7)), (hd_8, .inl (cB_9, 64, .inl (fun _ => 0)))]) (w1 := [(q_11, .inr (0, fs1_12)), (hd_13, .inl (cB_14, 64, .inl (fun _ => 0)))]) hP hD [5] [0, 1, 2, 3, 4] rfl rfl (by decide) (by decide) hk9 hFc hP1 hD1
  have hK := (hK.sub (tys' := [(cB_4, .byte), (cB_9, .byte)]) [0, 1] rfl).app hK1
  generalize H1 = H at hP hS ⊢
  have hP : va_P (dC, dI) cl0 [(h0, .inr (9, dfX11_10)), (q_1, .inr (0, fs1_2)), (hd_3, .inl (cB_4, 64, .inl (fun _ => 0))), (q_6, .inr (0, fs1_7)), (hd_8, .inl (cB_9, 64, .inl (fun _ => 0))), (q_11, .inr (0, fs1_12)), (hd_13, .inl (cB_14, 64, .inl (fun _ => 0)))] H := hP
  have hD : va_D A [(h0, .inr (9, dfX11_10)), (q_1, .inr (0, fs1_2)), (hd_3, .inl (cB_4, 64, .inl (fun _ => 0))), (q_6, .inr (0, fs1_7)), (hd_8, .inl (cB_9, 64, .inl (fun _ => 0))), (q_11, .inr (0, fs1_12)), (hd_13, .inl (cB_14, 64, .inl (fun _ => 0)))] := hD
  have hK : va_K (dC, dI) cl0 [(cB_4, .byte), (cB_9, .byte), (cB_14, .byte)] s := hK
  refine W.widen (k := 6) (n := 198) (by omega) (by omega) ?_
  refine va_putF (D := (dC, dI)) (ci := 9) (v := .ref q_11) (ty := (.object "CodeFoundry$Bytes")) (C := RX11) (T := TX11) (N := 18) hx hb hts inX11 tyX11 tyX11_ok nmX11 hown hK hP hD hS 0 rfl rfl 2 (by decide) (hts _ kw_54) (fun _ h9 => h9) rfl hin rfl (by decide +kernel) rfl rfl (by rw [L_dfX11_10]; decide) dX11_init_34 (fun H locs hP hD hS => ?_)
  obtain ⟨dfX11_15, e_dfX11_15⟩ : ∃ z, z = dfX11_10.set 2 (.ref q_11) := ⟨_, rfl⟩
  have hP : va_P (dC, dI) cl0 [(h0, .inr (9, dfX11_15)), (q_1, .inr (0, fs1_2)), (hd_3, .inl (cB_4, 64, .inl (fun _ => 0))), (q_6, .inr (0, fs1_7)), (hd_8, .inl (cB_9, 64, .inl (fun _ => 0))), (q_11, .inr (0, fs1_12)), (hd_13, .inl (cB_14, 64, .inl (fun _ => 0)))] H := by rw [e_dfX11_15]; exact hP
  have hD : va_D A [(h0, .inr (9, dfX11_15)), (q_1, .inr (0, fs1_2)), (hd_3, .inl (cB_4, 64, .inl (fun _ => 0))), (q_6, .inr (0, fs1_7)), (hd_8, .inl (cB_9, 64, .inl (fun _ => 0))), (q_11, .inr (0, fs1_12)), (hd_13, .inl (cB_14, 64, .inl (fun _ => 0)))] := by rw [e_dfX11_15]; exact hD
  have L_dfX11_15 : dfX11_15.length = 18 := fx_len e_dfX11_15 L_dfX11_10
  refine lv_aload_n hx hb dX11_init_37 rfl (lv_at hl 0 rfl) ?_
  refine lv_sipush (v := 500) hx hb dX11_init_38 (by decide) ?_
  refine va_newa (atype := .int) (ty := .int) (a0 := (500, .inl (fun _ => 0))) (N' := 500) hx hb (hts (.arrayClass .int) kw_6) rfl hK hP hD hS hA (fun _ => rfl) (by decide) (by decide) (by decide) (Nat.le_of_ble_eq_true rfl) (Nat.le_of_ble_eq_true rfl) dX11_init_41 (fun q_16 cA_17 H hK hP hD hS => ?_)
  have hP := hP.sub (ws' := [(h0, .inr (9, dfX11_15)), (q_1, .inr (0, fs1_2)), (hd_3, .inl (cB_4, 64, .inl (fun _ => 0))), (q_6, .inr (0, fs1_7)), (hd_8, .inl (cB_9, 64, .inl (fun _ => 0))), (q_11, .inr (0, fs1_12)), (hd_13, .inl (cB_14, 64, .inl (fun _ => 0)))]) [0, 1, 2, 3, 4, 5, 6] rfl
  have hD := hD.sub (ws' := [(h0, .inr (9, dfX11_15)), (q_1, .inr (0, fs1_2)), (hd_3, .inl (cB_4, 64, .inl (fun _ => 0))), (q_6, .inr (0, fs1_7)), (hd_8, .inl (cB_9, 64, .inl (fun _ => 0))), (q_11, .inr (0, fs1_12)), (hd_13, .inl (cB_14, 64, .inl (fun _ => 0)))]) [0, 1, 2, 3, 4, 5, 6] (by decide) rfl
  have hK := hK.sub (tys' := [(cB_4, .byte), (cB_9, .byte), (cB_14, .byte)]) [0, 1, 2] rfl
  refine W.widen (k := 7) (n := 698) (Nat.le_of_ble_eq_true rfl) (Nat.le_of_ble_eq_true rfl) ?_
  refine va_putF (D := (dC, dI)) (ci := 9) (v := .ref q_16) (ty := (.array .int)) (C := RX11) (T := TX11) (N := 18) hx hb hts inX11 tyX11 tyX11_ok nmX11 hown hK hP hD hS 0 rfl rfl 3 (by decide) (hts _ kw_55) (fun _ h9 => h9) rfl hin rfl (by decide +kernel) rfl rfl (by rw [L_dfX11_15]; decide) dX11_init_43 (fun H locs hP hD hS => ?_)
  obtain ⟨dfX11_18, e_dfX11_18⟩ : ∃ z, z = dfX11_15.set 3 (.ref q_16) := ⟨_, rfl⟩
  have hP : va_P (dC, dI) cl0 [(h0, .inr (9, dfX11_18)), (q_1, .inr (0, fs1_2)), (hd_3, .inl (cB_4, 64, .inl (fun _ => 0))), (q_6, .inr (0, fs1_7)), (hd_8, .inl (cB_9, 64, .inl (fun _ => 0))), (q_11, .inr (0, fs1_12)), (hd_13, .inl (cB_14, 64, .inl (fun _ => 0)))] H := by rw [e_dfX11_18]; exact hP
  have hD : va_D A [(h0, .inr (9, dfX11_18)), (q_1, .inr (0, fs1_2)), (hd_3, .inl (cB_4, 64, .inl (fun _ => 0))), (q_6, .inr (0, fs1_7)), (hd_8, .inl (cB_9, 64, .inl (fun _ => 0))), (q_11, .inr (0, fs1_12)), (hd_13, .inl (cB_14, 64, .inl (fun _ => 0)))] := by rw [e_dfX11_18]; exact hD
  have L_dfX11_18 : dfX11_18.length = 18 := fx_len e_dfX11_18 L_dfX11_15
  refine lv_aload_n hx hb dX11_init_46 rfl (lv_at hl 0 rfl) ?_
  refine lv_sipush (v := 500) hx hb dX11_init_47 (by decide) ?_
  refine va_newa (atype := .int) (ty := .int) (a0 := (500, .inl (fun _ => 0))) (N' := 500) hx hb (hts (.arrayClass .int) kw_6) rfl hK hP hD hS hA (fun _ => rfl) (by decide) (by decide) (by decide) (Nat.le_of_ble_eq_true rfl) (Nat.le_of_ble_eq_true rfl) dX11_init_50 (fun q_19 cA_20 H hK hP hD hS => ?_)
  have hP := hP.sub (ws' := [(h0, .inr (9, dfX11_18)), (q_1, .inr (0, fs1_2)), (hd_3, .inl (cB_4, 64, .inl (fun _ => 0))), (q_6, .inr (0, fs1_7)), (hd_8, .inl (cB_9, 64, .inl (fun _ => 0))), (q_11, .inr (0, fs1_12)), (hd_13, .inl (cB_14, 64, .inl (fun _ => 0)))]) [0, 1, 2, 3, 4, 5, 6] rfl
  have hD := hD.sub (ws' := [(h0, .inr (9, dfX11_18)), (q_1, .inr (0, fs1_2)), (hd_3, .inl (cB_4, 64, .inl (fun _ => 0))), (q_6, .inr (0, fs1_7)), (hd_8, .inl (cB_9, 64, .inl (fun _ => 0))), (q_11, .inr (0, fs1_12)), (hd_13, .inl (cB_14, 64, .inl (fun _ => 0)))]) [0, 1, 2, 3, 4, 5, 6] (by decide) rfl
  have hK := hK.sub (tys' := [(cB_4, .byte), (cB_9, .byte), (cB_14, .byte)]) [0, 1, 2] rfl
  refine W.widen (k := 8) (n := 1198) (Nat.le_of_ble_eq_true rfl) (Nat.le_of_ble_eq_true rfl) ?_
  refine va_putF (D := (dC, dI)) (ci := 9) (v := .ref q_19) (ty := (.array .int)) (C := RX11) (T := TX11) (N := 18) hx hb hts inX11 tyX11 tyX11_ok nmX11 hown hK hP hD hS 0 rfl rfl 4 (by decide) (hts _ kw_56) (fun _ h9 => h9) rfl hin rfl (by decide +kernel) rfl rfl (by rw [L_dfX11_18]; decide) dX11_init_52 (fun H locs hP hD hS => ?_)
  obtain ⟨dfX11_21, e_dfX11_21⟩ : ∃ z, z = dfX11_18.set 4 (.ref q_19) := ⟨_, rfl⟩
  have hP : va_P (dC, dI) cl0 [(h0, .inr (9, dfX11_21)), (q_1, .inr (0, fs1_2)), (hd_3, .inl (cB_4, 64, .inl (fun _ => 0))), (q_6, .inr (0, fs1_7)), (hd_8, .inl (cB_9, 64, .inl (fun _ => 0))), (q_11, .inr (0, fs1_12)), (hd_13, .inl (cB_14, 64, .inl (fun _ => 0)))] H := by rw [e_dfX11_21]; exact hP
  have hD : va_D A [(h0, .inr (9, dfX11_21)), (q_1, .inr (0, fs1_2)), (hd_3, .inl (cB_4, 64, .inl (fun _ => 0))), (q_6, .inr (0, fs1_7)), (hd_8, .inl (cB_9, 64, .inl (fun _ => 0))), (q_11, .inr (0, fs1_12)), (hd_13, .inl (cB_14, 64, .inl (fun _ => 0)))] := by rw [e_dfX11_21]; exact hD
  have L_dfX11_21 : dfX11_21.length = 18 := fx_len e_dfX11_21 L_dfX11_18
  refine lv_aload_n hx hb dX11_init_55 rfl (lv_at hl 0 rfl) ?_
  refine lv_bipush (v := 24) hx hb dX11_init_56 (by decide) ?_
  refine va_newa (atype := .int) (ty := .int) (a0 := (24, .inl (fun _ => 0))) (N' := 24) hx hb (hts (.arrayClass .int) kw_6) rfl hK hP hD hS hA (fun _ => rfl) (by decide) (by decide) (by decide) (Nat.le_of_ble_eq_true rfl) (Nat.le_of_ble_eq_true rfl) dX11_init_58 (fun q_22 cA_23 H hK hP hD hS => ?_)
  have hP := hP.sub (ws' := [(h0, .inr (9, dfX11_21)), (q_1, .inr (0, fs1_2)), (hd_3, .inl (cB_4, 64, .inl (fun _ => 0))), (q_6, .inr (0, fs1_7)), (hd_8, .inl (cB_9, 64, .inl (fun _ => 0))), (q_11, .inr (0, fs1_12)), (hd_13, .inl (cB_14, 64, .inl (fun _ => 0)))]) [0, 1, 2, 3, 4, 5, 6] rfl
  have hD := hD.sub (ws' := [(h0, .inr (9, dfX11_21)), (q_1, .inr (0, fs1_2)), (hd_3, .inl (cB_4, 64, .inl (fun _ => 0))), (q_6, .inr (0, fs1_7)), (hd_8, .inl (cB_9, 64, .inl (fun _ => 0))), (q_11, .inr (0, fs1_12)), (hd_13, .inl (cB_14, 64, .inl (fun _ => 0)))]) [0, 1, 2, 3, 4, 5, 6] (by decide) rfl
  have hK := hK.sub (tys' := [(cB_4, .byte), (cB_9, .byte), (cB_14, .byte)]) [0, 1, 2] rfl
  refine W.widen (k := 9) (n := 1222) (Nat.le_of_ble_eq_true rfl) (Nat.le_of_ble_eq_true rfl) ?_
  refine va_putF (D := (dC, dI)) (ci := 9) (v := .ref q_22) (ty := (.array .int)) (C := RX11) (T := TX11) (N := 18) hx hb hts inX11 tyX11 tyX11_ok nmX11 hown hK hP hD hS 0 rfl rfl 10 (by decide) (hts _ kw_57) (fun _ h9 => h9) rfl hin rfl (by decide +kernel) rfl rfl (by rw [L_dfX11_21]; decide) dX11_init_60 (fun H locs hP hD hS => ?_)
  obtain ⟨dfX11_24, e_dfX11_24⟩ : ∃ z, z = dfX11_21.set 10 (.ref q_22) := ⟨_, rfl⟩
  have hP : va_P (dC, dI) cl0 [(h0, .inr (9, dfX11_24)), (q_1, .inr (0, fs1_2)), (hd_3, .inl (cB_4, 64, .inl (fun _ => 0))), (q_6, .inr (0, fs1_7)), (hd_8, .inl (cB_9, 64, .inl (fun _ => 0))), (q_11, .inr (0, fs1_12)), (hd_13, .inl (cB_14, 64, .inl (fun _ => 0)))] H := by rw [e_dfX11_24]; exact hP
  have hD : va_D A [(h0, .inr (9, dfX11_24)), (q_1, .inr (0, fs1_2)), (hd_3, .inl (cB_4, 64, .inl (fun _ => 0))), (q_6, .inr (0, fs1_7)), (hd_8, .inl (cB_9, 64, .inl (fun _ => 0))), (q_11, .inr (0, fs1_12)), (hd_13, .inl (cB_14, 64, .inl (fun _ => 0)))] := by rw [e_dfX11_24]; exact hD
  have L_dfX11_24 : dfX11_24.length = 18 := fx_len e_dfX11_24 L_dfX11_21
  refine lv_aload_n hx hb dX11_init_63 rfl (lv_at hl 0 rfl) ?_
  refine lv_bipush (v := 24) hx hb dX11_init_64 (by decide) ?_
  refine va_newa (atype := .int) (ty := .int) (a0 := (24, .inl (fun _ => 0))) (N' := 24) hx hb (hts (.arrayClass .int) kw_6) rfl hK hP hD hS hA (fun _ => rfl) (by decide) (by decide) (by decide) (Nat.le_of_ble_eq_true rfl) (Nat.le_of_ble_eq_true rfl) dX11_init_66 (fun q_25 cA_26 H hK hP hD hS => ?_)
  have hP := hP.sub (ws' := [(h0, .inr (9, dfX11_24)), (q_1, .inr (0, fs1_2)), (hd_3, .inl (cB_4, 64, .inl (fun _ => 0))), (q_6, .inr (0, fs1_7)), (hd_8, .inl (cB_9, 64, .inl (fun _ => 0))), (q_11, .inr (0, fs1_12)), (hd_13, .inl (cB_14, 64, .inl (fun _ => 0)))]) [0, 1, 2, 3, 4, 5, 6] rfl
  have hD := hD.sub (ws' := [(h0, .inr (9, dfX11_24)), (q_1, .inr (0, fs1_2)), (hd_3, .inl (cB_4, 64, .inl (fun _ => 0))), (q_6, .inr (0, fs1_7)), (hd_8, .inl (cB_9, 64, .inl (fun _ => 0))), (q_11, .inr (0, fs1_12)), (hd_13, .inl (cB_14, 64, .inl (fun _ => 0)))]) [0, 1, 2, 3, 4, 5, 6] (by decide) rfl
  have hK := hK.sub (tys' := [(cB_4, .byte), (cB_9, .byte), (cB_14, .byte)]) [0, 1, 2] rfl
  refine W.widen (k := 10) (n := 1246) (Nat.le_of_ble_eq_true rfl) (Nat.le_of_ble_eq_true rfl) ?_
  refine va_putF (D := (dC, dI)) (ci := 9) (v := .ref q_25) (ty := (.array .int)) (C := RX11) (T := TX11) (N := 18) hx hb hts inX11 tyX11 tyX11_ok nmX11 hown hK hP hD hS 0 rfl rfl 11 (by decide) (hts _ kw_58) (fun _ h9 => h9) rfl hin rfl (by decide +kernel) rfl rfl (by rw [L_dfX11_24]; decide) dX11_init_68 (fun H locs hP hD hS => ?_)
  obtain ⟨dfX11_27, e_dfX11_27⟩ : ∃ z, z = dfX11_24.set 11 (.ref q_25) := ⟨_, rfl⟩
  have hP : va_P (dC, dI) cl0 [(h0, .inr (9, dfX11_27)), (q_1, .inr (0, fs1_2)), (hd_3, .inl (cB_4, 64, .inl (fun _ => 0))), (q_6, .inr (0, fs1_7)), (hd_8, .inl (cB_9, 64, .inl (fun _ => 0))), (q_11, .inr (0, fs1_12)), (hd_13, .inl (cB_14, 64, .inl (fun _ => 0)))] H := by rw [e_dfX11_27]; exact hP
  have hD : va_D A [(h0, .inr (9, dfX11_27)), (q_1, .inr (0, fs1_2)), (hd_3, .inl (cB_4, 64, .inl (fun _ => 0))), (q_6, .inr (0, fs1_7)), (hd_8, .inl (cB_9, 64, .inl (fun _ => 0))), (q_11, .inr (0, fs1_12)), (hd_13, .inl (cB_14, 64, .inl (fun _ => 0)))] := by rw [e_dfX11_27]; exact hD
  have L_dfX11_27 : dfX11_27.length = 18 := fx_len e_dfX11_27 L_dfX11_24
  refine lv_aload_n hx hb dX11_init_71 rfl (lv_at hl 0 rfl) ?_
  refine lv_bipush (v := 24) hx hb dX11_init_72 (by decide) ?_
  refine va_newa (atype := .int) (ty := .int) (a0 := (24, .inl (fun _ => 0))) (N' := 24) hx hb (hts (.arrayClass .int) kw_6) rfl hK hP hD hS hA (fun _ => rfl) (by decide) (by decide) (by decide) (Nat.le_of_ble_eq_true rfl) (Nat.le_of_ble_eq_true rfl) dX11_init_74 (fun q_28 cA_29 H hK hP hD hS => ?_)
  have hP := hP.sub (ws' := [(h0, .inr (9, dfX11_27)), (q_1, .inr (0, fs1_2)), (hd_3, .inl (cB_4, 64, .inl (fun _ => 0))), (q_6, .inr (0, fs1_7)), (hd_8, .inl (cB_9, 64, .inl (fun _ => 0))), (q_11, .inr (0, fs1_12)), (hd_13, .inl (cB_14, 64, .inl (fun _ => 0)))]) [0, 1, 2, 3, 4, 5, 6] rfl
  have hD := hD.sub (ws' := [(h0, .inr (9, dfX11_27)), (q_1, .inr (0, fs1_2)), (hd_3, .inl (cB_4, 64, .inl (fun _ => 0))), (q_6, .inr (0, fs1_7)), (hd_8, .inl (cB_9, 64, .inl (fun _ => 0))), (q_11, .inr (0, fs1_12)), (hd_13, .inl (cB_14, 64, .inl (fun _ => 0)))]) [0, 1, 2, 3, 4, 5, 6] (by decide) rfl
  have hK := hK.sub (tys' := [(cB_4, .byte), (cB_9, .byte), (cB_14, .byte)]) [0, 1, 2] rfl
  refine W.widen (k := 11) (n := 1270) (Nat.le_of_ble_eq_true rfl) (Nat.le_of_ble_eq_true rfl) ?_
  refine va_putF (D := (dC, dI)) (ci := 9) (v := .ref q_28) (ty := (.array .int)) (C := RX11) (T := TX11) (N := 18) hx hb hts inX11 tyX11 tyX11_ok nmX11 hown hK hP hD hS 0 rfl rfl 12 (by decide) (hts _ kw_59) (fun _ h9 => h9) rfl hin rfl (by decide +kernel) rfl rfl (by rw [L_dfX11_27]; decide) dX11_init_76 (fun H locs hP hD hS => ?_)
  obtain ⟨dfX11_30, e_dfX11_30⟩ : ∃ z, z = dfX11_27.set 12 (.ref q_28) := ⟨_, rfl⟩
  have hP : va_P (dC, dI) cl0 [(h0, .inr (9, dfX11_30)), (q_1, .inr (0, fs1_2)), (hd_3, .inl (cB_4, 64, .inl (fun _ => 0))), (q_6, .inr (0, fs1_7)), (hd_8, .inl (cB_9, 64, .inl (fun _ => 0))), (q_11, .inr (0, fs1_12)), (hd_13, .inl (cB_14, 64, .inl (fun _ => 0)))] H := by rw [e_dfX11_30]; exact hP
  have hD : va_D A [(h0, .inr (9, dfX11_30)), (q_1, .inr (0, fs1_2)), (hd_3, .inl (cB_4, 64, .inl (fun _ => 0))), (q_6, .inr (0, fs1_7)), (hd_8, .inl (cB_9, 64, .inl (fun _ => 0))), (q_11, .inr (0, fs1_12)), (hd_13, .inl (cB_14, 64, .inl (fun _ => 0)))] := by rw [e_dfX11_30]; exact hD
  have L_dfX11_30 : dfX11_30.length = 18 := fx_len e_dfX11_30 L_dfX11_27
  refine lv_aload_n hx hb dX11_init_79 rfl (lv_at hl 0 rfl) ?_
  refine lv_bipush (v := 24) hx hb dX11_init_80 (by decide) ?_
  refine va_newa (atype := .int) (ty := .int) (a0 := (24, .inl (fun _ => 0))) (N' := 24) hx hb (hts (.arrayClass .int) kw_6) rfl hK hP hD hS hA (fun _ => rfl) (by decide) (by decide) (by decide) (Nat.le_of_ble_eq_true rfl) (Nat.le_of_ble_eq_true rfl) dX11_init_82 (fun q_31 cA_32 H hK hP hD hS => ?_)
  have hP := hP.sub (ws' := [(h0, .inr (9, dfX11_30)), (q_1, .inr (0, fs1_2)), (hd_3, .inl (cB_4, 64, .inl (fun _ => 0))), (q_6, .inr (0, fs1_7)), (hd_8, .inl (cB_9, 64, .inl (fun _ => 0))), (q_11, .inr (0, fs1_12)), (hd_13, .inl (cB_14, 64, .inl (fun _ => 0)))]) [0, 1, 2, 3, 4, 5, 6] rfl
  have hD := hD.sub (ws' := [(h0, .inr (9, dfX11_30)), (q_1, .inr (0, fs1_2)), (hd_3, .inl (cB_4, 64, .inl (fun _ => 0))), (q_6, .inr (0, fs1_7)), (hd_8, .inl (cB_9, 64, .inl (fun _ => 0))), (q_11, .inr (0, fs1_12)), (hd_13, .inl (cB_14, 64, .inl (fun _ => 0)))]) [0, 1, 2, 3, 4, 5, 6] (by decide) rfl
  have hK := hK.sub (tys' := [(cB_4, .byte), (cB_9, .byte), (cB_14, .byte)]) [0, 1, 2] rfl
  refine W.widen (k := 12) (n := 1294) (Nat.le_of_ble_eq_true rfl) (Nat.le_of_ble_eq_true rfl) ?_
  refine va_putF (D := (dC, dI)) (ci := 9) (v := .ref q_31) (ty := (.array .int)) (C := RX11) (T := TX11) (N := 18) hx hb hts inX11 tyX11 tyX11_ok nmX11 hown hK hP hD hS 0 rfl rfl 13 (by decide) (hts _ kw_60) (fun _ h9 => h9) rfl hin rfl (by decide +kernel) rfl rfl (by rw [L_dfX11_30]; decide) dX11_init_84 (fun H locs hP hD hS => ?_)
  obtain ⟨dfX11_33, e_dfX11_33⟩ : ∃ z, z = dfX11_30.set 13 (.ref q_31) := ⟨_, rfl⟩
  have hP : va_P (dC, dI) cl0 [(h0, .inr (9, dfX11_33)), (q_1, .inr (0, fs1_2)), (hd_3, .inl (cB_4, 64, .inl (fun _ => 0))), (q_6, .inr (0, fs1_7)), (hd_8, .inl (cB_9, 64, .inl (fun _ => 0))), (q_11, .inr (0, fs1_12)), (hd_13, .inl (cB_14, 64, .inl (fun _ => 0)))] H := by rw [e_dfX11_33]; exact hP
  have hD : va_D A [(h0, .inr (9, dfX11_33)), (q_1, .inr (0, fs1_2)), (hd_3, .inl (cB_4, 64, .inl (fun _ => 0))), (q_6, .inr (0, fs1_7)), (hd_8, .inl (cB_9, 64, .inl (fun _ => 0))), (q_11, .inr (0, fs1_12)), (hd_13, .inl (cB_14, 64, .inl (fun _ => 0)))] := by rw [e_dfX11_33]; exact hD
  have L_dfX11_33 : dfX11_33.length = 18 := fx_len e_dfX11_33 L_dfX11_30
  refine lv_aload_n hx hb dX11_init_87 rfl (lv_at hl 0 rfl) ?_
  refine va_new (ci := 4) (fs := dfX4) (C := RX4) (T := TX4) (N := 8) hx hb hts inX4 tyX4 tyX4_ok hown (hts _ kw_61) (hts _ kw_22) (hts _ kw_23) hK hP hD hS hA rfl dfX4_ok (Nat.le_of_ble_eq_true rfl) (Nat.le_of_ble_eq_true rfl) dX11_init_88 (fun q_34 H hP hD hS => ?_)
  have hP : va_P (dC, dI) cl0 [(h0, .inr (9, dfX11_33)), (q_1, .inr (0, fs1_2)), (hd_3, .inl (cB_4, 64, .inl (fun _ => 0))), (q_6, .inr (0, fs1_7)), (hd_8, .inl (cB_9, 64, .inl (fun _ => 0))), (q_11, .inr (0, fs1_12)), (hd_13, .inl (cB_14, 64, .inl (fun _ => 0))), (q_34, .inr (4, dfX4))] H := hP
  have hD : va_D A [(h0, .inr (9, dfX11_33)), (q_1, .inr (0, fs1_2)), (hd_3, .inl (cB_4, 64, .inl (fun _ => 0))), (q_6, .inr (0, fs1_7)), (hd_8, .inl (cB_9, 64, .inl (fun _ => 0))), (q_11, .inr (0, fs1_12)), (hd_13, .inl (cB_14, 64, .inl (fun _ => 0))), (q_34, .inr (4, dfX4))] := hD
  refine W.widen (k := 13) (n := 1302) (Nat.le_of_ble_eq_true rfl) (Nat.le_of_ble_eq_true rfl) ?_
  refine lv_dup hx hb dX11_init_91 rfl ?_
  have hPc := hP.sub (ws' := [(q_34, .inr (4, dfX4))]) [7] rfl
  have hDc := hD.sub (ws' := [(q_34, .inr (4, dfX4))]) [7] (by decide) rfl
  have hKc := hK.sub (tys' := []) [] rfl
  have hFc := va_free (wc := [(q_34, .inr (4, dfX4))]) hD hS hA [7] rfl
  refine va_callv (va_runIN (As := []) (rest := [.ref q_34, .ref h0]) ⟨hx, hb, hml, hown, hts⟩ (m_X4_init l dC dI H.size q_34 ) ⟨va_cnB 0 hts (gd_I kw_24) rfl rfl rfl (nw_of (by exact nn_X11_45) hex) (hts _ kw_23) (by decide +kernel) ⟨Nat.le_of_ble_eq_true rfl, Nat.le_of_ble_eq_true rfl⟩, rfl, hts _ kw_25⟩ ⟨st_blind, fun U hU hW9 => st_mk hU hW9 hPc hKc hDc hex⟩ rfl rfl hl.1 rfl (lv_room (Nat.le_of_ble_eq_true rfl)) dX11_init_92 ⟨Nat.le_of_ble_eq_true rfl, Nat.le_of_ble_eq_true rfl⟩) hS (fun q _ h => hFc q h) hFc (fun  u9 t9 H1 locs ht9 hvm9 hw9 hB9 hz9 hk9 hS => ?_)
  have hP1 : va_P (dC, dI) cl0 [] H1 := fun k q h => by simp at h
  have hD1 : va_D (va_A [(q_34, .inr (4, dfX4))] H.size) [] := ⟨fun i j p q h => by simp at h, fun k q h => by simp at h⟩
  obtain ⟨hP, hD⟩ := va_join (wr := [(h0, .inr (9, dfX11_33)), (q_1, .inr (0, fs1_2)), (hd_3, .inl (cB_4, 64, .inl (fun _ => 0))), (q_6, .inr (0, fs1_7)), (hd_8, .inl (cB_9, 64, .inl (fun _ => 0))), (q_11, .inr (0, fs1_12)), (hd_13, .inl (cB_14, 64, .inl (fun _ => 0)))]) (w1 := []) hP hD [7] [0, 1, 2, 3, 4, 5, 6] rfl rfl (by decide) (by decide) hk9 hFc hP1 hD1
  generalize H1 = H at hP hS ⊢
  have hP : va_P (dC, dI) cl0 [(h0, .inr (9, dfX11_33)), (q_1, .inr (0, fs1_2)), (hd_3, .inl (cB_4, 64, .inl (fun _ => 0))), (q_6, .inr (0, fs1_7)), (hd_8, .inl (cB_9, 64, .inl (fun _ => 0))), (q_11, .inr (0, fs1_12)), (hd_13, .inl (cB_14, 64, .inl (fun _ => 0)))] H := hP
  have hD : va_D A [(h0, .inr (9, dfX11_33)), (q_1, .inr (0, fs1_2)), (hd_3, .inl (cB_4, 64, .inl (fun _ => 0))), (q_6, .inr (0, fs1_7)), (hd_8, .inl (cB_9, 64, .inl (fun _ => 0))), (q_11, .inr (0, fs1_12)), (hd_13, .inl (cB_14, 64, .inl (fun _ => 0)))] := hD
  refine W.widen (k := 16) (n := 1302) (by omega) (by omega) ?_
  refine va_putF (D := (dC, dI)) (ci := 9) (v := .ref q_34) (ty := (.object "CodeFoundry$Heights")) (C := RX11) (T := TX11) (N := 18) hx hb hts inX11 tyX11 tyX11_ok nmX11 hown hK hP hD hS 0 rfl rfl 14 (by decide) (hts _ kw_62) (fun _ h9 => h9) rfl hin rfl (by decide +kernel) rfl rfl (by rw [L_dfX11_33]; decide) dX11_init_95 (fun H locs hP hD hS => ?_)
  obtain ⟨dfX11_35, e_dfX11_35⟩ : ∃ z, z = dfX11_33.set 14 (.ref q_34) := ⟨_, rfl⟩
  have hP : va_P (dC, dI) cl0 [(h0, .inr (9, dfX11_35)), (q_1, .inr (0, fs1_2)), (hd_3, .inl (cB_4, 64, .inl (fun _ => 0))), (q_6, .inr (0, fs1_7)), (hd_8, .inl (cB_9, 64, .inl (fun _ => 0))), (q_11, .inr (0, fs1_12)), (hd_13, .inl (cB_14, 64, .inl (fun _ => 0)))] H := by rw [e_dfX11_35]; exact hP
  have hD : va_D A [(h0, .inr (9, dfX11_35)), (q_1, .inr (0, fs1_2)), (hd_3, .inl (cB_4, 64, .inl (fun _ => 0))), (q_6, .inr (0, fs1_7)), (hd_8, .inl (cB_9, 64, .inl (fun _ => 0))), (q_11, .inr (0, fs1_12)), (hd_13, .inl (cB_14, 64, .inl (fun _ => 0)))] := by rw [e_dfX11_35]; exact hD
  have L_dfX11_35 : dfX11_35.length = 18 := fx_len e_dfX11_35 L_dfX11_33
  refine lv_aload_n hx hb dX11_init_98 rfl (lv_at hl 0 rfl) ?_
  refine lv_iconst (v := 0) hx hb dX11_init_99 (by decide) ?_
  refine va_newa (atype := .int) (ty := .int) (a0 := (0, .inl (fun _ => 0))) (N' := 0) hx hb (hts (.arrayClass .int) kw_6) rfl hK hP hD hS hA (fun _ => rfl) (by decide) (by decide) (by decide) (Nat.le_of_ble_eq_true rfl) (Nat.le_of_ble_eq_true rfl) dX11_init_100 (fun q_36 cA_37 H hK hP hD hS => ?_)
  have hP := hP.sub (ws' := [(h0, .inr (9, dfX11_35)), (q_1, .inr (0, fs1_2)), (hd_3, .inl (cB_4, 64, .inl (fun _ => 0))), (q_6, .inr (0, fs1_7)), (hd_8, .inl (cB_9, 64, .inl (fun _ => 0))), (q_11, .inr (0, fs1_12)), (hd_13, .inl (cB_14, 64, .inl (fun _ => 0)))]) [0, 1, 2, 3, 4, 5, 6] rfl
  have hD := hD.sub (ws' := [(h0, .inr (9, dfX11_35)), (q_1, .inr (0, fs1_2)), (hd_3, .inl (cB_4, 64, .inl (fun _ => 0))), (q_6, .inr (0, fs1_7)), (hd_8, .inl (cB_9, 64, .inl (fun _ => 0))), (q_11, .inr (0, fs1_12)), (hd_13, .inl (cB_14, 64, .inl (fun _ => 0)))]) [0, 1, 2, 3, 4, 5, 6] (by decide) rfl
  have hK := hK.sub (tys' := [(cB_4, .byte), (cB_9, .byte), (cB_14, .byte)]) [0, 1, 2] rfl
  refine W.widen (k := 17) (n := 1302) (Nat.le_of_ble_eq_true rfl) (Nat.le_of_ble_eq_true rfl) ?_
  refine va_put (D := (dC, dI)) (ci := 9) (v := .ref q_36) (ty := (.array .int)) (C := RX11) (T := TX11) (N := 18) hx hb hts inX11 tyX11 tyX11_ok nmX11 hown hK hP hD hS 0 rfl rfl 16 (by decide) (hts _ kw_63) (fun _ h9 => h9) rfl (by decide +kernel) rfl rfl (by rw [L_dfX11_35]; decide) dX11_init_102 (fun H locs hP hD hS => ?_)
  obtain ⟨dfX11_38, e_dfX11_38⟩ : ∃ z, z = dfX11_35.set 16 (.ref q_36) := ⟨_, rfl⟩
  have hP : va_P (dC, dI) cl0 [(h0, .inr (9, dfX11_38)), (q_1, .inr (0, fs1_2)), (hd_3, .inl (cB_4, 64, .inl (fun _ => 0))), (q_6, .inr (0, fs1_7)), (hd_8, .inl (cB_9, 64, .inl (fun _ => 0))), (q_11, .inr (0, fs1_12)), (hd_13, .inl (cB_14, 64, .inl (fun _ => 0)))] H := by rw [e_dfX11_38]; exact hP
  have hD : va_D A [(h0, .inr (9, dfX11_38)), (q_1, .inr (0, fs1_2)), (hd_3, .inl (cB_4, 64, .inl (fun _ => 0))), (q_6, .inr (0, fs1_7)), (hd_8, .inl (cB_9, 64, .inl (fun _ => 0))), (q_11, .inr (0, fs1_12)), (hd_13, .inl (cB_14, 64, .inl (fun _ => 0)))] := by rw [e_dfX11_38]; exact hD
  have L_dfX11_38 : dfX11_38.length = 18 := fx_len e_dfX11_38 L_dfX11_35
  refine lv_aload_n hx hb dX11_init_105 rfl (lv_at hl 0 rfl) ?_
  refine lv_iconst (v := 0) hx hb dX11_init_106 (by decide) ?_
  refine va_newa (atype := .int) (ty := .int) (a0 := (0, .inl (fun _ => 0))) (N' := 0) hx hb (hts (.arrayClass .int) kw_6) rfl hK hP hD hS hA (fun _ => rfl) (by decide) (by decide) (by decide) (Nat.le_of_ble_eq_true rfl) (Nat.le_of_ble_eq_true rfl) dX11_init_107 (fun q_39 cA_40 H hK hP hD hS => ?_)
  have hP := hP.sub (ws' := [(h0, .inr (9, dfX11_38)), (q_1, .inr (0, fs1_2)), (hd_3, .inl (cB_4, 64, .inl (fun _ => 0))), (q_6, .inr (0, fs1_7)), (hd_8, .inl (cB_9, 64, .inl (fun _ => 0))), (q_11, .inr (0, fs1_12)), (hd_13, .inl (cB_14, 64, .inl (fun _ => 0)))]) [0, 1, 2, 3, 4, 5, 6] rfl
  have hD := hD.sub (ws' := [(h0, .inr (9, dfX11_38)), (q_1, .inr (0, fs1_2)), (hd_3, .inl (cB_4, 64, .inl (fun _ => 0))), (q_6, .inr (0, fs1_7)), (hd_8, .inl (cB_9, 64, .inl (fun _ => 0))), (q_11, .inr (0, fs1_12)), (hd_13, .inl (cB_14, 64, .inl (fun _ => 0)))]) [0, 1, 2, 3, 4, 5, 6] (by decide) rfl
  have hK := hK.sub (tys' := [(cB_4, .byte), (cB_9, .byte), (cB_14, .byte)]) [0, 1, 2] rfl
  refine W.widen (k := 18) (n := 1302) (Nat.le_of_ble_eq_true rfl) (Nat.le_of_ble_eq_true rfl) ?_
  refine va_put (D := (dC, dI)) (ci := 9) (v := .ref q_39) (ty := (.array .int)) (C := RX11) (T := TX11) (N := 18) hx hb hts inX11 tyX11 tyX11_ok nmX11 hown hK hP hD hS 0 rfl rfl 17 (by decide) (hts _ kw_64) (fun _ h9 => h9) rfl (by decide +kernel) rfl rfl (by rw [L_dfX11_38]; decide) dX11_init_109 (fun H locs hP hD hS => ?_)
  obtain ⟨dfX11_41, e_dfX11_41⟩ : ∃ z, z = dfX11_38.set 17 (.ref q_39) := ⟨_, rfl⟩
  have hP : va_P (dC, dI) cl0 [(h0, .inr (9, dfX11_41)), (q_1, .inr (0, fs1_2)), (hd_3, .inl (cB_4, 64, .inl (fun _ => 0))), (q_6, .inr (0, fs1_7)), (hd_8, .inl (cB_9, 64, .inl (fun _ => 0))), (q_11, .inr (0, fs1_12)), (hd_13, .inl (cB_14, 64, .inl (fun _ => 0)))] H := by rw [e_dfX11_41]; exact hP
  have hD : va_D A [(h0, .inr (9, dfX11_41)), (q_1, .inr (0, fs1_2)), (hd_3, .inl (cB_4, 64, .inl (fun _ => 0))), (q_6, .inr (0, fs1_7)), (hd_8, .inl (cB_9, 64, .inl (fun _ => 0))), (q_11, .inr (0, fs1_12)), (hd_13, .inl (cB_14, 64, .inl (fun _ => 0)))] := by rw [e_dfX11_41]; exact hD
  have L_dfX11_41 : dfX11_41.length = 18 := fx_len e_dfX11_41 L_dfX11_38
  refine W.widen (k := 18) (n := 1302) (Nat.le_of_ble_eq_true rfl) (Nat.le_of_ble_eq_true rfl) ?_
  exact W.vret hx hb hr (fun t9 ht9 hW9 => ⟨⟨(), rfl, trivial, trivial⟩, hS.F ht9⟩) hS.2.2 dX11_init_112
set_option maxHeartbeats 4000000 in
set_option maxRecDepth 100000 in
theorem m_X5_init (l : Launch) (dC : Nat → ClassId) (dI : Nat → Nat → Nat) (sz : Nat) (h0 : Nat)  : Met l yX5_init (wt yX5_init cX5_init 1 none) ({ frames := 1, cells := 7, slots := 220, locals := 12 }) (va_Pc [.ref h0] (st_U dC dI sz [(h0, .inr (5, dfX5))] [])) (va_Qv (fun _ : Unit => True) (fun (_ : Unit) (t : State) => ∃ (fs1 : List Value), ∃ (ha : Nat), ∃ (cJ : ClassId), (fs1.length = 20) ∧ (fs1[0]? = some (.null)) ∧ (fs1[5]? = some (.int 0)) ∧ (fs1[6]? = some (.ref ha)) ∧ (fs1[7]? = some (.int 0)) ∧ (fs1[16]? = some (.long 0)) ∧ (fs1[17]? = some (.int (-1))) ∧ (fs1[18]? = some (.int 0)) ∧ (fs1[19]? = some (.int 0)) ∧ va_P (dC, dI) cl0 [(h0, .inr (5, fs1)), (ha, .inl (cJ, 8, .inr (.inl (fun _ => 0))))] t.heap ∧ va_K (dC, dI) cl0 [(cJ, .long)] t ∧ va_D (va_A [(h0, .inr (5, dfX5))] sz) [(h0, .inr (5, fs1)), (ha, .inl (cJ, 8, .inr (.inl (fun _ => 0))))]) (va_A [(h0, .inr (5, dfX5))] sz)) 7 220 (va_A [(h0, .inr (5, dfX5))] sz) := by
  refine Met.ofW (cc := cX5_init) (maxL := 1) (ret := none) (by decide) rfl ?_
  intro p e s m args below meth c s₁ B hml hv
  obtain ⟨rfl, hsz, hP, hK, hD0, hex⟩ := hv
  have hx := B.exec
  have hb := B.bytes
  have hr := B.returns
  have hts0 := atoms_spec (ws := wt yX5_init cX5_init 1 none) B.pre
  have hts : ∀ w ∈ tb, w.before _ s = true := fun w h => hts0 w (List.mem_cons_of_mem _ h)
  have hown : s.vm.findClass RX5 = some m.cls := findClass_of_methodNamed B.named
  have hlocks := B.notSynchronized
  have hin : meth.name = "<init>" := (name_of_methodNamed B.named B.method).1
  subst hsz
  have hD := hD0.self (sz := s.heap.size)
  generalize hAe : va_A [(h0, .inr (5, dfX5))] s.heap.size = A at hD ⊢
  have hA : ∀ q : Nat, s.heap.size ≤ q → A q := fun q h => by rw [← hAe]; exact Or.inr h
  have hS : va_S A s.heap s.heap [] := va_S.rf
  have hl := lv_entry ([.ref h0]) (n := 1) (Nat.le_of_ble_eq_true rfl)
  rw [lg_entry_eq]
  generalize (lg_sl ([.ref h0]) ++ List.replicate (1 - (lg_sl ([.ref h0])).length) Slot.unset).toArray = ls at hl ⊢
  have hl : lv_has ls 1 [(0, .ref h0)] := hl
  refine lv_aload_n hx hb dX5_init_0 rfl (lv_at hl 0 rfl) ?_
  refine W.objInit hx hb hown (hts _ kw_65) (hts _ kw_1) (hts _ kw_2) rfl (by rw [hml]; exact hl.1) rfl dX5_init_1 (Nat.le_of_ble_eq_true rfl) (Nat.le_of_ble_eq_true rfl) ?_
  refine W.eq (g2 := F0 m 4 ls []) rfl ?_
  refine lv_aload_n hx hb dX5_init_4 rfl (lv_at hl 0 rfl) ?_
  refine lv_bipush (v := 24) hx hb dX5_init_5 (by decide) ?_
  refine va_newa (atype := .long) (ty := .long) (a0 := (24, .inr (.inl (fun _ => 0)))) (N' := 24) hx hb (hts (.arrayClass .long) kw_13) rfl hK hP hD hS hA (fun _ => rfl) (by decide) (by decide) (by decide) (Nat.le_of_ble_eq_true rfl) (Nat.le_of_ble_eq_true rfl) dX5_init_7 (fun q_1 cA_2 H hK hP hD hS => ?_)
  have hP := hP.sub (ws' := [(h0, .inr (5, dfX5))]) [0] rfl
  have hD := hD.sub (ws' := [(h0, .inr (5, dfX5))]) [0] (by decide) rfl
  have hK := hK.sub (tys' := []) [] rfl
  refine W.widen (k := 1) (n := 24) (Nat.le_of_ble_eq_true rfl) (Nat.le_of_ble_eq_true rfl) ?_
  refine va_putF (D := (dC, dI)) (ci := 5) (v := .ref q_1) (ty := (.array .long)) (C := RX5) (T := TX5) (N := 20) hx hb hts inX5 tyX5 tyX5_ok nmX5 hown hK hP hD hS 0 rfl rfl 1 (by decide) (hts _ kw_66) (fun _ h9 => h9) rfl hin rfl (by decide +kernel) rfl rfl (by rw [L_dfX5]; decide) dX5_init_9 (fun H locs hP hD hS => ?_)
  obtain ⟨dfX5_3, e_dfX5_3⟩ : ∃ z, z = dfX5.set 1 (.ref q_1) := ⟨_, rfl⟩
  have hP : va_P (dC, dI) cl0 [(h0, .inr (5, dfX5_3))] H := by rw [e_dfX5_3]; exact hP
  have hD : va_D A [(h0, .inr (5, dfX5_3))] := by rw [e_dfX5_3]; exact hD
  have L_dfX5_3 : dfX5_3.length = 20 := fx_len e_dfX5_3 L_dfX5
  have g_dfX5_3_0 := fx_ne (j := 0) e_dfX5_3 g_dfX5_0 (by decide)
  have g_dfX5_3_5 := fx_ne (j := 5) e_dfX5_3 g_dfX5_5 (by decide)
  have g_dfX5_3_7 := fx_ne (j := 7) e_dfX5_3 g_dfX5_7 (by decide)
  have g_dfX5_3_16 := fx_ne (j := 16) e_dfX5_3 g_dfX5_16 (by decide)
  have g_dfX5_3_18 := fx_ne (j := 18) e_dfX5_3 g_dfX5_18 (by decide)
  have g_dfX5_3_19 := fx_ne (j := 19) e_dfX5_3 g_dfX5_19 (by decide)
  refine lv_aload_n hx hb dX5_init_12 rfl (lv_at hl 0 rfl) ?_
  refine lv_iconst (v := 0) hx hb dX5_init_13 (by decide) ?_
  refine va_newa (atype := .int) (ty := .int) (a0 := (0, .inl (fun _ => 0))) (N' := 0) hx hb (hts (.arrayClass .int) kw_6) rfl hK hP hD hS hA (fun _ => rfl) (by decide) (by decide) (by decide) (Nat.le_of_ble_eq_true rfl) (Nat.le_of_ble_eq_true rfl) dX5_init_14 (fun q_4 cA_5 H hK hP hD hS => ?_)
  have hP := hP.sub (ws' := [(h0, .inr (5, dfX5_3))]) [0] rfl
  have hD := hD.sub (ws' := [(h0, .inr (5, dfX5_3))]) [0] (by decide) rfl
  have hK := hK.sub (tys' := []) [] rfl
  refine W.widen (k := 2) (n := 24) (Nat.le_of_ble_eq_true rfl) (Nat.le_of_ble_eq_true rfl) ?_
  refine va_put (D := (dC, dI)) (ci := 5) (v := .ref q_4) (ty := (.array .int)) (C := RX5) (T := TX5) (N := 20) hx hb hts inX5 tyX5 tyX5_ok nmX5 hown hK hP hD hS 0 rfl rfl 2 (by decide) (hts _ kw_67) (fun _ h9 => h9) rfl (by decide +kernel) rfl rfl (by rw [L_dfX5_3]; decide) dX5_init_16 (fun H locs hP hD hS => ?_)
  obtain ⟨dfX5_6, e_dfX5_6⟩ : ∃ z, z = dfX5_3.set 2 (.ref q_4) := ⟨_, rfl⟩
  have hP : va_P (dC, dI) cl0 [(h0, .inr (5, dfX5_6))] H := by rw [e_dfX5_6]; exact hP
  have hD : va_D A [(h0, .inr (5, dfX5_6))] := by rw [e_dfX5_6]; exact hD
  have L_dfX5_6 : dfX5_6.length = 20 := fx_len e_dfX5_6 L_dfX5_3
  have g_dfX5_6_0 := fx_ne (j := 0) e_dfX5_6 g_dfX5_3_0 (by decide)
  have g_dfX5_6_5 := fx_ne (j := 5) e_dfX5_6 g_dfX5_3_5 (by decide)
  have g_dfX5_6_7 := fx_ne (j := 7) e_dfX5_6 g_dfX5_3_7 (by decide)
  have g_dfX5_6_16 := fx_ne (j := 16) e_dfX5_6 g_dfX5_3_16 (by decide)
  have g_dfX5_6_18 := fx_ne (j := 18) e_dfX5_6 g_dfX5_3_18 (by decide)
  have g_dfX5_6_19 := fx_ne (j := 19) e_dfX5_6 g_dfX5_3_19 (by decide)
  refine lv_aload_n hx hb dX5_init_19 rfl (lv_at hl 0 rfl) ?_
  refine lv_bipush (v := 8) hx hb dX5_init_20 (by decide) ?_
  refine va_newa (atype := .int) (ty := .int) (a0 := (8, .inl (fun _ => 0))) (N' := 8) hx hb (hts (.arrayClass .int) kw_6) rfl hK hP hD hS hA (fun _ => rfl) (by decide) (by decide) (by decide) (Nat.le_of_ble_eq_true rfl) (Nat.le_of_ble_eq_true rfl) dX5_init_22 (fun q_7 cA_8 H hK hP hD hS => ?_)
  have hP := hP.sub (ws' := [(h0, .inr (5, dfX5_6))]) [0] rfl
  have hD := hD.sub (ws' := [(h0, .inr (5, dfX5_6))]) [0] (by decide) rfl
  have hK := hK.sub (tys' := []) [] rfl
  refine W.widen (k := 3) (n := 32) (Nat.le_of_ble_eq_true rfl) (Nat.le_of_ble_eq_true rfl) ?_
  refine va_put (D := (dC, dI)) (ci := 5) (v := .ref q_7) (ty := (.array .int)) (C := RX5) (T := TX5) (N := 20) hx hb hts inX5 tyX5 tyX5_ok nmX5 hown hK hP hD hS 0 rfl rfl 4 (by decide) (hts _ kw_68) (fun _ h9 => h9) rfl (by decide +kernel) rfl rfl (by rw [L_dfX5_6]; decide) dX5_init_24 (fun H locs hP hD hS => ?_)
  obtain ⟨dfX5_9, e_dfX5_9⟩ : ∃ z, z = dfX5_6.set 4 (.ref q_7) := ⟨_, rfl⟩
  have hP : va_P (dC, dI) cl0 [(h0, .inr (5, dfX5_9))] H := by rw [e_dfX5_9]; exact hP
  have hD : va_D A [(h0, .inr (5, dfX5_9))] := by rw [e_dfX5_9]; exact hD
  have L_dfX5_9 : dfX5_9.length = 20 := fx_len e_dfX5_9 L_dfX5_6
  have g_dfX5_9_0 := fx_ne (j := 0) e_dfX5_9 g_dfX5_6_0 (by decide)
  have g_dfX5_9_5 := fx_ne (j := 5) e_dfX5_9 g_dfX5_6_5 (by decide)
  have g_dfX5_9_7 := fx_ne (j := 7) e_dfX5_9 g_dfX5_6_7 (by decide)
  have g_dfX5_9_16 := fx_ne (j := 16) e_dfX5_9 g_dfX5_6_16 (by decide)
  have g_dfX5_9_18 := fx_ne (j := 18) e_dfX5_9 g_dfX5_6_18 (by decide)
  have g_dfX5_9_19 := fx_ne (j := 19) e_dfX5_9 g_dfX5_6_19 (by decide)
  refine lv_aload_n hx hb dX5_init_27 rfl (lv_at hl 0 rfl) ?_
  refine lv_bipush (v := 8) hx hb dX5_init_28 (by decide) ?_
  refine va_newa (atype := .long) (ty := .long) (a0 := (8, .inr (.inl (fun _ => 0)))) (N' := 8) hx hb (hts (.arrayClass .long) kw_13) rfl hK hP hD hS hA (fun _ => rfl) (by decide) (by decide) (by decide) (Nat.le_of_ble_eq_true rfl) (Nat.le_of_ble_eq_true rfl) dX5_init_30 (fun q_10 cA_11 H hK hP hD hS => ?_)
  have hP : va_P (dC, dI) cl0 [(h0, .inr (5, dfX5_9)), (q_10, .inl (cA_11, 8, .inr (.inl (fun _ => 0))))] H := hP
  have hD : va_D A [(h0, .inr (5, dfX5_9)), (q_10, .inl (cA_11, 8, .inr (.inl (fun _ => 0))))] := hD
  have hK : va_K (dC, dI) cl0 [(cA_11, .long)] s := hK
  refine W.widen (k := 4) (n := 40) (Nat.le_of_ble_eq_true rfl) (Nat.le_of_ble_eq_true rfl) ?_
  refine va_putF (D := (dC, dI)) (ci := 5) (v := .ref q_10) (ty := (.array .long)) (C := RX5) (T := TX5) (N := 20) hx hb hts inX5 tyX5 tyX5_ok nmX5 hown hK hP hD hS 0 rfl rfl 6 (by decide) (hts _ kw_69) (fun _ h9 => h9) rfl hin rfl (by decide +kernel) rfl rfl (by rw [L_dfX5_9]; decide) dX5_init_32 (fun H locs hP hD hS => ?_)
  obtain ⟨dfX5_12, e_dfX5_12⟩ : ∃ z, z = dfX5_9.set 6 (.ref q_10) := ⟨_, rfl⟩
  have hP : va_P (dC, dI) cl0 [(h0, .inr (5, dfX5_12)), (q_10, .inl (cA_11, 8, .inr (.inl (fun _ => 0))))] H := by rw [e_dfX5_12]; exact hP
  have hD : va_D A [(h0, .inr (5, dfX5_12)), (q_10, .inl (cA_11, 8, .inr (.inl (fun _ => 0))))] := by rw [e_dfX5_12]; exact hD
  have L_dfX5_12 : dfX5_12.length = 20 := fx_len e_dfX5_12 L_dfX5_9
  have g_dfX5_12_0 := fx_ne (j := 0) e_dfX5_12 g_dfX5_9_0 (by decide)
  have g_dfX5_12_5 := fx_ne (j := 5) e_dfX5_12 g_dfX5_9_5 (by decide)
  have g_dfX5_12_7 := fx_ne (j := 7) e_dfX5_12 g_dfX5_9_7 (by decide)
  have g_dfX5_12_16 := fx_ne (j := 16) e_dfX5_12 g_dfX5_9_16 (by decide)
  have g_dfX5_12_18 := fx_ne (j := 18) e_dfX5_12 g_dfX5_9_18 (by decide)
  have g_dfX5_12_19 := fx_ne (j := 19) e_dfX5_12 g_dfX5_9_19 (by decide)
  have g_dfX5_12_6 := fx_self e_dfX5_12 (by rw [L_dfX5_9]; decide)
  refine lv_aload_n hx hb dX5_init_35 rfl (lv_at hl 0 rfl) ?_
  refine lv_iconst (v := 0) hx hb dX5_init_36 (by decide) ?_
  refine va_newa (atype := .long) (ty := .long) (a0 := (0, .inr (.inl (fun _ => 0)))) (N' := 0) hx hb (hts (.arrayClass .long) kw_13) rfl hK hP hD hS hA (fun _ => rfl) (by decide) (by decide) (by decide) (Nat.le_of_ble_eq_true rfl) (Nat.le_of_ble_eq_true rfl) dX5_init_37 (fun q_13 cA_14 H hK hP hD hS => ?_)
  have hP := hP.sub (ws' := [(h0, .inr (5, dfX5_12)), (q_10, .inl (cA_11, 8, .inr (.inl (fun _ => 0))))]) [0, 1] rfl
  have hD := hD.sub (ws' := [(h0, .inr (5, dfX5_12)), (q_10, .inl (cA_11, 8, .inr (.inl (fun _ => 0))))]) [0, 1] (by decide) rfl
  have hK := hK.sub (tys' := [(cA_11, .long)]) [0] rfl
  refine W.widen (k := 5) (n := 40) (Nat.le_of_ble_eq_true rfl) (Nat.le_of_ble_eq_true rfl) ?_
  refine va_put (D := (dC, dI)) (ci := 5) (v := .ref q_13) (ty := (.array .long)) (C := RX5) (T := TX5) (N := 20) hx hb hts inX5 tyX5 tyX5_ok nmX5 hown hK hP hD hS 0 rfl rfl 8 (by decide) (hts _ kw_70) (fun _ h9 => h9) rfl (by decide +kernel) rfl rfl (by rw [L_dfX5_12]; decide) dX5_init_39 (fun H locs hP hD hS => ?_)
  obtain ⟨dfX5_15, e_dfX5_15⟩ : ∃ z, z = dfX5_12.set 8 (.ref q_13) := ⟨_, rfl⟩
  have hP : va_P (dC, dI) cl0 [(h0, .inr (5, dfX5_15)), (q_10, .inl (cA_11, 8, .inr (.inl (fun _ => 0))))] H := by rw [e_dfX5_15]; exact hP
  have hD : va_D A [(h0, .inr (5, dfX5_15)), (q_10, .inl (cA_11, 8, .inr (.inl (fun _ => 0))))] := by rw [e_dfX5_15]; exact hD
  have L_dfX5_15 : dfX5_15.length = 20 := fx_len e_dfX5_15 L_dfX5_12
  have g_dfX5_15_0 := fx_ne (j := 0) e_dfX5_15 g_dfX5_12_0 (by decide)
  have g_dfX5_15_5 := fx_ne (j := 5) e_dfX5_15 g_dfX5_12_5 (by decide)
  have g_dfX5_15_7 := fx_ne (j := 7) e_dfX5_15 g_dfX5_12_7 (by decide)
  have g_dfX5_15_16 := fx_ne (j := 16) e_dfX5_15 g_dfX5_12_16 (by decide)
  have g_dfX5_15_18 := fx_ne (j := 18) e_dfX5_15 g_dfX5_12_18 (by decide)
  have g_dfX5_15_19 := fx_ne (j := 19) e_dfX5_15 g_dfX5_12_19 (by decide)
  have g_dfX5_15_6 := fx_ne (j := 6) e_dfX5_15 g_dfX5_12_6 (by decide)
  refine lv_aload_n hx hb dX5_init_42 rfl (lv_at hl 0 rfl) ?_
  refine lv_iconst (v := 0) hx hb dX5_init_43 (by decide) ?_
  refine va_newa (atype := .long) (ty := .long) (a0 := (0, .inr (.inl (fun _ => 0)))) (N' := 0) hx hb (hts (.arrayClass .long) kw_13) rfl hK hP hD hS hA (fun _ => rfl) (by decide) (by decide) (by decide) (Nat.le_of_ble_eq_true rfl) (Nat.le_of_ble_eq_true rfl) dX5_init_44 (fun q_16 cA_17 H hK hP hD hS => ?_)
  have hP := hP.sub (ws' := [(h0, .inr (5, dfX5_15)), (q_10, .inl (cA_11, 8, .inr (.inl (fun _ => 0))))]) [0, 1] rfl
  have hD := hD.sub (ws' := [(h0, .inr (5, dfX5_15)), (q_10, .inl (cA_11, 8, .inr (.inl (fun _ => 0))))]) [0, 1] (by decide) rfl
  have hK := hK.sub (tys' := [(cA_11, .long)]) [0] rfl
  refine W.widen (k := 6) (n := 40) (Nat.le_of_ble_eq_true rfl) (Nat.le_of_ble_eq_true rfl) ?_
  refine va_put (D := (dC, dI)) (ci := 5) (v := .ref q_16) (ty := (.array .long)) (C := RX5) (T := TX5) (N := 20) hx hb hts inX5 tyX5 tyX5_ok nmX5 hown hK hP hD hS 0 rfl rfl 9 (by decide) (hts _ kw_71) (fun _ h9 => h9) rfl (by decide +kernel) rfl rfl (by rw [L_dfX5_15]; decide) dX5_init_46 (fun H locs hP hD hS => ?_)
  obtain ⟨dfX5_18, e_dfX5_18⟩ : ∃ z, z = dfX5_15.set 9 (.ref q_16) := ⟨_, rfl⟩
  have hP : va_P (dC, dI) cl0 [(h0, .inr (5, dfX5_18)), (q_10, .inl (cA_11, 8, .inr (.inl (fun _ => 0))))] H := by rw [e_dfX5_18]; exact hP
  have hD : va_D A [(h0, .inr (5, dfX5_18)), (q_10, .inl (cA_11, 8, .inr (.inl (fun _ => 0))))] := by rw [e_dfX5_18]; exact hD
  have L_dfX5_18 : dfX5_18.length = 20 := fx_len e_dfX5_18 L_dfX5_15
  have g_dfX5_18_0 := fx_ne (j := 0) e_dfX5_18 g_dfX5_15_0 (by decide)
  have g_dfX5_18_5 := fx_ne (j := 5) e_dfX5_18 g_dfX5_15_5 (by decide)
  have g_dfX5_18_7 := fx_ne (j := 7) e_dfX5_18 g_dfX5_15_7 (by decide)
  have g_dfX5_18_16 := fx_ne (j := 16) e_dfX5_18 g_dfX5_15_16 (by decide)
  have g_dfX5_18_18 := fx_ne (j := 18) e_dfX5_18 g_dfX5_15_18 (by decide)
  have g_dfX5_18_19 := fx_ne (j := 19) e_dfX5_18 g_dfX5_15_19 (by decide)
  have g_dfX5_18_6 := fx_ne (j := 6) e_dfX5_18 g_dfX5_15_6 (by decide)
  refine lv_aload_n hx hb dX5_init_49 rfl (lv_at hl 0 rfl) ?_
  refine lv_sipush (v := 180) hx hb dX5_init_50 (by decide) ?_
  refine va_newa (atype := .int) (ty := .int) (a0 := (180, .inl (fun _ => 0))) (N' := 180) hx hb (hts (.arrayClass .int) kw_6) rfl hK hP hD hS hA (fun _ => rfl) (by decide) (by decide) (by decide) (Nat.le_of_ble_eq_true rfl) (Nat.le_of_ble_eq_true rfl) dX5_init_53 (fun q_19 cA_20 H hK hP hD hS => ?_)
  have hP := hP.sub (ws' := [(h0, .inr (5, dfX5_18)), (q_10, .inl (cA_11, 8, .inr (.inl (fun _ => 0))))]) [0, 1] rfl
  have hD := hD.sub (ws' := [(h0, .inr (5, dfX5_18)), (q_10, .inl (cA_11, 8, .inr (.inl (fun _ => 0))))]) [0, 1] (by decide) rfl
  have hK := hK.sub (tys' := [(cA_11, .long)]) [0] rfl
  refine W.widen (k := 7) (n := 220) (Nat.le_of_ble_eq_true rfl) (Nat.le_of_ble_eq_true rfl) ?_
  refine va_putF (D := (dC, dI)) (ci := 5) (v := .ref q_19) (ty := (.array .int)) (C := RX5) (T := TX5) (N := 20) hx hb hts inX5 tyX5 tyX5_ok nmX5 hown hK hP hD hS 0 rfl rfl 10 (by decide) (hts _ kw_72) (fun _ h9 => h9) rfl hin rfl (by decide +kernel) rfl rfl (by rw [L_dfX5_18]; decide) dX5_init_55 (fun H locs hP hD hS => ?_)
  obtain ⟨dfX5_21, e_dfX5_21⟩ : ∃ z, z = dfX5_18.set 10 (.ref q_19) := ⟨_, rfl⟩
  have hP : va_P (dC, dI) cl0 [(h0, .inr (5, dfX5_21)), (q_10, .inl (cA_11, 8, .inr (.inl (fun _ => 0))))] H := by rw [e_dfX5_21]; exact hP
  have hD : va_D A [(h0, .inr (5, dfX5_21)), (q_10, .inl (cA_11, 8, .inr (.inl (fun _ => 0))))] := by rw [e_dfX5_21]; exact hD
  have L_dfX5_21 : dfX5_21.length = 20 := fx_len e_dfX5_21 L_dfX5_18
  have g_dfX5_21_0 := fx_ne (j := 0) e_dfX5_21 g_dfX5_18_0 (by decide)
  have g_dfX5_21_5 := fx_ne (j := 5) e_dfX5_21 g_dfX5_18_5 (by decide)
  have g_dfX5_21_7 := fx_ne (j := 7) e_dfX5_21 g_dfX5_18_7 (by decide)
  have g_dfX5_21_16 := fx_ne (j := 16) e_dfX5_21 g_dfX5_18_16 (by decide)
  have g_dfX5_21_18 := fx_ne (j := 18) e_dfX5_21 g_dfX5_18_18 (by decide)
  have g_dfX5_21_19 := fx_ne (j := 19) e_dfX5_21 g_dfX5_18_19 (by decide)
  have g_dfX5_21_6 := fx_ne (j := 6) e_dfX5_21 g_dfX5_18_6 (by decide)
  refine lv_aload_n hx hb dX5_init_58 rfl (lv_at hl 0 rfl) ?_
  refine lv_iconst (v := (-1)) hx hb dX5_init_59 (by decide) ?_
  refine va_put (D := (dC, dI)) (ci := 5) (v := .int (-1)) (ty := .int) (C := RX5) (T := TX5) (N := 20) hx hb hts inX5 tyX5 tyX5_ok nmX5 hown hK hP hD hS 0 rfl rfl 17 (by decide) (hts _ kw_73) (fun _ h9 => h9) rfl (by decide +kernel) rfl rfl (by rw [L_dfX5_21]; decide) dX5_init_60 (fun H locs hP hD hS => ?_)
  obtain ⟨dfX5_22, e_dfX5_22⟩ : ∃ z, z = dfX5_21.set 17 (.int (-1)) := ⟨_, rfl⟩
  have hP : va_P (dC, dI) cl0 [(h0, .inr (5, dfX5_22)), (q_10, .inl (cA_11, 8, .inr (.inl (fun _ => 0))))] H := by rw [e_dfX5_22]; exact hP
  have hD : va_D A [(h0, .inr (5, dfX5_22)), (q_10, .inl (cA_11, 8, .inr (.inl (fun _ => 0))))] := by rw [e_dfX5_22]; exact hD
  have L_dfX5_22 : dfX5_22.length = 20 := fx_len e_dfX5_22 L_dfX5_21
  have g_dfX5_22_0 := fx_ne (j := 0) e_dfX5_22 g_dfX5_21_0 (by decide)
  have g_dfX5_22_5 := fx_ne (j := 5) e_dfX5_22 g_dfX5_21_5 (by decide)
  have g_dfX5_22_7 := fx_ne (j := 7) e_dfX5_22 g_dfX5_21_7 (by decide)
  have g_dfX5_22_16 := fx_ne (j := 16) e_dfX5_22 g_dfX5_21_16 (by decide)
  have g_dfX5_22_18 := fx_ne (j := 18) e_dfX5_22 g_dfX5_21_18 (by decide)
  have g_dfX5_22_19 := fx_ne (j := 19) e_dfX5_22 g_dfX5_21_19 (by decide)
  have g_dfX5_22_6 := fx_ne (j := 6) e_dfX5_22 g_dfX5_21_6 (by decide)
  have g_dfX5_22_17 := fx_self e_dfX5_22 (by rw [L_dfX5_21]; decide)
  refine W.widen (k := 7) (n := 220) (Nat.le_of_ble_eq_true rfl) (Nat.le_of_ble_eq_true rfl) ?_
  have hP9 := hP.sub (ws' := [(h0, .inr (5, dfX5_22)), (q_10, .inl (cA_11, 8, .inr (.inl (fun _ => 0))))]) [0, 1] rfl
  have hD9 := hD.sub (ws' := [(h0, .inr (5, dfX5_22)), (q_10, .inl (cA_11, 8, .inr (.inl (fun _ => 0))))]) [0, 1] (by decide) rfl
  have hK9 := hK.sub (tys' := [(cA_11, .long)]) [0] rfl
  exact W.vret hx hb hr (fun t9 ht9 hW9 => ⟨⟨(), rfl, trivial, dfX5_22, q_10, cA_11, L_dfX5_22, g_dfX5_22_0, g_dfX5_22_5, g_dfX5_22_6, g_dfX5_22_7, g_dfX5_22_16, g_dfX5_22_17, g_dfX5_22_18, g_dfX5_22_19, by rw [ht9]; exact hP9, va_K.moved hW9.alike hK9, hD9⟩, hS.F ht9⟩) hS.2.2 dX5_init_63
set_option maxHeartbeats 4000000 in
set_option maxRecDepth 100000 in
theorem m_X3_init (l : Launch) (dC : Nat → ClassId) (dI : Nat → Nat → Nat) (sz : Nat) (h0 : Nat)  : Met l yX3_init (wt yX3_init cX3_init 1 none) ({ frames := 1, cells := 13, slots := 16, locals := 12 }) (va_Pc [.ref h0] (st_U dC dI sz [(h0, .inr (3, dfX3))] [])) (va_Qv (fun _ : Unit => True) (fun (_ : Unit) (_ : State) => True) (va_A [(h0, .inr (3, dfX3))] sz)) 13 16 (va_A [(h0, .inr (3, dfX3))] sz) := by
  refine Met.ofW (cc := cX3_init) (maxL := 1) (ret := none) (by decide) rfl ?_
  intro p e s m args below meth c s₁ B hml hv
  obtain ⟨rfl, hsz, hP, hK, hD0, hex⟩ := hv
  have hx := B.exec
  have hb := B.bytes
  have hr := B.returns
  have hts0 := atoms_spec (ws := wt yX3_init cX3_init 1 none) B.pre
  have hts : ∀ w ∈ tb, w.before _ s = true := fun w h => hts0 w (List.mem_cons_of_mem _ h)
  have hown : s.vm.findClass RX3 = some m.cls := findClass_of_methodNamed B.named
  have hlocks := B.notSynchronized
  have hin : meth.name = "<init>" := (name_of_methodNamed B.named B.method).1
  subst hsz
  have hD := hD0.self (sz := s.heap.size)
  generalize hAe : va_A [(h0, .inr (3, dfX3))] s.heap.size = A at hD ⊢
  have hA : ∀ q : Nat, s.heap.size ≤ q → A q := fun q h => by rw [← hAe]; exact Or.inr h
  have hS : va_S A s.heap s.heap [] := va_S.rf
  have hl := lv_entry ([.ref h0]) (n := 1) (Nat.le_of_ble_eq_true rfl)
  rw [lg_entry_eq]
  generalize (lg_sl ([.ref h0]) ++ List.replicate (1 - (lg_sl ([.ref h0])).length) Slot.unset).toArray = ls at hl ⊢
  have hl : lv_has ls 1 [(0, .ref h0)] := hl
  refine lv_aload_n hx hb dX3_init_0 rfl (lv_at hl 0 rfl) ?_
  refine W.objInit hx hb hown (hts _ kw_74) (hts _ kw_1) (hts _ kw_2) rfl (by rw [hml]; exact hl.1) rfl dX3_init_1 (Nat.le_of_ble_eq_true rfl) (Nat.le_of_ble_eq_true rfl) ?_
  refine W.eq (g2 := F0 m 4 ls []) rfl ?_
  refine lv_aload_n hx hb dX3_init_4 rfl (lv_at hl 0 rfl) ?_
  refine lv_iconst (v := 0) hx hb dX3_init_5 (by decide) ?_
  refine va_newa (atype := .int) (ty := .int) (a0 := (0, .inl (fun _ => 0))) (N' := 0) hx hb (hts (.arrayClass .int) kw_6) rfl hK hP hD hS hA (fun _ => rfl) (by decide) (by decide) (by decide) (Nat.le_of_ble_eq_true rfl) (Nat.le_of_ble_eq_true rfl) dX3_init_6 (fun q_1 cA_2 H hK hP hD hS => ?_)
  have hP := hP.sub (ws' := [(h0, .inr (3, dfX3))]) [0] rfl
  have hD := hD.sub (ws' := [(h0, .inr (3, dfX3))]) [0] (by decide) rfl
  have hK := hK.sub (tys' := []) [] rfl
  refine W.widen (k := 1) (n := 0) (Nat.le_of_ble_eq_true rfl) (Nat.le_of_ble_eq_true rfl) ?_
  refine va_put (D := (dC, dI)) (ci := 3) (v := .ref q_1) (ty := (.array .int)) (C := RX3) (T := TX3) (N := 16) hx hb hts inX3 tyX3 tyX3_ok nmX3 hown hK hP hD hS 0 rfl rfl 2 (by decide) (hts _ kw_75) (fun _ h9 => h9) rfl (by decide +kernel) rfl rfl (by rw [L_dfX3]; decide) dX3_init_8 (fun H locs hP hD hS => ?_)
  obtain ⟨dfX3_3, e_dfX3_3⟩ : ∃ z, z = dfX3.set 2 (.ref q_1) := ⟨_, rfl⟩
  have hP : va_P (dC, dI) cl0 [(h0, .inr (3, dfX3_3))] H := by rw [e_dfX3_3]; exact hP
  have hD : va_D A [(h0, .inr (3, dfX3_3))] := by rw [e_dfX3_3]; exact hD
  have L_dfX3_3 : dfX3_3.length = 16 := fx_len e_dfX3_3 L_dfX3
  refine lv_aload_n hx hb dX3_init_11 rfl (lv_at hl 0 rfl) ?_
  refine lv_iconst (v := 0) hx hb dX3_init_12 (by decide) ?_
  refine va_newa (atype := .int) (ty := .int) (a0 := (0, .inl (fun _ => 0))) (N' := 0) hx hb (hts (.arrayClass .int) kw_6) rfl hK hP hD hS hA (fun _ => rfl) (by decide) (by decide) (by decide) (Nat.le_of_ble_eq_true rfl) (Nat.le_of_ble_eq_true rfl) dX3_init_13 (fun q_4 cA_5 H hK hP hD hS => ?_)
  have hP := hP.sub (ws' := [(h0, .inr (3, dfX3_3))]) [0] rfl
  have hD := hD.sub (ws' := [(h0, .inr (3, dfX3_3))]) [0] (by decide) rfl
  have hK := hK.sub (tys' := []) [] rfl
  refine W.widen (k := 2) (n := 0) (Nat.le_of_ble_eq_true rfl) (Nat.le_of_ble_eq_true rfl) ?_
  refine va_put (D := (dC, dI)) (ci := 3) (v := .ref q_4) (ty := (.array .int)) (C := RX3) (T := TX3) (N := 16) hx hb hts inX3 tyX3 tyX3_ok nmX3 hown hK hP hD hS 0 rfl rfl 3 (by decide) (hts _ kw_76) (fun _ h9 => h9) rfl (by decide +kernel) rfl rfl (by rw [L_dfX3_3]; decide) dX3_init_15 (fun H locs hP hD hS => ?_)
  obtain ⟨dfX3_6, e_dfX3_6⟩ : ∃ z, z = dfX3_3.set 3 (.ref q_4) := ⟨_, rfl⟩
  have hP : va_P (dC, dI) cl0 [(h0, .inr (3, dfX3_6))] H := by rw [e_dfX3_6]; exact hP
  have hD : va_D A [(h0, .inr (3, dfX3_6))] := by rw [e_dfX3_6]; exact hD
  have L_dfX3_6 : dfX3_6.length = 16 := fx_len e_dfX3_6 L_dfX3_3
  refine lv_aload_n hx hb dX3_init_18 rfl (lv_at hl 0 rfl) ?_
  refine lv_iconst (v := 0) hx hb dX3_init_19 (by decide) ?_
  refine va_newa (atype := .int) (ty := .int) (a0 := (0, .inl (fun _ => 0))) (N' := 0) hx hb (hts (.arrayClass .int) kw_6) rfl hK hP hD hS hA (fun _ => rfl) (by decide) (by decide) (by decide) (Nat.le_of_ble_eq_true rfl) (Nat.le_of_ble_eq_true rfl) dX3_init_20 (fun q_7 cA_8 H hK hP hD hS => ?_)
  have hP := hP.sub (ws' := [(h0, .inr (3, dfX3_6))]) [0] rfl
  have hD := hD.sub (ws' := [(h0, .inr (3, dfX3_6))]) [0] (by decide) rfl
  have hK := hK.sub (tys' := []) [] rfl
  refine W.widen (k := 3) (n := 0) (Nat.le_of_ble_eq_true rfl) (Nat.le_of_ble_eq_true rfl) ?_
  refine va_put (D := (dC, dI)) (ci := 3) (v := .ref q_7) (ty := (.array .int)) (C := RX3) (T := TX3) (N := 16) hx hb hts inX3 tyX3 tyX3_ok nmX3 hown hK hP hD hS 0 rfl rfl 4 (by decide) (hts _ kw_77) (fun _ h9 => h9) rfl (by decide +kernel) rfl rfl (by rw [L_dfX3_6]; decide) dX3_init_22 (fun H locs hP hD hS => ?_)
  obtain ⟨dfX3_9, e_dfX3_9⟩ : ∃ z, z = dfX3_6.set 4 (.ref q_7) := ⟨_, rfl⟩
  have hP : va_P (dC, dI) cl0 [(h0, .inr (3, dfX3_9))] H := by rw [e_dfX3_9]; exact hP
  have hD : va_D A [(h0, .inr (3, dfX3_9))] := by rw [e_dfX3_9]; exact hD
  have L_dfX3_9 : dfX3_9.length = 16 := fx_len e_dfX3_9 L_dfX3_6
  refine lv_aload_n hx hb dX3_init_25 rfl (lv_at hl 0 rfl) ?_
  refine lv_bipush (v := 16) hx hb dX3_init_26 (by decide) ?_
  refine va_newa (atype := .int) (ty := .int) (a0 := (16, .inl (fun _ => 0))) (N' := 16) hx hb (hts (.arrayClass .int) kw_6) rfl hK hP hD hS hA (fun _ => rfl) (by decide) (by decide) (by decide) (Nat.le_of_ble_eq_true rfl) (Nat.le_of_ble_eq_true rfl) dX3_init_28 (fun q_10 cA_11 H hK hP hD hS => ?_)
  have hP := hP.sub (ws' := [(h0, .inr (3, dfX3_9))]) [0] rfl
  have hD := hD.sub (ws' := [(h0, .inr (3, dfX3_9))]) [0] (by decide) rfl
  have hK := hK.sub (tys' := []) [] rfl
  refine W.widen (k := 4) (n := 16) (Nat.le_of_ble_eq_true rfl) (Nat.le_of_ble_eq_true rfl) ?_
  refine va_put (D := (dC, dI)) (ci := 3) (v := .ref q_10) (ty := (.array .int)) (C := RX3) (T := TX3) (N := 16) hx hb hts inX3 tyX3 tyX3_ok nmX3 hown hK hP hD hS 0 rfl rfl 5 (by decide) (hts _ kw_78) (fun _ h9 => h9) rfl (by decide +kernel) rfl rfl (by rw [L_dfX3_9]; decide) dX3_init_30 (fun H locs hP hD hS => ?_)
  obtain ⟨dfX3_12, e_dfX3_12⟩ : ∃ z, z = dfX3_9.set 5 (.ref q_10) := ⟨_, rfl⟩
  have hP : va_P (dC, dI) cl0 [(h0, .inr (3, dfX3_12))] H := by rw [e_dfX3_12]; exact hP
  have hD : va_D A [(h0, .inr (3, dfX3_12))] := by rw [e_dfX3_12]; exact hD
  have L_dfX3_12 : dfX3_12.length = 16 := fx_len e_dfX3_12 L_dfX3_9
  refine lv_aload_n hx hb dX3_init_33 rfl (lv_at hl 0 rfl) ?_
  refine lv_iconst (v := 0) hx hb dX3_init_34 (by decide) ?_
  refine va_newa (atype := .int) (ty := .int) (a0 := (0, .inl (fun _ => 0))) (N' := 0) hx hb (hts (.arrayClass .int) kw_6) rfl hK hP hD hS hA (fun _ => rfl) (by decide) (by decide) (by decide) (Nat.le_of_ble_eq_true rfl) (Nat.le_of_ble_eq_true rfl) dX3_init_35 (fun q_13 cA_14 H hK hP hD hS => ?_)
  have hP := hP.sub (ws' := [(h0, .inr (3, dfX3_12))]) [0] rfl
  have hD := hD.sub (ws' := [(h0, .inr (3, dfX3_12))]) [0] (by decide) rfl
  have hK := hK.sub (tys' := []) [] rfl
  refine W.widen (k := 5) (n := 16) (Nat.le_of_ble_eq_true rfl) (Nat.le_of_ble_eq_true rfl) ?_
  refine va_put (D := (dC, dI)) (ci := 3) (v := .ref q_13) (ty := (.array .int)) (C := RX3) (T := TX3) (N := 16) hx hb hts inX3 tyX3 tyX3_ok nmX3 hown hK hP hD hS 0 rfl rfl 6 (by decide) (hts _ kw_79) (fun _ h9 => h9) rfl (by decide +kernel) rfl rfl (by rw [L_dfX3_12]; decide) dX3_init_37 (fun H locs hP hD hS => ?_)
  obtain ⟨dfX3_15, e_dfX3_15⟩ : ∃ z, z = dfX3_12.set 6 (.ref q_13) := ⟨_, rfl⟩
  have hP : va_P (dC, dI) cl0 [(h0, .inr (3, dfX3_15))] H := by rw [e_dfX3_15]; exact hP
  have hD : va_D A [(h0, .inr (3, dfX3_15))] := by rw [e_dfX3_15]; exact hD
  have L_dfX3_15 : dfX3_15.length = 16 := fx_len e_dfX3_15 L_dfX3_12
  refine lv_aload_n hx hb dX3_init_40 rfl (lv_at hl 0 rfl) ?_
  refine lv_iconst (v := 0) hx hb dX3_init_41 (by decide) ?_
  refine va_newa (atype := .int) (ty := .int) (a0 := (0, .inl (fun _ => 0))) (N' := 0) hx hb (hts (.arrayClass .int) kw_6) rfl hK hP hD hS hA (fun _ => rfl) (by decide) (by decide) (by decide) (Nat.le_of_ble_eq_true rfl) (Nat.le_of_ble_eq_true rfl) dX3_init_42 (fun q_16 cA_17 H hK hP hD hS => ?_)
  have hP := hP.sub (ws' := [(h0, .inr (3, dfX3_15))]) [0] rfl
  have hD := hD.sub (ws' := [(h0, .inr (3, dfX3_15))]) [0] (by decide) rfl
  have hK := hK.sub (tys' := []) [] rfl
  refine W.widen (k := 6) (n := 16) (Nat.le_of_ble_eq_true rfl) (Nat.le_of_ble_eq_true rfl) ?_
  refine va_put (D := (dC, dI)) (ci := 3) (v := .ref q_16) (ty := (.array .int)) (C := RX3) (T := TX3) (N := 16) hx hb hts inX3 tyX3 tyX3_ok nmX3 hown hK hP hD hS 0 rfl rfl 7 (by decide) (hts _ kw_80) (fun _ h9 => h9) rfl (by decide +kernel) rfl rfl (by rw [L_dfX3_15]; decide) dX3_init_44 (fun H locs hP hD hS => ?_)
  obtain ⟨dfX3_18, e_dfX3_18⟩ : ∃ z, z = dfX3_15.set 7 (.ref q_16) := ⟨_, rfl⟩
  have hP : va_P (dC, dI) cl0 [(h0, .inr (3, dfX3_18))] H := by rw [e_dfX3_18]; exact hP
  have hD : va_D A [(h0, .inr (3, dfX3_18))] := by rw [e_dfX3_18]; exact hD
  have L_dfX3_18 : dfX3_18.length = 16 := fx_len e_dfX3_18 L_dfX3_15
  refine lv_aload_n hx hb dX3_init_47 rfl (lv_at hl 0 rfl) ?_
  refine lv_iconst (v := 0) hx hb dX3_init_48 (by decide) ?_
  refine va_newa (atype := .boolean) (ty := .boolean) (a0 := (0, .inl (fun _ => 0))) (N' := 0) hx hb (hts (.arrayClass .boolean) kw_9) rfl hK hP hD hS hA (fun _ => rfl) (by decide) (by decide) (by decide) (Nat.le_of_ble_eq_true rfl) (Nat.le_of_ble_eq_true rfl) dX3_init_49 (fun q_19 cA_20 H hK hP hD hS => ?_)
  have hP := hP.sub (ws' := [(h0, .inr (3, dfX3_18))]) [0] rfl
  have hD := hD.sub (ws' := [(h0, .inr (3, dfX3_18))]) [0] (by decide) rfl
  have hK := hK.sub (tys' := []) [] rfl
  refine W.widen (k := 7) (n := 16) (Nat.le_of_ble_eq_true rfl) (Nat.le_of_ble_eq_true rfl) ?_
  refine va_put (D := (dC, dI)) (ci := 3) (v := .ref q_19) (ty := (.array .boolean)) (C := RX3) (T := TX3) (N := 16) hx hb hts inX3 tyX3 tyX3_ok nmX3 hown hK hP hD hS 0 rfl rfl 8 (by decide) (hts _ kw_81) (fun _ h9 => h9) rfl (by decide +kernel) rfl rfl (by rw [L_dfX3_18]; decide) dX3_init_51 (fun H locs hP hD hS => ?_)
  obtain ⟨dfX3_21, e_dfX3_21⟩ : ∃ z, z = dfX3_18.set 8 (.ref q_19) := ⟨_, rfl⟩
  have hP : va_P (dC, dI) cl0 [(h0, .inr (3, dfX3_21))] H := by rw [e_dfX3_21]; exact hP
  have hD : va_D A [(h0, .inr (3, dfX3_21))] := by rw [e_dfX3_21]; exact hD
  have L_dfX3_21 : dfX3_21.length = 16 := fx_len e_dfX3_21 L_dfX3_18
  refine lv_aload_n hx hb dX3_init_54 rfl (lv_at hl 0 rfl) ?_
  refine lv_iconst (v := 0) hx hb dX3_init_55 (by decide) ?_
  refine va_newa (atype := .long) (ty := .long) (a0 := (0, .inr (.inl (fun _ => 0)))) (N' := 0) hx hb (hts (.arrayClass .long) kw_13) rfl hK hP hD hS hA (fun _ => rfl) (by decide) (by decide) (by decide) (Nat.le_of_ble_eq_true rfl) (Nat.le_of_ble_eq_true rfl) dX3_init_56 (fun q_22 cA_23 H hK hP hD hS => ?_)
  have hP := hP.sub (ws' := [(h0, .inr (3, dfX3_21))]) [0] rfl
  have hD := hD.sub (ws' := [(h0, .inr (3, dfX3_21))]) [0] (by decide) rfl
  have hK := hK.sub (tys' := []) [] rfl
  refine W.widen (k := 8) (n := 16) (Nat.le_of_ble_eq_true rfl) (Nat.le_of_ble_eq_true rfl) ?_
  refine va_put (D := (dC, dI)) (ci := 3) (v := .ref q_22) (ty := (.array .long)) (C := RX3) (T := TX3) (N := 16) hx hb hts inX3 tyX3 tyX3_ok nmX3 hown hK hP hD hS 0 rfl rfl 9 (by decide) (hts _ kw_82) (fun _ h9 => h9) rfl (by decide +kernel) rfl rfl (by rw [L_dfX3_21]; decide) dX3_init_58 (fun H locs hP hD hS => ?_)
  obtain ⟨dfX3_24, e_dfX3_24⟩ : ∃ z, z = dfX3_21.set 9 (.ref q_22) := ⟨_, rfl⟩
  have hP : va_P (dC, dI) cl0 [(h0, .inr (3, dfX3_24))] H := by rw [e_dfX3_24]; exact hP
  have hD : va_D A [(h0, .inr (3, dfX3_24))] := by rw [e_dfX3_24]; exact hD
  have L_dfX3_24 : dfX3_24.length = 16 := fx_len e_dfX3_24 L_dfX3_21
  refine lv_aload_n hx hb dX3_init_61 rfl (lv_at hl 0 rfl) ?_
  refine lv_iconst (v := 0) hx hb dX3_init_62 (by decide) ?_
  refine va_newa (atype := .int) (ty := .int) (a0 := (0, .inl (fun _ => 0))) (N' := 0) hx hb (hts (.arrayClass .int) kw_6) rfl hK hP hD hS hA (fun _ => rfl) (by decide) (by decide) (by decide) (Nat.le_of_ble_eq_true rfl) (Nat.le_of_ble_eq_true rfl) dX3_init_63 (fun q_25 cA_26 H hK hP hD hS => ?_)
  have hP := hP.sub (ws' := [(h0, .inr (3, dfX3_24))]) [0] rfl
  have hD := hD.sub (ws' := [(h0, .inr (3, dfX3_24))]) [0] (by decide) rfl
  have hK := hK.sub (tys' := []) [] rfl
  refine W.widen (k := 9) (n := 16) (Nat.le_of_ble_eq_true rfl) (Nat.le_of_ble_eq_true rfl) ?_
  refine va_put (D := (dC, dI)) (ci := 3) (v := .ref q_25) (ty := (.array .int)) (C := RX3) (T := TX3) (N := 16) hx hb hts inX3 tyX3 tyX3_ok nmX3 hown hK hP hD hS 0 rfl rfl 11 (by decide) (hts _ kw_83) (fun _ h9 => h9) rfl (by decide +kernel) rfl rfl (by rw [L_dfX3_24]; decide) dX3_init_65 (fun H locs hP hD hS => ?_)
  obtain ⟨dfX3_27, e_dfX3_27⟩ : ∃ z, z = dfX3_24.set 11 (.ref q_25) := ⟨_, rfl⟩
  have hP : va_P (dC, dI) cl0 [(h0, .inr (3, dfX3_27))] H := by rw [e_dfX3_27]; exact hP
  have hD : va_D A [(h0, .inr (3, dfX3_27))] := by rw [e_dfX3_27]; exact hD
  have L_dfX3_27 : dfX3_27.length = 16 := fx_len e_dfX3_27 L_dfX3_24
  refine lv_aload_n hx hb dX3_init_68 rfl (lv_at hl 0 rfl) ?_
  refine lv_iconst (v := 0) hx hb dX3_init_69 (by decide) ?_
  refine va_newa (atype := .int) (ty := .int) (a0 := (0, .inl (fun _ => 0))) (N' := 0) hx hb (hts (.arrayClass .int) kw_6) rfl hK hP hD hS hA (fun _ => rfl) (by decide) (by decide) (by decide) (Nat.le_of_ble_eq_true rfl) (Nat.le_of_ble_eq_true rfl) dX3_init_70 (fun q_28 cA_29 H hK hP hD hS => ?_)
  have hP := hP.sub (ws' := [(h0, .inr (3, dfX3_27))]) [0] rfl
  have hD := hD.sub (ws' := [(h0, .inr (3, dfX3_27))]) [0] (by decide) rfl
  have hK := hK.sub (tys' := []) [] rfl
  refine W.widen (k := 10) (n := 16) (Nat.le_of_ble_eq_true rfl) (Nat.le_of_ble_eq_true rfl) ?_
  refine va_put (D := (dC, dI)) (ci := 3) (v := .ref q_28) (ty := (.array .int)) (C := RX3) (T := TX3) (N := 16) hx hb hts inX3 tyX3 tyX3_ok nmX3 hown hK hP hD hS 0 rfl rfl 12 (by decide) (hts _ kw_84) (fun _ h9 => h9) rfl (by decide +kernel) rfl rfl (by rw [L_dfX3_27]; decide) dX3_init_72 (fun H locs hP hD hS => ?_)
  obtain ⟨dfX3_30, e_dfX3_30⟩ : ∃ z, z = dfX3_27.set 12 (.ref q_28) := ⟨_, rfl⟩
  have hP : va_P (dC, dI) cl0 [(h0, .inr (3, dfX3_30))] H := by rw [e_dfX3_30]; exact hP
  have hD : va_D A [(h0, .inr (3, dfX3_30))] := by rw [e_dfX3_30]; exact hD
  have L_dfX3_30 : dfX3_30.length = 16 := fx_len e_dfX3_30 L_dfX3_27
  refine lv_aload_n hx hb dX3_init_75 rfl (lv_at hl 0 rfl) ?_
  refine lv_iconst (v := 0) hx hb dX3_init_76 (by decide) ?_
  refine va_newa (atype := .int) (ty := .int) (a0 := (0, .inl (fun _ => 0))) (N' := 0) hx hb (hts (.arrayClass .int) kw_6) rfl hK hP hD hS hA (fun _ => rfl) (by decide) (by decide) (by decide) (Nat.le_of_ble_eq_true rfl) (Nat.le_of_ble_eq_true rfl) dX3_init_77 (fun q_31 cA_32 H hK hP hD hS => ?_)
  have hP := hP.sub (ws' := [(h0, .inr (3, dfX3_30))]) [0] rfl
  have hD := hD.sub (ws' := [(h0, .inr (3, dfX3_30))]) [0] (by decide) rfl
  have hK := hK.sub (tys' := []) [] rfl
  refine W.widen (k := 11) (n := 16) (Nat.le_of_ble_eq_true rfl) (Nat.le_of_ble_eq_true rfl) ?_
  refine va_put (D := (dC, dI)) (ci := 3) (v := .ref q_31) (ty := (.array .int)) (C := RX3) (T := TX3) (N := 16) hx hb hts inX3 tyX3 tyX3_ok nmX3 hown hK hP hD hS 0 rfl rfl 13 (by decide) (hts _ kw_85) (fun _ h9 => h9) rfl (by decide +kernel) rfl rfl (by rw [L_dfX3_30]; decide) dX3_init_79 (fun H locs hP hD hS => ?_)
  obtain ⟨dfX3_33, e_dfX3_33⟩ : ∃ z, z = dfX3_30.set 13 (.ref q_31) := ⟨_, rfl⟩
  have hP : va_P (dC, dI) cl0 [(h0, .inr (3, dfX3_33))] H := by rw [e_dfX3_33]; exact hP
  have hD : va_D A [(h0, .inr (3, dfX3_33))] := by rw [e_dfX3_33]; exact hD
  have L_dfX3_33 : dfX3_33.length = 16 := fx_len e_dfX3_33 L_dfX3_30
  refine lv_aload_n hx hb dX3_init_82 rfl (lv_at hl 0 rfl) ?_
  refine lv_iconst (v := 0) hx hb dX3_init_83 (by decide) ?_
  refine va_newa (atype := .int) (ty := .int) (a0 := (0, .inl (fun _ => 0))) (N' := 0) hx hb (hts (.arrayClass .int) kw_6) rfl hK hP hD hS hA (fun _ => rfl) (by decide) (by decide) (by decide) (Nat.le_of_ble_eq_true rfl) (Nat.le_of_ble_eq_true rfl) dX3_init_84 (fun q_34 cA_35 H hK hP hD hS => ?_)
  have hP := hP.sub (ws' := [(h0, .inr (3, dfX3_33))]) [0] rfl
  have hD := hD.sub (ws' := [(h0, .inr (3, dfX3_33))]) [0] (by decide) rfl
  have hK := hK.sub (tys' := []) [] rfl
  refine W.widen (k := 12) (n := 16) (Nat.le_of_ble_eq_true rfl) (Nat.le_of_ble_eq_true rfl) ?_
  refine va_put (D := (dC, dI)) (ci := 3) (v := .ref q_34) (ty := (.array .int)) (C := RX3) (T := TX3) (N := 16) hx hb hts inX3 tyX3 tyX3_ok nmX3 hown hK hP hD hS 0 rfl rfl 14 (by decide) (hts _ kw_86) (fun _ h9 => h9) rfl (by decide +kernel) rfl rfl (by rw [L_dfX3_33]; decide) dX3_init_86 (fun H locs hP hD hS => ?_)
  obtain ⟨dfX3_36, e_dfX3_36⟩ : ∃ z, z = dfX3_33.set 14 (.ref q_34) := ⟨_, rfl⟩
  have hP : va_P (dC, dI) cl0 [(h0, .inr (3, dfX3_36))] H := by rw [e_dfX3_36]; exact hP
  have hD : va_D A [(h0, .inr (3, dfX3_36))] := by rw [e_dfX3_36]; exact hD
  have L_dfX3_36 : dfX3_36.length = 16 := fx_len e_dfX3_36 L_dfX3_33
  refine lv_aload_n hx hb dX3_init_89 rfl (lv_at hl 0 rfl) ?_
  refine lv_iconst (v := 0) hx hb dX3_init_90 (by decide) ?_
  refine va_newa (atype := .int) (ty := .int) (a0 := (0, .inl (fun _ => 0))) (N' := 0) hx hb (hts (.arrayClass .int) kw_6) rfl hK hP hD hS hA (fun _ => rfl) (by decide) (by decide) (by decide) (Nat.le_of_ble_eq_true rfl) (Nat.le_of_ble_eq_true rfl) dX3_init_91 (fun q_37 cA_38 H hK hP hD hS => ?_)
  have hP := hP.sub (ws' := [(h0, .inr (3, dfX3_36))]) [0] rfl
  have hD := hD.sub (ws' := [(h0, .inr (3, dfX3_36))]) [0] (by decide) rfl
  have hK := hK.sub (tys' := []) [] rfl
  refine W.widen (k := 13) (n := 16) (Nat.le_of_ble_eq_true rfl) (Nat.le_of_ble_eq_true rfl) ?_
  refine va_put (D := (dC, dI)) (ci := 3) (v := .ref q_37) (ty := (.array .int)) (C := RX3) (T := TX3) (N := 16) hx hb hts inX3 tyX3 tyX3_ok nmX3 hown hK hP hD hS 0 rfl rfl 15 (by decide) (hts _ kw_87) (fun _ h9 => h9) rfl (by decide +kernel) rfl rfl (by rw [L_dfX3_36]; decide) dX3_init_93 (fun H locs hP hD hS => ?_)
  obtain ⟨dfX3_39, e_dfX3_39⟩ : ∃ z, z = dfX3_36.set 15 (.ref q_37) := ⟨_, rfl⟩
  have hP : va_P (dC, dI) cl0 [(h0, .inr (3, dfX3_39))] H := by rw [e_dfX3_39]; exact hP
  have hD : va_D A [(h0, .inr (3, dfX3_39))] := by rw [e_dfX3_39]; exact hD
  have L_dfX3_39 : dfX3_39.length = 16 := fx_len e_dfX3_39 L_dfX3_36
  refine W.widen (k := 13) (n := 16) (Nat.le_of_ble_eq_true rfl) (Nat.le_of_ble_eq_true rfl) ?_
  exact W.vret hx hb hr (fun t9 ht9 hW9 => ⟨⟨(), rfl, trivial, trivial⟩, hS.F ht9⟩) hS.2.2 dX3_init_96
set_option maxHeartbeats 4000000 in
set_option maxRecDepth 100000 in
theorem m_X9_init (l : Launch) (dC : Nat → ClassId) (dI : Nat → Nat → Nat) (sz : Nat) (h0 : Nat)  : Met l yX9_init (wt yX9_init cX9_init 1 none) ({ frames := 2, cells := 13, slots := 27, locals := 35 }) (va_Pc [.ref h0] (st_U dC dI sz [(h0, .inr (8, dfX9))] [])) (va_Qv (fun _ : Unit => True) (fun (_ : Unit) (t : State) => ∃ (fs1 : List Value), ∃ (ha : Nat), ∃ (cI : ClassId), (fs1.length = 6) ∧ (fs1[1]? = some (.ref ha)) ∧ va_P (dC, dI) cl0 [(h0, .inr (8, fs1)), (ha, .inl (cI, 12, .inl (fun _ => 0)))] t.heap ∧ va_K (dC, dI) cl0 [(cI, .int)] t ∧ va_D (va_A [(h0, .inr (8, dfX9))] sz) [(h0, .inr (8, fs1)), (ha, .inl (cI, 12, .inl (fun _ => 0)))]) (va_A [(h0, .inr (8, dfX9))] sz)) 13 27 (va_A [(h0, .inr (8, dfX9))] sz) := by
  refine Met.ofW (cc := cX9_init) (maxL := 1) (ret := none) (by decide) rfl ?_
  intro p e s m args below meth c s₁ B hml hv
  obtain ⟨rfl, hsz, hP, hK, hD0, hex⟩ := hv
  have hx := B.exec
  have hb := B.bytes
  have hr := B.returns
  have hts0 := atoms_spec (ws := wt yX9_init cX9_init 1 none) B.pre
  have hts : ∀ w ∈ tb, w.before _ s = true := fun w h => hts0 w (List.mem_cons_of_mem _ h)
  have hown : s.vm.findClass RX9 = some m.cls := findClass_of_methodNamed B.named
  have hlocks := B.notSynchronized
  have hin : meth.name = "<init>" := (name_of_methodNamed B.named B.method).1
  subst hsz
  have hD := hD0.self (sz := s.heap.size)
  generalize hAe : va_A [(h0, .inr (8, dfX9))] s.heap.size = A at hD ⊢
  have hA : ∀ q : Nat, s.heap.size ≤ q → A q := fun q h => by rw [← hAe]; exact Or.inr h
  have hS : va_S A s.heap s.heap [] := va_S.rf
  have hl := lv_entry ([.ref h0]) (n := 1) (Nat.le_of_ble_eq_true rfl)
  rw [lg_entry_eq]
  generalize (lg_sl ([.ref h0]) ++ List.replicate (1 - (lg_sl ([.ref h0])).length) Slot.unset).toArray = ls at hl ⊢
  have hl : lv_has ls 1 [(0, .ref h0)] := hl
  refine lv_aload_n hx hb dX9_init_0 rfl (lv_at hl 0 rfl) ?_
  refine W.objInit hx hb hown (hts _ kw_88) (hts _ kw_1) (hts _ kw_2) rfl (by rw [hml]; exact hl.1) rfl dX9_init_1 (Nat.le_of_ble_eq_true rfl) (Nat.le_of_ble_eq_true rfl) ?_
  refine W.eq (g2 := F0 m 4 ls []) rfl ?_
  refine lv_aload_n hx hb dX9_init_4 rfl (lv_at hl 0 rfl) ?_
  refine va_new (ci := 7) (fs := dfX8) (C := RX8) (T := TX8) (N := 15) hx hb hts inX8 tyX8 tyX8_ok hown (hts _ kw_89) (hts _ kw_90) (hts _ kw_91) hK hP hD hS hA rfl dfX8_ok (Nat.le_of_ble_eq_true rfl) (Nat.le_of_ble_eq_true rfl) dX9_init_5 (fun q_1 H hP hD hS => ?_)
  have hP : va_P (dC, dI) cl0 [(h0, .inr (8, dfX9)), (q_1, .inr (7, dfX8))] H := hP
  have hD : va_D A [(h0, .inr (8, dfX9)), (q_1, .inr (7, dfX8))] := hD
  refine W.widen (k := 1) (n := 15) (Nat.le_of_ble_eq_true rfl) (Nat.le_of_ble_eq_true rfl) ?_
  refine lv_dup hx hb dX9_init_8 rfl ?_
  refine lv_iconst (v := 0) hx hb dX9_init_9 (by decide) ?_
  refine lv_iconst (v := 0) hx hb dX9_init_10 (by decide) ?_
  refine lv_iconst (v := 0) hx hb dX9_init_11 (by decide) ?_
  have hPc := hP.sub (ws' := [(q_1, .inr (7, dfX8))]) [1] rfl
  have hDc := hD.sub (ws' := [(q_1, .inr (7, dfX8))]) [1] (by decide) rfl
  have hKc := hK.sub (tys' := []) [] rfl
  have hFc := va_free (wc := [(q_1, .inr (7, dfX8))]) hD hS hA [1] rfl
  refine va_callv (va_runI (As := [.int 0, .int 0, .int 0]) (rest := [.ref q_1, .ref h0]) ⟨hx, hb, hml, hown, hts⟩ (m_X8_init l dC dI H.size q_1 ) (cwI 3 hts (gd_I kw_93) rfl rfl rfl (hts _ kw_91) (hts _ kw_92) (hts _ kw_94) rfl (by decide +kernel) ⟨Nat.le_of_ble_eq_true rfl, Nat.le_of_ble_eq_true rfl⟩) ⟨st_blind, fun U hU hW9 => st_mk hU hW9 hPc hKc hDc hex⟩ rfl rfl hl.1 rfl (lv_room (Nat.le_of_ble_eq_true rfl)) dX9_init_12 ⟨Nat.le_of_ble_eq_true rfl, Nat.le_of_ble_eq_true rfl⟩) hS (fun q _ h => hFc q h) hFc (fun  u9 t9 H1 locs ht9 hvm9 hw9 hB9 hz9 hk9 hS => ?_)
  have hP1 : va_P (dC, dI) cl0 [] H1 := fun k q h => by simp at h
  have hD1 : va_D (va_A [(q_1, .inr (7, dfX8))] H.size) [] := ⟨fun i j p q h => by simp at h, fun k q h => by simp at h⟩
  obtain ⟨hP, hD⟩ := va_join (wr := [(h0, .inr (8, dfX9))]) (w1 := []) hP hD [1] [0] rfl rfl (by decide) (by decide) hk9 hFc hP1 hD1
  generalize H1 = H at hP hS ⊢
  have hP : va_P (dC, dI) cl0 [(h0, .inr (8, dfX9))] H := hP
  have hD : va_D A [(h0, .inr (8, dfX9))] := hD
  refine W.widen (k := 8) (n := 15) (by omega) (by omega) ?_
  refine va_put (D := (dC, dI)) (ci := 8) (v := .ref q_1) (ty := (.object "CodeFoundry$Row")) (C := RX9) (T := TX9) (N := 6) hx hb hts inX9 tyX9 tyX9_ok nmX9 hown hK hP hD hS 0 rfl rfl 0 (by decide) (hts _ kw_95) (fun _ h9 => h9) rfl (by decide +kernel) rfl rfl (by rw [L_dfX9]; decide) dX9_init_15 (fun H locs hP hD hS => ?_)
  obtain ⟨dfX9_2, e_dfX9_2⟩ : ∃ z, z = dfX9.set 0 (.ref q_1) := ⟨_, rfl⟩
  have hP : va_P (dC, dI) cl0 [(h0, .inr (8, dfX9_2))] H := by rw [e_dfX9_2]; exact hP
  have hD : va_D A [(h0, .inr (8, dfX9_2))] := by rw [e_dfX9_2]; exact hD
  have L_dfX9_2 : dfX9_2.length = 6 := fx_len e_dfX9_2 L_dfX9
  refine lv_aload_n hx hb dX9_init_18 rfl (lv_at hl 0 rfl) ?_
  refine lv_bipush (v := 12) hx hb dX9_init_19 (by decide) ?_
  refine va_newa (atype := .int) (ty := .int) (a0 := (12, .inl (fun _ => 0))) (N' := 12) hx hb (hts (.arrayClass .int) kw_6) rfl hK hP hD hS hA (fun _ => rfl) (by decide) (by decide) (by decide) (Nat.le_of_ble_eq_true rfl) (Nat.le_of_ble_eq_true rfl) dX9_init_21 (fun q_3 cA_4 H hK hP hD hS => ?_)
  have hP : va_P (dC, dI) cl0 [(h0, .inr (8, dfX9_2)), (q_3, .inl (cA_4, 12, .inl (fun _ => 0)))] H := hP
  have hD : va_D A [(h0, .inr (8, dfX9_2)), (q_3, .inl (cA_4, 12, .inl (fun _ => 0)))] := hD
  have hK : va_K (dC, dI) cl0 [(cA_4, .int)] s := hK
  refine W.widen (k := 9) (n := 27) (Nat.le_of_ble_eq_true rfl) (Nat.le_of_ble_eq_true rfl) ?_
  refine va_putF (D := (dC, dI)) (ci := 8) (v := .ref q_3) (ty := (.array .int)) (C := RX9) (T := TX9) (N := 6) hx hb hts inX9 tyX9 tyX9_ok nmX9 hown hK hP hD hS 0 rfl rfl 1 (by decide) (hts _ kw_96) (fun _ h9 => h9) rfl hin rfl (by decide +kernel) rfl rfl (by rw [L_dfX9_2]; decide) dX9_init_23 (fun H locs hP hD hS => ?_)
  obtain ⟨dfX9_5, e_dfX9_5⟩ : ∃ z, z = dfX9_2.set 1 (.ref q_3) := ⟨_, rfl⟩
  have hP : va_P (dC, dI) cl0 [(h0, .inr (8, dfX9_5)), (q_3, .inl (cA_4, 12, .inl (fun _ => 0)))] H := by rw [e_dfX9_5]; exact hP
  have hD : va_D A [(h0, .inr (8, dfX9_5)), (q_3, .inl (cA_4, 12, .inl (fun _ => 0)))] := by rw [e_dfX9_5]; exact hD
  have L_dfX9_5 : dfX9_5.length = 6 := fx_len e_dfX9_5 L_dfX9_2
  have g_dfX9_5_1 := fx_self e_dfX9_5 (by rw [L_dfX9_2]; decide)
  refine lv_aload_n hx hb dX9_init_26 rfl (lv_at hl 0 rfl) ?_
  refine lv_iconst (v := 0) hx hb dX9_init_27 (by decide) ?_
  refine va_newa (atype := .boolean) (ty := .boolean) (a0 := (0, .inl (fun _ => 0))) (N' := 0) hx hb (hts (.arrayClass .boolean) kw_9) rfl hK hP hD hS hA (fun _ => rfl) (by decide) (by decide) (by decide) (Nat.le_of_ble_eq_true rfl) (Nat.le_of_ble_eq_true rfl) dX9_init_28 (fun q_6 cA_7 H hK hP hD hS => ?_)
  have hP := hP.sub (ws' := [(h0, .inr (8, dfX9_5)), (q_3, .inl (cA_4, 12, .inl (fun _ => 0)))]) [0, 1] rfl
  have hD := hD.sub (ws' := [(h0, .inr (8, dfX9_5)), (q_3, .inl (cA_4, 12, .inl (fun _ => 0)))]) [0, 1] (by decide) rfl
  have hK := hK.sub (tys' := [(cA_4, .int)]) [0] rfl
  refine W.widen (k := 10) (n := 27) (Nat.le_of_ble_eq_true rfl) (Nat.le_of_ble_eq_true rfl) ?_
  refine va_put (D := (dC, dI)) (ci := 8) (v := .ref q_6) (ty := (.array .boolean)) (C := RX9) (T := TX9) (N := 6) hx hb hts inX9 tyX9 tyX9_ok nmX9 hown hK hP hD hS 0 rfl rfl 2 (by decide) (hts _ kw_97) (fun _ h9 => h9) rfl (by decide +kernel) rfl rfl (by rw [L_dfX9_5]; decide) dX9_init_30 (fun H locs hP hD hS => ?_)
  obtain ⟨dfX9_8, e_dfX9_8⟩ : ∃ z, z = dfX9_5.set 2 (.ref q_6) := ⟨_, rfl⟩
  have hP : va_P (dC, dI) cl0 [(h0, .inr (8, dfX9_8)), (q_3, .inl (cA_4, 12, .inl (fun _ => 0)))] H := by rw [e_dfX9_8]; exact hP
  have hD : va_D A [(h0, .inr (8, dfX9_8)), (q_3, .inl (cA_4, 12, .inl (fun _ => 0)))] := by rw [e_dfX9_8]; exact hD
  have L_dfX9_8 : dfX9_8.length = 6 := fx_len e_dfX9_8 L_dfX9_5
  have g_dfX9_8_1 := fx_ne (j := 1) e_dfX9_8 g_dfX9_5_1 (by decide)
  refine lv_aload_n hx hb dX9_init_33 rfl (lv_at hl 0 rfl) ?_
  refine lv_iconst (v := 0) hx hb dX9_init_34 (by decide) ?_
  refine va_newa (atype := .boolean) (ty := .boolean) (a0 := (0, .inl (fun _ => 0))) (N' := 0) hx hb (hts (.arrayClass .boolean) kw_9) rfl hK hP hD hS hA (fun _ => rfl) (by decide) (by decide) (by decide) (Nat.le_of_ble_eq_true rfl) (Nat.le_of_ble_eq_true rfl) dX9_init_35 (fun q_9 cA_10 H hK hP hD hS => ?_)
  have hP := hP.sub (ws' := [(h0, .inr (8, dfX9_8)), (q_3, .inl (cA_4, 12, .inl (fun _ => 0)))]) [0, 1] rfl
  have hD := hD.sub (ws' := [(h0, .inr (8, dfX9_8)), (q_3, .inl (cA_4, 12, .inl (fun _ => 0)))]) [0, 1] (by decide) rfl
  have hK := hK.sub (tys' := [(cA_4, .int)]) [0] rfl
  refine W.widen (k := 11) (n := 27) (Nat.le_of_ble_eq_true rfl) (Nat.le_of_ble_eq_true rfl) ?_
  refine va_put (D := (dC, dI)) (ci := 8) (v := .ref q_9) (ty := (.array .boolean)) (C := RX9) (T := TX9) (N := 6) hx hb hts inX9 tyX9 tyX9_ok nmX9 hown hK hP hD hS 0 rfl rfl 3 (by decide) (hts _ kw_98) (fun _ h9 => h9) rfl (by decide +kernel) rfl rfl (by rw [L_dfX9_8]; decide) dX9_init_37 (fun H locs hP hD hS => ?_)
  obtain ⟨dfX9_11, e_dfX9_11⟩ : ∃ z, z = dfX9_8.set 3 (.ref q_9) := ⟨_, rfl⟩
  have hP : va_P (dC, dI) cl0 [(h0, .inr (8, dfX9_11)), (q_3, .inl (cA_4, 12, .inl (fun _ => 0)))] H := by rw [e_dfX9_11]; exact hP
  have hD : va_D A [(h0, .inr (8, dfX9_11)), (q_3, .inl (cA_4, 12, .inl (fun _ => 0)))] := by rw [e_dfX9_11]; exact hD
  have L_dfX9_11 : dfX9_11.length = 6 := fx_len e_dfX9_11 L_dfX9_8
  have g_dfX9_11_1 := fx_ne (j := 1) e_dfX9_11 g_dfX9_8_1 (by decide)
  refine lv_aload_n hx hb dX9_init_40 rfl (lv_at hl 0 rfl) ?_
  refine lv_iconst (v := 0) hx hb dX9_init_41 (by decide) ?_
  refine va_newa (atype := .int) (ty := .int) (a0 := (0, .inl (fun _ => 0))) (N' := 0) hx hb (hts (.arrayClass .int) kw_6) rfl hK hP hD hS hA (fun _ => rfl) (by decide) (by decide) (by decide) (Nat.le_of_ble_eq_true rfl) (Nat.le_of_ble_eq_true rfl) dX9_init_42 (fun q_12 cA_13 H hK hP hD hS => ?_)
  have hP := hP.sub (ws' := [(h0, .inr (8, dfX9_11)), (q_3, .inl (cA_4, 12, .inl (fun _ => 0)))]) [0, 1] rfl
  have hD := hD.sub (ws' := [(h0, .inr (8, dfX9_11)), (q_3, .inl (cA_4, 12, .inl (fun _ => 0)))]) [0, 1] (by decide) rfl
  have hK := hK.sub (tys' := [(cA_4, .int)]) [0] rfl
  refine W.widen (k := 12) (n := 27) (Nat.le_of_ble_eq_true rfl) (Nat.le_of_ble_eq_true rfl) ?_
  refine va_put (D := (dC, dI)) (ci := 8) (v := .ref q_12) (ty := (.array .int)) (C := RX9) (T := TX9) (N := 6) hx hb hts inX9 tyX9 tyX9_ok nmX9 hown hK hP hD hS 0 rfl rfl 4 (by decide) (hts _ kw_99) (fun _ h9 => h9) rfl (by decide +kernel) rfl rfl (by rw [L_dfX9_11]; decide) dX9_init_44 (fun H locs hP hD hS => ?_)
  obtain ⟨dfX9_14, e_dfX9_14⟩ : ∃ z, z = dfX9_11.set 4 (.ref q_12) := ⟨_, rfl⟩
  have hP : va_P (dC, dI) cl0 [(h0, .inr (8, dfX9_14)), (q_3, .inl (cA_4, 12, .inl (fun _ => 0)))] H := by rw [e_dfX9_14]; exact hP
  have hD : va_D A [(h0, .inr (8, dfX9_14)), (q_3, .inl (cA_4, 12, .inl (fun _ => 0)))] := by rw [e_dfX9_14]; exact hD
  have L_dfX9_14 : dfX9_14.length = 6 := fx_len e_dfX9_14 L_dfX9_11
  have g_dfX9_14_1 := fx_ne (j := 1) e_dfX9_14 g_dfX9_11_1 (by decide)
  refine lv_aload_n hx hb dX9_init_47 rfl (lv_at hl 0 rfl) ?_
  refine lv_iconst (v := 0) hx hb dX9_init_48 (by decide) ?_
  refine va_newa (atype := .int) (ty := .int) (a0 := (0, .inl (fun _ => 0))) (N' := 0) hx hb (hts (.arrayClass .int) kw_6) rfl hK hP hD hS hA (fun _ => rfl) (by decide) (by decide) (by decide) (Nat.le_of_ble_eq_true rfl) (Nat.le_of_ble_eq_true rfl) dX9_init_49 (fun q_15 cA_16 H hK hP hD hS => ?_)
  have hP := hP.sub (ws' := [(h0, .inr (8, dfX9_14)), (q_3, .inl (cA_4, 12, .inl (fun _ => 0)))]) [0, 1] rfl
  have hD := hD.sub (ws' := [(h0, .inr (8, dfX9_14)), (q_3, .inl (cA_4, 12, .inl (fun _ => 0)))]) [0, 1] (by decide) rfl
  have hK := hK.sub (tys' := [(cA_4, .int)]) [0] rfl
  refine W.widen (k := 13) (n := 27) (Nat.le_of_ble_eq_true rfl) (Nat.le_of_ble_eq_true rfl) ?_
  refine va_put (D := (dC, dI)) (ci := 8) (v := .ref q_15) (ty := (.array .int)) (C := RX9) (T := TX9) (N := 6) hx hb hts inX9 tyX9 tyX9_ok nmX9 hown hK hP hD hS 0 rfl rfl 5 (by decide) (hts _ kw_100) (fun _ h9 => h9) rfl (by decide +kernel) rfl rfl (by rw [L_dfX9_14]; decide) dX9_init_51 (fun H locs hP hD hS => ?_)
  obtain ⟨dfX9_17, e_dfX9_17⟩ : ∃ z, z = dfX9_14.set 5 (.ref q_15) := ⟨_, rfl⟩
  have hP : va_P (dC, dI) cl0 [(h0, .inr (8, dfX9_17)), (q_3, .inl (cA_4, 12, .inl (fun _ => 0)))] H := by rw [e_dfX9_17]; exact hP
  have hD : va_D A [(h0, .inr (8, dfX9_17)), (q_3, .inl (cA_4, 12, .inl (fun _ => 0)))] := by rw [e_dfX9_17]; exact hD
  have L_dfX9_17 : dfX9_17.length = 6 := fx_len e_dfX9_17 L_dfX9_14
  have g_dfX9_17_1 := fx_ne (j := 1) e_dfX9_17 g_dfX9_14_1 (by decide)
  refine W.widen (k := 13) (n := 27) (Nat.le_of_ble_eq_true rfl) (Nat.le_of_ble_eq_true rfl) ?_
  have hP9 := hP.sub (ws' := [(h0, .inr (8, dfX9_17)), (q_3, .inl (cA_4, 12, .inl (fun _ => 0)))]) [0, 1] rfl
  have hD9 := hD.sub (ws' := [(h0, .inr (8, dfX9_17)), (q_3, .inl (cA_4, 12, .inl (fun _ => 0)))]) [0, 1] (by decide) rfl
  have hK9 := hK.sub (tys' := [(cA_4, .int)]) [0] rfl
  exact W.vret hx hb hr (fun t9 ht9 hW9 => ⟨⟨(), rfl, trivial, dfX9_17, q_3, cA_4, L_dfX9_17, g_dfX9_17_1, by rw [ht9]; exact hP9, va_K.moved hW9.alike hK9, hD9⟩, hS.F ht9⟩) hS.2.2 dX9_init_54
