set_option maxHeartbeats 4000000 in
set_option maxRecDepth 100000 in
theorem m_X14_broken (l : Launch) (dC : Nat → ClassId) (dI : Nat → Nat → Nat) (sz : Nat) (h0 : Nat) (fy : List Value) (hst : Nat) (r0 : Int32) (p0 : Int32) (L_fy : fy.length = 143) (g_fy_6 : fy[6]? = some (.ref hst)) : Met l yX14_broken (wt yX14_broken cX14_broken 3 (some (.object "java/lang/IllegalStateException"))) ({ frames := 0, cells := 0, slots := 0, locals := 0 }) (va_Pc [.ref h0, .int r0, .int p0] (st_U dC dI sz [(h0, .inr (12, fy)), (hst, .inr (13, []))] [])) (va_Qq (fun (r : Option Nat) (_ : Unit) => r = (some hst)) (fun (_ : Unit) (t : State) => ∃ (fy1 : List Value), (fy1.length = 143) ∧ (fy1[6]? = some (.ref hst)) ∧ (fy1[7]? = some (.int r0)) ∧ (fy1[8]? = some (.int p0)) ∧ va_P (dC, dI) cl0 [(h0, .inr (12, fy1)), (hst, .inr (13, []))] t.heap ∧ va_K (dC, dI) cl0 [] t ∧ va_D (va_A [(h0, .inr (12, fy)), (hst, .inr (13, []))] sz) [(h0, .inr (12, fy1)), (hst, .inr (13, []))]) (va_A [(h0, .inr (12, fy)), (hst, .inr (13, []))] sz)) 0 0 (va_A [(h0, .inr (12, fy)), (hst, .inr (13, []))] sz) := by
  refine Met.ofW (cc := cX14_broken) (maxL := 3) (ret := (some (.object "java/lang/IllegalStateException"))) (by decide) rfl ?_
  intro p e s m args below meth c s₁ B hml hv
  obtain ⟨rfl, hsz, hP, hK, hD0, hex⟩ := hv
  have hx := B.exec
  have hb := B.bytes
  have hr := B.returns
  have hts0 := atoms_spec (ws := wt yX14_broken cX14_broken 3 (some (.object "java/lang/IllegalStateException"))) B.pre
  have hts : ∀ w ∈ tb, w.before _ s = true := fun w h => hts0 w (List.mem_cons_of_mem _ h)
  have hown : s.vm.findClass RX14 = some m.cls := findClass_of_methodNamed B.named
  have hlocks := B.notSynchronized
  subst hsz
  have hD := hD0.self (sz := s.heap.size)
  generalize hAe : va_A [(h0, .inr (12, fy)), (hst, .inr (13, []))] s.heap.size = A at hD ⊢
  have hA : ∀ q : Nat, s.heap.size ≤ q → A q := fun q h => by rw [← hAe]; exact Or.inr h
  have hS : va_S A s.heap s.heap [] := va_S.rf
  have hl := lv_entry ([.ref h0, .int r0, .int p0]) (n := 3) (Nat.le_of_ble_eq_true rfl)
  rw [lg_entry_eq]
  generalize (lg_sl ([.ref h0, .int r0, .int p0]) ++ List.replicate (3 - (lg_sl ([.ref h0, .int r0, .int p0])).length) Slot.unset).toArray = ls at hl ⊢
  have hl : lv_has ls 3 [(0, .ref h0), (1, .int r0), (2, .int p0)] := hl
  refine lv_aload_n hx hb dX14_broken_0 rfl (lv_at hl 0 rfl) ?_
  refine lv_iload_n hx hb dX14_broken_1 rfl (lv_at hl 1 rfl) ?_
  refine va_put (D := (dC, dI)) (ci := 12) (v := .int r0) (ty := .int) (C := RX14) (T := TX14) (N := 143) hx hb hts inX14 tyX14 tyX14_ok nmX14 hown hK hP hD hS 0 rfl rfl 7 (by decide) (hts _ kw_401) (fun _ h9 => h9) rfl (by decide +kernel) rfl rfl (by rw [L_fy]; decide) dX14_broken_2 (fun H locs hP hD hS => ?_)
  obtain ⟨fy_1, e_fy_1⟩ : ∃ z, z = fy.set 7 (.int r0) := ⟨_, rfl⟩
  have hP : va_P (dC, dI) cl0 [(h0, .inr (12, fy_1)), (hst, .inr (13, []))] H := by rw [e_fy_1]; exact hP
  have hD : va_D A [(h0, .inr (12, fy_1)), (hst, .inr (13, []))] := by rw [e_fy_1]; exact hD
  have L_fy_1 : fy_1.length = 143 := fx_len e_fy_1 L_fy
  have g_fy_1_6 := fx_ne (j := 6) e_fy_1 g_fy_6 (by decide)
  have g_fy_1_7 := fx_self e_fy_1 (by rw [L_fy]; decide)
  refine lv_aload_n hx hb dX14_broken_5 rfl (lv_at hl 0 rfl) ?_
  refine lv_iload_n hx hb dX14_broken_6 rfl (lv_at hl 2 rfl) ?_
  refine va_put (D := (dC, dI)) (ci := 12) (v := .int p0) (ty := .int) (C := RX14) (T := TX14) (N := 143) hx hb hts inX14 tyX14 tyX14_ok nmX14 hown hK hP hD hS 0 rfl rfl 8 (by decide) (hts _ kw_402) (fun _ h9 => h9) rfl (by decide +kernel) rfl rfl (by rw [L_fy_1]; decide) dX14_broken_7 (fun H locs hP hD hS => ?_)
  obtain ⟨fy_2, e_fy_2⟩ : ∃ z, z = fy_1.set 8 (.int p0) := ⟨_, rfl⟩
  have hP : va_P (dC, dI) cl0 [(h0, .inr (12, fy_2)), (hst, .inr (13, []))] H := by rw [e_fy_2]; exact hP
  have hD : va_D A [(h0, .inr (12, fy_2)), (hst, .inr (13, []))] := by rw [e_fy_2]; exact hD
  have L_fy_2 : fy_2.length = 143 := fx_len e_fy_2 L_fy_1
  have g_fy_2_6 := fx_ne (j := 6) e_fy_2 g_fy_1_6 (by decide)
  have g_fy_2_7 := fx_ne (j := 7) e_fy_2 g_fy_1_7 (by decide)
  have g_fy_2_8 := fx_self e_fy_2 (by rw [L_fy_1]; decide)
  refine lv_aload_n hx hb dX14_broken_10 rfl (lv_at hl 0 rfl) ?_
  refine va_get (D := (dC, dI)) (ci := 12) (v := .ref hst) (C := RX14) (T := TX14) (N := 143) hx hb hts inX14 hown hK hP 0 rfl rfl 6 (by decide) (hts _ kw_273) (fun _ h9 => h9) g_fy_2_6 dX14_broken_11 ?_
  refine W.widen (k := 0) (n := 0) (Nat.le_of_ble_eq_true rfl) (Nat.le_of_ble_eq_true rfl) ?_
  have hP9 := hP.sub (ws' := [(h0, .inr (12, fy_2)), (hst, .inr (13, []))]) [0, 1] rfl
  have hD9 := hD.sub (ws' := [(h0, .inr (12, fy_2)), (hst, .inr (13, []))]) [0, 1] (by decide) rfl
  have hK9 := hK.sub (tys' := []) [] rfl
  exact W.aret (v := .ref hst) hx hb hr (Or.inl ⟨_, rfl⟩) (Or.inr ⟨_, rfl⟩) (fun t9 ht9 hW9 => ⟨⟨some hst, (), rfl, rfl, fy_2, L_fy_2, g_fy_2_6, g_fy_2_7, g_fy_2_8, by rw [ht9]; exact hP9, va_K.moved hW9.alike hK9, hD9⟩, hS.F ht9⟩) hS.2.2 dX14_broken_14
set_option maxHeartbeats 4000000 in
set_option maxRecDepth 100000 in
theorem m_X14_must (l : Launch) (dC : Nat → ClassId) (dI : Nat → Nat → Nat) (sz : Nat) (h0 : Nat) (fy : List Value) (hst : Nat) (L_fy : fy.length = 143) (g_fy_6 : fy[6]? = some (.ref hst)) : vx_Met l yX14_must (wt yX14_must cX14_must 4 none) ({ frames := 1, cells := 0, slots := 0, locals := 22 }) (va_Pc [.ref h0, .int 0, .int 2, .int 0] (st_U dC dI sz [(h0, .inr (12, fy)), (hst, .inr (13, []))] [])) (fun _ _ _ _ => False) (vx_X (fun _ : Unit => True) (fun (E : String) (_ : Unit) (t : State) => E = RJxb5711 ∧ ∃ (fy1 : List Value), (fy1.length = 143) ∧ (fy1[6]? = some (.ref hst)) ∧ (fy1[7]? = some (.int 2)) ∧ (fy1[8]? = some (.int 0)) ∧ va_P (dC, dI) cl0 [(h0, .inr (12, fy1)), (hst, .inr (13, []))] t.heap ∧ va_D (va_A [(h0, .inr (12, fy)), (hst, .inr (13, []))] sz) [(h0, .inr (12, fy1)), (hst, .inr (13, []))]) (va_A [(h0, .inr (12, fy)), (hst, .inr (13, []))] sz)) 0 0 (va_A [(h0, .inr (12, fy)), (hst, .inr (13, []))] sz) := by
  refine vx_ofW (cc := cX14_must) (maxL := 4) (ret := none) (by decide) rfl ?_
  intro p e s m args below meth c s₁ B hml hnt hv
  obtain ⟨rfl, hsz, hP, hK, hD0, hex⟩ := hv
  have hx := B.exec
  have hb := B.bytes
  have hr := B.returns
  have hts0 := atoms_spec (ws := wt yX14_must cX14_must 4 none) B.pre
  have hts : ∀ w ∈ tb, w.before _ s = true := fun w h => hts0 w (List.mem_cons_of_mem _ h)
  have hown : s.vm.findClass RX14 = some m.cls := findClass_of_methodNamed B.named
  have hlocks := B.notSynchronized
  subst hsz
  have hD := hD0.self (sz := s.heap.size)
  generalize hAe : va_A [(h0, .inr (12, fy)), (hst, .inr (13, []))] s.heap.size = A at hD ⊢
  have hA : ∀ q : Nat, s.heap.size ≤ q → A q := fun q h => by rw [← hAe]; exact Or.inr h
  have hS : va_S A s.heap s.heap [] := va_S.rf
  have hl := lv_entry ([.ref h0, .int 0, .int 2, .int 0]) (n := 4) (Nat.le_of_ble_eq_true rfl)
  rw [lg_entry_eq]
  generalize (lg_sl ([.ref h0, .int 0, .int 2, .int 0]) ++ List.replicate (4 - (lg_sl ([.ref h0, .int 0, .int 2, .int 0])).length) Slot.unset).toArray = ls at hl ⊢
  have hl : lv_has ls 4 [(0, .ref h0), (1, .int 0), (2, .int 2), (3, .int 0)] := hl
  refine lv_iload_n hx hb dX14_must_0 rfl (lv_at hl 1 rfl) ?_
  refine lv_if_ne (tgt := 11) hx hb dX14_must_1 (by decide) (fun c9 => absurd (by decide) c9) (fun _ => ?_)
  refine lv_aload_n hx hb dX14_must_4 rfl (lv_at hl 0 rfl) ?_
  refine lv_iload_n hx hb dX14_must_5 rfl (lv_at hl 2 rfl) ?_
  refine lv_iload_n hx hb dX14_must_6 rfl (lv_at hl 3 rfl) ?_
  have hPc := hP.sub (ws' := [(h0, .inr (12, fy)), (hst, .inr (13, []))]) [0, 1] rfl
  have hDc := hD.sub (ws' := [(h0, .inr (12, fy)), (hst, .inr (13, []))]) [0, 1] (by decide) rfl
  have hKc := hK.sub (tys' := []) [] rfl
  have hFc := va_free (wc := [(h0, .inr (12, fy)), (hst, .inr (13, []))]) hD hS hA [0, 1] rfl
  refine va_callq (va_runV (As := [.int 2, .int 0]) (rest := []) ⟨hx, hb, hml, hown, hts⟩ (m_X14_broken l dC dI s.heap.size h0 fy hst 2 0 L_fy g_fy_6) (cwV 2 hts (gd_V kw_403 kw_404 kw_405 kw_374 kw_406) rfl rfl rfl (by decide +kernel) ⟨Nat.le_of_ble_eq_true rfl, Nat.le_of_ble_eq_true rfl⟩) ⟨st_blind, va_recv hKc hPc (ci := 12) (q0 := 0) rfl rfl, fun U hU hW9 => st_mk hU hW9 hPc hKc hDc hex⟩ rfl rfl hl.1 rfl (lv_room (Nat.le_of_ble_eq_true rfl)) dX14_must_7 ⟨Nat.le_of_ble_eq_true rfl, Nat.le_of_ble_eq_true rfl⟩) hS (fun q _ h => hFc q h) hFc (fun r_1 u9 t9 H1 locs ht9 hvm9 hw9 hB9 hz9 hk9 hS => ?_)
  obtain ⟨fy1_2, L_fy1_2, g_fy1_2_6, g_fy1_2_7, g_fy1_2_8, hP1, hK1, hD1⟩ := hB9
  rw [ht9] at hP1
  have hK1 := va_K.moved hvm9.symm hK1
  obtain ⟨hP, hD⟩ := va_join (wr := []) (w1 := [(h0, .inr (12, fy1_2)), (hst, .inr (13, []))]) hP hD [0, 1] [] rfl rfl (by decide) (by decide) hk9 hFc hP1 hD1
  have hK := (hK.sub (tys' := []) [] rfl).app hK1
  generalize H1 = H at hP hS ⊢
  have hP : va_P (dC, dI) cl0 [(h0, .inr (12, fy1_2)), (hst, .inr (13, []))] H := hP
  have hD : va_D A [(h0, .inr (12, fy1_2)), (hst, .inr (13, []))] := hD
  have hK : va_K (dC, dI) cl0 [] s := hK
  have hw9 : r_1 = (some hst) := hw9
  subst hw9
  obtain ⟨ce9, hce9, hcv9, hcl9⟩ := sx_cell hK hP (q0 := 1) (ci := 13) rfl rfl
  refine sx_athrow hx hb dX14_must_10 ?_
  have hP9 := hP.sub (ws' := [(h0, .inr (12, fy1_2)), (hst, .inr (13, []))]) [0, 1] rfl
  have hD9 := hD.sub (ws' := [(h0, .inr (12, fy1_2)), (hst, .inr (13, []))]) [0, 1] (by decide) rfl
  exact vx_out (E := RJxb5711) (q := hst) (fun x h9 => (hnt x h9).elim) hlocks hce9 hcv9 hcl9 (fun t9 ht9 ha9 => ⟨(), trivial, ⟨rfl, fy1_2, L_fy1_2, g_fy1_2_6, g_fy1_2_7, g_fy1_2_8, by rw [ht9]; exact hP9, hD9⟩, hS.F ht9⟩) hS.2.2 (Nat.le_of_ble_eq_true rfl) (Nat.le_of_ble_eq_true rfl)
set_option maxHeartbeats 4000000 in
set_option maxRecDepth 100000 in
theorem m_X14_layout (l : Launch) (dC : Nat → ClassId) (dI : Nat → Nat → Nat) (sz : Nat) (h0 : Nat) (fy : List Value) (hst : Nat) (L_fy : fy.length = 143) (g_fy_6 : fy[6]? = some (.ref hst)) (g_fy_12 : fy[12]? = some (.int 0)) : vx_Met l yX14_layout (wt yX14_layout cX14_layout 2 none) ({ frames := 2, cells := 0, slots := 0, locals := 45 }) (va_Pc [.ref h0] (st_U dC dI sz [(h0, .inr (12, fy)), (hst, .inr (13, []))] [])) (fun _ _ _ _ => False) (vx_X (fun _ : Unit => True) (fun (E : String) (_ : Unit) (t : State) => E = RJxb5711 ∧ ∃ (fy1 : List Value), (fy1.length = 143) ∧ (fy1[6]? = some (.ref hst)) ∧ (fy1[7]? = some (.int 2)) ∧ (fy1[8]? = some (.int 0)) ∧ va_P (dC, dI) cl0 [(h0, .inr (12, fy1)), (hst, .inr (13, []))] t.heap ∧ va_D (va_A [(h0, .inr (12, fy)), (hst, .inr (13, []))] sz) [(h0, .inr (12, fy1)), (hst, .inr (13, []))]) (va_A [(h0, .inr (12, fy)), (hst, .inr (13, []))] sz)) 0 0 (va_A [(h0, .inr (12, fy)), (hst, .inr (13, []))] sz) := by
  refine vx_ofW (cc := cX14_layout) (maxL := 2) (ret := none) (by decide) rfl ?_
  intro p e s m args below meth c s₁ B hml hnt hv
  obtain ⟨rfl, hsz, hP, hK, hD0, hex⟩ := hv
  have hx := B.exec
  have hb := B.bytes
  have hr := B.returns
  have hts0 := atoms_spec (ws := wt yX14_layout cX14_layout 2 none) B.pre
  have hts : ∀ w ∈ tb, w.before _ s = true := fun w h => hts0 w (List.mem_cons_of_mem _ h)
  have hown : s.vm.findClass RX14 = some m.cls := findClass_of_methodNamed B.named
  have hlocks := B.notSynchronized
  subst hsz
  have hD := hD0.self (sz := s.heap.size)
  generalize hAe : va_A [(h0, .inr (12, fy)), (hst, .inr (13, []))] s.heap.size = A at hD ⊢
  have hA : ∀ q : Nat, s.heap.size ≤ q → A q := fun q h => by rw [← hAe]; exact Or.inr h
  have hS : va_S A s.heap s.heap [] := va_S.rf
  have hl := lv_entry ([.ref h0]) (n := 2) (Nat.le_of_ble_eq_true rfl)
  rw [lg_entry_eq]
  generalize (lg_sl ([.ref h0]) ++ List.replicate (2 - (lg_sl ([.ref h0])).length) Slot.unset).toArray = ls at hl ⊢
  have hl : lv_has ls 2 [(0, .ref h0)] := hl
  refine lv_iconst (v := 0) hx hb dX14_layout_0 (by decide) ?_
  refine lv_istore_n (lv' := [(1, .int 0), (0, .ref h0)]) hx hb dX14_layout_1 rfl hl (by decide) rfl (fun ls hl => ?_)
  refine lv_iload_n hx hb dX14_layout_2 rfl (lv_at hl 0 rfl) ?_
  refine lv_bipush (v := 8) hx hb dX14_layout_3 (by decide) ?_
  refine lv_icmp_ge (tgt := 59) hx hb dX14_layout_5 (by decide) (fun c9 => absurd c9 (by decide)) (fun _ => ?_)
  refine lv_aload_n hx hb dX14_layout_8 rfl (lv_at hl 1 rfl) ?_
  refine lv_iload_n hx hb dX14_layout_9 rfl (lv_at hl 0 rfl) ?_
  refine lv_aload_n hx hb dX14_layout_10 rfl (lv_at hl 1 rfl) ?_
  refine va_get (D := (dC, dI)) (ci := 12) (v := .int 0) (C := RX14) (T := TX14) (N := 143) hx hb hts inX14 hown hK hP 0 rfl rfl 12 (by decide) (hts _ kw_407) (fun _ h9 => h9) g_fy_12 dX14_layout_11 ?_
  refine lv_icmp_ge (tgt := 21) hx hb dX14_layout_14 (by decide) (fun _ => ?_) (fun c9 => absurd (by decide) c9)
  refine lv_iconst (v := 0) hx hb dX14_layout_21 (by decide) ?_
  refine lv_iconst (v := 2) hx hb dX14_layout_22 (by decide) ?_
  refine lv_aload_n hx hb dX14_layout_23 rfl (lv_at hl 1 rfl) ?_
  refine va_get (D := (dC, dI)) (ci := 12) (v := .int 0) (C := RX14) (T := TX14) (N := 143) hx hb hts inX14 hown hK hP 0 rfl rfl 12 (by decide) (hts _ kw_407) (fun _ h9 => h9) g_fy_12 dX14_layout_24 ?_
  have hPc := hP.sub (ws' := [(h0, .inr (12, fy)), (hst, .inr (13, []))]) [0, 1] rfl
  have hDc := hD.sub (ws' := [(h0, .inr (12, fy)), (hst, .inr (13, []))]) [0, 1] (by decide) rfl
  have hKc := hK.sub (tys' := []) [] rfl
  have hFc := va_free (wc := [(h0, .inr (12, fy)), (hst, .inr (13, []))]) hD hS hA [0, 1] rfl
  refine sx_callX (vx_runV (As := [.int 0, .int 2, .int 0]) (rest := []) ⟨hx, hb, hml, hown, hts⟩ (m_X14_must l dC dI s.heap.size h0 fy hst L_fy g_fy_6) (cwV 3 hts (gd_V kw_408 kw_409 kw_410 kw_374 kw_411) rfl rfl rfl (by decide +kernel) ⟨Nat.le_of_ble_eq_true rfl, Nat.le_of_ble_eq_true rfl⟩) ⟨st_blind, va_recv hKc hPc (ci := 12) (q0 := 0) rfl rfl, fun U hU hW9 => st_mk hU hW9 hPc hKc hDc hex⟩ rfl rfl hl.1 rfl (lv_room (Nat.le_of_ble_eq_true rfl)) dX14_layout_27 ⟨Nat.le_of_ble_eq_true rfl, Nat.le_of_ble_eq_true rfl⟩) (fun _ _ _ h9 => h9) hS hFc (fun q _ h => hFc q h) (fun E9 ce9 q9 u9 t9 H1 locs ht9 hvm9 hp9 hB9 hz9 hk9 hS hce9 hcv9 hcl9 => ?_)
  obtain ⟨rfl, fy1_1, L_fy1_1, g_fy1_1_6, g_fy1_1_7, g_fy1_1_8, hP1, hD1⟩ := hB9
  rw [ht9] at hP1
  obtain ⟨hP, hD⟩ := va_join (wr := []) (w1 := [(h0, .inr (12, fy1_1)), (hst, .inr (13, []))]) hP hD [0, 1] [] rfl rfl (by decide) (by decide) hk9 hFc hP1 hD1
  generalize H1 = H at hP hS hce9 ⊢
  have hP : va_P (dC, dI) cl0 [(h0, .inr (12, fy1_1)), (hst, .inr (13, []))] H := hP
  have hD : va_D A [(h0, .inr (12, fy1_1)), (hst, .inr (13, []))] := hD
  have hP9 := hP.sub (ws' := [(h0, .inr (12, fy1_1)), (hst, .inr (13, []))]) [0, 1] rfl
  have hD9 := hD.sub (ws' := [(h0, .inr (12, fy1_1)), (hst, .inr (13, []))]) [0, 1] (by decide) rfl
  exact vx_out (E := RJxb5711) (q := q9) (fun x h9 => (hnt x h9).elim) hlocks hce9 hcv9 hcl9 (fun t9 ht9 ha9 => ⟨(), trivial, ⟨rfl, fy1_1, L_fy1_1, g_fy1_1_6, g_fy1_1_7, g_fy1_1_8, by rw [ht9]; exact hP9, hD9⟩, hS.F ht9⟩) hS.2.2 (Nat.le_of_ble_eq_true rfl) (Nat.le_of_ble_eq_true rfl)
set_option maxHeartbeats 4000000 in
set_option maxRecDepth 100000 in
theorem m_X14_readFile (l : Launch) (dC : Nat → ClassId) (dI : Nat → Nat → Nat) (sz : Nat) (h0 : Nat) (fy : List Value) (hst : Nat) (ht : Nat) (L_fy : fy.length = 143) (g_fy_6 : fy[6]? = some (.ref hst)) : vx_Met l yX14_readFile (wt yX14_readFile cX14_readFile 7 (some (.object "CodeFoundryModel$File"))) ({ frames := 3, cells := 0, slots := 0, locals := 66 }) (va_Pc [.ref h0, .ref ht, .int 0] (st_U dC dI sz [(h0, .inr (12, fy)), (hst, .inr (13, []))] [])) (fun _ _ _ _ => False) (vx_X (fun _ : Unit => True) (fun (E : String) (_ : Unit) (t : State) => E = RJxb5711 ∧ ∃ (fy1 : List Value), (fy1.length = 143) ∧ (fy1[6]? = some (.ref hst)) ∧ (fy1[7]? = some (.int 2)) ∧ (fy1[8]? = some (.int 0)) ∧ va_P (dC, dI) cl0 [(h0, .inr (12, fy1)), (hst, .inr (13, []))] t.heap ∧ va_D (va_A [(h0, .inr (12, fy)), (hst, .inr (13, []))] sz) [(h0, .inr (12, fy1)), (hst, .inr (13, []))]) (va_A [(h0, .inr (12, fy)), (hst, .inr (13, []))] sz)) 0 0 (va_A [(h0, .inr (12, fy)), (hst, .inr (13, []))] sz) := by
  refine vx_ofW (cc := cX14_readFile) (maxL := 7) (ret := (some (.object "CodeFoundryModel$File"))) (by decide) rfl ?_
  intro p e s m args below meth c s₁ B hml hnt hv
  obtain ⟨rfl, hsz, hP, hK, hD0, hex⟩ := hv
  have hx := B.exec
  have hb := B.bytes
  have hr := B.returns
  have hts0 := atoms_spec (ws := wt yX14_readFile cX14_readFile 7 (some (.object "CodeFoundryModel$File"))) B.pre
  have hts : ∀ w ∈ tb, w.before _ s = true := fun w h => hts0 w (List.mem_cons_of_mem _ h)
  have hown : s.vm.findClass RX14 = some m.cls := findClass_of_methodNamed B.named
  have hlocks := B.notSynchronized
  subst hsz
  have hD := hD0.self (sz := s.heap.size)
  generalize hAe : va_A [(h0, .inr (12, fy)), (hst, .inr (13, []))] s.heap.size = A at hD ⊢
  have hA : ∀ q : Nat, s.heap.size ≤ q → A q := fun q h => by rw [← hAe]; exact Or.inr h
  have hS : va_S A s.heap s.heap [] := va_S.rf
  have hl := lv_entry ([.ref h0, .ref ht, .int 0]) (n := 7) (Nat.le_of_ble_eq_true rfl)
  rw [lg_entry_eq]
  generalize (lg_sl ([.ref h0, .ref ht, .int 0]) ++ List.replicate (7 - (lg_sl ([.ref h0, .ref ht, .int 0])).length) Slot.unset).toArray = ls at hl ⊢
  have hl : lv_has ls 7 [(0, .ref h0), (1, .ref ht), (2, .int 0)] := hl
  refine lv_aload_n hx hb dX14_readFile_0 rfl (lv_at hl 0 rfl) ?_
  refine lv_aload_n hx hb dX14_readFile_1 rfl (lv_at hl 1 rfl) ?_
  refine va_put (D := (dC, dI)) (ci := 12) (v := .ref ht) (ty := (.array .byte)) (C := RX14) (T := TX14) (N := 143) hx hb hts inX14 tyX14 tyX14_ok nmX14 hown hK hP hD hS 0 rfl rfl 11 (by decide) (hts _ kw_412) (fun _ h9 => h9) rfl (by decide +kernel) rfl rfl (by rw [L_fy]; decide) dX14_readFile_2 (fun H locs hP hD hS => ?_)
  obtain ⟨fy_1, e_fy_1⟩ : ∃ z, z = fy.set 11 (.ref ht) := ⟨_, rfl⟩
  have hP : va_P (dC, dI) cl0 [(h0, .inr (12, fy_1)), (hst, .inr (13, []))] H := by rw [e_fy_1]; exact hP
  have hD : va_D A [(h0, .inr (12, fy_1)), (hst, .inr (13, []))] := by rw [e_fy_1]; exact hD
  have L_fy_1 : fy_1.length = 143 := fx_len e_fy_1 L_fy
  have g_fy_1_6 := fx_ne (j := 6) e_fy_1 g_fy_6 (by decide)
  have g_fy_1_11 := fx_self e_fy_1 (by rw [L_fy]; decide)
  refine lv_aload_n hx hb dX14_readFile_5 rfl (lv_at hl 0 rfl) ?_
  refine lv_iload_n hx hb dX14_readFile_6 rfl (lv_at hl 2 rfl) ?_
  refine va_put (D := (dC, dI)) (ci := 12) (v := .int 0) (ty := .int) (C := RX14) (T := TX14) (N := 143) hx hb hts inX14 tyX14 tyX14_ok nmX14 hown hK hP hD hS 0 rfl rfl 12 (by decide) (hts _ kw_407) (fun _ h9 => h9) rfl (by decide +kernel) rfl rfl (by rw [L_fy_1]; decide) dX14_readFile_7 (fun H locs hP hD hS => ?_)
  obtain ⟨fy_2, e_fy_2⟩ : ∃ z, z = fy_1.set 12 (.int 0) := ⟨_, rfl⟩
  have hP : va_P (dC, dI) cl0 [(h0, .inr (12, fy_2)), (hst, .inr (13, []))] H := by rw [e_fy_2]; exact hP
  have hD : va_D A [(h0, .inr (12, fy_2)), (hst, .inr (13, []))] := by rw [e_fy_2]; exact hD
  have L_fy_2 : fy_2.length = 143 := fx_len e_fy_2 L_fy_1
  have g_fy_2_6 := fx_ne (j := 6) e_fy_2 g_fy_1_6 (by decide)
  have g_fy_2_11 := fx_ne (j := 11) e_fy_2 g_fy_1_11 (by decide)
  have g_fy_2_12 := fx_self e_fy_2 (by rw [L_fy_1]; decide)
  refine lv_aload_n hx hb dX14_readFile_10 rfl (lv_at hl 0 rfl) ?_
  have hPc := hP.sub (ws' := [(h0, .inr (12, fy_2)), (hst, .inr (13, []))]) [0, 1] rfl
  have hDc := hD.sub (ws' := [(h0, .inr (12, fy_2)), (hst, .inr (13, []))]) [0, 1] (by decide) rfl
  have hKc := hK.sub (tys' := []) [] rfl
  have hFc := va_free (wc := [(h0, .inr (12, fy_2)), (hst, .inr (13, []))]) hD hS hA [0, 1] rfl
  refine sx_callX (vx_runV (As := []) (rest := []) ⟨hx, hb, hml, hown, hts⟩ (m_X14_layout l dC dI H.size h0 fy_2 hst L_fy_2 g_fy_2_6 g_fy_2_12) (cwV 0 hts (gd_V kw_413 kw_414 kw_415 kw_374 kw_416) rfl rfl rfl (by decide +kernel) ⟨Nat.le_of_ble_eq_true rfl, Nat.le_of_ble_eq_true rfl⟩) ⟨st_blind, va_recv hKc hPc (ci := 12) (q0 := 0) rfl rfl, fun U hU hW9 => st_mk hU hW9 hPc hKc hDc hex⟩ rfl rfl hl.1 rfl (lv_room (Nat.le_of_ble_eq_true rfl)) dX14_readFile_11 ⟨Nat.le_of_ble_eq_true rfl, Nat.le_of_ble_eq_true rfl⟩) (fun _ _ _ h9 => h9) hS hFc (fun q _ h => hFc q h) (fun E9 ce9 q9 u9 t9 H1 locs ht9 hvm9 hp9 hB9 hz9 hk9 hS hce9 hcv9 hcl9 => ?_)
  obtain ⟨rfl, fy1_3, L_fy1_3, g_fy1_3_6, g_fy1_3_7, g_fy1_3_8, hP1, hD1⟩ := hB9
  rw [ht9] at hP1
  obtain ⟨hP, hD⟩ := va_join (wr := []) (w1 := [(h0, .inr (12, fy1_3)), (hst, .inr (13, []))]) hP hD [0, 1] [] rfl rfl (by decide) (by decide) hk9 hFc hP1 hD1
  generalize H1 = H at hP hS hce9 ⊢
  have hP : va_P (dC, dI) cl0 [(h0, .inr (12, fy1_3)), (hst, .inr (13, []))] H := hP
  have hD : va_D A [(h0, .inr (12, fy1_3)), (hst, .inr (13, []))] := hD
  have hP9 := hP.sub (ws' := [(h0, .inr (12, fy1_3)), (hst, .inr (13, []))]) [0, 1] rfl
  have hD9 := hD.sub (ws' := [(h0, .inr (12, fy1_3)), (hst, .inr (13, []))]) [0, 1] (by decide) rfl
  exact vx_out (E := RJxb5711) (q := q9) (fun x h9 => (hnt x h9).elim) hlocks hce9 hcv9 hcl9 (fun t9 ht9 ha9 => ⟨(), trivial, ⟨rfl, fy1_3, L_fy1_3, g_fy1_3_6, g_fy1_3_7, g_fy1_3_8, by rw [ht9]; exact hP9, hD9⟩, hS.F ht9⟩) hS.2.2 (Nat.le_of_ble_eq_true rfl) (Nat.le_of_ble_eq_true rfl)
set_option maxHeartbeats 4000000 in
set_option maxRecDepth 100000 in
theorem m_X14_file (l : Launch) (dC : Nat → ClassId) (dI : Nat → Nat → Nat) (sz : Nat) (h0 : Nat) (fy : List Value) (hst : Nat) (ht : Nat) (L_fy : fy.length = 143) (g_fy_1 : fy[1]? = some (.int 0)) (g_fy_3 : fy[3]? = some (.ref ht)) (g_fy_4 : fy[4]? = some (.int 0)) (g_fy_6 : fy[6]? = some (.ref hst)) : vx_Met l yX14_file (wtw yX14_file cX14_file 3 (some .int) [(32, 45, 46, 19)]) ({ frames := 4, cells := 0, slots := 0, locals := 92 }) (va_Pc [.ref h0] (st_U dC dI sz [(h0, .inr (12, fy)), (hst, .inr (13, []))] [])) (va_Qi (fun (r : Int32) (_ : Unit) => r = (-1)) (fun (_ : Unit) (_ : State) => True) (va_A [(h0, .inr (12, fy)), (hst, .inr (13, []))] sz)) (vx_X (fun _ : Unit => False) (fun _ _ _ => True) (va_A [(h0, .inr (12, fy)), (hst, .inr (13, []))] sz)) 0 0 (va_A [(h0, .inr (12, fy)), (hst, .inr (13, []))] sz) := by
  refine vx_ofWH (cc := cX14_file) (maxL := 3) (ret := (some .int)) (hh := [(32, 45, 46, 19)]) (by decide) rfl ?_
  intro p e s m args below meth c s₁ B hml hv
  obtain ⟨rfl, hsz, hP, hK, hD0, hex⟩ := hv
  have hx := B.exec
  have hb := B.bytes
  have hr := B.returns
  have hts0 := atoms_spec (ws := wtw yX14_file cX14_file 3 (some .int) [(32, 45, 46, 19)]) B.pre
  have hts : ∀ w ∈ tb, w.before _ s = true := fun w h => hts0 w (List.mem_cons_of_mem _ h)
  have hown : s.vm.findClass RX14 = some m.cls := findClass_of_methodNamed B.named
  have hlocks := B.notSynchronized
  subst hsz
  have hD := hD0.self (sz := s.heap.size)
  generalize hAe : va_A [(h0, .inr (12, fy)), (hst, .inr (13, []))] s.heap.size = A at hD ⊢
  have hA : ∀ q : Nat, s.heap.size ≤ q → A q := fun q h => by rw [← hAe]; exact Or.inr h
  have hS : va_S A s.heap s.heap [] := va_S.rf
  have hl := lv_entry ([.ref h0]) (n := 3) (Nat.le_of_ble_eq_true rfl)
  rw [lg_entry_eq]
  generalize (lg_sl ([.ref h0]) ++ List.replicate (3 - (lg_sl ([.ref h0])).length) Slot.unset).toArray = ls at hl ⊢
  have hl : lv_has ls 3 [(0, .ref h0)] := hl
  refine lv_aload_n hx hb dX14_file_0 rfl (lv_at hl 0 rfl) ?_
  refine va_get (D := (dC, dI)) (ci := 12) (v := .int 0) (C := RX14) (T := TX14) (N := 143) hx hb hts inX14 hown hK hP 0 rfl rfl 1 (by decide) (hts _ kw_380) (fun _ h9 => h9) g_fy_1 dX14_file_1 ?_
  refine lv_bipush (v := 12) hx hb dX14_file_4 (by decide) ?_
  refine lv_icmp_ne (tgt := 12) hx hb dX14_file_6 (by decide) (fun _ => ?_) (fun c9 => absurd c9 (by decide))
  refine lv_aload_n hx hb dX14_file_12 rfl (lv_at hl 0 rfl) ?_
  refine va_get (D := (dC, dI)) (ci := 12) (v := .int 0) (C := RX14) (T := TX14) (N := 143) hx hb hts inX14 hown hK hP 0 rfl rfl 4 (by decide) (hts _ kw_368) (fun _ h9 => h9) g_fy_4 dX14_file_13 ?_
  refine lv_istore_n (lv' := [(1, .int 0), (0, .ref h0)]) hx hb dX14_file_16 rfl hl (by decide) rfl (fun ls hl => ?_)
  refine lv_aload_n hx hb dX14_file_17 rfl (lv_at hl 1 rfl) ?_
  refine lv_iconst (v := 0) hx hb dX14_file_18 (by decide) ?_
  refine va_put (D := (dC, dI)) (ci := 12) (v := .int 0) (ty := .int) (C := RX14) (T := TX14) (N := 143) hx hb hts inX14 tyX14 tyX14_ok nmX14 hown hK hP hD hS 0 rfl rfl 4 (by decide) (hts _ kw_368) (fun _ h9 => h9) rfl (by decide +kernel) rfl rfl (by rw [L_fy]; decide) dX14_file_19 (fun H locs hP hD hS => ?_)
  obtain ⟨fy_1, e_fy_1⟩ : ∃ z, z = fy.set 4 (.int 0) := ⟨_, rfl⟩
  have hP : va_P (dC, dI) cl0 [(h0, .inr (12, fy_1)), (hst, .inr (13, []))] H := by rw [e_fy_1]; exact hP
  have hD : va_D A [(h0, .inr (12, fy_1)), (hst, .inr (13, []))] := by rw [e_fy_1]; exact hD
  have L_fy_1 : fy_1.length = 143 := fx_len e_fy_1 L_fy
  have g_fy_1_6 := fx_ne (j := 6) e_fy_1 g_fy_6 (by decide)
  have g_fy_1_1 := fx_ne (j := 1) e_fy_1 g_fy_1 (by decide)
  have g_fy_1_3 := fx_ne (j := 3) e_fy_1 g_fy_3 (by decide)
  have g_fy_1_4 := fx_self e_fy_1 (by rw [L_fy]; decide)
  refine lv_aload_n hx hb dX14_file_22 rfl (lv_at hl 1 rfl) ?_
  refine lv_iconst (v := 0) hx hb dX14_file_23 (by decide) ?_
  refine va_put (D := (dC, dI)) (ci := 12) (v := .int 0) (ty := .int) (C := RX14) (T := TX14) (N := 143) hx hb hts inX14 tyX14 tyX14_ok nmX14 hown hK hP hD hS 0 rfl rfl 9 (by decide) (hts _ kw_376) (fun _ h9 => h9) rfl (by decide +kernel) rfl rfl (by rw [L_fy_1]; decide) dX14_file_24 (fun H locs hP hD hS => ?_)
  obtain ⟨fy_2, e_fy_2⟩ : ∃ z, z = fy_1.set 9 (.int 0) := ⟨_, rfl⟩
  have hP : va_P (dC, dI) cl0 [(h0, .inr (12, fy_2)), (hst, .inr (13, []))] H := by rw [e_fy_2]; exact hP
  have hD : va_D A [(h0, .inr (12, fy_2)), (hst, .inr (13, []))] := by rw [e_fy_2]; exact hD
  have L_fy_2 : fy_2.length = 143 := fx_len e_fy_2 L_fy_1
  have g_fy_2_6 := fx_ne (j := 6) e_fy_2 g_fy_1_6 (by decide)
  have g_fy_2_1 := fx_ne (j := 1) e_fy_2 g_fy_1_1 (by decide)
  have g_fy_2_3 := fx_ne (j := 3) e_fy_2 g_fy_1_3 (by decide)
  have g_fy_2_4 := fx_ne (j := 4) e_fy_2 g_fy_1_4 (by decide)
  have g_fy_2_9 := fx_self e_fy_2 (by rw [L_fy_1]; decide)
  refine lv_aload_n hx hb dX14_file_27 rfl (lv_at hl 1 rfl) ?_
  refine lv_iconst (v := (-1)) hx hb dX14_file_28 (by decide) ?_
  refine va_put (D := (dC, dI)) (ci := 12) (v := .int (-1)) (ty := .int) (C := RX14) (T := TX14) (N := 143) hx hb hts inX14 tyX14 tyX14_ok nmX14 hown hK hP hD hS 0 rfl rfl 10 (by decide) (hts _ kw_274) (fun _ h9 => h9) rfl (by decide +kernel) rfl rfl (by rw [L_fy_2]; decide) dX14_file_29 (fun H locs hP hD hS => ?_)
  obtain ⟨fy_3, e_fy_3⟩ : ∃ z, z = fy_2.set 10 (.int (-1)) := ⟨_, rfl⟩
  have hP : va_P (dC, dI) cl0 [(h0, .inr (12, fy_3)), (hst, .inr (13, []))] H := by rw [e_fy_3]; exact hP
  have hD : va_D A [(h0, .inr (12, fy_3)), (hst, .inr (13, []))] := by rw [e_fy_3]; exact hD
  have L_fy_3 : fy_3.length = 143 := fx_len e_fy_3 L_fy_2
  have g_fy_3_6 := fx_ne (j := 6) e_fy_3 g_fy_2_6 (by decide)
  have g_fy_3_1 := fx_ne (j := 1) e_fy_3 g_fy_2_1 (by decide)
  have g_fy_3_3 := fx_ne (j := 3) e_fy_3 g_fy_2_3 (by decide)
  have g_fy_3_4 := fx_ne (j := 4) e_fy_3 g_fy_2_4 (by decide)
  have g_fy_3_9 := fx_ne (j := 9) e_fy_3 g_fy_2_9 (by decide)
  have g_fy_3_10 := fx_self e_fy_3 (by rw [L_fy_2]; decide)
  refine lv_aload_n hx hb dX14_file_32 rfl (lv_at hl 1 rfl) ?_
  refine lv_aload_n hx hb dX14_file_33 rfl (lv_at hl 1 rfl) ?_
  refine lv_aload_n hx hb dX14_file_34 rfl (lv_at hl 1 rfl) ?_
  refine va_get (D := (dC, dI)) (ci := 12) (v := .ref ht) (C := RX14) (T := TX14) (N := 143) hx hb hts inX14 hown hK hP 0 rfl rfl 3 (by decide) (hts _ kw_270) (fun _ h9 => h9) g_fy_3_3 dX14_file_35 ?_
  refine lv_iload_n hx hb dX14_file_38 rfl (lv_at hl 0 rfl) ?_
  have hPc := hP.sub (ws' := [(h0, .inr (12, fy_3)), (hst, .inr (13, []))]) [0, 1] rfl
  have hDc := hD.sub (ws' := [(h0, .inr (12, fy_3)), (hst, .inr (13, []))]) [0, 1] (by decide) rfl
  have hKc := hK.sub (tys' := []) [] rfl
  have hFc := va_free (wc := [(h0, .inr (12, fy_3)), (hst, .inr (13, []))]) hD hS hA [0, 1] rfl
  refine sx_callX (vx_runV (As := [.ref ht, .int 0]) (rest := [.ref h0]) ⟨hx, hb, hml, hown, hts⟩ (m_X14_readFile l dC dI H.size h0 fy_3 hst ht L_fy_3 g_fy_3_6) (cwV 2 hts (gd_V kw_417 kw_418 kw_419 kw_374 kw_420) rfl rfl rfl (by decide +kernel) ⟨Nat.le_of_ble_eq_true rfl, Nat.le_of_ble_eq_true rfl⟩) ⟨st_blind, va_recv hKc hPc (ci := 12) (q0 := 0) rfl rfl, fun U hU hW9 => st_mk hU hW9 hPc hKc hDc hex⟩ rfl rfl hl.1 rfl (lv_room (Nat.le_of_ble_eq_true rfl)) dX14_file_39 ⟨Nat.le_of_ble_eq_true rfl, Nat.le_of_ble_eq_true rfl⟩) (fun _ _ _ h9 => h9) hS hFc (fun q _ h => hFc q h) (fun E9 ce9 q9 u9 t9 H1 locs ht9 hvm9 hp9 hB9 hz9 hk9 hS hce9 hcv9 hcl9 => ?_)
  obtain ⟨rfl, fy1_4, L_fy1_4, g_fy1_4_6, g_fy1_4_7, g_fy1_4_8, hP1, hD1⟩ := hB9
  rw [ht9] at hP1
  obtain ⟨hP, hD⟩ := va_join (wr := []) (w1 := [(h0, .inr (12, fy1_4)), (hst, .inr (13, []))]) hP hD [0, 1] [] rfl rfl (by decide) (by decide) hk9 hFc hP1 hD1
  generalize H1 = H at hP hS hce9 ⊢
  have hP : va_P (dC, dI) cl0 [(h0, .inr (12, fy1_4)), (hst, .inr (13, []))] H := hP
  have hD : va_D A [(h0, .inr (12, fy1_4)), (hst, .inr (13, []))] := hD
  refine vx_catch (own := RX14) (name := RJxb5711) (E := RJxb5711) hown [] ⟨32, 45, 46, 19⟩ [] (by rw [vx_table (x := yX14_file) B (hts0 _ List.mem_cons_self)]; rfl) (fun z h9 => absurd h9 List.not_mem_nil) (by decide) (by decide) (hts _ kw_271) (va_Nw.use rfl (nw_of nn_cast hex)) hce9 hcv9 hcl9 ?_
  refine W.eq (g2 := F0 m 46 ls [.ref q9]) rfl ?_
  refine lv_astore_n (lv' := [(2, .ref q9), (1, .int 0), (0, .ref h0)]) hx hb dX14_file_46 rfl hl (by decide) rfl (fun ls hl => ?_)
  refine lv_aload_n hx hb dX14_file_47 rfl (lv_at hl 2 rfl) ?_
  refine lv_aload_n hx hb dX14_file_48 rfl (lv_at hl 2 rfl) ?_
  refine va_get (D := (dC, dI)) (ci := 12) (v := .int 2) (C := RX14) (T := TX14) (N := 143) hx hb hts inX14 hown hK hP 0 rfl rfl 7 (by decide) (hts _ kw_401) (fun _ h9 => h9) g_fy1_4_7 dX14_file_49 ?_
  refine va_put (D := (dC, dI)) (ci := 12) (v := .int 2) (ty := .int) (C := RX14) (T := TX14) (N := 143) hx hb hts inX14 tyX14 tyX14_ok nmX14 hown hK hP hD hS 0 rfl rfl 9 (by decide) (hts _ kw_376) (fun _ h9 => h9) rfl (by decide +kernel) rfl rfl (by rw [L_fy1_4]; decide) dX14_file_52 (fun H locs hP hD hS => ?_)
  obtain ⟨fy1_5, e_fy1_5⟩ : ∃ z, z = fy1_4.set 9 (.int 2) := ⟨_, rfl⟩
  have hP : va_P (dC, dI) cl0 [(h0, .inr (12, fy1_5)), (hst, .inr (13, []))] H := by rw [e_fy1_5]; exact hP
  have hD : va_D A [(h0, .inr (12, fy1_5)), (hst, .inr (13, []))] := by rw [e_fy1_5]; exact hD
  have L_fy1_5 : fy1_5.length = 143 := fx_len e_fy1_5 L_fy1_4
  have g_fy1_5_6 := fx_ne (j := 6) e_fy1_5 g_fy1_4_6 (by decide)
  have g_fy1_5_7 := fx_ne (j := 7) e_fy1_5 g_fy1_4_7 (by decide)
  have g_fy1_5_8 := fx_ne (j := 8) e_fy1_5 g_fy1_4_8 (by decide)
  have g_fy1_5_9 := fx_self e_fy1_5 (by rw [L_fy1_4]; decide)
  refine lv_aload_n hx hb dX14_file_55 rfl (lv_at hl 2 rfl) ?_
  refine lv_aload_n hx hb dX14_file_56 rfl (lv_at hl 2 rfl) ?_
  refine va_get (D := (dC, dI)) (ci := 12) (v := .int 0) (C := RX14) (T := TX14) (N := 143) hx hb hts inX14 hown hK hP 0 rfl rfl 8 (by decide) (hts _ kw_402) (fun _ h9 => h9) g_fy1_5_8 dX14_file_57 ?_
  refine va_put (D := (dC, dI)) (ci := 12) (v := .int 0) (ty := .int) (C := RX14) (T := TX14) (N := 143) hx hb hts inX14 tyX14 tyX14_ok nmX14 hown hK hP hD hS 0 rfl rfl 10 (by decide) (hts _ kw_274) (fun _ h9 => h9) rfl (by decide +kernel) rfl rfl (by rw [L_fy1_5]; decide) dX14_file_60 (fun H locs hP hD hS => ?_)
  obtain ⟨fy1_6, e_fy1_6⟩ : ∃ z, z = fy1_5.set 10 (.int 0) := ⟨_, rfl⟩
  have hP : va_P (dC, dI) cl0 [(h0, .inr (12, fy1_6)), (hst, .inr (13, []))] H := by rw [e_fy1_6]; exact hP
  have hD : va_D A [(h0, .inr (12, fy1_6)), (hst, .inr (13, []))] := by rw [e_fy1_6]; exact hD
  have L_fy1_6 : fy1_6.length = 143 := fx_len e_fy1_6 L_fy1_5
  have g_fy1_6_6 := fx_ne (j := 6) e_fy1_6 g_fy1_5_6 (by decide)
  have g_fy1_6_7 := fx_ne (j := 7) e_fy1_6 g_fy1_5_7 (by decide)
  have g_fy1_6_8 := fx_ne (j := 8) e_fy1_6 g_fy1_5_8 (by decide)
  have g_fy1_6_9 := fx_ne (j := 9) e_fy1_6 g_fy1_5_9 (by decide)
  have g_fy1_6_10 := fx_self e_fy1_6 (by rw [L_fy1_5]; decide)
  refine lv_iconst (v := (-1)) hx hb dX14_file_63 (by decide) ?_
  refine W.widen (k := 0) (n := 0) (Nat.le_of_ble_eq_true rfl) (Nat.le_of_ble_eq_true rfl) ?_
  exact vx_ret (W.iret (v := (-1)) hx hb hr (fun t9 ht9 hW9 => ⟨⟨_, (), rfl, rfl, trivial⟩, hS.F ht9⟩) hS.2.2 dX14_file_64)
