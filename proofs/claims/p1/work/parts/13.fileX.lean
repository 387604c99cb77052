set_option maxHeartbeats 4000000 in
set_option maxRecDepth 100000 in
theorem m_X7_breaks (l : Launch) (dC : Nat → ClassId) (dI : Nat → Nat → Nat) (sz : Nat) (h0 : Nat) (fr : List Value) (r0 : Int32) (p0 : Int32) (L_fr : fr.length = 17) : Met l yX7_breaks (wt yX7_breaks cX7_breaks 3 (some .boolean)) ({ frames := 0, cells := 0, slots := 0, locals := 0 }) (va_Pc [.ref h0, .int r0, .int p0] (st_U dC dI sz [(h0, .inr (6, fr))] [])) (va_Qi (fun (r : Int32) (_ : Unit) => r = 0) (fun (_ : Unit) (t : State) => ∃ (fr1 : List Value), (fr1.length = 17) ∧ (fr1[2]? = some (.int r0)) ∧ (fr1[3]? = some (.int p0)) ∧ va_P (dC, dI) cl0 [(h0, .inr (6, fr1))] t.heap ∧ va_K (dC, dI) cl0 [] t ∧ va_D (va_A [(h0, .inr (6, fr))] sz) [(h0, .inr (6, fr1))]) (va_A [(h0, .inr (6, fr))] sz)) 0 0 (va_A [(h0, .inr (6, fr))] sz) := by
  refine Met.ofW (cc := cX7_breaks) (maxL := 3) (ret := (some .boolean)) (by decide) rfl ?_
  intro p e s m args below meth c s₁ B hml hv
  obtain ⟨rfl, hsz, hP, hK, hD0, hex⟩ := hv
  have hx := B.exec
  have hb := B.bytes
  have hr := B.returns
  have hts0 := atoms_spec (ws := wt yX7_breaks cX7_breaks 3 (some .boolean)) B.pre
  have hts : ∀ w ∈ tb, w.before _ s = true := fun w h => hts0 w (List.mem_cons_of_mem _ h)
  have hown : s.vm.findClass RX7 = some m.cls := findClass_of_methodNamed B.named
  have hlocks := B.notSynchronized
  subst hsz
  have hD := hD0.self (sz := s.heap.size)
  generalize hAe : va_A [(h0, .inr (6, fr))] s.heap.size = A at hD ⊢
  have hA : ∀ q : Nat, s.heap.size ≤ q → A q := fun q h => by rw [← hAe]; exact Or.inr h
  have hS : va_S A s.heap s.heap [] := va_S.rf
  have hl := lv_entry ([.ref h0, .int r0, .int p0]) (n := 3) (Nat.le_of_ble_eq_true rfl)
  rw [lg_entry_eq]
  generalize (lg_sl ([.ref h0, .int r0, .int p0]) ++ List.replicate (3 - (lg_sl ([.ref h0, .int r0, .int p0])).length) Slot.unset).toArray = ls at hl ⊢
  have hl : lv_has ls 3 [(0, .ref h0), (1, .int r0), (2, .int p0)] := hl
  refine lv_aload_n hx hb dX7_breaks_0 rfl (lv_at hl 0 rfl) ?_
  refine lv_iload_n hx hb dX7_breaks_1 rfl (lv_at hl 1 rfl) ?_
  refine va_put (D := (dC, dI)) (ci := 6) (v := .int r0) (ty := .int) (C := RX7) (T := TX7) (N := 17) hx hb hts inX7 tyX7 tyX7_ok nmX7 hown hK hP hD hS 0 rfl rfl 2 (by decide) (hts _ kw_224) (fun _ h9 => h9) rfl (by decide +kernel) rfl rfl (by rw [L_fr]; decide) dX7_breaks_2 (fun H locs hP hD hS => ?_)
  obtain ⟨fr_1, e_fr_1⟩ : ∃ z, z = fr.set 2 (.int r0) := ⟨_, rfl⟩
  have hP : va_P (dC, dI) cl0 [(h0, .inr (6, fr_1))] H := by rw [e_fr_1]; exact hP
  have hD : va_D A [(h0, .inr (6, fr_1))] := by rw [e_fr_1]; exact hD
  have L_fr_1 : fr_1.length = 17 := fx_len e_fr_1 L_fr
  have g_fr_1_2 := fx_self e_fr_1 (by rw [L_fr]; decide)
  refine lv_aload_n hx hb dX7_breaks_5 rfl (lv_at hl 0 rfl) ?_
  refine lv_iload_n hx hb dX7_breaks_6 rfl (lv_at hl 2 rfl) ?_
  refine va_put (D := (dC, dI)) (ci := 6) (v := .int p0) (ty := .int) (C := RX7) (T := TX7) (N := 17) hx hb hts inX7 tyX7 tyX7_ok nmX7 hown hK hP hD hS 0 rfl rfl 3 (by decide) (hts _ kw_33) (fun _ h9 => h9) rfl (by decide +kernel) rfl rfl (by rw [L_fr_1]; decide) dX7_breaks_7 (fun H locs hP hD hS => ?_)
  obtain ⟨fr_2, e_fr_2⟩ : ∃ z, z = fr_1.set 3 (.int p0) := ⟨_, rfl⟩
  have hP : va_P (dC, dI) cl0 [(h0, .inr (6, fr_2))] H := by rw [e_fr_2]; exact hP
  have hD : va_D A [(h0, .inr (6, fr_2))] := by rw [e_fr_2]; exact hD
  have L_fr_2 : fr_2.length = 17 := fx_len e_fr_2 L_fr_1
  have g_fr_2_2 := fx_ne (j := 2) e_fr_2 g_fr_1_2 (by decide)
  have g_fr_2_3 := fx_self e_fr_2 (by rw [L_fr_1]; decide)
  refine lv_iconst (v := 0) hx hb dX7_breaks_10 (by decide) ?_
  refine W.widen (k := 0) (n := 0) (Nat.le_of_ble_eq_true rfl) (Nat.le_of_ble_eq_true rfl) ?_
  have hP9 := hP.sub (ws' := [(h0, .inr (6, fr_2))]) [0] rfl
  have hD9 := hD.sub (ws' := [(h0, .inr (6, fr_2))]) [0] (by decide) rfl
  have hK9 := hK.sub (tys' := []) [] rfl
  exact W.zret (v := 0) hx hb hr rfl (fun t9 ht9 hW9 => ⟨⟨_, (), rfl, rfl, fr_2, L_fr_2, g_fr_2_2, g_fr_2_3, by rw [ht9]; exact hP9, va_K.moved hW9.alike hK9, hD9⟩, hS.F ht9⟩) hS.2.2 dX7_breaks_11
set_option maxHeartbeats 4000000 in
set_option maxRecDepth 100000 in
theorem m_X7_magicHolds (l : Launch) (dC : Nat → ClassId) (dI : Nat → Nat → Nat) (sz : Nat) (h0 : Nat) (fr : List Value) (L_fr : fr.length = 17) (g_fr_1 : fr[1]? = some (.int 0)) : Met l yX7_magicHolds (wt yX7_magicHolds cX7_magicHolds 2 (some .boolean)) ({ frames := 1, cells := 0, slots := 0, locals := 22 }) (va_Pc [.ref h0] (st_E mg dC dI sz [(h0, .inr (6, fr))] [])) (va_Qi (fun (r : Int32) (_ : Unit) => r = 0) (fun (_ : Unit) (t : State) => ∃ (fr1 : List Value), (fr1.length = 17) ∧ (fr1[2]? = some (.int 2)) ∧ (fr1[3]? = some (.int 0)) ∧ va_P (dC, dI) cl0 [(h0, .inr (6, fr1))] t.heap ∧ va_K (dC, dI) cl0 [] t ∧ va_D (va_A [(h0, .inr (6, fr))] sz) [(h0, .inr (6, fr1))]) (va_A [(h0, .inr (6, fr))] sz)) 0 0 (va_A [(h0, .inr (6, fr))] sz) := by
  refine Met.ofW (cc := cX7_magicHolds) (maxL := 2) (ret := (some .boolean)) (by decide) rfl ?_
  intro p e s m args below meth c s₁ B hml hv
  obtain ⟨rfl, ⟨hsz, hP, hK, hD0, hex⟩, hE⟩ := hv
  have hx := B.exec
  have hb := B.bytes
  have hr := B.returns
  have hts0 := atoms_spec (ws := wt yX7_magicHolds cX7_magicHolds 2 (some .boolean)) B.pre
  have hts : ∀ w ∈ tb, w.before _ s = true := fun w h => hts0 w (List.mem_cons_of_mem _ h)
  have hown : s.vm.findClass RX7 = some m.cls := findClass_of_methodNamed B.named
  have hlocks := B.notSynchronized
  subst hsz
  have hD := hD0.self (sz := s.heap.size)
  generalize hAe : va_A [(h0, .inr (6, fr))] s.heap.size = A at hD hE ⊢
  obtain ⟨tM, hZM, hTM⟩ := id hE
  have hA : ∀ q : Nat, s.heap.size ≤ q → A q := fun q h => by rw [← hAe]; exact Or.inr h
  have hS : va_S A s.heap s.heap [] := va_S.rf
  have hl := lv_entry ([.ref h0]) (n := 2) (Nat.le_of_ble_eq_true rfl)
  rw [lg_entry_eq]
  generalize (lg_sl ([.ref h0]) ++ List.replicate (2 - (lg_sl ([.ref h0])).length) Slot.unset).toArray = ls at hl ⊢
  have hl : lv_has ls 2 [(0, .ref h0)] := hl
  refine lv_iconst (v := 0) hx hb dX7_magicHolds_0 (by decide) ?_
  refine lv_istore_n (lv' := [(1, .int 0), (0, .ref h0)]) hx hb dX7_magicHolds_1 rfl hl (by decide) rfl (fun ls hl => ?_)
  refine lv_iload_n hx hb dX7_magicHolds_2 rfl (lv_at hl 0 rfl) ?_
  refine va_getsN (C := "CodeFoundry") (n := "MAGIC") (d := "[I") hx hb hZM hS hown (va_Nw.use rfl (nw_of nn_X7_97 hex)) (fun _ h9 => h9) dX7_magicHolds_3 ?_
  refine va_tlen (v := 8) hx hb hTM hS rfl dX7_magicHolds_6 ?_
  refine lv_icmp_ge (tgt := 54) hx hb dX7_magicHolds_7 (by decide) (fun c9 => absurd c9 (by decide)) (fun _ => ?_)
  refine lv_iload_n hx hb dX7_magicHolds_10 rfl (lv_at hl 0 rfl) ?_
  refine lv_aload_n hx hb dX7_magicHolds_11 rfl (lv_at hl 1 rfl) ?_
  refine va_get (D := (dC, dI)) (ci := 6) (v := .int 0) (C := RX7) (T := TX7) (N := 17) hx hb hts inX7 hown hK hP 0 rfl rfl 1 (by decide) (hts _ kw_225) (fun _ h9 => h9) g_fr_1 dX7_magicHolds_12 ?_
  refine lv_icmp_lt (tgt := 28) hx hb dX7_magicHolds_15 (by decide) (fun c9 => absurd c9 (by decide)) (fun _ => ?_)
  refine lv_aload_n hx hb dX7_magicHolds_18 rfl (lv_at hl 1 rfl) ?_
  refine lv_iconst (v := 2) hx hb dX7_magicHolds_19 (by decide) ?_
  refine lv_aload_n hx hb dX7_magicHolds_20 rfl (lv_at hl 1 rfl) ?_
  refine va_get (D := (dC, dI)) (ci := 6) (v := .int 0) (C := RX7) (T := TX7) (N := 17) hx hb hts inX7 hown hK hP 0 rfl rfl 1 (by decide) (hts _ kw_225) (fun _ h9 => h9) g_fr_1 dX7_magicHolds_21 ?_
  have hPc := hP.sub (ws' := [(h0, .inr (6, fr))]) [0] rfl
  have hDc := hD.sub (ws' := [(h0, .inr (6, fr))]) [0] (by decide) rfl
  have hKc := hK.sub (tys' := []) [] rfl
  have hFc := va_free (wc := [(h0, .inr (6, fr))]) hD hS hA [0] rfl
  refine va_calli (va_runV (As := [.int 2, .int 0]) (rest := []) ⟨hx, hb, hml, hown, hts⟩ (m_X7_breaks l dC dI s.heap.size h0 fr 2 0 L_fr) (cwV 2 hts (gd_V kw_226 kw_227 kw_228 kw_41 kw_229) rfl rfl rfl (by decide +kernel) ⟨Nat.le_of_ble_eq_true rfl, Nat.le_of_ble_eq_true rfl⟩) ⟨st_blind, va_recv hKc hPc (ci := 6) (q0 := 0) rfl rfl, fun U hU hW9 => st_mk hU hW9 hPc hKc hDc hex⟩ rfl rfl hl.1 rfl (lv_room (Nat.le_of_ble_eq_true rfl)) dX7_magicHolds_24 ⟨Nat.le_of_ble_eq_true rfl, Nat.le_of_ble_eq_true rfl⟩) hS (fun q _ h => hFc q h) hFc (fun r_1 u9 t9 H1 locs ht9 hvm9 hw9 hB9 hz9 hk9 hS => ?_)
  obtain ⟨fr1_2, L_fr1_2, g_fr1_2_2, g_fr1_2_3, hP1, hK1, hD1⟩ := hB9
  rw [ht9] at hP1
  have hK1 := va_K.moved hvm9.symm hK1
  obtain ⟨hP, hD⟩ := va_join (wr := []) (w1 := [(h0, .inr (6, fr1_2))]) hP hD [0] [] rfl rfl (by decide) (by decide) hk9 hFc hP1 hD1
  have hK := (hK.sub (tys' := []) [] rfl).app hK1
  generalize H1 = H at hP hS ⊢
  have hP : va_P (dC, dI) cl0 [(h0, .inr (6, fr1_2))] H := hP
  have hD : va_D A [(h0, .inr (6, fr1_2))] := hD
  have hK : va_K (dC, dI) cl0 [] s := hK
  have hw9 : r_1 = 0 := hw9
  subst hw9
  refine W.widen (k := 0) (n := 0) (Nat.le_of_ble_eq_true rfl) (Nat.le_of_ble_eq_true rfl) ?_
  have hP9 := hP.sub (ws' := [(h0, .inr (6, fr1_2))]) [0] rfl
  have hD9 := hD.sub (ws' := [(h0, .inr (6, fr1_2))]) [0] (by decide) rfl
  have hK9 := hK.sub (tys' := []) [] rfl
  exact W.zret (v := 0) hx hb hr rfl (fun t9 ht9 hW9 => ⟨⟨_, (), rfl, rfl, fr1_2, L_fr1_2, g_fr1_2_2, g_fr1_2_3, by rw [ht9]; exact hP9, va_K.moved hW9.alike hK9, hD9⟩, hS.F ht9⟩) hS.2.2 dX7_magicHolds_27
set_option maxHeartbeats 4000000 in
set_option maxRecDepth 100000 in
theorem m_X7_isSound (l : Launch) (dC : Nat → ClassId) (dI : Nat → Nat → Nat) (sz : Nat) (h0 : Nat) (fr : List Value) (hsr : Nat) (fb : List Value) (hd : Nat) (L_fr : fr.length = 17) (L_fb : fb.length = 2) (g_fb_0 : fb[0]? = some (.ref hd)) (g_fb_1 : fb[1]? = some (.int 0)) : Met l yX7_isSound (wt yX7_isSound cX7_isSound 2 (some .boolean)) ({ frames := 2, cells := 0, slots := 0, locals := 43 }) (va_Pc [.ref h0, .ref hsr] (st_E mg dC dI sz [(h0, .inr (6, fr)), (hsr, .inr (0, fb))] [])) (va_Qi (fun (r : Int32) (_ : Unit) => r = 0) (fun (_ : Unit) (t : State) => ∃ (fr1 : List Value), (fr1.length = 17) ∧ (fr1[2]? = some (.int 2)) ∧ (fr1[3]? = some (.int 0)) ∧ va_P (dC, dI) cl0 [(h0, .inr (6, fr1)), (hsr, .inr (0, fb))] t.heap ∧ va_K (dC, dI) cl0 [] t ∧ va_D (va_A [(h0, .inr (6, fr)), (hsr, .inr (0, fb))] sz) [(h0, .inr (6, fr1)), (hsr, .inr (0, fb))]) (va_A [(h0, .inr (6, fr)), (hsr, .inr (0, fb))] sz)) 0 0 (va_A [(h0, .inr (6, fr)), (hsr, .inr (0, fb))] sz) := by
  refine Met.ofW (cc := cX7_isSound) (maxL := 2) (ret := (some .boolean)) (by decide) rfl ?_
  intro p e s m args below meth c s₁ B hml hv
  obtain ⟨rfl, ⟨hsz, hP, hK, hD0, hex⟩, hE⟩ := hv
  have hx := B.exec
  have hb := B.bytes
  have hr := B.returns
  have hts0 := atoms_spec (ws := wt yX7_isSound cX7_isSound 2 (some .boolean)) B.pre
  have hts : ∀ w ∈ tb, w.before _ s = true := fun w h => hts0 w (List.mem_cons_of_mem _ h)
  have hown : s.vm.findClass RX7 = some m.cls := findClass_of_methodNamed B.named
  have hlocks := B.notSynchronized
  subst hsz
  have hD := hD0.self (sz := s.heap.size)
  generalize hAe : va_A [(h0, .inr (6, fr)), (hsr, .inr (0, fb))] s.heap.size = A at hD hE ⊢
  obtain ⟨tM, hZM, hTM⟩ := id hE
  have hA : ∀ q : Nat, s.heap.size ≤ q → A q := fun q h => by rw [← hAe]; exact Or.inr h
  have hS : va_S A s.heap s.heap [] := va_S.rf
  have hl := lv_entry ([.ref h0, .ref hsr]) (n := 2) (Nat.le_of_ble_eq_true rfl)
  rw [lg_entry_eq]
  generalize (lg_sl ([.ref h0, .ref hsr]) ++ List.replicate (2 - (lg_sl ([.ref h0, .ref hsr])).length) Slot.unset).toArray = ls at hl ⊢
  have hl : lv_has ls 2 [(0, .ref h0), (1, .ref hsr)] := hl
  refine lv_aload_n hx hb dX7_isSound_0 rfl (lv_at hl 0 rfl) ?_
  refine lv_aload_n hx hb dX7_isSound_1 rfl (lv_at hl 1 rfl) ?_
  refine va_get (D := (dC, dI)) (ci := 0) (v := .ref hd) (C := RX0) (T := TX0) (N := 2) hx hb hts inX0 hown hK hP 1 rfl rfl 0 (by decide) (hts _ kw_230) (fun _ h9 => h9) g_fb_0 dX7_isSound_2 ?_
  refine va_put (D := (dC, dI)) (ci := 6) (v := .ref hd) (ty := (.array .byte)) (C := RX7) (T := TX7) (N := 17) hx hb hts inX7 tyX7 tyX7_ok nmX7 hown hK hP hD hS 0 rfl rfl 0 (by decide) (hts _ kw_32) (fun _ h9 => h9) rfl (by decide +kernel) rfl rfl (by rw [L_fr]; decide) dX7_isSound_5 (fun H locs hP hD hS => ?_)
  obtain ⟨fr_1, e_fr_1⟩ : ∃ z, z = fr.set 0 (.ref hd) := ⟨_, rfl⟩
  have hP : va_P (dC, dI) cl0 [(h0, .inr (6, fr_1)), (hsr, .inr (0, fb))] H := by rw [e_fr_1]; exact hP
  have hD : va_D A [(h0, .inr (6, fr_1)), (hsr, .inr (0, fb))] := by rw [e_fr_1]; exact hD
  have L_fr_1 : fr_1.length = 17 := fx_len e_fr_1 L_fr
  have g_fr_1_0 := fx_self e_fr_1 (by rw [L_fr]; decide)
  refine lv_aload_n hx hb dX7_isSound_8 rfl (lv_at hl 0 rfl) ?_
  refine lv_aload_n hx hb dX7_isSound_9 rfl (lv_at hl 1 rfl) ?_
  refine va_get (D := (dC, dI)) (ci := 0) (v := .int 0) (C := RX0) (T := TX0) (N := 2) hx hb hts inX0 hown hK hP 1 rfl rfl 1 (by decide) (hts _ kw_231) (fun _ h9 => h9) g_fb_1 dX7_isSound_10 ?_
  refine va_put (D := (dC, dI)) (ci := 6) (v := .int 0) (ty := .int) (C := RX7) (T := TX7) (N := 17) hx hb hts inX7 tyX7 tyX7_ok nmX7 hown hK hP hD hS 0 rfl rfl 1 (by decide) (hts _ kw_225) (fun _ h9 => h9) rfl (by decide +kernel) rfl rfl (by rw [L_fr_1]; decide) dX7_isSound_13 (fun H locs hP hD hS => ?_)
  obtain ⟨fr_2, e_fr_2⟩ : ∃ z, z = fr_1.set 1 (.int 0) := ⟨_, rfl⟩
  have hP : va_P (dC, dI) cl0 [(h0, .inr (6, fr_2)), (hsr, .inr (0, fb))] H := by rw [e_fr_2]; exact hP
  have hD : va_D A [(h0, .inr (6, fr_2)), (hsr, .inr (0, fb))] := by rw [e_fr_2]; exact hD
  have L_fr_2 : fr_2.length = 17 := fx_len e_fr_2 L_fr_1
  have g_fr_2_0 := fx_ne (j := 0) e_fr_2 g_fr_1_0 (by decide)
  have g_fr_2_1 := fx_self e_fr_2 (by rw [L_fr_1]; decide)
  refine lv_aload_n hx hb dX7_isSound_16 rfl (lv_at hl 0 rfl) ?_
  refine lv_iconst (v := 0) hx hb dX7_isSound_17 (by decide) ?_
  refine va_put (D := (dC, dI)) (ci := 6) (v := .int 0) (ty := .int) (C := RX7) (T := TX7) (N := 17) hx hb hts inX7 tyX7 tyX7_ok nmX7 hown hK hP hD hS 0 rfl rfl 2 (by decide) (hts _ kw_224) (fun _ h9 => h9) rfl (by decide +kernel) rfl rfl (by rw [L_fr_2]; decide) dX7_isSound_18 (fun H locs hP hD hS => ?_)
  obtain ⟨fr_3, e_fr_3⟩ : ∃ z, z = fr_2.set 2 (.int 0) := ⟨_, rfl⟩
  have hP : va_P (dC, dI) cl0 [(h0, .inr (6, fr_3)), (hsr, .inr (0, fb))] H := by rw [e_fr_3]; exact hP
  have hD : va_D A [(h0, .inr (6, fr_3)), (hsr, .inr (0, fb))] := by rw [e_fr_3]; exact hD
  have L_fr_3 : fr_3.length = 17 := fx_len e_fr_3 L_fr_2
  have g_fr_3_0 := fx_ne (j := 0) e_fr_3 g_fr_2_0 (by decide)
  have g_fr_3_1 := fx_ne (j := 1) e_fr_3 g_fr_2_1 (by decide)
  have g_fr_3_2 := fx_self e_fr_3 (by rw [L_fr_2]; decide)
  refine lv_aload_n hx hb dX7_isSound_21 rfl (lv_at hl 0 rfl) ?_
  refine lv_iconst (v := (-1)) hx hb dX7_isSound_22 (by decide) ?_
  refine va_put (D := (dC, dI)) (ci := 6) (v := .int (-1)) (ty := .int) (C := RX7) (T := TX7) (N := 17) hx hb hts inX7 tyX7 tyX7_ok nmX7 hown hK hP hD hS 0 rfl rfl 3 (by decide) (hts _ kw_33) (fun _ h9 => h9) rfl (by decide +kernel) rfl rfl (by rw [L_fr_3]; decide) dX7_isSound_23 (fun H locs hP hD hS => ?_)
  obtain ⟨fr_4, e_fr_4⟩ : ∃ z, z = fr_3.set 3 (.int (-1)) := ⟨_, rfl⟩
  have hP : va_P (dC, dI) cl0 [(h0, .inr (6, fr_4)), (hsr, .inr (0, fb))] H := by rw [e_fr_4]; exact hP
  have hD : va_D A [(h0, .inr (6, fr_4)), (hsr, .inr (0, fb))] := by rw [e_fr_4]; exact hD
  have L_fr_4 : fr_4.length = 17 := fx_len e_fr_4 L_fr_3
  have g_fr_4_0 := fx_ne (j := 0) e_fr_4 g_fr_3_0 (by decide)
  have g_fr_4_1 := fx_ne (j := 1) e_fr_4 g_fr_3_1 (by decide)
  have g_fr_4_2 := fx_ne (j := 2) e_fr_4 g_fr_3_2 (by decide)
  have g_fr_4_3 := fx_self e_fr_4 (by rw [L_fr_3]; decide)
  refine lv_aload_n hx hb dX7_isSound_26 rfl (lv_at hl 0 rfl) ?_
  refine lv_iconst (v := 0) hx hb dX7_isSound_27 (by decide) ?_
  refine va_put (D := (dC, dI)) (ci := 6) (v := .int 0) (ty := .int) (C := RX7) (T := TX7) (N := 17) hx hb hts inX7 tyX7 tyX7_ok nmX7 hown hK hP hD hS 0 rfl rfl 15 (by decide) (hts _ kw_232) (fun _ h9 => h9) rfl (by decide +kernel) rfl rfl (by rw [L_fr_4]; decide) dX7_isSound_28 (fun H locs hP hD hS => ?_)
  obtain ⟨fr_5, e_fr_5⟩ : ∃ z, z = fr_4.set 15 (.int 0) := ⟨_, rfl⟩
  have hP : va_P (dC, dI) cl0 [(h0, .inr (6, fr_5)), (hsr, .inr (0, fb))] H := by rw [e_fr_5]; exact hP
  have hD : va_D A [(h0, .inr (6, fr_5)), (hsr, .inr (0, fb))] := by rw [e_fr_5]; exact hD
  have L_fr_5 : fr_5.length = 17 := fx_len e_fr_5 L_fr_4
  have g_fr_5_0 := fx_ne (j := 0) e_fr_5 g_fr_4_0 (by decide)
  have g_fr_5_1 := fx_ne (j := 1) e_fr_5 g_fr_4_1 (by decide)
  have g_fr_5_2 := fx_ne (j := 2) e_fr_5 g_fr_4_2 (by decide)
  have g_fr_5_3 := fx_ne (j := 3) e_fr_5 g_fr_4_3 (by decide)
  have g_fr_5_15 := fx_self e_fr_5 (by rw [L_fr_4]; decide)
  refine lv_aload_n hx hb dX7_isSound_31 rfl (lv_at hl 0 rfl) ?_
  have hPc := hP.sub (ws' := [(h0, .inr (6, fr_5))]) [0] rfl
  have hDc := hD.sub (ws' := [(h0, .inr (6, fr_5))]) [0] (by decide) rfl
  have hKc := hK.sub (tys' := []) [] rfl
  have hFc := va_free (wc := [(h0, .inr (6, fr_5))]) hD hS hA [0] rfl
  refine va_calli (va_runV (As := []) (rest := []) ⟨hx, hb, hml, hown, hts⟩ (m_X7_magicHolds l dC dI H.size h0 fr_5 L_fr_5 g_fr_5_1) (cwV 0 hts (gd_V kw_233 kw_234 kw_235 kw_41 kw_236) rfl rfl rfl (by decide +kernel) ⟨Nat.le_of_ble_eq_true rfl, Nat.le_of_ble_eq_true rfl⟩) ⟨(st_blindE mg_calling), va_recv hKc hPc (ci := 6) (q0 := 0) rfl rfl, fun U hU hW9 => st_mkE hU hW9 hPc hKc hDc hex (mg_pass hE hS hFc hU hW9)⟩ rfl rfl hl.1 rfl (lv_room (Nat.le_of_ble_eq_true rfl)) dX7_isSound_32 ⟨Nat.le_of_ble_eq_true rfl, Nat.le_of_ble_eq_true rfl⟩) hS (fun q _ h => hFc q h) hFc (fun r_6 u9 t9 H1 locs ht9 hvm9 hw9 hB9 hz9 hk9 hS => ?_)
  obtain ⟨fr1_7, L_fr1_7, g_fr1_7_2, g_fr1_7_3, hP1, hK1, hD1⟩ := hB9
  rw [ht9] at hP1
  have hK1 := va_K.moved hvm9.symm hK1
  obtain ⟨hP, hD⟩ := va_join (wr := [(hsr, .inr (0, fb))]) (w1 := [(h0, .inr (6, fr1_7))]) hP hD [0] [1] rfl rfl (by decide) (by decide) hk9 hFc hP1 hD1
  have hK := (hK.sub (tys' := []) [] rfl).app hK1
  generalize H1 = H at hP hS ⊢
  have hP : va_P (dC, dI) cl0 [(hsr, .inr (0, fb)), (h0, .inr (6, fr1_7))] H := hP
  have hD : va_D A [(hsr, .inr (0, fb)), (h0, .inr (6, fr1_7))] := hD
  have hK : va_K (dC, dI) cl0 [] s := hK
  have hw9 : r_6 = 0 := hw9
  subst hw9
  refine lv_if_eq (tgt := 150) hx hb dX7_isSound_35 (by decide) (fun _ => ?_) (fun c9 => absurd (by decide) c9)
  refine lv_iconst (v := 0) hx hb dX7_isSound_150 (by decide) ?_
  refine W.widen (k := 0) (n := 0) (Nat.le_of_ble_eq_true rfl) (Nat.le_of_ble_eq_true rfl) ?_
  have hP9 := hP.sub (ws' := [(h0, .inr (6, fr1_7)), (hsr, .inr (0, fb))]) [1, 0] rfl
  have hD9 := hD.sub (ws' := [(h0, .inr (6, fr1_7)), (hsr, .inr (0, fb))]) [1, 0] (by decide) rfl
  have hK9 := hK.sub (tys' := []) [] rfl
  exact W.zret (v := 0) hx hb hr rfl (fun t9 ht9 hW9 => ⟨⟨_, (), rfl, rfl, fr1_7, L_fr1_7, g_fr1_7_2, g_fr1_7_3, by rw [ht9]; exact hP9, va_K.moved hW9.alike hK9, hD9⟩, hS.F ht9⟩) hS.2.2 dX7_isSound_151
set_option maxHeartbeats 4000000 in
set_option maxRecDepth 100000 in
theorem m_X2_unitOf (l : Launch) (dC : Nat → ClassId) (dI : Nat → Nat → Nat) (sz : Nat) (h0 : Nat) (fc : List Value) (hrd : Nat) (fr : List Value) (hsr : Nat) (fb : List Value) (hd : Nat) (L_fc : fc.length = 12) (g_fc_0 : fc[0]? = some (.ref hrd)) (L_fr : fr.length = 17) (L_fb : fb.length = 2) (g_fb_0 : fb[0]? = some (.ref hd)) (g_fb_1 : fb[1]? = some (.int 0)) : Met l yX2_unitOf (wt yX2_unitOf cX2_unitOf 4 (some (.object "CodeFoundry$Unit"))) ({ frames := 3, cells := 0, slots := 0, locals := 64 }) (va_Pc [.ref h0, .ref hsr] (st_E mg dC dI sz [(h0, .inr (2, fc)), (hrd, .inr (6, fr)), (hsr, .inr (0, fb))] [])) (va_Qq (fun (r : Option Nat) (_ : Unit) => r = none) (fun (_ : Unit) (t : State) => ∃ (fr1 : List Value), (fr1.length = 17) ∧ (fr1[2]? = some (.int 2)) ∧ (fr1[3]? = some (.int 0)) ∧ va_P (dC, dI) cl0 [(h0, .inr (2, fc)), (hrd, .inr (6, fr1)), (hsr, .inr (0, fb))] t.heap ∧ va_K (dC, dI) cl0 [] t ∧ va_D (va_A [(h0, .inr (2, fc)), (hrd, .inr (6, fr)), (hsr, .inr (0, fb))] sz) [(h0, .inr (2, fc)), (hrd, .inr (6, fr1)), (hsr, .inr (0, fb))]) (va_A [(h0, .inr (2, fc)), (hrd, .inr (6, fr)), (hsr, .inr (0, fb))] sz)) 0 0 (va_A [(h0, .inr (2, fc)), (hrd, .inr (6, fr)), (hsr, .inr (0, fb))] sz) := by
  refine Met.ofW (cc := cX2_unitOf) (maxL := 4) (ret := (some (.object "CodeFoundry$Unit"))) (by decide) rfl ?_
  intro p e s m args below meth c s₁ B hml hv
  obtain ⟨rfl, ⟨hsz, hP, hK, hD0, hex⟩, hE⟩ := hv
  have hx := B.exec
  have hb := B.bytes
  have hr := B.returns
  have hts0 := atoms_spec (ws := wt yX2_unitOf cX2_unitOf 4 (some (.object "CodeFoundry$Unit"))) B.pre
  have hts : ∀ w ∈ tb, w.before _ s = true := fun w h => hts0 w (List.mem_cons_of_mem _ h)
  have hown : s.vm.findClass RX2 = some m.cls := findClass_of_methodNamed B.named
  have hlocks := B.notSynchronized
  subst hsz
  have hD := hD0.self (sz := s.heap.size)
  generalize hAe : va_A [(h0, .inr (2, fc)), (hrd, .inr (6, fr)), (hsr, .inr (0, fb))] s.heap.size = A at hD hE ⊢
  obtain ⟨tM, hZM, hTM⟩ := id hE
  have hA : ∀ q : Nat, s.heap.size ≤ q → A q := fun q h => by rw [← hAe]; exact Or.inr h
  have hS : va_S A s.heap s.heap [] := va_S.rf
  have hl := lv_entry ([.ref h0, .ref hsr]) (n := 4) (Nat.le_of_ble_eq_true rfl)
  rw [lg_entry_eq]
  generalize (lg_sl ([.ref h0, .ref hsr]) ++ List.replicate (4 - (lg_sl ([.ref h0, .ref hsr])).length) Slot.unset).toArray = ls at hl ⊢
  have hl : lv_has ls 4 [(0, .ref h0), (1, .ref hsr)] := hl
  refine lv_aload_n hx hb dX2_unitOf_0 rfl (lv_at hl 0 rfl) ?_
  refine va_get (D := (dC, dI)) (ci := 2) (v := .ref hrd) (C := RX2) (T := TX2) (N := 12) hx hb hts inX2 hown hK hP 0 rfl rfl 0 (by decide) (hts _ kw_44) (fun _ h9 => h9) g_fc_0 dX2_unitOf_1 ?_
  refine lv_aload_n hx hb dX2_unitOf_4 rfl (lv_at hl 1 rfl) ?_
  have hPc := hP.sub (ws' := [(hrd, .inr (6, fr)), (hsr, .inr (0, fb))]) [1, 2] rfl
  have hDc := hD.sub (ws' := [(hrd, .inr (6, fr)), (hsr, .inr (0, fb))]) [1, 2] (by decide) rfl
  have hKc := hK.sub (tys' := []) [] rfl
  have hFc := va_free (wc := [(hrd, .inr (6, fr)), (hsr, .inr (0, fb))]) hD hS hA [1, 2] rfl
  refine va_calli (va_runV (As := [.ref hsr]) (rest := []) ⟨hx, hb, hml, hown, hts⟩ (m_X7_isSound l dC dI s.heap.size hrd fr hsr fb hd L_fr L_fb g_fb_0 g_fb_1) (cwV 1 hts (gd_V kw_237 kw_238 kw_239 kw_41 kw_240) rfl rfl rfl (by decide +kernel) ⟨Nat.le_of_ble_eq_true rfl, Nat.le_of_ble_eq_true rfl⟩) ⟨(st_blindE mg_calling), va_recv hKc hPc (ci := 6) (q0 := 0) rfl rfl, fun U hU hW9 => st_mkE hU hW9 hPc hKc hDc hex (mg_pass hE hS hFc hU hW9)⟩ rfl rfl hl.1 rfl (lv_room (Nat.le_of_ble_eq_true rfl)) dX2_unitOf_5 ⟨Nat.le_of_ble_eq_true rfl, Nat.le_of_ble_eq_true rfl⟩) hS (fun q _ h => hFc q h) hFc (fun r_1 u9 t9 H1 locs ht9 hvm9 hw9 hB9 hz9 hk9 hS => ?_)
  obtain ⟨fr1_2, L_fr1_2, g_fr1_2_2, g_fr1_2_3, hP1, hK1, hD1⟩ := hB9
  rw [ht9] at hP1
  have hK1 := va_K.moved hvm9.symm hK1
  obtain ⟨hP, hD⟩ := va_join (wr := [(h0, .inr (2, fc))]) (w1 := [(hrd, .inr (6, fr1_2)), (hsr, .inr (0, fb))]) hP hD [1, 2] [0] rfl rfl (by decide) (by decide) hk9 hFc hP1 hD1
  have hK := (hK.sub (tys' := []) [] rfl).app hK1
  generalize H1 = H at hP hS ⊢
  have hP : va_P (dC, dI) cl0 [(h0, .inr (2, fc)), (hrd, .inr (6, fr1_2)), (hsr, .inr (0, fb))] H := hP
  have hD : va_D A [(h0, .inr (2, fc)), (hrd, .inr (6, fr1_2)), (hsr, .inr (0, fb))] := hD
  have hK : va_K (dC, dI) cl0 [] s := hK
  have hw9 : r_1 = 0 := hw9
  subst hw9
  refine lv_if_eq (tgt := 32) hx hb dX2_unitOf_8 (by decide) (fun _ => ?_) (fun c9 => absurd (by decide) c9)
  refine lv_null hx hb dX2_unitOf_32 ?_
  refine W.widen (k := 0) (n := 0) (Nat.le_of_ble_eq_true rfl) (Nat.le_of_ble_eq_true rfl) ?_
  have hP9 := hP.sub (ws' := [(h0, .inr (2, fc)), (hrd, .inr (6, fr1_2)), (hsr, .inr (0, fb))]) [0, 1, 2] rfl
  have hD9 := hD.sub (ws' := [(h0, .inr (2, fc)), (hrd, .inr (6, fr1_2)), (hsr, .inr (0, fb))]) [0, 1, 2] (by decide) rfl
  have hK9 := hK.sub (tys' := []) [] rfl
  exact W.aret (v := .null) hx hb hr (Or.inl ⟨_, rfl⟩) (Or.inl rfl) (fun t9 ht9 hW9 => ⟨⟨none, (), rfl, rfl, fr1_2, L_fr1_2, g_fr1_2_2, g_fr1_2_3, by rw [ht9]; exact hP9, va_K.moved hW9.alike hK9, hD9⟩, hS.F ht9⟩) hS.2.2 dX2_unitOf_33
set_option maxHeartbeats 4000000 in
set_option maxRecDepth 100000 in
theorem m_X12_keep (l : Launch) (dC : Nat → ClassId) (dI : Nat → Nat → Nat) (sz : Nat) (h0 : Nat) (fx : List Value) (L_fx : fx.length = 18) : Met l yX12_keep (wt yX12_keep cX12_keep 3 (some .int)) ({ frames := 0, cells := 0, slots := 0, locals := 0 }) (va_Pc [.ref h0, .null, .int (-1)] (st_U dC dI sz [(h0, .inr (10, fx))] [])) (va_Qi (fun (r : Int32) (_ : Unit) => r = (-1)) (fun (_ : Unit) (_ : State) => True) (va_A [(h0, .inr (10, fx))] sz)) 0 0 (va_A [(h0, .inr (10, fx))] sz) := by
  refine Met.ofW (cc := cX12_keep) (maxL := 3) (ret := (some .int)) (by decide) rfl ?_
  intro p e s m args below meth c s₁ B hml hv
  obtain ⟨rfl, hsz, hP, hK, hD0, hex⟩ := hv
  have hx := B.exec
  have hb := B.bytes
  have hr := B.returns
  have hts0 := atoms_spec (ws := wt yX12_keep cX12_keep 3 (some .int)) B.pre
  have hts : ∀ w ∈ tb, w.before _ s = true := fun w h => hts0 w (List.mem_cons_of_mem _ h)
  have hown : s.vm.findClass RX12 = some m.cls := findClass_of_methodNamed B.named
  have hlocks := B.notSynchronized
  subst hsz
  have hD := hD0.self (sz := s.heap.size)
  generalize hAe : va_A [(h0, .inr (10, fx))] s.heap.size = A at hD ⊢
  have hA : ∀ q : Nat, s.heap.size ≤ q → A q := fun q h => by rw [← hAe]; exact Or.inr h
  have hS : va_S A s.heap s.heap [] := va_S.rf
  have hl := lv_entry ([.ref h0, .null, .int (-1)]) (n := 3) (Nat.le_of_ble_eq_true rfl)
  rw [lg_entry_eq]
  generalize (lg_sl ([.ref h0, .null, .int (-1)]) ++ List.replicate (3 - (lg_sl ([.ref h0, .null, .int (-1)])).length) Slot.unset).toArray = ls at hl ⊢
  have hl : lv_has ls 3 [(0, .ref h0), (1, .null), (2, .int (-1))] := hl
  refine lv_aload_nN hx hb dX12_keep_0 rfl (lv_at hl 1 rfl) ?_
  refine lv_ifnullN (tgt := 13) hx hb dX12_keep_1 (by decide) ?_
  refine lv_iload_n hx hb dX12_keep_13 rfl (lv_at hl 2 rfl) ?_
  refine W.widen (k := 0) (n := 0) (Nat.le_of_ble_eq_true rfl) (Nat.le_of_ble_eq_true rfl) ?_
  exact W.iret (v := (-1)) hx hb hr (fun t9 ht9 hW9 => ⟨⟨_, (), rfl, rfl, trivial⟩, hS.F ht9⟩) hS.2.2 dX12_keep_14
set_option maxHeartbeats 4000000 in
set_option maxRecDepth 100000 in
theorem m_X12_file (l : Launch) (dC : Nat → ClassId) (dI : Nat → Nat → Nat) (sz : Nat) (h0 : Nat) (fx : List Value) (hc : Nat) (fc : List Value) (hrd : Nat) (fr : List Value) (hsr : Nat) (fb : List Value) (hd : Nat) (L_fx : fx.length = 18) (g_fx_0 : fx[0]? = some (.ref hsr)) (g_fx_4 : fx[4]? = some (.ref hc)) (g_fx_11 : fx[11]? = some (.int 0)) (L_fc : fc.length = 12) (g_fc_0 : fc[0]? = some (.ref hrd)) (L_fr : fr.length = 17) (L_fb : fb.length = 2) (g_fb_0 : fb[0]? = some (.ref hd)) (g_fb_1 : fb[1]? = some (.int 0)) : Met l yX12_file (wt yX12_file cX12_file 2 (some .int)) ({ frames := 4, cells := 0, slots := 0, locals := 87 }) (va_Pc [.ref h0] (st_E mg dC dI sz [(h0, .inr (10, fx)), (hc, .inr (2, fc)), (hrd, .inr (6, fr)), (hsr, .inr (0, fb))] [])) (va_Qi (fun (r : Int32) (_ : Unit) => r = (-1)) (fun (_ : Unit) (_ : State) => True) (va_A [(h0, .inr (10, fx)), (hc, .inr (2, fc)), (hrd, .inr (6, fr)), (hsr, .inr (0, fb))] sz)) 0 0 (va_A [(h0, .inr (10, fx)), (hc, .inr (2, fc)), (hrd, .inr (6, fr)), (hsr, .inr (0, fb))] sz) := by
  refine Met.ofW (cc := cX12_file) (maxL := 2) (ret := (some .int)) (by decide) rfl ?_
  intro p e s m args below meth c s₁ B hml hv
  obtain ⟨rfl, ⟨hsz, hP, hK, hD0, hex⟩, hE⟩ := hv
  have hx := B.exec
  have hb := B.bytes
  have hr := B.returns
  have hts0 := atoms_spec (ws := wt yX12_file cX12_file 2 (some .int)) B.pre
  have hts : ∀ w ∈ tb, w.before _ s = true := fun w h => hts0 w (List.mem_cons_of_mem _ h)
  have hown : s.vm.findClass RX12 = some m.cls := findClass_of_methodNamed B.named
  have hlocks := B.notSynchronized
  subst hsz
  have hD := hD0.self (sz := s.heap.size)
  generalize hAe : va_A [(h0, .inr (10, fx)), (hc, .inr (2, fc)), (hrd, .inr (6, fr)), (hsr, .inr (0, fb))] s.heap.size = A at hD hE ⊢
  obtain ⟨tM, hZM, hTM⟩ := id hE
  have hA : ∀ q : Nat, s.heap.size ≤ q → A q := fun q h => by rw [← hAe]; exact Or.inr h
  have hS : va_S A s.heap s.heap [] := va_S.rf
  have hl := lv_entry ([.ref h0]) (n := 2) (Nat.le_of_ble_eq_true rfl)
  rw [lg_entry_eq]
  generalize (lg_sl ([.ref h0]) ++ List.replicate (2 - (lg_sl ([.ref h0])).length) Slot.unset).toArray = ls at hl ⊢
  have hl : lv_has ls 2 [(0, .ref h0)] := hl
  refine lv_aload_n hx hb dX12_file_0 rfl (lv_at hl 0 rfl) ?_
  refine va_get (D := (dC, dI)) (ci := 10) (v := .int 0) (C := RX12) (T := TX12) (N := 18) hx hb hts inX12 hown hK hP 0 rfl rfl 11 (by decide) (hts _ kw_165) (fun _ h9 => h9) g_fx_11 dX12_file_1 ?_
  refine lv_bipush (v := 12) hx hb dX12_file_4 (by decide) ?_
  refine lv_icmp_lt (tgt := 12) hx hb dX12_file_6 (by decide) (fun _ => ?_) (fun c9 => absurd (by decide) c9)
  refine lv_aload_n hx hb dX12_file_12 rfl (lv_at hl 0 rfl) ?_
  refine va_get (D := (dC, dI)) (ci := 10) (v := .ref hc) (C := RX12) (T := TX12) (N := 18) hx hb hts inX12 hown hK hP 0 rfl rfl 4 (by decide) (hts _ kw_113) (fun _ h9 => h9) g_fx_4 dX12_file_13 ?_
  refine lv_aload_n hx hb dX12_file_16 rfl (lv_at hl 0 rfl) ?_
  refine va_get (D := (dC, dI)) (ci := 10) (v := .ref hsr) (C := RX12) (T := TX12) (N := 18) hx hb hts inX12 hown hK hP 0 rfl rfl 0 (by decide) (hts _ kw_103) (fun _ h9 => h9) g_fx_0 dX12_file_17 ?_
  have hPc := hP.sub (ws' := [(hc, .inr (2, fc)), (hrd, .inr (6, fr)), (hsr, .inr (0, fb))]) [1, 2, 3] rfl
  have hDc := hD.sub (ws' := [(hc, .inr (2, fc)), (hrd, .inr (6, fr)), (hsr, .inr (0, fb))]) [1, 2, 3] (by decide) rfl
  have hKc := hK.sub (tys' := []) [] rfl
  have hFc := va_free (wc := [(hc, .inr (2, fc)), (hrd, .inr (6, fr)), (hsr, .inr (0, fb))]) hD hS hA [1, 2, 3] rfl
  refine va_callq (va_runV (As := [.ref hsr]) (rest := []) ⟨hx, hb, hml, hown, hts⟩ (m_X2_unitOf l dC dI s.heap.size hc fc hrd fr hsr fb hd L_fc g_fc_0 L_fr L_fb g_fb_0 g_fb_1) (cwV 1 hts (gd_V kw_241 kw_242 kw_243 kw_110 kw_244) rfl rfl rfl (by decide +kernel) ⟨Nat.le_of_ble_eq_true rfl, Nat.le_of_ble_eq_true rfl⟩) ⟨(st_blindE mg_calling), va_recv hKc hPc (ci := 2) (q0 := 0) rfl rfl, fun U hU hW9 => st_mkE hU hW9 hPc hKc hDc hex (mg_pass hE hS hFc hU hW9)⟩ rfl rfl hl.1 rfl (lv_room (Nat.le_of_ble_eq_true rfl)) dX12_file_20 ⟨Nat.le_of_ble_eq_true rfl, Nat.le_of_ble_eq_true rfl⟩) hS (fun q _ h => hFc q h) hFc (fun r_1 u9 t9 H1 locs ht9 hvm9 hw9 hB9 hz9 hk9 hS => ?_)
  obtain ⟨fr1_2, L_fr1_2, g_fr1_2_2, g_fr1_2_3, hP1, hK1, hD1⟩ := hB9
  rw [ht9] at hP1
  have hK1 := va_K.moved hvm9.symm hK1
  obtain ⟨hP, hD⟩ := va_join (wr := [(h0, .inr (10, fx))]) (w1 := [(hc, .inr (2, fc)), (hrd, .inr (6, fr1_2)), (hsr, .inr (0, fb))]) hP hD [1, 2, 3] [0] rfl rfl (by decide) (by decide) hk9 hFc hP1 hD1
  have hK := (hK.sub (tys' := []) [] rfl).app hK1
  generalize H1 = H at hP hS ⊢
  have hP : va_P (dC, dI) cl0 [(h0, .inr (10, fx)), (hc, .inr (2, fc)), (hrd, .inr (6, fr1_2)), (hsr, .inr (0, fb))] H := hP
  have hD : va_D A [(h0, .inr (10, fx)), (hc, .inr (2, fc)), (hrd, .inr (6, fr1_2)), (hsr, .inr (0, fb))] := hD
  have hK : va_K (dC, dI) cl0 [] s := hK
  have hw9 : r_1 = none := hw9
  subst hw9
  refine lv_astore_nN (lv' := [(1, .null), (0, .ref h0)]) hx hb dX12_file_23 rfl hl (by decide) rfl (fun ls hl => ?_)
  refine lv_aload_n hx hb dX12_file_24 rfl (lv_at hl 1 rfl) ?_
  refine va_get (D := (dC, dI)) (ci := 10) (v := .ref hsr) (C := RX12) (T := TX12) (N := 18) hx hb hts inX12 hown hK hP 0 rfl rfl 0 (by decide) (hts _ kw_103) (fun _ h9 => h9) g_fx_0 dX12_file_25 ?_
  refine lv_iconst (v := 0) hx hb dX12_file_28 (by decide) ?_
  refine va_put (D := (dC, dI)) (ci := 0) (v := .int 0) (ty := .int) (C := RX0) (T := TX0) (N := 2) hx hb hts inX0 tyX0 tyX0_ok nmX0 hown hK hP hD hS 3 rfl rfl 1 (by decide) (hts _ kw_157) (fun _ h9 => h9) rfl (by decide +kernel) rfl rfl (by rw [L_fb]; decide) dX12_file_29 (fun H locs hP hD hS => ?_)
  obtain ⟨fb_3, e_fb_3⟩ : ∃ z, z = fb.set 1 (.int 0) := ⟨_, rfl⟩
  have hP : va_P (dC, dI) cl0 [(h0, .inr (10, fx)), (hc, .inr (2, fc)), (hrd, .inr (6, fr1_2)), (hsr, .inr (0, fb_3))] H := by rw [e_fb_3]; exact hP
  have hD : va_D A [(h0, .inr (10, fx)), (hc, .inr (2, fc)), (hrd, .inr (6, fr1_2)), (hsr, .inr (0, fb_3))] := by rw [e_fb_3]; exact hD
  have L_fb_3 : fb_3.length = 2 := fx_len e_fb_3 L_fb
  have g_fb_3_0 := fx_ne (j := 0) e_fb_3 g_fb_0 (by decide)
  have g_fb_3_1 := fx_self e_fb_3 (by rw [L_fb]; decide)
  refine lv_aload_n hx hb dX12_file_32 rfl (lv_at hl 1 rfl) ?_
  refine lv_aload_n hx hb dX12_file_33 rfl (lv_at hl 1 rfl) ?_
  refine va_get (D := (dC, dI)) (ci := 10) (v := .ref hc) (C := RX12) (T := TX12) (N := 18) hx hb hts inX12 hown hK hP 0 rfl rfl 4 (by decide) (hts _ kw_113) (fun _ h9 => h9) g_fx_4 dX12_file_34 ?_
  refine va_get (D := (dC, dI)) (ci := 2) (v := .ref hrd) (C := RX2) (T := TX2) (N := 12) hx hb hts inX2 hown hK hP 1 rfl rfl 0 (by decide) (hts _ kw_245) (fun _ h9 => h9) g_fc_0 dX12_file_37 ?_
  refine va_get (D := (dC, dI)) (ci := 6) (v := .int 2) (C := RX7) (T := TX7) (N := 17) hx hb hts inX7 hown hK hP 2 rfl rfl 2 (by decide) (hts _ kw_246) (fun _ h9 => h9) g_fr1_2_2 dX12_file_40 ?_
  refine va_put (D := (dC, dI)) (ci := 10) (v := .int 2) (ty := .int) (C := RX12) (T := TX12) (N := 18) hx hb hts inX12 tyX12 tyX12_ok nmX12 hown hK hP hD hS 0 rfl rfl 13 (by decide) (hts _ kw_164) (fun _ h9 => h9) rfl (by decide +kernel) rfl rfl (by rw [L_fx]; decide) dX12_file_43 (fun H locs hP hD hS => ?_)
  obtain ⟨fx_4, e_fx_4⟩ : ∃ z, z = fx.set 13 (.int 2) := ⟨_, rfl⟩
  have hP : va_P (dC, dI) cl0 [(h0, .inr (10, fx_4)), (hc, .inr (2, fc)), (hrd, .inr (6, fr1_2)), (hsr, .inr (0, fb_3))] H := by rw [e_fx_4]; exact hP
  have hD : va_D A [(h0, .inr (10, fx_4)), (hc, .inr (2, fc)), (hrd, .inr (6, fr1_2)), (hsr, .inr (0, fb_3))] := by rw [e_fx_4]; exact hD
  have L_fx_4 : fx_4.length = 18 := fx_len e_fx_4 L_fx
  have g_fx_4_0 := fx_ne (j := 0) e_fx_4 g_fx_0 (by decide)
  have g_fx_4_4 := fx_ne (j := 4) e_fx_4 g_fx_4 (by decide)
  have g_fx_4_11 := fx_ne (j := 11) e_fx_4 g_fx_11 (by decide)
  have g_fx_4_13 := fx_self e_fx_4 (by rw [L_fx]; decide)
  refine lv_aload_n hx hb dX12_file_46 rfl (lv_at hl 1 rfl) ?_
  refine lv_aload_n hx hb dX12_file_47 rfl (lv_at hl 1 rfl) ?_
  refine va_get (D := (dC, dI)) (ci := 10) (v := .ref hc) (C := RX12) (T := TX12) (N := 18) hx hb hts inX12 hown hK hP 0 rfl rfl 4 (by decide) (hts _ kw_113) (fun _ h9 => h9) g_fx_4_4 dX12_file_48 ?_
  refine va_get (D := (dC, dI)) (ci := 2) (v := .ref hrd) (C := RX2) (T := TX2) (N := 12) hx hb hts inX2 hown hK hP 1 rfl rfl 0 (by decide) (hts _ kw_245) (fun _ h9 => h9) g_fc_0 dX12_file_51 ?_
  refine va_get (D := (dC, dI)) (ci := 6) (v := .int 0) (C := RX7) (T := TX7) (N := 17) hx hb hts inX7 hown hK hP 2 rfl rfl 3 (by decide) (hts _ kw_247) (fun _ h9 => h9) g_fr1_2_3 dX12_file_54 ?_
  refine va_put (D := (dC, dI)) (ci := 10) (v := .int 0) (ty := .int) (C := RX12) (T := TX12) (N := 18) hx hb hts inX12 tyX12 tyX12_ok nmX12 hown hK hP hD hS 0 rfl rfl 14 (by decide) (hts _ kw_144) (fun _ h9 => h9) rfl (by decide +kernel) rfl rfl (by rw [L_fx_4]; decide) dX12_file_57 (fun H locs hP hD hS => ?_)
  obtain ⟨fx_5, e_fx_5⟩ : ∃ z, z = fx_4.set 14 (.int 0) := ⟨_, rfl⟩
  have hP : va_P (dC, dI) cl0 [(h0, .inr (10, fx_5)), (hc, .inr (2, fc)), (hrd, .inr (6, fr1_2)), (hsr, .inr (0, fb_3))] H := by rw [e_fx_5]; exact hP
  have hD : va_D A [(h0, .inr (10, fx_5)), (hc, .inr (2, fc)), (hrd, .inr (6, fr1_2)), (hsr, .inr (0, fb_3))] := by rw [e_fx_5]; exact hD
  have L_fx_5 : fx_5.length = 18 := fx_len e_fx_5 L_fx_4
  have g_fx_5_0 := fx_ne (j := 0) e_fx_5 g_fx_4_0 (by decide)
  have g_fx_5_4 := fx_ne (j := 4) e_fx_5 g_fx_4_4 (by decide)
  have g_fx_5_11 := fx_ne (j := 11) e_fx_5 g_fx_4_11 (by decide)
  have g_fx_5_13 := fx_ne (j := 13) e_fx_5 g_fx_4_13 (by decide)
  have g_fx_5_14 := fx_self e_fx_5 (by rw [L_fx_4]; decide)
  refine lv_aload_n hx hb dX12_file_60 rfl (lv_at hl 1 rfl) ?_
  refine lv_aload_nN hx hb dX12_file_61 rfl (lv_at hl 0 rfl) ?_
  refine lv_iconst (v := (-1)) hx hb dX12_file_62 (by decide) ?_
  have hPc := hP.sub (ws' := [(h0, .inr (10, fx_5))]) [0] rfl
  have hDc := hD.sub (ws' := [(h0, .inr (10, fx_5))]) [0] (by decide) rfl
  have hKc := hK.sub (tys' := []) [] rfl
  have hFc := va_free (wc := [(h0, .inr (10, fx_5))]) hD hS hA [0] rfl
  refine va_calli (va_runV (As := [.null, .int (-1)]) (rest := []) ⟨hx, hb, hml, hown, hts⟩ (m_X12_keep l dC dI H.size h0 fx_5 L_fx_5) (cwV 2 hts (gd_V kw_248 kw_249 kw_250 kw_169 kw_251) rfl rfl rfl (by decide +kernel) ⟨Nat.le_of_ble_eq_true rfl, Nat.le_of_ble_eq_true rfl⟩) ⟨st_blind, va_recv hKc hPc (ci := 10) (q0 := 0) rfl rfl, fun U hU hW9 => st_mk hU hW9 hPc hKc hDc hex⟩ rfl rfl hl.1 rfl (lv_room (Nat.le_of_ble_eq_true rfl)) dX12_file_63 ⟨Nat.le_of_ble_eq_true rfl, Nat.le_of_ble_eq_true rfl⟩) hS (fun q _ h => hFc q h) hFc (fun r_6 u9 t9 H1 locs ht9 hvm9 hw9 hB9 hz9 hk9 hS => ?_)
  have hP1 : va_P (dC, dI) cl0 [] H1 := fun k q h => by simp at h
  have hD1 : va_D (va_A [(h0, .inr (10, fx_5))] H.size) [] := ⟨fun i j p q h => by simp at h, fun k q h => by simp at h⟩
  obtain ⟨hP, hD⟩ := va_join (wr := [(hc, .inr (2, fc)), (hrd, .inr (6, fr1_2)), (hsr, .inr (0, fb_3))]) (w1 := []) hP hD [0] [1, 2, 3] rfl rfl (by decide) (by decide) hk9 hFc hP1 hD1
  generalize H1 = H at hP hS ⊢
  have hP : va_P (dC, dI) cl0 [(hc, .inr (2, fc)), (hrd, .inr (6, fr1_2)), (hsr, .inr (0, fb_3))] H := hP
  have hD : va_D A [(hc, .inr (2, fc)), (hrd, .inr (6, fr1_2)), (hsr, .inr (0, fb_3))] := hD
  have hw9 : r_6 = (-1) := hw9
  subst hw9
  refine W.widen (k := 0) (n := 0) (Nat.le_of_ble_eq_true rfl) (Nat.le_of_ble_eq_true rfl) ?_
  exact W.iret (v := (-1)) hx hb hr (fun t9 ht9 hW9 => ⟨⟨_, (), rfl, rfl, trivial⟩, hS.F ht9⟩) hS.2.2 dX12_file_66
