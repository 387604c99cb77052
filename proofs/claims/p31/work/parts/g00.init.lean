def w_init (S : MS) (p0 : Nat) (Q : MS → Prop) : Prop := (((qn S + 1 ≤ KC ∧ qu S + 24 ≤ KS)) ∧ (∀ S4, S4 = wN S 5 24 24 → (∀ S6, S6 = wR S4 p0 5 (some (qn S)) → (((qn S6 + 1 ≤ KC ∧ qu S6 + 24 ≤ KS)) ∧ (∀ S10, S10 = wN S6 5 24 24 → (∀ S12, S12 = wR S10 p0 6 (some (qn S6)) → (((qn S12 + 1 ≤ KC ∧ qu S12 + 24 ≤ KS)) ∧ (∀ S16, S16 = wN S12 5 24 24 → (∀ S18, S18 = wR S16 p0 7 (some (qn S12)) → (((qn S18 + 1 ≤ KC ∧ qu S18 + 24 ≤ KS)) ∧ (∀ S22, S22 = wN S18 5 24 24 → (∀ S24, S24 = wR S22 p0 8 (some (qn S18)) → (((qn S24 + 1 ≤ KC ∧ qu S24 + 24 ≤ KS)) ∧ (∀ S28, S28 = wN S24 5 24 24 → (∀ S30, S30 = wR S28 p0 9 (some (qn S24)) → (((qn S30 + 1 ≤ KC ∧ qu S30 + 24 ≤ KS)) ∧ (∀ S34, S34 = wN S30 5 24 24 → (∀ S36, S36 = wR S34 p0 10 (some (qn S30)) → (((qn S36 + 1 ≤ KC ∧ qu S36 + 24 ≤ KS)) ∧ (∀ S40, S40 = wN S36 5 24 24 → (∀ S42, S42 = wR S40 p0 11 (some (qn S36)) → (((qn S42 + 1 ≤ KC ∧ qu S42 + 24 ≤ KS)) ∧ (∀ S46, S46 = wN S42 2 24 24 → (∀ S48, S48 = wR S46 p0 12 (some (qn S42)) → (((qn S48 + 1 ≤ KC ∧ qu S48 + 24 ≤ KS)) ∧ (∀ S52, S52 = wN S48 2 24 24 → (∀ S54, S54 = wR S52 p0 13 (some (qn S48)) → (((qn S54 + 1 ≤ KC ∧ qu S54 + 24 ≤ KS)) ∧ (∀ S58, S58 = wN S54 2 24 24 → (∀ S60, S60 = wR S58 p0 14 (some (qn S54)) → (((qn S60 + 1 ≤ KC ∧ qu S60 + 24 ≤ KS)) ∧ (∀ S64, S64 = wN S60 2 24 24 → (∀ S66, S66 = wR S64 p0 15 (some (qn S60)) → (((qn S66 + 1 ≤ KC ∧ qu S66 + 24 ≤ KS)) ∧ (∀ S70, S70 = wN S66 2 24 24 → (∀ S72, S72 = wR S70 p0 16 (some (qn S66)) → (((qn S72 + 1 ≤ KC ∧ qu S72 + 24 ≤ KS)) ∧ (∀ S76, S76 = wN S72 2 24 24 → (∀ S78, S78 = wR S76 p0 17 (some (qn S72)) → Q S78)))))))))))))))))))))))))))))))))))))))
set_option maxHeartbeats 2000000 in
set_option maxRecDepth 100000 in
theorem r_initZ (l : Launch) (g : Gr) (ad : Nat → Nat) (H0 : Heap) (S : MS) (p0 : Nat) (hw : wfMZ S) (hT_p0 : qT S p0 = 11) (Q : MS → Prop) (h : w_init S p0 Q) : Met l yX13_init (wt2 yX13_init cX13_init 1 none) ({ frames := 1, cells := KC - qn S, slots := KS - qu S, locals := 12 }) (va_Pc [.ref (ad p0)] (st_RH g ad H0 S)) (va_Qv (fun (u : MS × (Nat → Nat)) => Q u.1 ∧ wfMZ u.1 ∧ shx S u.1 ∧ adk ad u.2 S) (fun (u : MS × (Nat → Nat)) (t : State) => qEH g (va_A (Wd g ad S) H0.size) S H0 u t) (va_A (Wd g ad S) H0.size)) (KC - qn S) (KS - qu S) (va_A (Wd g ad S) H0.size) := by
  refine Met.ofW (cc := cX13_init) (maxL := 1) (ret := none) (by decide) rfl ?_
  intro p e s m args below meth c s₁ B hml hv
  obtain ⟨rfl, hH0, hsz, hP, hK, hD0, hex, hE⟩ := hv
  have hx := B.exec
  have hb := B.bytes
  have hr := B.returns
  have hts0 := atoms_spec (ws := wt2 yX13_init cX13_init 1 none) B.pre
  have hts : ∀ w ∈ tb2, w.before _ s = true := fun w h => hts0 w (List.mem_cons_of_mem _ h)
  have hown : s.vm.findClass RX13 = some m.cls := findClass_of_methodNamed B.named
  subst hH0
  have hD := hD0.self (sz := s.heap.size)
  generalize hAe : va_A (Wd g ad S) s.heap.size = A at hD hE ⊢
  have hA : ∀ q : Nat, s.heap.size ≤ q → A q := fun q h => by rw [← hAe]; exact Or.inr h
  have hR : RepZ g ad A s S s.heap [] := ⟨hK, hP, hD, va_S.rf, hw⟩
  clear hK hP hD hD0
  have hl := lv_entry ([.ref (ad p0)]) (n := 1) (Nat.le_of_ble_eq_true rfl)
  rw [lg_entry_eq]
  generalize (lg_sl ([.ref (ad p0)]) ++ List.replicate (1 - (lg_sl ([.ref (ad p0)])).length) Slot.unset).toArray = ls at hl ⊢
  have hlg : lg S S 0 0 := lg.rf
  have hak : adk ad ad S := adk.rf
  have hin9 : meth.name = "<init>" := (name_of_methodNamed B.named B.method).1
  have hl : lv_has ls 1 [(0, .ref (ad p0))] := hl
  have hsh : shx S S := shx.rf
  unfold w_init at h
  refine lv_aload_n hx hb dX13_init_0 rfl (lv_at hl 0 rfl) ?_
  refine W.objInit hx hb hown (hts _ kx_826) (hts _ kx_92) (hts _ kx_93) rfl (by rw [hml]; exact hl.1) rfl dX13_init_1 (Nat.le_of_ble_eq_true rfl) (Nat.le_of_ble_eq_true rfl) ?_
  refine W.eq (g2 := F0 m 4 ls []) rfl ?_
  refine lv_aload_n hx hb dX13_init_4 rfl (lv_at hl 0 rfl) ?_
  refine lv_bipush (v := 24) hx hb dX13_init_5 (by decide) ?_
  obtain ⟨hv1, h⟩ := h
  have e9 : KC = 300000 := rfl
  have e8 : KS = 3720000 := rfl
  have e7 : TXB = 10000000 := rfl
  have hTX : qn S < TXB := by have := hv1.1; omega
  refine va_newq (C := "java/lang/String") (N' := 24) hx hb hown (hts _ kx_827) (ao_of (by exact ao_java_lang_String) hex) hR.K hR.P hR.D hR.sS hA (by decide) (by decide) (by have := hv1.2; omega) (show 0 + 1 ≤ KC - qn S from hlg.c1 hv1.1) (show 0 + 24 ≤ KS - qu S from hlg.s1 hv1.2) dX13_init_7 (fun q2 cA9 H hK9 hP hD hS => ?_)
  obtain rfl := cls_newR2 hR.K hK9 (k := 4) rfl
  have hw8 := hR.w
  have hR := hR.new (t := 5) (n := 24) (k := 24) hTX (by decide) (fun q9 => absurd q9 (by decide)) wN_cS hP hD hS
  have hk8 : adk ad (adx ad (qn S) q2) S := adk.rf.new (Nat.le_refl _) hTX
  have hak := hak.new (q := q2) hlg.2.2.1 hTX
  have hE := hE.ad hk8
  have hlg : lg S (wN S 5 24 24) (0 + 1) (0 + 24) := hlg.new (t := 5) (n := 24) ⟨hv1.1, hv1.2⟩
  have hs8 : shx S (wN S 5 24 24) := shx.newZ (t := 5) (n := 24) (k := 24) shx.rf hw8 hTX
  obtain ⟨am3, eam3⟩ : ∃ z, z = adx ad (qn S) q2 := ⟨_, rfl⟩
  have eq_q2 : am3 (qn S) = q2 := by rw [eam3]; exact if_pos rfl
  rw [← eam3] at hR hk8 hak hE
  obtain ⟨S4, eS4⟩ : ∃ z, z = wN S 5 24 24 := ⟨_, rfl⟩
  rw [← eS4] at hR hlg hs8
  replace h := h S4 eS4
  have hsh := hsh.tr hs8
  have hT_b5 : qT S4 (qn S) = 5 := by rw [eS4]; exact if_pos rfl
  have ea_0 : am3 p0 = ad p0 := hk8 _ (hw8.hd hT_p0 (by decide) (by decide))
  have hT_p0 := hs8.T hT_p0 (by decide)
  have hl : lv_has ls 1 [(0, .ref (am3 p0))] := by simp only [ea_0]; exact hl
  refine W.eq (g2 := F0 m 10 ls [.ref (am3 (qn S)), .ref (am3 p0)]) (by simp only [ea_0, eq_q2]) ?_
  clear hw8 hk8 hs8 hP hD hS e9 e8 e7 hTX
  refine va_putF (D := rD g) (ci := 12) (v := .ref (am3 (qn S))) (ty := (.array (.object "java/lang/String"))) (C := RX13) (T := TX13) (N := 23) hx hb hts in2X13 tyX13 tyX13_ok nmX13 hown hR.K hR.P hR.D hR.sS p0 (hR.at13 hT_p0) rfl 5 (by decide) (hts _ kx_828) (fun _ h9 => h9) rfl hin9 rfl (by decide +kernel) rfl rfl (Nat.le_of_ble_eq_true rfl) dX13_init_10 (fun H locs hP hD hS => ?_)
  have hw9 : wfMZ (wR S4 p0 5 (some (qn S))) := hR.w.put (fun b q9 => by cases q9; exact (hT_b5).trans (by rw [hT_p0]; rfl)) (fun q9 => absurd ((congrArg (qT S4) q9).symm.trans hT_p0) (by rw [hR.w.1]; decide)) (by rw [hT_p0]; decide)
  have hR : RepZ g am3 A s (wR S4 p0 5 (some (qn S))) H locs := hR.pR3 hT_p0 F13_s5 hw9 hP hD hS
  obtain ⟨S6, eS6⟩ : ∃ z, z = wR S4 p0 5 (some (qn S)) := ⟨_, rfl⟩
  rw [← eS6] at hR
  replace h := h S6 eS6
  have hT_p0 : qT S6 p0 = 11 := (congrArg (fun z => qT z p0) eS6).trans hT_p0
  have hsh : shx S S6 := by rw [eS6]; exact hsh
  have hlg : lg S S6 (0 + 1) (0 + 24) := by rw [eS6]; exact hlg
  refine lv_aload_n hx hb dX13_init_13 rfl (lv_at hl 0 rfl) ?_
  refine lv_bipush (v := 24) hx hb dX13_init_14 (by decide) ?_
  obtain ⟨hv7, h⟩ := h
  have e9 : KC = 300000 := rfl
  have e8 : KS = 3720000 := rfl
  have e7 : TXB = 10000000 := rfl
  have hTX : qn S6 < TXB := by have := hv7.1; omega
  refine va_newq (C := "java/lang/String") (N' := 24) hx hb hown (hts _ kx_827) (ao_of (by exact ao_java_lang_String) hex) hR.K hR.P hR.D hR.sS hA (by decide) (by decide) (by have := hv7.2; omega) (show 0 + 1 + 1 ≤ KC - qn S from hlg.c1 hv7.1) (show 0 + 24 + 24 ≤ KS - qu S from hlg.s1 hv7.2) dX13_init_16 (fun q8 cA9 H hK9 hP hD hS => ?_)
  obtain rfl := cls_newR2 hR.K hK9 (k := 4) rfl
  have hw8 := hR.w
  have hR := hR.new (t := 5) (n := 24) (k := 24) hTX (by decide) (fun q9 => absurd q9 (by decide)) wN_cS hP hD hS
  have hk8 : adk am3 (adx am3 (qn S6) q8) S6 := adk.rf.new (Nat.le_refl _) hTX
  have hak := hak.new (q := q8) hlg.2.2.1 hTX
  have hE := hE.ad hk8
  have hlg : lg S (wN S6 5 24 24) (0 + 1 + 1) (0 + 24 + 24) := hlg.new (t := 5) (n := 24) ⟨hv7.1, hv7.2⟩
  have hs8 : shx S6 (wN S6 5 24 24) := shx.newZ (t := 5) (n := 24) (k := 24) shx.rf hw8 hTX
  obtain ⟨am9, eam9⟩ : ∃ z, z = adx am3 (qn S6) q8 := ⟨_, rfl⟩
  have eq_q8 : am9 (qn S6) = q8 := by rw [eam9]; exact if_pos rfl
  rw [← eam9] at hR hk8 hak hE
  obtain ⟨S10, eS10⟩ : ∃ z, z = wN S6 5 24 24 := ⟨_, rfl⟩
  rw [← eS10] at hR hlg hs8
  replace h := h S10 eS10
  have hsh := hsh.tr hs8
  have hT_b11 : qT S10 (qn S6) = 5 := by rw [eS10]; exact if_pos rfl
  have ea_0 : am9 p0 = am3 p0 := hk8 _ (hw8.hd hT_p0 (by decide) (by decide))
  have hT_p0 := hs8.T hT_p0 (by decide)
  have hl : lv_has ls 1 [(0, .ref (am9 p0))] := by simp only [ea_0]; exact hl
  refine W.eq (g2 := F0 m 19 ls [.ref (am9 (qn S6)), .ref (am9 p0)]) (by simp only [ea_0, eq_q8]) ?_
  clear hw8 hk8 hs8 hP hD hS e9 e8 e7 hTX
  refine va_putF (D := rD g) (ci := 12) (v := .ref (am9 (qn S6))) (ty := (.array (.object "java/lang/String"))) (C := RX13) (T := TX13) (N := 23) hx hb hts in2X13 tyX13 tyX13_ok nmX13 hown hR.K hR.P hR.D hR.sS p0 (hR.at13 hT_p0) rfl 6 (by decide) (hts _ kx_829) (fun _ h9 => h9) rfl hin9 rfl (by decide +kernel) rfl rfl (Nat.le_of_ble_eq_true rfl) dX13_init_19 (fun H locs hP hD hS => ?_)
  have hw9 : wfMZ (wR S10 p0 6 (some (qn S6))) := hR.w.put (fun b q9 => by cases q9; exact (hT_b11).trans (by rw [hT_p0]; rfl)) (fun q9 => absurd ((congrArg (qT S10) q9).symm.trans hT_p0) (by rw [hR.w.1]; decide)) (by rw [hT_p0]; decide)
  have hR : RepZ g am9 A s (wR S10 p0 6 (some (qn S6))) H locs := hR.pR3 hT_p0 F13_s6 hw9 hP hD hS
  obtain ⟨S12, eS12⟩ : ∃ z, z = wR S10 p0 6 (some (qn S6)) := ⟨_, rfl⟩
  rw [← eS12] at hR
  replace h := h S12 eS12
  have hT_p0 : qT S12 p0 = 11 := (congrArg (fun z => qT z p0) eS12).trans hT_p0
  have hsh : shx S S12 := by rw [eS12]; exact hsh
  have hlg : lg S S12 (0 + 1 + 1) (0 + 24 + 24) := by rw [eS12]; exact hlg
  refine lv_aload_n hx hb dX13_init_22 rfl (lv_at hl 0 rfl) ?_
  refine lv_bipush (v := 24) hx hb dX13_init_23 (by decide) ?_
  obtain ⟨hv13, h⟩ := h
  have e9 : KC = 300000 := rfl
  have e8 : KS = 3720000 := rfl
  have e7 : TXB = 10000000 := rfl
  have hTX : qn S12 < TXB := by have := hv13.1; omega
  refine va_newq (C := "java/lang/String") (N' := 24) hx hb hown (hts _ kx_827) (ao_of (by exact ao_java_lang_String) hex) hR.K hR.P hR.D hR.sS hA (by decide) (by decide) (by have := hv13.2; omega) (show 0 + 1 + 1 + 1 ≤ KC - qn S from hlg.c1 hv13.1) (show 0 + 24 + 24 + 24 ≤ KS - qu S from hlg.s1 hv13.2) dX13_init_25 (fun q14 cA9 H hK9 hP hD hS => ?_)
  obtain rfl := cls_newR2 hR.K hK9 (k := 4) rfl
  have hw8 := hR.w
  have hR := hR.new (t := 5) (n := 24) (k := 24) hTX (by decide) (fun q9 => absurd q9 (by decide)) wN_cS hP hD hS
  have hk8 : adk am9 (adx am9 (qn S12) q14) S12 := adk.rf.new (Nat.le_refl _) hTX
  have hak := hak.new (q := q14) hlg.2.2.1 hTX
  have hE := hE.ad hk8
  have hlg : lg S (wN S12 5 24 24) (0 + 1 + 1 + 1) (0 + 24 + 24 + 24) := hlg.new (t := 5) (n := 24) ⟨hv13.1, hv13.2⟩
  have hs8 : shx S12 (wN S12 5 24 24) := shx.newZ (t := 5) (n := 24) (k := 24) shx.rf hw8 hTX
  obtain ⟨am15, eam15⟩ : ∃ z, z = adx am9 (qn S12) q14 := ⟨_, rfl⟩
  have eq_q14 : am15 (qn S12) = q14 := by rw [eam15]; exact if_pos rfl
  rw [← eam15] at hR hk8 hak hE
  obtain ⟨S16, eS16⟩ : ∃ z, z = wN S12 5 24 24 := ⟨_, rfl⟩
  rw [← eS16] at hR hlg hs8
  replace h := h S16 eS16
  have hsh := hsh.tr hs8
  have hT_b17 : qT S16 (qn S12) = 5 := by rw [eS16]; exact if_pos rfl
  have ea_0 : am15 p0 = am9 p0 := hk8 _ (hw8.hd hT_p0 (by decide) (by decide))
  have hT_p0 := hs8.T hT_p0 (by decide)
  have hl : lv_has ls 1 [(0, .ref (am15 p0))] := by simp only [ea_0]; exact hl
  refine W.eq (g2 := F0 m 28 ls [.ref (am15 (qn S12)), .ref (am15 p0)]) (by simp only [ea_0, eq_q14]) ?_
  clear hw8 hk8 hs8 hP hD hS e9 e8 e7 hTX
  refine va_putF (D := rD g) (ci := 12) (v := .ref (am15 (qn S12))) (ty := (.array (.object "java/lang/String"))) (C := RX13) (T := TX13) (N := 23) hx hb hts in2X13 tyX13 tyX13_ok nmX13 hown hR.K hR.P hR.D hR.sS p0 (hR.at13 hT_p0) rfl 7 (by decide) (hts _ kx_830) (fun _ h9 => h9) rfl hin9 rfl (by decide +kernel) rfl rfl (Nat.le_of_ble_eq_true rfl) dX13_init_28 (fun H locs hP hD hS => ?_)
  have hw9 : wfMZ (wR S16 p0 7 (some (qn S12))) := hR.w.put (fun b q9 => by cases q9; exact (hT_b17).trans (by rw [hT_p0]; rfl)) (fun q9 => absurd ((congrArg (qT S16) q9).symm.trans hT_p0) (by rw [hR.w.1]; decide)) (by rw [hT_p0]; decide)
  have hR : RepZ g am15 A s (wR S16 p0 7 (some (qn S12))) H locs := hR.pR3 hT_p0 F13_s7 hw9 hP hD hS
  obtain ⟨S18, eS18⟩ : ∃ z, z = wR S16 p0 7 (some (qn S12)) := ⟨_, rfl⟩
  rw [← eS18] at hR
  replace h := h S18 eS18
  have hT_p0 : qT S18 p0 = 11 := (congrArg (fun z => qT z p0) eS18).trans hT_p0
  have hsh : shx S S18 := by rw [eS18]; exact hsh
  have hlg : lg S S18 (0 + 1 + 1 + 1) (0 + 24 + 24 + 24) := by rw [eS18]; exact hlg
  refine lv_aload_n hx hb dX13_init_31 rfl (lv_at hl 0 rfl) ?_
  refine lv_bipush (v := 24) hx hb dX13_init_32 (by decide) ?_
  obtain ⟨hv19, h⟩ := h
  have e9 : KC = 300000 := rfl
  have e8 : KS = 3720000 := rfl
  have e7 : TXB = 10000000 := rfl
  have hTX : qn S18 < TXB := by have := hv19.1; omega
  refine va_newq (C := "java/lang/String") (N' := 24) hx hb hown (hts _ kx_827) (ao_of (by exact ao_java_lang_String) hex) hR.K hR.P hR.D hR.sS hA (by decide) (by decide) (by have := hv19.2; omega) (show 0 + 1 + 1 + 1 + 1 ≤ KC - qn S from hlg.c1 hv19.1) (show 0 + 24 + 24 + 24 + 24 ≤ KS - qu S from hlg.s1 hv19.2) dX13_init_34 (fun q20 cA9 H hK9 hP hD hS => ?_)
  obtain rfl := cls_newR2 hR.K hK9 (k := 4) rfl
  have hw8 := hR.w
  have hR := hR.new (t := 5) (n := 24) (k := 24) hTX (by decide) (fun q9 => absurd q9 (by decide)) wN_cS hP hD hS
  have hk8 : adk am15 (adx am15 (qn S18) q20) S18 := adk.rf.new (Nat.le_refl _) hTX
  have hak := hak.new (q := q20) hlg.2.2.1 hTX
  have hE := hE.ad hk8
  have hlg : lg S (wN S18 5 24 24) (0 + 1 + 1 + 1 + 1) (0 + 24 + 24 + 24 + 24) := hlg.new (t := 5) (n := 24) ⟨hv19.1, hv19.2⟩
  have hs8 : shx S18 (wN S18 5 24 24) := shx.newZ (t := 5) (n := 24) (k := 24) shx.rf hw8 hTX
  obtain ⟨am21, eam21⟩ : ∃ z, z = adx am15 (qn S18) q20 := ⟨_, rfl⟩
  have eq_q20 : am21 (qn S18) = q20 := by rw [eam21]; exact if_pos rfl
  rw [← eam21] at hR hk8 hak hE
  obtain ⟨S22, eS22⟩ : ∃ z, z = wN S18 5 24 24 := ⟨_, rfl⟩
  rw [← eS22] at hR hlg hs8
  replace h := h S22 eS22
  have hsh := hsh.tr hs8
  have hT_b23 : qT S22 (qn S18) = 5 := by rw [eS22]; exact if_pos rfl
  have ea_0 : am21 p0 = am15 p0 := hk8 _ (hw8.hd hT_p0 (by decide) (by decide))
  have hT_p0 := hs8.T hT_p0 (by decide)
  have hl : lv_has ls 1 [(0, .ref (am21 p0))] := by simp only [ea_0]; exact hl
  refine W.eq (g2 := F0 m 37 ls [.ref (am21 (qn S18)), .ref (am21 p0)]) (by simp only [ea_0, eq_q20]) ?_
  clear hw8 hk8 hs8 hP hD hS e9 e8 e7 hTX
  refine va_putF (D := rD g) (ci := 12) (v := .ref (am21 (qn S18))) (ty := (.array (.object "java/lang/String"))) (C := RX13) (T := TX13) (N := 23) hx hb hts in2X13 tyX13 tyX13_ok nmX13 hown hR.K hR.P hR.D hR.sS p0 (hR.at13 hT_p0) rfl 8 (by decide) (hts _ kx_831) (fun _ h9 => h9) rfl hin9 rfl (by decide +kernel) rfl rfl (Nat.le_of_ble_eq_true rfl) dX13_init_37 (fun H locs hP hD hS => ?_)
  have hw9 : wfMZ (wR S22 p0 8 (some (qn S18))) := hR.w.put (fun b q9 => by cases q9; exact (hT_b23).trans (by rw [hT_p0]; rfl)) (fun q9 => absurd ((congrArg (qT S22) q9).symm.trans hT_p0) (by rw [hR.w.1]; decide)) (by rw [hT_p0]; decide)
  have hR : RepZ g am21 A s (wR S22 p0 8 (some (qn S18))) H locs := hR.pR3 hT_p0 F13_s8 hw9 hP hD hS
  obtain ⟨S24, eS24⟩ : ∃ z, z = wR S22 p0 8 (some (qn S18)) := ⟨_, rfl⟩
  rw [← eS24] at hR
  replace h := h S24 eS24
  have hT_p0 : qT S24 p0 = 11 := (congrArg (fun z => qT z p0) eS24).trans hT_p0
  have hsh : shx S S24 := by rw [eS24]; exact hsh
  have hlg : lg S S24 (0 + 1 + 1 + 1 + 1) (0 + 24 + 24 + 24 + 24) := by rw [eS24]; exact hlg
  refine lv_aload_n hx hb dX13_init_40 rfl (lv_at hl 0 rfl) ?_
  refine lv_bipush (v := 24) hx hb dX13_init_41 (by decide) ?_
  obtain ⟨hv25, h⟩ := h
  have e9 : KC = 300000 := rfl
  have e8 : KS = 3720000 := rfl
  have e7 : TXB = 10000000 := rfl
  have hTX : qn S24 < TXB := by have := hv25.1; omega
  refine va_newq (C := "java/lang/String") (N' := 24) hx hb hown (hts _ kx_827) (ao_of (by exact ao_java_lang_String) hex) hR.K hR.P hR.D hR.sS hA (by decide) (by decide) (by have := hv25.2; omega) (show 0 + 1 + 1 + 1 + 1 + 1 ≤ KC - qn S from hlg.c1 hv25.1) (show 0 + 24 + 24 + 24 + 24 + 24 ≤ KS - qu S from hlg.s1 hv25.2) dX13_init_43 (fun q26 cA9 H hK9 hP hD hS => ?_)
  obtain rfl := cls_newR2 hR.K hK9 (k := 4) rfl
  have hw8 := hR.w
  have hR := hR.new (t := 5) (n := 24) (k := 24) hTX (by decide) (fun q9 => absurd q9 (by decide)) wN_cS hP hD hS
  have hk8 : adk am21 (adx am21 (qn S24) q26) S24 := adk.rf.new (Nat.le_refl _) hTX
  have hak := hak.new (q := q26) hlg.2.2.1 hTX
  have hE := hE.ad hk8
  have hlg : lg S (wN S24 5 24 24) (0 + 1 + 1 + 1 + 1 + 1) (0 + 24 + 24 + 24 + 24 + 24) := hlg.new (t := 5) (n := 24) ⟨hv25.1, hv25.2⟩
  have hs8 : shx S24 (wN S24 5 24 24) := shx.newZ (t := 5) (n := 24) (k := 24) shx.rf hw8 hTX
  obtain ⟨am27, eam27⟩ : ∃ z, z = adx am21 (qn S24) q26 := ⟨_, rfl⟩
  have eq_q26 : am27 (qn S24) = q26 := by rw [eam27]; exact if_pos rfl
  rw [← eam27] at hR hk8 hak hE
  obtain ⟨S28, eS28⟩ : ∃ z, z = wN S24 5 24 24 := ⟨_, rfl⟩
  rw [← eS28] at hR hlg hs8
  replace h := h S28 eS28
  have hsh := hsh.tr hs8
  have hT_b29 : qT S28 (qn S24) = 5 := by rw [eS28]; exact if_pos rfl
  have ea_0 : am27 p0 = am21 p0 := hk8 _ (hw8.hd hT_p0 (by decide) (by decide))
  have hT_p0 := hs8.T hT_p0 (by decide)
  have hl : lv_has ls 1 [(0, .ref (am27 p0))] := by simp only [ea_0]; exact hl
  refine W.eq (g2 := F0 m 46 ls [.ref (am27 (qn S24)), .ref (am27 p0)]) (by simp only [ea_0, eq_q26]) ?_
  clear hw8 hk8 hs8 hP hD hS e9 e8 e7 hTX
  refine va_putF (D := rD g) (ci := 12) (v := .ref (am27 (qn S24))) (ty := (.array (.object "java/lang/String"))) (C := RX13) (T := TX13) (N := 23) hx hb hts in2X13 tyX13 tyX13_ok nmX13 hown hR.K hR.P hR.D hR.sS p0 (hR.at13 hT_p0) rfl 9 (by decide) (hts _ kx_832) (fun _ h9 => h9) rfl hin9 rfl (by decide +kernel) rfl rfl (Nat.le_of_ble_eq_true rfl) dX13_init_46 (fun H locs hP hD hS => ?_)
  have hw9 : wfMZ (wR S28 p0 9 (some (qn S24))) := hR.w.put (fun b q9 => by cases q9; exact (hT_b29).trans (by rw [hT_p0]; rfl)) (fun q9 => absurd ((congrArg (qT S28) q9).symm.trans hT_p0) (by rw [hR.w.1]; decide)) (by rw [hT_p0]; decide)
  have hR : RepZ g am27 A s (wR S28 p0 9 (some (qn S24))) H locs := hR.pR3 hT_p0 F13_s9 hw9 hP hD hS
  obtain ⟨S30, eS30⟩ : ∃ z, z = wR S28 p0 9 (some (qn S24)) := ⟨_, rfl⟩
  rw [← eS30] at hR
  replace h := h S30 eS30
  have hT_p0 : qT S30 p0 = 11 := (congrArg (fun z => qT z p0) eS30).trans hT_p0
  have hsh : shx S S30 := by rw [eS30]; exact hsh
  have hlg : lg S S30 (0 + 1 + 1 + 1 + 1 + 1) (0 + 24 + 24 + 24 + 24 + 24) := by rw [eS30]; exact hlg
  refine lv_aload_n hx hb dX13_init_49 rfl (lv_at hl 0 rfl) ?_
  refine lv_bipush (v := 24) hx hb dX13_init_50 (by decide) ?_
  obtain ⟨hv31, h⟩ := h
  have e9 : KC = 300000 := rfl
  have e8 : KS = 3720000 := rfl
  have e7 : TXB = 10000000 := rfl
  have hTX : qn S30 < TXB := by have := hv31.1; omega
  refine va_newq (C := "java/lang/String") (N' := 24) hx hb hown (hts _ kx_827) (ao_of (by exact ao_java_lang_String) hex) hR.K hR.P hR.D hR.sS hA (by decide) (by decide) (by have := hv31.2; omega) (show 0 + 1 + 1 + 1 + 1 + 1 + 1 ≤ KC - qn S from hlg.c1 hv31.1) (show 0 + 24 + 24 + 24 + 24 + 24 + 24 ≤ KS - qu S from hlg.s1 hv31.2) dX13_init_52 (fun q32 cA9 H hK9 hP hD hS => ?_)
  obtain rfl := cls_newR2 hR.K hK9 (k := 4) rfl
  have hw8 := hR.w
  have hR := hR.new (t := 5) (n := 24) (k := 24) hTX (by decide) (fun q9 => absurd q9 (by decide)) wN_cS hP hD hS
  have hk8 : adk am27 (adx am27 (qn S30) q32) S30 := adk.rf.new (Nat.le_refl _) hTX
  have hak := hak.new (q := q32) hlg.2.2.1 hTX
  have hE := hE.ad hk8
  have hlg : lg S (wN S30 5 24 24) (0 + 1 + 1 + 1 + 1 + 1 + 1) (0 + 24 + 24 + 24 + 24 + 24 + 24) := hlg.new (t := 5) (n := 24) ⟨hv31.1, hv31.2⟩
  have hs8 : shx S30 (wN S30 5 24 24) := shx.newZ (t := 5) (n := 24) (k := 24) shx.rf hw8 hTX
  obtain ⟨am33, eam33⟩ : ∃ z, z = adx am27 (qn S30) q32 := ⟨_, rfl⟩
  have eq_q32 : am33 (qn S30) = q32 := by rw [eam33]; exact if_pos rfl
  rw [← eam33] at hR hk8 hak hE
  obtain ⟨S34, eS34⟩ : ∃ z, z = wN S30 5 24 24 := ⟨_, rfl⟩
  rw [← eS34] at hR hlg hs8
  replace h := h S34 eS34
  have hsh := hsh.tr hs8
  have hT_b35 : qT S34 (qn S30) = 5 := by rw [eS34]; exact if_pos rfl
  have ea_0 : am33 p0 = am27 p0 := hk8 _ (hw8.hd hT_p0 (by decide) (by decide))
  have hT_p0 := hs8.T hT_p0 (by decide)
  have hl : lv_has ls 1 [(0, .ref (am33 p0))] := by simp only [ea_0]; exact hl
  refine W.eq (g2 := F0 m 55 ls [.ref (am33 (qn S30)), .ref (am33 p0)]) (by simp only [ea_0, eq_q32]) ?_
  clear hw8 hk8 hs8 hP hD hS e9 e8 e7 hTX
  refine va_putF (D := rD g) (ci := 12) (v := .ref (am33 (qn S30))) (ty := (.array (.object "java/lang/String"))) (C := RX13) (T := TX13) (N := 23) hx hb hts in2X13 tyX13 tyX13_ok nmX13 hown hR.K hR.P hR.D hR.sS p0 (hR.at13 hT_p0) rfl 10 (by decide) (hts _ kx_833) (fun _ h9 => h9) rfl hin9 rfl (by decide +kernel) rfl rfl (Nat.le_of_ble_eq_true rfl) dX13_init_55 (fun H locs hP hD hS => ?_)
  have hw9 : wfMZ (wR S34 p0 10 (some (qn S30))) := hR.w.put (fun b q9 => by cases q9; exact (hT_b35).trans (by rw [hT_p0]; rfl)) (fun q9 => absurd ((congrArg (qT S34) q9).symm.trans hT_p0) (by rw [hR.w.1]; decide)) (by rw [hT_p0]; decide)
  have hR : RepZ g am33 A s (wR S34 p0 10 (some (qn S30))) H locs := hR.pR3 hT_p0 F13_s10 hw9 hP hD hS
  obtain ⟨S36, eS36⟩ : ∃ z, z = wR S34 p0 10 (some (qn S30)) := ⟨_, rfl⟩
  rw [← eS36] at hR
  replace h := h S36 eS36
  have hT_p0 : qT S36 p0 = 11 := (congrArg (fun z => qT z p0) eS36).trans hT_p0
  have hsh : shx S S36 := by rw [eS36]; exact hsh
  have hlg : lg S S36 (0 + 1 + 1 + 1 + 1 + 1 + 1) (0 + 24 + 24 + 24 + 24 + 24 + 24) := by rw [eS36]; exact hlg
  refine lv_aload_n hx hb dX13_init_58 rfl (lv_at hl 0 rfl) ?_
  refine lv_bipush (v := 24) hx hb dX13_init_59 (by decide) ?_
  obtain ⟨hv37, h⟩ := h
  have e9 : KC = 300000 := rfl
  have e8 : KS = 3720000 := rfl
  have e7 : TXB = 10000000 := rfl
  have hTX : qn S36 < TXB := by have := hv37.1; omega
  refine va_newq (C := "java/lang/String") (N' := 24) hx hb hown (hts _ kx_827) (ao_of (by exact ao_java_lang_String) hex) hR.K hR.P hR.D hR.sS hA (by decide) (by decide) (by have := hv37.2; omega) (show 0 + 1 + 1 + 1 + 1 + 1 + 1 + 1 ≤ KC - qn S from hlg.c1 hv37.1) (show 0 + 24 + 24 + 24 + 24 + 24 + 24 + 24 ≤ KS - qu S from hlg.s1 hv37.2) dX13_init_61 (fun q38 cA9 H hK9 hP hD hS => ?_)
  obtain rfl := cls_newR2 hR.K hK9 (k := 4) rfl
  have hw8 := hR.w
  have hR := hR.new (t := 5) (n := 24) (k := 24) hTX (by decide) (fun q9 => absurd q9 (by decide)) wN_cS hP hD hS
  have hk8 : adk am33 (adx am33 (qn S36) q38) S36 := adk.rf.new (Nat.le_refl _) hTX
  have hak := hak.new (q := q38) hlg.2.2.1 hTX
  have hE := hE.ad hk8
  have hlg : lg S (wN S36 5 24 24) (0 + 1 + 1 + 1 + 1 + 1 + 1 + 1) (0 + 24 + 24 + 24 + 24 + 24 + 24 + 24) := hlg.new (t := 5) (n := 24) ⟨hv37.1, hv37.2⟩
  have hs8 : shx S36 (wN S36 5 24 24) := shx.newZ (t := 5) (n := 24) (k := 24) shx.rf hw8 hTX
  obtain ⟨am39, eam39⟩ : ∃ z, z = adx am33 (qn S36) q38 := ⟨_, rfl⟩
  have eq_q38 : am39 (qn S36) = q38 := by rw [eam39]; exact if_pos rfl
  rw [← eam39] at hR hk8 hak hE
  obtain ⟨S40, eS40⟩ : ∃ z, z = wN S36 5 24 24 := ⟨_, rfl⟩
  rw [← eS40] at hR hlg hs8
  replace h := h S40 eS40
  have hsh := hsh.tr hs8
  have hT_b41 : qT S40 (qn S36) = 5 := by rw [eS40]; exact if_pos rfl
  have ea_0 : am39 p0 = am33 p0 := hk8 _ (hw8.hd hT_p0 (by decide) (by decide))
  have hT_p0 := hs8.T hT_p0 (by decide)
  have hl : lv_has ls 1 [(0, .ref (am39 p0))] := by simp only [ea_0]; exact hl
  refine W.eq (g2 := F0 m 64 ls [.ref (am39 (qn S36)), .ref (am39 p0)]) (by simp only [ea_0, eq_q38]) ?_
  clear hw8 hk8 hs8 hP hD hS e9 e8 e7 hTX
  refine va_putF (D := rD g) (ci := 12) (v := .ref (am39 (qn S36))) (ty := (.array (.object "java/lang/String"))) (C := RX13) (T := TX13) (N := 23) hx hb hts in2X13 tyX13 tyX13_ok nmX13 hown hR.K hR.P hR.D hR.sS p0 (hR.at13 hT_p0) rfl 11 (by decide) (hts _ kx_834) (fun _ h9 => h9) rfl hin9 rfl (by decide +kernel) rfl rfl (Nat.le_of_ble_eq_true rfl) dX13_init_64 (fun H locs hP hD hS => ?_)
  have hw9 : wfMZ (wR S40 p0 11 (some (qn S36))) := hR.w.put (fun b q9 => by cases q9; exact (hT_b41).trans (by rw [hT_p0]; rfl)) (fun q9 => absurd ((congrArg (qT S40) q9).symm.trans hT_p0) (by rw [hR.w.1]; decide)) (by rw [hT_p0]; decide)
  have hR : RepZ g am39 A s (wR S40 p0 11 (some (qn S36))) H locs := hR.pR3 hT_p0 F13_s11 hw9 hP hD hS
  obtain ⟨S42, eS42⟩ : ∃ z, z = wR S40 p0 11 (some (qn S36)) := ⟨_, rfl⟩
  rw [← eS42] at hR
  replace h := h S42 eS42
  have hT_p0 : qT S42 p0 = 11 := (congrArg (fun z => qT z p0) eS42).trans hT_p0
  have hsh : shx S S42 := by rw [eS42]; exact hsh
  have hlg : lg S S42 (0 + 1 + 1 + 1 + 1 + 1 + 1 + 1) (0 + 24 + 24 + 24 + 24 + 24 + 24 + 24) := by rw [eS42]; exact hlg
  refine lv_aload_n hx hb dX13_init_67 rfl (lv_at hl 0 rfl) ?_
  refine lv_bipush (v := 24) hx hb dX13_init_68 (by decide) ?_
  obtain ⟨hv43, h⟩ := h
  have e9 : KC = 300000 := rfl
  have e8 : KS = 3720000 := rfl
  have e7 : TXB = 10000000 := rfl
  have hTX : qn S42 < TXB := by have := hv43.1; omega
  refine va_newa (atype := .int) (ty := .int) (a0 := (24, .inl (fun _ => 0))) (N' := 24) hx hb (hts (.arrayClass .int) kx_346) rfl hR.K hR.P hR.D hR.sS hA (fun _ => rfl) (by decide) (by decide) (by show 24 * 4 ≤ 536870912; have := hv43.2; omega) (show 0 + 1 + 1 + 1 + 1 + 1 + 1 + 1 + 1 ≤ KC - qn S from hlg.c1 hv43.1) (show 0 + 24 + 24 + 24 + 24 + 24 + 24 + 24 + 24 ≤ KS - qu S from hlg.s1 hv43.2) dX13_init_70 (fun q44 cA9 H hK9 hP hD hS => ?_)
  obtain rfl := cls_new2 hR.K hK9 (k := 1) rfl (fun _ h => by cases h)
  have hw8 := hR.w
  have hR := hR.new (t := 2) (n := 24) (k := 24) hTX (by decide) (fun q9 => absurd q9 (by decide)) wN_cI hP hD hS
  have hk8 : adk am39 (adx am39 (qn S42) q44) S42 := adk.rf.new (Nat.le_refl _) hTX
  have hak := hak.new (q := q44) hlg.2.2.1 hTX
  have hE := hE.ad hk8
  have hlg : lg S (wN S42 2 24 24) (0 + 1 + 1 + 1 + 1 + 1 + 1 + 1 + 1) (0 + 24 + 24 + 24 + 24 + 24 + 24 + 24 + 24) := hlg.new (t := 2) (n := 24) ⟨hv43.1, hv43.2⟩
  have hs8 : shx S42 (wN S42 2 24 24) := shx.newZ (t := 2) (n := 24) (k := 24) shx.rf hw8 hTX
  obtain ⟨am45, eam45⟩ : ∃ z, z = adx am39 (qn S42) q44 := ⟨_, rfl⟩
  have eq_q44 : am45 (qn S42) = q44 := by rw [eam45]; exact if_pos rfl
  rw [← eam45] at hR hk8 hak hE
  obtain ⟨S46, eS46⟩ : ∃ z, z = wN S42 2 24 24 := ⟨_, rfl⟩
  rw [← eS46] at hR hlg hs8
  replace h := h S46 eS46
  have hsh := hsh.tr hs8
  have hT_b47 : qT S46 (qn S42) = 2 := by rw [eS46]; exact if_pos rfl
  have ea_0 : am45 p0 = am39 p0 := hk8 _ (hw8.hd hT_p0 (by decide) (by decide))
  have hT_p0 := hs8.T hT_p0 (by decide)
  have hl : lv_has ls 1 [(0, .ref (am45 p0))] := by simp only [ea_0]; exact hl
  refine W.eq (g2 := F0 m 72 ls [.ref (am45 (qn S42)), .ref (am45 p0)]) (by simp only [ea_0, eq_q44]) ?_
  clear hw8 hk8 hs8 hP hD hS e9 e8 e7 hTX
  refine va_putF (D := rD g) (ci := 12) (v := .ref (am45 (qn S42))) (ty := (.array .int)) (C := RX13) (T := TX13) (N := 23) hx hb hts in2X13 tyX13 tyX13_ok nmX13 hown hR.K hR.P hR.D hR.sS p0 (hR.at13 hT_p0) rfl 12 (by decide) (hts _ kx_835) (fun _ h9 => h9) rfl hin9 rfl (by decide +kernel) rfl rfl (Nat.le_of_ble_eq_true rfl) dX13_init_72 (fun H locs hP hD hS => ?_)
  have hw9 : wfMZ (wR S46 p0 12 (some (qn S42))) := hR.w.put (fun b q9 => by cases q9; exact (hT_b47).trans (by rw [hT_p0]; rfl)) (fun q9 => absurd ((congrArg (qT S46) q9).symm.trans hT_p0) (by rw [hR.w.1]; decide)) (by rw [hT_p0]; decide)
  have hR : RepZ g am45 A s (wR S46 p0 12 (some (qn S42))) H locs := hR.pR3 hT_p0 F13_s12 hw9 hP hD hS
  obtain ⟨S48, eS48⟩ : ∃ z, z = wR S46 p0 12 (some (qn S42)) := ⟨_, rfl⟩
  rw [← eS48] at hR
  replace h := h S48 eS48
  have hT_p0 : qT S48 p0 = 11 := (congrArg (fun z => qT z p0) eS48).trans hT_p0
  have hsh : shx S S48 := by rw [eS48]; exact hsh
  have hlg : lg S S48 (0 + 1 + 1 + 1 + 1 + 1 + 1 + 1 + 1) (0 + 24 + 24 + 24 + 24 + 24 + 24 + 24 + 24) := by rw [eS48]; exact hlg
  refine lv_aload_n hx hb dX13_init_75 rfl (lv_at hl 0 rfl) ?_
  refine lv_bipush (v := 24) hx hb dX13_init_76 (by decide) ?_
  obtain ⟨hv49, h⟩ := h
  have e9 : KC = 300000 := rfl
  have e8 : KS = 3720000 := rfl
  have e7 : TXB = 10000000 := rfl
  have hTX : qn S48 < TXB := by have := hv49.1; omega
  refine va_newa (atype := .int) (ty := .int) (a0 := (24, .inl (fun _ => 0))) (N' := 24) hx hb (hts (.arrayClass .int) kx_346) rfl hR.K hR.P hR.D hR.sS hA (fun _ => rfl) (by decide) (by decide) (by show 24 * 4 ≤ 536870912; have := hv49.2; omega) (show 0 + 1 + 1 + 1 + 1 + 1 + 1 + 1 + 1 + 1 ≤ KC - qn S from hlg.c1 hv49.1) (show 0 + 24 + 24 + 24 + 24 + 24 + 24 + 24 + 24 + 24 ≤ KS - qu S from hlg.s1 hv49.2) dX13_init_78 (fun q50 cA9 H hK9 hP hD hS => ?_)
  obtain rfl := cls_new2 hR.K hK9 (k := 1) rfl (fun _ h => by cases h)
  have hw8 := hR.w
  have hR := hR.new (t := 2) (n := 24) (k := 24) hTX (by decide) (fun q9 => absurd q9 (by decide)) wN_cI hP hD hS
  have hk8 : adk am45 (adx am45 (qn S48) q50) S48 := adk.rf.new (Nat.le_refl _) hTX
  have hak := hak.new (q := q50) hlg.2.2.1 hTX
  have hE := hE.ad hk8
  have hlg : lg S (wN S48 2 24 24) (0 + 1 + 1 + 1 + 1 + 1 + 1 + 1 + 1 + 1) (0 + 24 + 24 + 24 + 24 + 24 + 24 + 24 + 24 + 24) := hlg.new (t := 2) (n := 24) ⟨hv49.1, hv49.2⟩
  have hs8 : shx S48 (wN S48 2 24 24) := shx.newZ (t := 2) (n := 24) (k := 24) shx.rf hw8 hTX
  obtain ⟨am51, eam51⟩ : ∃ z, z = adx am45 (qn S48) q50 := ⟨_, rfl⟩
  have eq_q50 : am51 (qn S48) = q50 := by rw [eam51]; exact if_pos rfl
  rw [← eam51] at hR hk8 hak hE
  obtain ⟨S52, eS52⟩ : ∃ z, z = wN S48 2 24 24 := ⟨_, rfl⟩
  rw [← eS52] at hR hlg hs8
  replace h := h S52 eS52
  have hsh := hsh.tr hs8
  have hT_b53 : qT S52 (qn S48) = 2 := by rw [eS52]; exact if_pos rfl
  have ea_0 : am51 p0 = am45 p0 := hk8 _ (hw8.hd hT_p0 (by decide) (by decide))
  have hT_p0 := hs8.T hT_p0 (by decide)
  have hl : lv_has ls 1 [(0, .ref (am51 p0))] := by simp only [ea_0]; exact hl
  refine W.eq (g2 := F0 m 80 ls [.ref (am51 (qn S48)), .ref (am51 p0)]) (by simp only [ea_0, eq_q50]) ?_
  clear hw8 hk8 hs8 hP hD hS e9 e8 e7 hTX
  refine va_putF (D := rD g) (ci := 12) (v := .ref (am51 (qn S48))) (ty := (.array .int)) (C := RX13) (T := TX13) (N := 23) hx hb hts in2X13 tyX13 tyX13_ok nmX13 hown hR.K hR.P hR.D hR.sS p0 (hR.at13 hT_p0) rfl 13 (by decide) (hts _ kx_836) (fun _ h9 => h9) rfl hin9 rfl (by decide +kernel) rfl rfl (Nat.le_of_ble_eq_true rfl) dX13_init_80 (fun H locs hP hD hS => ?_)
  have hw9 : wfMZ (wR S52 p0 13 (some (qn S48))) := hR.w.put (fun b q9 => by cases q9; exact (hT_b53).trans (by rw [hT_p0]; rfl)) (fun q9 => absurd ((congrArg (qT S52) q9).symm.trans hT_p0) (by rw [hR.w.1]; decide)) (by rw [hT_p0]; decide)
  have hR : RepZ g am51 A s (wR S52 p0 13 (some (qn S48))) H locs := hR.pR3 hT_p0 F13_s13 hw9 hP hD hS
  obtain ⟨S54, eS54⟩ : ∃ z, z = wR S52 p0 13 (some (qn S48)) := ⟨_, rfl⟩
  rw [← eS54] at hR
  replace h := h S54 eS54
  have hT_p0 : qT S54 p0 = 11 := (congrArg (fun z => qT z p0) eS54).trans hT_p0
  have hsh : shx S S54 := by rw [eS54]; exact hsh
  have hlg : lg S S54 (0 + 1 + 1 + 1 + 1 + 1 + 1 + 1 + 1 + 1) (0 + 24 + 24 + 24 + 24 + 24 + 24 + 24 + 24 + 24) := by rw [eS54]; exact hlg
  refine lv_aload_n hx hb dX13_init_83 rfl (lv_at hl 0 rfl) ?_
  refine lv_bipush (v := 24) hx hb dX13_init_84 (by decide) ?_
  obtain ⟨hv55, h⟩ := h
  have e9 : KC = 300000 := rfl
  have e8 : KS = 3720000 := rfl
  have e7 : TXB = 10000000 := rfl
  have hTX : qn S54 < TXB := by have := hv55.1; omega
  refine va_newa (atype := .int) (ty := .int) (a0 := (24, .inl (fun _ => 0))) (N' := 24) hx hb (hts (.arrayClass .int) kx_346) rfl hR.K hR.P hR.D hR.sS hA (fun _ => rfl) (by decide) (by decide) (by show 24 * 4 ≤ 536870912; have := hv55.2; omega) (show 0 + 1 + 1 + 1 + 1 + 1 + 1 + 1 + 1 + 1 + 1 ≤ KC - qn S from hlg.c1 hv55.1) (show 0 + 24 + 24 + 24 + 24 + 24 + 24 + 24 + 24 + 24 + 24 ≤ KS - qu S from hlg.s1 hv55.2) dX13_init_86 (fun q56 cA9 H hK9 hP hD hS => ?_)
  obtain rfl := cls_new2 hR.K hK9 (k := 1) rfl (fun _ h => by cases h)
  have hw8 := hR.w
  have hR := hR.new (t := 2) (n := 24) (k := 24) hTX (by decide) (fun q9 => absurd q9 (by decide)) wN_cI hP hD hS
  have hk8 : adk am51 (adx am51 (qn S54) q56) S54 := adk.rf.new (Nat.le_refl _) hTX
  have hak := hak.new (q := q56) hlg.2.2.1 hTX
  have hE := hE.ad hk8
  have hlg : lg S (wN S54 2 24 24) (0 + 1 + 1 + 1 + 1 + 1 + 1 + 1 + 1 + 1 + 1) (0 + 24 + 24 + 24 + 24 + 24 + 24 + 24 + 24 + 24 + 24) := hlg.new (t := 2) (n := 24) ⟨hv55.1, hv55.2⟩
  have hs8 : shx S54 (wN S54 2 24 24) := shx.newZ (t := 2) (n := 24) (k := 24) shx.rf hw8 hTX
  obtain ⟨am57, eam57⟩ : ∃ z, z = adx am51 (qn S54) q56 := ⟨_, rfl⟩
  have eq_q56 : am57 (qn S54) = q56 := by rw [eam57]; exact if_pos rfl
  rw [← eam57] at hR hk8 hak hE
  obtain ⟨S58, eS58⟩ : ∃ z, z = wN S54 2 24 24 := ⟨_, rfl⟩
  rw [← eS58] at hR hlg hs8
  replace h := h S58 eS58
  have hsh := hsh.tr hs8
  have hT_b59 : qT S58 (qn S54) = 2 := by rw [eS58]; exact if_pos rfl
  have ea_0 : am57 p0 = am51 p0 := hk8 _ (hw8.hd hT_p0 (by decide) (by decide))
  have hT_p0 := hs8.T hT_p0 (by decide)
  have hl : lv_has ls 1 [(0, .ref (am57 p0))] := by simp only [ea_0]; exact hl
  refine W.eq (g2 := F0 m 88 ls [.ref (am57 (qn S54)), .ref (am57 p0)]) (by simp only [ea_0, eq_q56]) ?_
  clear hw8 hk8 hs8 hP hD hS e9 e8 e7 hTX
  refine va_putF (D := rD g) (ci := 12) (v := .ref (am57 (qn S54))) (ty := (.array .int)) (C := RX13) (T := TX13) (N := 23) hx hb hts in2X13 tyX13 tyX13_ok nmX13 hown hR.K hR.P hR.D hR.sS p0 (hR.at13 hT_p0) rfl 14 (by decide) (hts _ kx_837) (fun _ h9 => h9) rfl hin9 rfl (by decide +kernel) rfl rfl (Nat.le_of_ble_eq_true rfl) dX13_init_88 (fun H locs hP hD hS => ?_)
  have hw9 : wfMZ (wR S58 p0 14 (some (qn S54))) := hR.w.put (fun b q9 => by cases q9; exact (hT_b59).trans (by rw [hT_p0]; rfl)) (fun q9 => absurd ((congrArg (qT S58) q9).symm.trans hT_p0) (by rw [hR.w.1]; decide)) (by rw [hT_p0]; decide)
  have hR : RepZ g am57 A s (wR S58 p0 14 (some (qn S54))) H locs := hR.pR3 hT_p0 F13_s14 hw9 hP hD hS
  obtain ⟨S60, eS60⟩ : ∃ z, z = wR S58 p0 14 (some (qn S54)) := ⟨_, rfl⟩
  rw [← eS60] at hR
  replace h := h S60 eS60
  have hT_p0 : qT S60 p0 = 11 := (congrArg (fun z => qT z p0) eS60).trans hT_p0
  have hsh : shx S S60 := by rw [eS60]; exact hsh
  have hlg : lg S S60 (0 + 1 + 1 + 1 + 1 + 1 + 1 + 1 + 1 + 1 + 1) (0 + 24 + 24 + 24 + 24 + 24 + 24 + 24 + 24 + 24 + 24) := by rw [eS60]; exact hlg
  refine lv_aload_n hx hb dX13_init_91 rfl (lv_at hl 0 rfl) ?_
  refine lv_bipush (v := 24) hx hb dX13_init_92 (by decide) ?_
  obtain ⟨hv61, h⟩ := h
  have e9 : KC = 300000 := rfl
  have e8 : KS = 3720000 := rfl
  have e7 : TXB = 10000000 := rfl
  have hTX : qn S60 < TXB := by have := hv61.1; omega
  refine va_newa (atype := .int) (ty := .int) (a0 := (24, .inl (fun _ => 0))) (N' := 24) hx hb (hts (.arrayClass .int) kx_346) rfl hR.K hR.P hR.D hR.sS hA (fun _ => rfl) (by decide) (by decide) (by show 24 * 4 ≤ 536870912; have := hv61.2; omega) (show 0 + 1 + 1 + 1 + 1 + 1 + 1 + 1 + 1 + 1 + 1 + 1 ≤ KC - qn S from hlg.c1 hv61.1) (show 0 + 24 + 24 + 24 + 24 + 24 + 24 + 24 + 24 + 24 + 24 + 24 ≤ KS - qu S from hlg.s1 hv61.2) dX13_init_94 (fun q62 cA9 H hK9 hP hD hS => ?_)
  obtain rfl := cls_new2 hR.K hK9 (k := 1) rfl (fun _ h => by cases h)
  have hw8 := hR.w
  have hR := hR.new (t := 2) (n := 24) (k := 24) hTX (by decide) (fun q9 => absurd q9 (by decide)) wN_cI hP hD hS
  have hk8 : adk am57 (adx am57 (qn S60) q62) S60 := adk.rf.new (Nat.le_refl _) hTX
  have hak := hak.new (q := q62) hlg.2.2.1 hTX
  have hE := hE.ad hk8
  have hlg : lg S (wN S60 2 24 24) (0 + 1 + 1 + 1 + 1 + 1 + 1 + 1 + 1 + 1 + 1 + 1) (0 + 24 + 24 + 24 + 24 + 24 + 24 + 24 + 24 + 24 + 24 + 24) := hlg.new (t := 2) (n := 24) ⟨hv61.1, hv61.2⟩
  have hs8 : shx S60 (wN S60 2 24 24) := shx.newZ (t := 2) (n := 24) (k := 24) shx.rf hw8 hTX
  obtain ⟨am63, eam63⟩ : ∃ z, z = adx am57 (qn S60) q62 := ⟨_, rfl⟩
  have eq_q62 : am63 (qn S60) = q62 := by rw [eam63]; exact if_pos rfl
  rw [← eam63] at hR hk8 hak hE
  obtain ⟨S64, eS64⟩ : ∃ z, z = wN S60 2 24 24 := ⟨_, rfl⟩
  rw [← eS64] at hR hlg hs8
  replace h := h S64 eS64
  have hsh := hsh.tr hs8
  have hT_b65 : qT S64 (qn S60) = 2 := by rw [eS64]; exact if_pos rfl
  have ea_0 : am63 p0 = am57 p0 := hk8 _ (hw8.hd hT_p0 (by decide) (by decide))
  have hT_p0 := hs8.T hT_p0 (by decide)
  have hl : lv_has ls 1 [(0, .ref (am63 p0))] := by simp only [ea_0]; exact hl
  refine W.eq (g2 := F0 m 96 ls [.ref (am63 (qn S60)), .ref (am63 p0)]) (by simp only [ea_0, eq_q62]) ?_
  clear hw8 hk8 hs8 hP hD hS e9 e8 e7 hTX
  refine va_putF (D := rD g) (ci := 12) (v := .ref (am63 (qn S60))) (ty := (.array .int)) (C := RX13) (T := TX13) (N := 23) hx hb hts in2X13 tyX13 tyX13_ok nmX13 hown hR.K hR.P hR.D hR.sS p0 (hR.at13 hT_p0) rfl 15 (by decide) (hts _ kx_838) (fun _ h9 => h9) rfl hin9 rfl (by decide +kernel) rfl rfl (Nat.le_of_ble_eq_true rfl) dX13_init_96 (fun H locs hP hD hS => ?_)
  have hw9 : wfMZ (wR S64 p0 15 (some (qn S60))) := hR.w.put (fun b q9 => by cases q9; exact (hT_b65).trans (by rw [hT_p0]; rfl)) (fun q9 => absurd ((congrArg (qT S64) q9).symm.trans hT_p0) (by rw [hR.w.1]; decide)) (by rw [hT_p0]; decide)
  have hR : RepZ g am63 A s (wR S64 p0 15 (some (qn S60))) H locs := hR.pR3 hT_p0 F13_s15 hw9 hP hD hS
  obtain ⟨S66, eS66⟩ : ∃ z, z = wR S64 p0 15 (some (qn S60)) := ⟨_, rfl⟩
  rw [← eS66] at hR
  replace h := h S66 eS66
  have hT_p0 : qT S66 p0 = 11 := (congrArg (fun z => qT z p0) eS66).trans hT_p0
  have hsh : shx S S66 := by rw [eS66]; exact hsh
  have hlg : lg S S66 (0 + 1 + 1 + 1 + 1 + 1 + 1 + 1 + 1 + 1 + 1 + 1) (0 + 24 + 24 + 24 + 24 + 24 + 24 + 24 + 24 + 24 + 24 + 24) := by rw [eS66]; exact hlg
  refine lv_aload_n hx hb dX13_init_99 rfl (lv_at hl 0 rfl) ?_
  refine lv_bipush (v := 24) hx hb dX13_init_100 (by decide) ?_
  obtain ⟨hv67, h⟩ := h
  have e9 : KC = 300000 := rfl
  have e8 : KS = 3720000 := rfl
  have e7 : TXB = 10000000 := rfl
  have hTX : qn S66 < TXB := by have := hv67.1; omega
  refine va_newa (atype := .int) (ty := .int) (a0 := (24, .inl (fun _ => 0))) (N' := 24) hx hb (hts (.arrayClass .int) kx_346) rfl hR.K hR.P hR.D hR.sS hA (fun _ => rfl) (by decide) (by decide) (by show 24 * 4 ≤ 536870912; have := hv67.2; omega) (show 0 + 1 + 1 + 1 + 1 + 1 + 1 + 1 + 1 + 1 + 1 + 1 + 1 ≤ KC - qn S from hlg.c1 hv67.1) (show 0 + 24 + 24 + 24 + 24 + 24 + 24 + 24 + 24 + 24 + 24 + 24 + 24 ≤ KS - qu S from hlg.s1 hv67.2) dX13_init_102 (fun q68 cA9 H hK9 hP hD hS => ?_)
  obtain rfl := cls_new2 hR.K hK9 (k := 1) rfl (fun _ h => by cases h)
  have hw8 := hR.w
  have hR := hR.new (t := 2) (n := 24) (k := 24) hTX (by decide) (fun q9 => absurd q9 (by decide)) wN_cI hP hD hS
  have hk8 : adk am63 (adx am63 (qn S66) q68) S66 := adk.rf.new (Nat.le_refl _) hTX
  have hak := hak.new (q := q68) hlg.2.2.1 hTX
  have hE := hE.ad hk8
  have hlg : lg S (wN S66 2 24 24) (0 + 1 + 1 + 1 + 1 + 1 + 1 + 1 + 1 + 1 + 1 + 1 + 1) (0 + 24 + 24 + 24 + 24 + 24 + 24 + 24 + 24 + 24 + 24 + 24 + 24) := hlg.new (t := 2) (n := 24) ⟨hv67.1, hv67.2⟩
  have hs8 : shx S66 (wN S66 2 24 24) := shx.newZ (t := 2) (n := 24) (k := 24) shx.rf hw8 hTX
  obtain ⟨am69, eam69⟩ : ∃ z, z = adx am63 (qn S66) q68 := ⟨_, rfl⟩
  have eq_q68 : am69 (qn S66) = q68 := by rw [eam69]; exact if_pos rfl
  rw [← eam69] at hR hk8 hak hE
  obtain ⟨S70, eS70⟩ : ∃ z, z = wN S66 2 24 24 := ⟨_, rfl⟩
  rw [← eS70] at hR hlg hs8
  replace h := h S70 eS70
  have hsh := hsh.tr hs8
  have hT_b71 : qT S70 (qn S66) = 2 := by rw [eS70]; exact if_pos rfl
  have ea_0 : am69 p0 = am63 p0 := hk8 _ (hw8.hd hT_p0 (by decide) (by decide))
  have hT_p0 := hs8.T hT_p0 (by decide)
  have hl : lv_has ls 1 [(0, .ref (am69 p0))] := by simp only [ea_0]; exact hl
  refine W.eq (g2 := F0 m 104 ls [.ref (am69 (qn S66)), .ref (am69 p0)]) (by simp only [ea_0, eq_q68]) ?_
  clear hw8 hk8 hs8 hP hD hS e9 e8 e7 hTX
  refine va_putF (D := rD g) (ci := 12) (v := .ref (am69 (qn S66))) (ty := (.array .int)) (C := RX13) (T := TX13) (N := 23) hx hb hts in2X13 tyX13 tyX13_ok nmX13 hown hR.K hR.P hR.D hR.sS p0 (hR.at13 hT_p0) rfl 16 (by decide) (hts _ kx_839) (fun _ h9 => h9) rfl hin9 rfl (by decide +kernel) rfl rfl (Nat.le_of_ble_eq_true rfl) dX13_init_104 (fun H locs hP hD hS => ?_)
  have hw9 : wfMZ (wR S70 p0 16 (some (qn S66))) := hR.w.put (fun b q9 => by cases q9; exact (hT_b71).trans (by rw [hT_p0]; rfl)) (fun q9 => absurd ((congrArg (qT S70) q9).symm.trans hT_p0) (by rw [hR.w.1]; decide)) (by rw [hT_p0]; decide)
  have hR : RepZ g am69 A s (wR S70 p0 16 (some (qn S66))) H locs := hR.pR3 hT_p0 F13_s16 hw9 hP hD hS
  obtain ⟨S72, eS72⟩ : ∃ z, z = wR S70 p0 16 (some (qn S66)) := ⟨_, rfl⟩
  rw [← eS72] at hR
  replace h := h S72 eS72
  have hT_p0 : qT S72 p0 = 11 := (congrArg (fun z => qT z p0) eS72).trans hT_p0
  have hsh : shx S S72 := by rw [eS72]; exact hsh
  have hlg : lg S S72 (0 + 1 + 1 + 1 + 1 + 1 + 1 + 1 + 1 + 1 + 1 + 1 + 1) (0 + 24 + 24 + 24 + 24 + 24 + 24 + 24 + 24 + 24 + 24 + 24 + 24) := by rw [eS72]; exact hlg
  refine lv_aload_n hx hb dX13_init_107 rfl (lv_at hl 0 rfl) ?_
  refine lv_bipush (v := 24) hx hb dX13_init_108 (by decide) ?_
  obtain ⟨hv73, h⟩ := h
  have e9 : KC = 300000 := rfl
  have e8 : KS = 3720000 := rfl
  have e7 : TXB = 10000000 := rfl
  have hTX : qn S72 < TXB := by have := hv73.1; omega
  refine va_newa (atype := .int) (ty := .int) (a0 := (24, .inl (fun _ => 0))) (N' := 24) hx hb (hts (.arrayClass .int) kx_346) rfl hR.K hR.P hR.D hR.sS hA (fun _ => rfl) (by decide) (by decide) (by show 24 * 4 ≤ 536870912; have := hv73.2; omega) (show 0 + 1 + 1 + 1 + 1 + 1 + 1 + 1 + 1 + 1 + 1 + 1 + 1 + 1 ≤ KC - qn S from hlg.c1 hv73.1) (show 0 + 24 + 24 + 24 + 24 + 24 + 24 + 24 + 24 + 24 + 24 + 24 + 24 + 24 ≤ KS - qu S from hlg.s1 hv73.2) dX13_init_110 (fun q74 cA9 H hK9 hP hD hS => ?_)
  obtain rfl := cls_new2 hR.K hK9 (k := 1) rfl (fun _ h => by cases h)
  have hw8 := hR.w
  have hR := hR.new (t := 2) (n := 24) (k := 24) hTX (by decide) (fun q9 => absurd q9 (by decide)) wN_cI hP hD hS
  have hk8 : adk am69 (adx am69 (qn S72) q74) S72 := adk.rf.new (Nat.le_refl _) hTX
  have hak := hak.new (q := q74) hlg.2.2.1 hTX
  have hE := hE.ad hk8
  have hlg : lg S (wN S72 2 24 24) (0 + 1 + 1 + 1 + 1 + 1 + 1 + 1 + 1 + 1 + 1 + 1 + 1 + 1) (0 + 24 + 24 + 24 + 24 + 24 + 24 + 24 + 24 + 24 + 24 + 24 + 24 + 24) := hlg.new (t := 2) (n := 24) ⟨hv73.1, hv73.2⟩
  have hs8 : shx S72 (wN S72 2 24 24) := shx.newZ (t := 2) (n := 24) (k := 24) shx.rf hw8 hTX
  obtain ⟨am75, eam75⟩ : ∃ z, z = adx am69 (qn S72) q74 := ⟨_, rfl⟩
  have eq_q74 : am75 (qn S72) = q74 := by rw [eam75]; exact if_pos rfl
  rw [← eam75] at hR hk8 hak hE
  obtain ⟨S76, eS76⟩ : ∃ z, z = wN S72 2 24 24 := ⟨_, rfl⟩
  rw [← eS76] at hR hlg hs8
  replace h := h S76 eS76
  have hsh := hsh.tr hs8
  have hT_b77 : qT S76 (qn S72) = 2 := by rw [eS76]; exact if_pos rfl
  have ea_0 : am75 p0 = am69 p0 := hk8 _ (hw8.hd hT_p0 (by decide) (by decide))
  have hT_p0 := hs8.T hT_p0 (by decide)
  have hl : lv_has ls 1 [(0, .ref (am75 p0))] := by simp only [ea_0]; exact hl
  refine W.eq (g2 := F0 m 112 ls [.ref (am75 (qn S72)), .ref (am75 p0)]) (by simp only [ea_0, eq_q74]) ?_
  clear hw8 hk8 hs8 hP hD hS e9 e8 e7 hTX
  refine va_putF (D := rD g) (ci := 12) (v := .ref (am75 (qn S72))) (ty := (.array .int)) (C := RX13) (T := TX13) (N := 23) hx hb hts in2X13 tyX13 tyX13_ok nmX13 hown hR.K hR.P hR.D hR.sS p0 (hR.at13 hT_p0) rfl 17 (by decide) (hts _ kx_840) (fun _ h9 => h9) rfl hin9 rfl (by decide +kernel) rfl rfl (Nat.le_of_ble_eq_true rfl) dX13_init_112 (fun H locs hP hD hS => ?_)
  have hw9 : wfMZ (wR S76 p0 17 (some (qn S72))) := hR.w.put (fun b q9 => by cases q9; exact (hT_b77).trans (by rw [hT_p0]; rfl)) (fun q9 => absurd ((congrArg (qT S76) q9).symm.trans hT_p0) (by rw [hR.w.1]; decide)) (by rw [hT_p0]; decide)
  have hR : RepZ g am75 A s (wR S76 p0 17 (some (qn S72))) H locs := hR.pR3 hT_p0 F13_s17 hw9 hP hD hS
  obtain ⟨S78, eS78⟩ : ∃ z, z = wR S76 p0 17 (some (qn S72)) := ⟨_, rfl⟩
  rw [← eS78] at hR
  replace h := h S78 eS78
  have hT_p0 : qT S78 p0 = 11 := (congrArg (fun z => qT z p0) eS78).trans hT_p0
  have hsh : shx S S78 := by rw [eS78]; exact hsh
  have hlg : lg S S78 (0 + 1 + 1 + 1 + 1 + 1 + 1 + 1 + 1 + 1 + 1 + 1 + 1 + 1) (0 + 24 + 24 + 24 + 24 + 24 + 24 + 24 + 24 + 24 + 24 + 24 + 24 + 24) := by rw [eS78]; exact hlg
  refine W_led2 (fun hLd => ?_)
  refine W.widen (k := KC - qn S) (n := KS - qu S) hlg.c hlg.s ?_
  exact W.vret hx hb hr (fun t9 ht9 hW9 => ⟨⟨(S78, am75), rfl, ⟨h, hR.w, hsh, hak⟩, ⟨⟨by rw [ht9]; exact hR.P, hR.D⟩, _, _, by rw [ht9]; exact hLd, hlg⟩⟩, hR.sS.F ht9⟩) hR.sS.2.2 dX13_init_115
