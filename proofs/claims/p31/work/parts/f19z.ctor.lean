def zX0_init (S : MS) (p0 : Nat) (Q : MS → Prop) : Prop := (((qn S + 1 ≤ KCC ∧ qu S + 64 ≤ KSC)) ∧ (∀ S4, S4 = wN S 101 64 64 → wfCZ S4 → (∀ S6, S6 = wR S4 p0 0 (some (qn S)) → qT S4 p0 = 40 → wfCZ S6 → Q S6)))
set_option maxHeartbeats 2000000 in
set_option maxRecDepth 100000 in
theorem rzX0_init (l : Launch) (g : Gr) (ad : Nat → Nat) (H0 : Heap) (S : MS) (p0 : Nat) (hw : wfCZ S) (hT_p0 : qT S p0 = 40) (Q : MS → Prop) (h : zX0_init S p0 Q) : Met l yX0_init (wt yX0_init cX0_init 1 none) ({ frames := 1, cells := KCC - qn S, slots := KSC - qu S, locals := 12 }) (va_Pc [.ref (ad p0)] (st_CH g ad H0 S)) (va_Qv (fun (u : MS × (Nat → Nat)) => Q u.1 ∧ wfCZ u.1 ∧ shx S u.1 ∧ adk ad u.2 S) (fun (u : MS × (Nat → Nat)) (t : State) => qEHC g (va_A (WdC g ad S) H0.size) S H0 u t) (va_A (WdC g ad S) H0.size)) (KCC - qn S) (KSC - qu S) (va_A (WdC g ad S) H0.size) := by
  refine Met.ofW (cc := cX0_init) (maxL := 1) (ret := none) (by decide) rfl ?_
  intro p e s m args below meth c s₁ B hml hv
  obtain ⟨rfl, hH0, hsz, hP, hK, hD0, hex, hE⟩ := hv
  have hx := B.exec
  have hb := B.bytes
  have hr := B.returns
  have hts0 := atoms_spec (ws := wt yX0_init cX0_init 1 none) B.pre
  have hts : ∀ w ∈ tb, w.before _ s = true := fun w h => hts0 w (List.mem_cons_of_mem _ h)
  have hown : s.vm.findClass RX0 = some m.cls := findClass_of_methodNamed B.named
  subst hH0
  have hD := hD0.self (sz := s.heap.size)
  generalize hAe : va_A (WdC g ad S) s.heap.size = A at hD hE ⊢
  have hA : ∀ q : Nat, s.heap.size ≤ q → A q := fun q h => by rw [← hAe]; exact Or.inr h
  have hR : RepCZ g ad A s S s.heap [] := ⟨hK, hP, hD, va_S.rf, hw⟩
  clear hK hP hD hD0
  have hl := lv_entry ([.ref (ad p0)]) (n := 1) (Nat.le_of_ble_eq_true rfl)
  rw [lg_entry_eq]
  generalize (lg_sl ([.ref (ad p0)]) ++ List.replicate (1 - (lg_sl ([.ref (ad p0)])).length) Slot.unset).toArray = ls at hl ⊢
  have hlg : lgC S S 0 0 := lgC.rf
  have hak : adk ad ad S := adk.rf
  have hin9 : meth.name = "<init>" := (name_of_methodNamed B.named B.method).1
  have hl : lv_has ls 1 [(0, .ref (ad p0))] := hl
  have hsh : shx S S := shx.rf
  unfold zX0_init at h
  refine lv_aload_n hx hb dX0_init_0 rfl (lv_at hl 0 rfl) ?_
  refine W.objInit hx hb hown (hts _ kw_8) (hts _ kw_9) (hts _ kw_10) rfl (by rw [hml]; exact hl.1) rfl dX0_init_1 (Nat.le_of_ble_eq_true rfl) (Nat.le_of_ble_eq_true rfl) ?_
  refine W.eq (g2 := F0 m 4 ls []) rfl ?_
  refine lv_aload_n hx hb dX0_init_4 rfl (lv_at hl 0 rfl) ?_
  refine lv_bipush (v := 64) hx hb dX0_init_5 (by decide) ?_
  obtain ⟨hv1, h⟩ := h
  have e9 : KCC = 300000 := rfl
  have e8 : KSC = 3553400 := rfl
  have e7 : TXB = 10000000 := rfl
  have hTX : qn S < TXB := by have := hv1.1; omega
  refine va_newa (atype := .byte) (ty := .byte) (a0 := (64, .inl (fun _ => 0))) (N' := 64) hx hb (hts (.arrayClass .byte) kw_11) rfl hR.K hR.P hR.D hR.sS hA (fun _ => rfl) (by decide) (by decide) (by show 64 * 1 ≤ 536870912; have := hv1.2; omega) (show 0 + 1 ≤ KCC - qn S from hlg.c1 hv1.1) (show 0 + 64 ≤ KSC - qu S from hlg.s1 hv1.2) dX0_init_7 (fun q2 cA9 H hK9 hP hD hS => ?_)
  obtain rfl := cls_new3 hR.K hK9 (k := 0) rfl (fun _ h => by cases h)
  have hw8 := hR.w
  have hR := hR.new (t := 101) (n := 64) (k := 64) hTX (by decide) (by have := hv1.2; omega) (wN_CB (by decide)) hP hD hS
  have hk8 : adk ad (adx ad (qn S) q2) S := adk.rf.new (Nat.le_refl _) hTX
  have hak := hak.new (q := q2) hlg.2.2.1 hTX
  have hE := hE.ad hk8
  have hlg : lgC S (wN S 101 64 64) (0 + 1) (0 + 64) := hlg.new (t := 101) (n := 64) ⟨hv1.1, hv1.2⟩
  have hs8 : shx S (wN S 101 64 64) := shx.newCZ (t := 101) (n := 64) (k := 64) shx.rf hw8 hTX
  obtain ⟨am3, eam3⟩ : ∃ z, z = adx ad (qn S) q2 := ⟨_, rfl⟩
  have eq_q2 : am3 (qn S) = q2 := by rw [eam3]; exact if_pos rfl
  rw [← eam3] at hR hk8 hak hE
  obtain ⟨S4, eS4⟩ : ∃ z, z = wN S 101 64 64 := ⟨_, rfl⟩
  rw [← eS4] at hR hlg hs8
  replace h := h S4 eS4 hR.w
  have hsh := hsh.tr hs8
  have hT_b5 : qT S4 (qn S) = 101 := by rw [eS4]; exact if_pos rfl
  have ea_0 : am3 p0 = ad p0 := hk8 _ (hw8.hd hT_p0 (by decide) (by decide))
  have hT_p0 := hs8.T hT_p0 (by decide)
  have hl : lv_has ls 1 [(0, .ref (am3 p0))] := by simp only [ea_0]; exact hl
  refine W.eq (g2 := F0 m 9 ls [.ref (am3 (qn S)), .ref (am3 p0)]) (by simp only [ea_0, eq_q2]) ?_
  clear hw8 hk8 hs8 hP hD hS e9 e8 e7 hTX
  refine va_put (D := rD g) (ci := 0) (v := .ref (am3 (qn S))) (ty := (.array .byte)) (C := RX0) (T := TX0) (N := 2) hx hb hts inX0 tyX0 tyX0_ok nmX0 hown hR.K hR.P hR.D hR.sS p0 (hR.at40 hT_p0) rfl 0 (by decide) (hts _ kw_5) (fun _ h9 => h9) rfl (by decide +kernel) rfl rfl (Nat.le_of_ble_eq_true rfl) dX0_init_9 (fun H locs hP hD hS => ?_)
  have hw9 : wfCZ (wR S4 p0 0 (some (qn S))) := hR.w.put (fun b q9 => by cases q9; exact (hT_b5).trans (by rw [hT_p0]; rfl)) (fun _ h9 => absurd h9 List.not_mem_nil) (by rw [hT_p0]; decide) (fun b _ q9 => absurd (show otgC (qT S4 p0) 0 = 0 by rw [hT_p0]; decide) q9) (fun _ => Option.some_ne_none _)
  have hTk9 : qT S4 p0 = 40 := hT_p0
  have hR : RepCZ g am3 A s (wR S4 p0 0 (some (qn S))) H locs := hR.pR40 hT_p0 FX0_s0 hw9 hP hD hS
  obtain ⟨S6, eS6⟩ : ∃ z, z = wR S4 p0 0 (some (qn S)) := ⟨_, rfl⟩
  rw [← eS6] at hR
  replace h := h S6 eS6 hTk9 hR.w
  have hT_p0 : qT S6 p0 = 40 := (congrArg (fun z => qT z p0) eS6).trans hT_p0
  have hsh : shx S S6 := by rw [eS6]; exact hsh
  have hlg : lgC S S6 (0 + 1) (0 + 64) := by rw [eS6]; exact hlg
  refine W_led2 (fun hLd => ?_)
  refine W.widen (k := KCC - qn S) (n := KSC - qu S) hlg.c hlg.s ?_
  exact W.vret hx hb hr (fun t9 ht9 hW9 => ⟨⟨(S6, am3), rfl, ⟨h, hR.w, hsh, hak⟩, ⟨⟨by rw [ht9]; exact hR.P, hR.D⟩, _, _, by rw [ht9]; exact hLd, hlg⟩⟩, hR.sS.F ht9⟩) hR.sS.2.2 dX0_init_12
def zX4_init (S : MS) (p0 : Nat) (Q : MS → Prop) : Prop := (((qn S + 1 ≤ KCC ∧ qu S + 0 ≤ KSC)) ∧ (∀ S4, S4 = wN S 213 0 0 → wfCZ S4 → (∀ S6, S6 = wR S4 p0 0 (some (qn S)) → qT S4 p0 = 44 → wfCZ S6 → (((qn S6 + 1 ≤ KCC ∧ qu S6 + 0 ≤ KSC)) ∧ (∀ S10, S10 = wN S6 214 0 0 → wfCZ S10 → (∀ S12, S12 = wR S10 p0 1 (some (qn S6)) → qT S10 p0 = 44 → wfCZ S12 → (((qn S12 + 1 ≤ KCC ∧ qu S12 + 0 ≤ KSC)) ∧ (∀ S16, S16 = wN S12 304 0 0 → wfCZ S16 → (∀ S18, S18 = wR S16 p0 2 (some (qn S12)) → qT S16 p0 = 44 → wfCZ S18 → Q S18)))))))))
set_option maxHeartbeats 2000000 in
set_option maxRecDepth 100000 in
theorem rzX4_init (l : Launch) (g : Gr) (ad : Nat → Nat) (H0 : Heap) (S : MS) (p0 : Nat) (hw : wfCZ S) (hT_p0 : qT S p0 = 44) (Q : MS → Prop) (h : zX4_init S p0 Q) : Met l yX4_init (wt yX4_init cX4_init 1 none) ({ frames := 1, cells := KCC - qn S, slots := KSC - qu S, locals := 12 }) (va_Pc [.ref (ad p0)] (st_CH g ad H0 S)) (va_Qv (fun (u : MS × (Nat → Nat)) => Q u.1 ∧ wfCZ u.1 ∧ shx S u.1 ∧ adk ad u.2 S) (fun (u : MS × (Nat → Nat)) (t : State) => qEHC g (va_A (WdC g ad S) H0.size) S H0 u t) (va_A (WdC g ad S) H0.size)) (KCC - qn S) (KSC - qu S) (va_A (WdC g ad S) H0.size) := by
  refine Met.ofW (cc := cX4_init) (maxL := 1) (ret := none) (by decide) rfl ?_
  intro p e s m args below meth c s₁ B hml hv
  obtain ⟨rfl, hH0, hsz, hP, hK, hD0, hex, hE⟩ := hv
  have hx := B.exec
  have hb := B.bytes
  have hr := B.returns
  have hts0 := atoms_spec (ws := wt yX4_init cX4_init 1 none) B.pre
  have hts : ∀ w ∈ tb, w.before _ s = true := fun w h => hts0 w (List.mem_cons_of_mem _ h)
  have hown : s.vm.findClass RX4 = some m.cls := findClass_of_methodNamed B.named
  subst hH0
  have hD := hD0.self (sz := s.heap.size)
  generalize hAe : va_A (WdC g ad S) s.heap.size = A at hD hE ⊢
  have hA : ∀ q : Nat, s.heap.size ≤ q → A q := fun q h => by rw [← hAe]; exact Or.inr h
  have hR : RepCZ g ad A s S s.heap [] := ⟨hK, hP, hD, va_S.rf, hw⟩
  clear hK hP hD hD0
  have hl := lv_entry ([.ref (ad p0)]) (n := 1) (Nat.le_of_ble_eq_true rfl)
  rw [lg_entry_eq]
  generalize (lg_sl ([.ref (ad p0)]) ++ List.replicate (1 - (lg_sl ([.ref (ad p0)])).length) Slot.unset).toArray = ls at hl ⊢
  have hlg : lgC S S 0 0 := lgC.rf
  have hak : adk ad ad S := adk.rf
  have hin9 : meth.name = "<init>" := (name_of_methodNamed B.named B.method).1
  have hl : lv_has ls 1 [(0, .ref (ad p0))] := hl
  have hsh : shx S S := shx.rf
  unfold zX4_init at h
  refine lv_aload_n hx hb dX4_init_0 rfl (lv_at hl 0 rfl) ?_
  refine W.objInit hx hb hown (hts _ kw_965) (hts _ kw_9) (hts _ kw_10) rfl (by rw [hml]; exact hl.1) rfl dX4_init_1 (Nat.le_of_ble_eq_true rfl) (Nat.le_of_ble_eq_true rfl) ?_
  refine W.eq (g2 := F0 m 4 ls []) rfl ?_
  refine lv_aload_n hx hb dX4_init_4 rfl (lv_at hl 0 rfl) ?_
  refine lv_iconst (v := 0) hx hb dX4_init_5 (by decide) ?_
  obtain ⟨hv1, h⟩ := h
  have e9 : KCC = 300000 := rfl
  have e8 : KSC = 3553400 := rfl
  have e7 : TXB = 10000000 := rfl
  have hTX : qn S < TXB := by have := hv1.1; omega
  refine va_newa (atype := .int) (ty := .int) (a0 := (0, .inl (fun _ => 0))) (N' := 0) hx hb (hts (.arrayClass .int) kw_51) rfl hR.K hR.P hR.D hR.sS hA (fun _ => rfl) (by decide) (by decide) (by show 0 * 4 ≤ 536870912; have := hv1.2; omega) (show 0 + 1 ≤ KCC - qn S from hlg.c1 hv1.1) (show 0 + 0 ≤ KSC - qu S from hlg.s1 hv1.2) dX4_init_6 (fun q2 cA9 H hK9 hP hD hS => ?_)
  obtain rfl := cls_new3 hR.K hK9 (k := 1) rfl (fun _ h => by cases h)
  have hw8 := hR.w
  have hR := hR.new (t := 213) (n := 0) (k := 0) hTX (by decide) (Nat.zero_le _) (wN_CI (by decide)) hP hD hS
  have hk8 : adk ad (adx ad (qn S) q2) S := adk.rf.new (Nat.le_refl _) hTX
  have hak := hak.new (q := q2) hlg.2.2.1 hTX
  have hE := hE.ad hk8
  have hlg : lgC S (wN S 213 0 0) (0 + 1) (0 + 0) := hlg.new (t := 213) (n := 0) ⟨hv1.1, hv1.2⟩
  have hs8 : shx S (wN S 213 0 0) := shx.newCZ (t := 213) (n := 0) (k := 0) shx.rf hw8 hTX
  obtain ⟨am3, eam3⟩ : ∃ z, z = adx ad (qn S) q2 := ⟨_, rfl⟩
  have eq_q2 : am3 (qn S) = q2 := by rw [eam3]; exact if_pos rfl
  rw [← eam3] at hR hk8 hak hE
  obtain ⟨S4, eS4⟩ : ∃ z, z = wN S 213 0 0 := ⟨_, rfl⟩
  rw [← eS4] at hR hlg hs8
  replace h := h S4 eS4 hR.w
  have hsh := hsh.tr hs8
  have hT_b5 : qT S4 (qn S) = 213 := by rw [eS4]; exact if_pos rfl
  have ea_0 : am3 p0 = ad p0 := hk8 _ (hw8.hd hT_p0 (by decide) (by decide))
  have hT_p0 := hs8.T hT_p0 (by decide)
  have hl : lv_has ls 1 [(0, .ref (am3 p0))] := by simp only [ea_0]; exact hl
  refine W.eq (g2 := F0 m 8 ls [.ref (am3 (qn S)), .ref (am3 p0)]) (by simp only [ea_0, eq_q2]) ?_
  clear hw8 hk8 hs8 hP hD hS e9 e8 e7 hTX
  refine va_put (D := rD g) (ci := 4) (v := .ref (am3 (qn S))) (ty := (.array .int)) (C := RX4) (T := TX4) (N := 8) hx hb hts inX4 tyX4 tyX4_ok nmX4 hown hR.K hR.P hR.D hR.sS p0 (hR.at44 hT_p0) rfl 0 (by decide) (hts _ kw_956) (fun _ h9 => h9) rfl (by decide +kernel) rfl rfl (Nat.le_of_ble_eq_true rfl) dX4_init_8 (fun H locs hP hD hS => ?_)
  have hw9 : wfCZ (wR S4 p0 0 (some (qn S))) := hR.w.put (fun b q9 => by cases q9; exact (hT_b5).trans (by rw [hT_p0]; rfl)) (fun _ h9 => absurd h9 List.not_mem_nil) (by rw [hT_p0]; decide) (fun b _ q9 => absurd (show otgC (qT S4 p0) 0 = 0 by rw [hT_p0]; decide) q9) (fun _ => Option.some_ne_none _)
  have hTk9 : qT S4 p0 = 44 := hT_p0
  have hR : RepCZ g am3 A s (wR S4 p0 0 (some (qn S))) H locs := hR.pR44 hT_p0 FX4_s0 hw9 hP hD hS
  obtain ⟨S6, eS6⟩ : ∃ z, z = wR S4 p0 0 (some (qn S)) := ⟨_, rfl⟩
  rw [← eS6] at hR
  replace h := h S6 eS6 hTk9 hR.w
  have hT_p0 : qT S6 p0 = 44 := (congrArg (fun z => qT z p0) eS6).trans hT_p0
  have hsh : shx S S6 := by rw [eS6]; exact hsh
  have hlg : lgC S S6 (0 + 1) (0 + 0) := by rw [eS6]; exact hlg
  refine lv_aload_n hx hb dX4_init_11 rfl (lv_at hl 0 rfl) ?_
  refine lv_iconst (v := 0) hx hb dX4_init_12 (by decide) ?_
  obtain ⟨hv7, h⟩ := h
  have e9 : KCC = 300000 := rfl
  have e8 : KSC = 3553400 := rfl
  have e7 : TXB = 10000000 := rfl
  have hTX : qn S6 < TXB := by have := hv7.1; omega
  refine va_newa (atype := .int) (ty := .int) (a0 := (0, .inl (fun _ => 0))) (N' := 0) hx hb (hts (.arrayClass .int) kw_51) rfl hR.K hR.P hR.D hR.sS hA (fun _ => rfl) (by decide) (by decide) (by show 0 * 4 ≤ 536870912; have := hv7.2; omega) (show 0 + 1 + 1 ≤ KCC - qn S from hlg.c1 hv7.1) (show 0 + 0 + 0 ≤ KSC - qu S from hlg.s1 hv7.2) dX4_init_13 (fun q8 cA9 H hK9 hP hD hS => ?_)
  obtain rfl := cls_new3 hR.K hK9 (k := 1) rfl (fun _ h => by cases h)
  have hw8 := hR.w
  have hR := hR.new (t := 214) (n := 0) (k := 0) hTX (by decide) (Nat.zero_le _) (wN_CI (by decide)) hP hD hS
  have hk8 : adk am3 (adx am3 (qn S6) q8) S6 := adk.rf.new (Nat.le_refl _) hTX
  have hak := hak.new (q := q8) hlg.2.2.1 hTX
  have hE := hE.ad hk8
  have hlg : lgC S (wN S6 214 0 0) (0 + 1 + 1) (0 + 0 + 0) := hlg.new (t := 214) (n := 0) ⟨hv7.1, hv7.2⟩
  have hs8 : shx S6 (wN S6 214 0 0) := shx.newCZ (t := 214) (n := 0) (k := 0) shx.rf hw8 hTX
  obtain ⟨am9, eam9⟩ : ∃ z, z = adx am3 (qn S6) q8 := ⟨_, rfl⟩
  have eq_q8 : am9 (qn S6) = q8 := by rw [eam9]; exact if_pos rfl
  rw [← eam9] at hR hk8 hak hE
  obtain ⟨S10, eS10⟩ : ∃ z, z = wN S6 214 0 0 := ⟨_, rfl⟩
  rw [← eS10] at hR hlg hs8
  replace h := h S10 eS10 hR.w
  have hsh := hsh.tr hs8
  have hT_b11 : qT S10 (qn S6) = 214 := by rw [eS10]; exact if_pos rfl
  have ea_0 : am9 p0 = am3 p0 := hk8 _ (hw8.hd hT_p0 (by decide) (by decide))
  have hT_p0 := hs8.T hT_p0 (by decide)
  have hl : lv_has ls 1 [(0, .ref (am9 p0))] := by simp only [ea_0]; exact hl
  refine W.eq (g2 := F0 m 15 ls [.ref (am9 (qn S6)), .ref (am9 p0)]) (by simp only [ea_0, eq_q8]) ?_
  clear hw8 hk8 hs8 hP hD hS e9 e8 e7 hTX
  refine va_put (D := rD g) (ci := 4) (v := .ref (am9 (qn S6))) (ty := (.array .int)) (C := RX4) (T := TX4) (N := 8) hx hb hts inX4 tyX4 tyX4_ok nmX4 hown hR.K hR.P hR.D hR.sS p0 (hR.at44 hT_p0) rfl 1 (by decide) (hts _ kw_957) (fun _ h9 => h9) rfl (by decide +kernel) rfl rfl (Nat.le_of_ble_eq_true rfl) dX4_init_15 (fun H locs hP hD hS => ?_)
  have hw9 : wfCZ (wR S10 p0 1 (some (qn S6))) := hR.w.put (fun b q9 => by cases q9; exact (hT_b11).trans (by rw [hT_p0]; rfl)) (fun _ h9 => absurd h9 List.not_mem_nil) (by rw [hT_p0]; decide) (fun b _ q9 => absurd (show otgC (qT S10 p0) 1 = 0 by rw [hT_p0]; decide) q9) (fun _ => Option.some_ne_none _)
  have hTk9 : qT S10 p0 = 44 := hT_p0
  have hR : RepCZ g am9 A s (wR S10 p0 1 (some (qn S6))) H locs := hR.pR44 hT_p0 FX4_s1 hw9 hP hD hS
  obtain ⟨S12, eS12⟩ : ∃ z, z = wR S10 p0 1 (some (qn S6)) := ⟨_, rfl⟩
  rw [← eS12] at hR
  replace h := h S12 eS12 hTk9 hR.w
  have hT_p0 : qT S12 p0 = 44 := (congrArg (fun z => qT z p0) eS12).trans hT_p0
  have hsh : shx S S12 := by rw [eS12]; exact hsh
  have hlg : lgC S S12 (0 + 1 + 1) (0 + 0 + 0) := by rw [eS12]; exact hlg
  refine lv_aload_n hx hb dX4_init_18 rfl (lv_at hl 0 rfl) ?_
  refine lv_iconst (v := 0) hx hb dX4_init_19 (by decide) ?_
  obtain ⟨hv13, h⟩ := h
  have e9 : KCC = 300000 := rfl
  have e8 : KSC = 3553400 := rfl
  have e7 : TXB = 10000000 := rfl
  have hTX : qn S12 < TXB := by have := hv13.1; omega
  refine va_newa (atype := .boolean) (ty := .boolean) (a0 := (0, .inl (fun _ => 0))) (N' := 0) hx hb (hts (.arrayClass .boolean) kw_553) rfl hR.K hR.P hR.D hR.sS hA (fun _ => rfl) (by decide) (by decide) (by show 0 * 1 ≤ 536870912; have := hv13.2; omega) (show 0 + 1 + 1 + 1 ≤ KCC - qn S from hlg.c1 hv13.1) (show 0 + 0 + 0 + 0 ≤ KSC - qu S from hlg.s1 hv13.2) dX4_init_20 (fun q14 cA9 H hK9 hP hD hS => ?_)
  obtain rfl := cls_new3 hR.K hK9 (k := 2) rfl (fun _ h => by cases h)
  have hw8 := hR.w
  have hR := hR.new (t := 304) (n := 0) (k := 0) hTX (by decide) (Nat.zero_le _) (wN_CZ (by decide)) hP hD hS
  have hk8 : adk am9 (adx am9 (qn S12) q14) S12 := adk.rf.new (Nat.le_refl _) hTX
  have hak := hak.new (q := q14) hlg.2.2.1 hTX
  have hE := hE.ad hk8
  have hlg : lgC S (wN S12 304 0 0) (0 + 1 + 1 + 1) (0 + 0 + 0 + 0) := hlg.new (t := 304) (n := 0) ⟨hv13.1, hv13.2⟩
  have hs8 : shx S12 (wN S12 304 0 0) := shx.newCZ (t := 304) (n := 0) (k := 0) shx.rf hw8 hTX
  obtain ⟨am15, eam15⟩ : ∃ z, z = adx am9 (qn S12) q14 := ⟨_, rfl⟩
  have eq_q14 : am15 (qn S12) = q14 := by rw [eam15]; exact if_pos rfl
  rw [← eam15] at hR hk8 hak hE
  obtain ⟨S16, eS16⟩ : ∃ z, z = wN S12 304 0 0 := ⟨_, rfl⟩
  rw [← eS16] at hR hlg hs8
  replace h := h S16 eS16 hR.w
  have hsh := hsh.tr hs8
  have hT_b17 : qT S16 (qn S12) = 304 := by rw [eS16]; exact if_pos rfl
  have ea_0 : am15 p0 = am9 p0 := hk8 _ (hw8.hd hT_p0 (by decide) (by decide))
  have hT_p0 := hs8.T hT_p0 (by decide)
  have hl : lv_has ls 1 [(0, .ref (am15 p0))] := by simp only [ea_0]; exact hl
  refine W.eq (g2 := F0 m 22 ls [.ref (am15 (qn S12)), .ref (am15 p0)]) (by simp only [ea_0, eq_q14]) ?_
  clear hw8 hk8 hs8 hP hD hS e9 e8 e7 hTX
  refine va_put (D := rD g) (ci := 4) (v := .ref (am15 (qn S12))) (ty := (.array .boolean)) (C := RX4) (T := TX4) (N := 8) hx hb hts inX4 tyX4 tyX4_ok nmX4 hown hR.K hR.P hR.D hR.sS p0 (hR.at44 hT_p0) rfl 2 (by decide) (hts _ kw_966) (fun _ h9 => h9) rfl (by decide +kernel) rfl rfl (Nat.le_of_ble_eq_true rfl) dX4_init_22 (fun H locs hP hD hS => ?_)
  have hw9 : wfCZ (wR S16 p0 2 (some (qn S12))) := hR.w.put (fun b q9 => by cases q9; exact (hT_b17).trans (by rw [hT_p0]; rfl)) (fun _ h9 => absurd h9 List.not_mem_nil) (by rw [hT_p0]; decide) (fun b _ q9 => absurd (show otgC (qT S16 p0) 2 = 0 by rw [hT_p0]; decide) q9) (fun _ => Option.some_ne_none _)
  have hTk9 : qT S16 p0 = 44 := hT_p0
  have hR : RepCZ g am15 A s (wR S16 p0 2 (some (qn S12))) H locs := hR.pR44 hT_p0 FX4_s2 hw9 hP hD hS
  obtain ⟨S18, eS18⟩ : ∃ z, z = wR S16 p0 2 (some (qn S12)) := ⟨_, rfl⟩
  rw [← eS18] at hR
  replace h := h S18 eS18 hTk9 hR.w
  have hT_p0 : qT S18 p0 = 44 := (congrArg (fun z => qT z p0) eS18).trans hT_p0
  have hsh : shx S S18 := by rw [eS18]; exact hsh
  have hlg : lgC S S18 (0 + 1 + 1 + 1) (0 + 0 + 0 + 0) := by rw [eS18]; exact hlg
  refine W_led2 (fun hLd => ?_)
  refine W.widen (k := KCC - qn S) (n := KSC - qu S) hlg.c hlg.s ?_
  exact W.vret hx hb hr (fun t9 ht9 hW9 => ⟨⟨(S18, am15), rfl, ⟨h, hR.w, hsh, hak⟩, ⟨⟨by rw [ht9]; exact hR.P, hR.D⟩, _, _, by rw [ht9]; exact hLd, hlg⟩⟩, hR.sS.F ht9⟩) hR.sS.2.2 dX4_init_25
def zX7_init (S : MS) (p0 : Nat) (Q : MS → Prop) : Prop := (((qn S + 1 ≤ KCC ∧ qu S + 0 ≤ KSC)) ∧ (∀ S4, S4 = wN S 101 0 0 → wfCZ S4 → (∀ S6, S6 = wR S4 p0 0 (some (qn S)) → qT S4 p0 = 46 → wfCZ S6 → (∀ S7, S7 = wI S6 p0 3 (-1 : Int32) → qT S6 p0 = 46 → wfCZ S7 → (((qn S7 + 1 ≤ KCC ∧ qu S7 + 500 ≤ KSC)) ∧ (∀ S11, S11 = wN S7 218 500 500 → wfCZ S11 → (∀ S13, S13 = wR S11 p0 4 (some (qn S7)) → qT S11 p0 = 46 → wfCZ S13 → (((qn S13 + 1 ≤ KCC ∧ qu S13 + 48 ≤ KSC)) ∧ (∀ S17, S17 = wN S13 219 48 48 → wfCZ S17 → (∀ S19, S19 = wR S17 p0 9 (some (qn S13)) → qT S17 p0 = 46 → wfCZ S19 → (((qn S19 + 1 ≤ KCC ∧ qu S19 + 24 ≤ KSC)) ∧ (∀ S23, S23 = wN S19 220 24 24 → wfCZ S23 → (∀ S25, S25 = wR S23 p0 10 (some (qn S19)) → qT S23 p0 = 46 → wfCZ S25 → (((qn S25 + 1 ≤ KCC ∧ qu S25 + 24 ≤ KSC)) ∧ (∀ S29, S29 = wN S25 221 24 24 → wfCZ S29 → (∀ S31, S31 = wR S29 p0 11 (some (qn S25)) → qT S29 p0 = 46 → wfCZ S31 → Q S31))))))))))))))))
set_option maxHeartbeats 2000000 in
set_option maxRecDepth 100000 in
theorem rzX7_init (l : Launch) (g : Gr) (ad : Nat → Nat) (H0 : Heap) (S : MS) (p0 : Nat) (hw : wfCZ S) (hT_p0 : qT S p0 = 46) (Q : MS → Prop) (h : zX7_init S p0 Q) : Met l yX7_init (wt yX7_init cX7_init 1 none) ({ frames := 1, cells := KCC - qn S, slots := KSC - qu S, locals := 12 }) (va_Pc [.ref (ad p0)] (st_CH g ad H0 S)) (va_Qv (fun (u : MS × (Nat → Nat)) => Q u.1 ∧ wfCZ u.1 ∧ shx S u.1 ∧ adk ad u.2 S) (fun (u : MS × (Nat → Nat)) (t : State) => qEHC g (va_A (WdC g ad S) H0.size) S H0 u t) (va_A (WdC g ad S) H0.size)) (KCC - qn S) (KSC - qu S) (va_A (WdC g ad S) H0.size) := by
  refine Met.ofW (cc := cX7_init) (maxL := 1) (ret := none) (by decide) rfl ?_
  intro p e s m args below meth c s₁ B hml hv
  obtain ⟨rfl, hH0, hsz, hP, hK, hD0, hex, hE⟩ := hv
  have hx := B.exec
  have hb := B.bytes
  have hr := B.returns
  have hts0 := atoms_spec (ws := wt yX7_init cX7_init 1 none) B.pre
  have hts : ∀ w ∈ tb, w.before _ s = true := fun w h => hts0 w (List.mem_cons_of_mem _ h)
  have hown : s.vm.findClass RX7 = some m.cls := findClass_of_methodNamed B.named
  subst hH0
  have hD := hD0.self (sz := s.heap.size)
  generalize hAe : va_A (WdC g ad S) s.heap.size = A at hD hE ⊢
  have hA : ∀ q : Nat, s.heap.size ≤ q → A q := fun q h => by rw [← hAe]; exact Or.inr h
  have hR : RepCZ g ad A s S s.heap [] := ⟨hK, hP, hD, va_S.rf, hw⟩
  clear hK hP hD hD0
  have hl := lv_entry ([.ref (ad p0)]) (n := 1) (Nat.le_of_ble_eq_true rfl)
  rw [lg_entry_eq]
  generalize (lg_sl ([.ref (ad p0)]) ++ List.replicate (1 - (lg_sl ([.ref (ad p0)])).length) Slot.unset).toArray = ls at hl ⊢
  have hlg : lgC S S 0 0 := lgC.rf
  have hak : adk ad ad S := adk.rf
  have hin9 : meth.name = "<init>" := (name_of_methodNamed B.named B.method).1
  have hl : lv_has ls 1 [(0, .ref (ad p0))] := hl
  have hsh : shx S S := shx.rf
  unfold zX7_init at h
  refine lv_aload_n hx hb dX7_init_0 rfl (lv_at hl 0 rfl) ?_
  refine W.objInit hx hb hown (hts _ kw_1340) (hts _ kw_9) (hts _ kw_10) rfl (by rw [hml]; exact hl.1) rfl dX7_init_1 (Nat.le_of_ble_eq_true rfl) (Nat.le_of_ble_eq_true rfl) ?_
  refine W.eq (g2 := F0 m 4 ls []) rfl ?_
  refine lv_aload_n hx hb dX7_init_4 rfl (lv_at hl 0 rfl) ?_
  refine lv_iconst (v := 0) hx hb dX7_init_5 (by decide) ?_
  obtain ⟨hv1, h⟩ := h
  have e9 : KCC = 300000 := rfl
  have e8 : KSC = 3553400 := rfl
  have e7 : TXB = 10000000 := rfl
  have hTX : qn S < TXB := by have := hv1.1; omega
  refine va_newa (atype := .byte) (ty := .byte) (a0 := (0, .inl (fun _ => 0))) (N' := 0) hx hb (hts (.arrayClass .byte) kw_11) rfl hR.K hR.P hR.D hR.sS hA (fun _ => rfl) (by decide) (by decide) (by show 0 * 1 ≤ 536870912; have := hv1.2; omega) (show 0 + 1 ≤ KCC - qn S from hlg.c1 hv1.1) (show 0 + 0 ≤ KSC - qu S from hlg.s1 hv1.2) dX7_init_6 (fun q2 cA9 H hK9 hP hD hS => ?_)
  obtain rfl := cls_new3 hR.K hK9 (k := 0) rfl (fun _ h => by cases h)
  have hw8 := hR.w
  have hR := hR.new (t := 101) (n := 0) (k := 0) hTX (by decide) (Nat.zero_le _) (wN_CB (by decide)) hP hD hS
  have hk8 : adk ad (adx ad (qn S) q2) S := adk.rf.new (Nat.le_refl _) hTX
  have hak := hak.new (q := q2) hlg.2.2.1 hTX
  have hE := hE.ad hk8
  have hlg : lgC S (wN S 101 0 0) (0 + 1) (0 + 0) := hlg.new (t := 101) (n := 0) ⟨hv1.1, hv1.2⟩
  have hs8 : shx S (wN S 101 0 0) := shx.newCZ (t := 101) (n := 0) (k := 0) shx.rf hw8 hTX
  obtain ⟨am3, eam3⟩ : ∃ z, z = adx ad (qn S) q2 := ⟨_, rfl⟩
  have eq_q2 : am3 (qn S) = q2 := by rw [eam3]; exact if_pos rfl
  rw [← eam3] at hR hk8 hak hE
  obtain ⟨S4, eS4⟩ : ∃ z, z = wN S 101 0 0 := ⟨_, rfl⟩
  rw [← eS4] at hR hlg hs8
  replace h := h S4 eS4 hR.w
  have hsh := hsh.tr hs8
  have hT_b5 : qT S4 (qn S) = 101 := by rw [eS4]; exact if_pos rfl
  have ea_0 : am3 p0 = ad p0 := hk8 _ (hw8.hd hT_p0 (by decide) (by decide))
  have hT_p0 := hs8.T hT_p0 (by decide)
  have hl : lv_has ls 1 [(0, .ref (am3 p0))] := by simp only [ea_0]; exact hl
  refine W.eq (g2 := F0 m 8 ls [.ref (am3 (qn S)), .ref (am3 p0)]) (by simp only [ea_0, eq_q2]) ?_
  clear hw8 hk8 hs8 hP hD hS e9 e8 e7 hTX
  refine va_put (D := rD g) (ci := 6) (v := .ref (am3 (qn S))) (ty := (.array .byte)) (C := RX7) (T := TX7) (N := 17) hx hb hts inX7 tyX7 tyX7_ok nmX7 hown hR.K hR.P hR.D hR.sS p0 (hR.at46 hT_p0) rfl 0 (by decide) (hts _ kw_1341) (fun _ h9 => h9) rfl (by decide +kernel) rfl rfl (Nat.le_of_ble_eq_true rfl) dX7_init_8 (fun H locs hP hD hS => ?_)
  have hw9 : wfCZ (wR S4 p0 0 (some (qn S))) := hR.w.put (fun b q9 => by cases q9; exact (hT_b5).trans (by rw [hT_p0]; rfl)) (fun _ h9 => absurd h9 List.not_mem_nil) (by rw [hT_p0]; decide) (fun b _ q9 => absurd (show otgC (qT S4 p0) 0 = 0 by rw [hT_p0]; decide) q9) (fun _ => Option.some_ne_none _)
  have hTk9 : qT S4 p0 = 46 := hT_p0
  have hR : RepCZ g am3 A s (wR S4 p0 0 (some (qn S))) H locs := hR.pR46 hT_p0 FX7_s0 hw9 hP hD hS
  obtain ⟨S6, eS6⟩ : ∃ z, z = wR S4 p0 0 (some (qn S)) := ⟨_, rfl⟩
  rw [← eS6] at hR
  replace h := h S6 eS6 hTk9 hR.w
  have hT_p0 : qT S6 p0 = 46 := (congrArg (fun z => qT z p0) eS6).trans hT_p0
  have hsh : shx S S6 := by rw [eS6]; exact hsh
  have hlg : lgC S S6 (0 + 1) (0 + 0) := by rw [eS6]; exact hlg
  refine lv_aload_n hx hb dX7_init_11 rfl (lv_at hl 0 rfl) ?_
  refine lv_iconst (v := (-1)) hx hb dX7_init_12 (by decide) ?_
  refine va_put (D := rD g) (ci := 6) (v := .int (-1)) (ty := .int) (C := RX7) (T := TX7) (N := 17) hx hb hts inX7 tyX7 tyX7_ok nmX7 hown hR.K hR.P hR.D hR.sS p0 (hR.at46 hT_p0) rfl 3 (by decide) (hts _ kw_1281) (fun _ h9 => h9) rfl (by decide +kernel) rfl rfl (Nat.le_of_ble_eq_true rfl) dX7_init_13 (fun H locs hP hD hS => ?_)
  have hTk9 : qT S6 p0 = 46 := hT_p0
  have hR : RepCZ g am3 A s (wI S6 p0 3 (-1 : Int32)) H locs := hR.pI46 hT_p0 FX7_s3 (fun q9 => absurd q9 (by decide)) hP hD hS
  obtain ⟨S7, eS7⟩ : ∃ z, z = wI S6 p0 3 (-1 : Int32) := ⟨_, rfl⟩
  rw [← eS7] at hR
  replace h := h S7 eS7 hTk9 hR.w
  have hT_p0 : qT S7 p0 = 46 := (congrArg (fun z => qT z p0) eS7).trans hT_p0
  have hsh : shx S S7 := by rw [eS7]; exact hsh
  have hlg : lgC S S7 (0 + 1) (0 + 0) := by rw [eS7]; exact hlg
  refine lv_aload_n hx hb dX7_init_16 rfl (lv_at hl 0 rfl) ?_
  refine lv_sipush (v := 500) hx hb dX7_init_17 (by decide) ?_
  obtain ⟨hv8, h⟩ := h
  have e9 : KCC = 300000 := rfl
  have e8 : KSC = 3553400 := rfl
  have e7 : TXB = 10000000 := rfl
  have hTX : qn S7 < TXB := by have := hv8.1; omega
  refine va_newa (atype := .int) (ty := .int) (a0 := (500, .inl (fun _ => 0))) (N' := 500) hx hb (hts (.arrayClass .int) kw_51) rfl hR.K hR.P hR.D hR.sS hA (fun _ => rfl) (by decide) (by decide) (by show 500 * 4 ≤ 536870912; have := hv8.2; omega) (show 0 + 1 + 1 ≤ KCC - qn S from hlg.c1 hv8.1) (show 0 + 0 + 500 ≤ KSC - qu S from hlg.s1 hv8.2) dX7_init_20 (fun q9 cA9 H hK9 hP hD hS => ?_)
  obtain rfl := cls_new3 hR.K hK9 (k := 1) rfl (fun _ h => by cases h)
  have hw8 := hR.w
  have hR := hR.new (t := 218) (n := 500) (k := 500) hTX (by decide) (by have := hv8.2; omega) (wN_CI (by decide)) hP hD hS
  have hk8 : adk am3 (adx am3 (qn S7) q9) S7 := adk.rf.new (Nat.le_refl _) hTX
  have hak := hak.new (q := q9) hlg.2.2.1 hTX
  have hE := hE.ad hk8
  have hlg : lgC S (wN S7 218 500 500) (0 + 1 + 1) (0 + 0 + 500) := hlg.new (t := 218) (n := 500) ⟨hv8.1, hv8.2⟩
  have hs8 : shx S7 (wN S7 218 500 500) := shx.newCZ (t := 218) (n := 500) (k := 500) shx.rf hw8 hTX
  obtain ⟨am10, eam10⟩ : ∃ z, z = adx am3 (qn S7) q9 := ⟨_, rfl⟩
  have eq_q9 : am10 (qn S7) = q9 := by rw [eam10]; exact if_pos rfl
  rw [← eam10] at hR hk8 hak hE
  obtain ⟨S11, eS11⟩ : ∃ z, z = wN S7 218 500 500 := ⟨_, rfl⟩
  rw [← eS11] at hR hlg hs8
  replace h := h S11 eS11 hR.w
  have hsh := hsh.tr hs8
  have hT_b12 : qT S11 (qn S7) = 218 := by rw [eS11]; exact if_pos rfl
  have ea_0 : am10 p0 = am3 p0 := hk8 _ (hw8.hd hT_p0 (by decide) (by decide))
  have hT_p0 := hs8.T hT_p0 (by decide)
  have hl : lv_has ls 1 [(0, .ref (am10 p0))] := by simp only [ea_0]; exact hl
  refine W.eq (g2 := F0 m 22 ls [.ref (am10 (qn S7)), .ref (am10 p0)]) (by simp only [ea_0, eq_q9]) ?_
  clear hw8 hk8 hs8 hP hD hS e9 e8 e7 hTX
  refine va_putF (D := rD g) (ci := 6) (v := .ref (am10 (qn S7))) (ty := (.array .int)) (C := RX7) (T := TX7) (N := 17) hx hb hts inX7 tyX7 tyX7_ok nmX7 hown hR.K hR.P hR.D hR.sS p0 (hR.at46 hT_p0) rfl 4 (by decide) (hts _ kw_1300) (fun _ h9 => h9) rfl hin9 rfl (by decide +kernel) rfl rfl (Nat.le_of_ble_eq_true rfl) dX7_init_22 (fun H locs hP hD hS => ?_)
  have hw9 : wfCZ (wR S11 p0 4 (some (qn S7))) := hR.w.put (fun b q9 => by cases q9; exact (hT_b12).trans (by rw [hT_p0]; rfl)) (fun _ h9 => absurd h9 List.not_mem_nil) (by rw [hT_p0]; decide) (fun b _ q9 => absurd (show otgC (qT S11 p0) 4 = 0 by rw [hT_p0]; decide) q9) (fun _ => Option.some_ne_none _)
  have hTk9 : qT S11 p0 = 46 := hT_p0
  have hR : RepCZ g am10 A s (wR S11 p0 4 (some (qn S7))) H locs := hR.pR46 hT_p0 FX7_s4 hw9 hP hD hS
  obtain ⟨S13, eS13⟩ : ∃ z, z = wR S11 p0 4 (some (qn S7)) := ⟨_, rfl⟩
  rw [← eS13] at hR
  replace h := h S13 eS13 hTk9 hR.w
  have hT_p0 : qT S13 p0 = 46 := (congrArg (fun z => qT z p0) eS13).trans hT_p0
  have hsh : shx S S13 := by rw [eS13]; exact hsh
  have hlg : lgC S S13 (0 + 1 + 1) (0 + 0 + 500) := by rw [eS13]; exact hlg
  refine lv_aload_n hx hb dX7_init_25 rfl (lv_at hl 0 rfl) ?_
  refine lv_bipush (v := 48) hx hb dX7_init_26 (by decide) ?_
  obtain ⟨hv14, h⟩ := h
  have e9 : KCC = 300000 := rfl
  have e8 : KSC = 3553400 := rfl
  have e7 : TXB = 10000000 := rfl
  have hTX : qn S13 < TXB := by have := hv14.1; omega
  refine va_newa (atype := .int) (ty := .int) (a0 := (48, .inl (fun _ => 0))) (N' := 48) hx hb (hts (.arrayClass .int) kw_51) rfl hR.K hR.P hR.D hR.sS hA (fun _ => rfl) (by decide) (by decide) (by show 48 * 4 ≤ 536870912; have := hv14.2; omega) (show 0 + 1 + 1 + 1 ≤ KCC - qn S from hlg.c1 hv14.1) (show 0 + 0 + 500 + 48 ≤ KSC - qu S from hlg.s1 hv14.2) dX7_init_28 (fun q15 cA9 H hK9 hP hD hS => ?_)
  obtain rfl := cls_new3 hR.K hK9 (k := 1) rfl (fun _ h => by cases h)
  have hw8 := hR.w
  have hR := hR.new (t := 219) (n := 48) (k := 48) hTX (by decide) (by have := hv14.2; omega) (wN_CI (by decide)) hP hD hS
  have hk8 : adk am10 (adx am10 (qn S13) q15) S13 := adk.rf.new (Nat.le_refl _) hTX
  have hak := hak.new (q := q15) hlg.2.2.1 hTX
  have hE := hE.ad hk8
  have hlg : lgC S (wN S13 219 48 48) (0 + 1 + 1 + 1) (0 + 0 + 500 + 48) := hlg.new (t := 219) (n := 48) ⟨hv14.1, hv14.2⟩
  have hs8 : shx S13 (wN S13 219 48 48) := shx.newCZ (t := 219) (n := 48) (k := 48) shx.rf hw8 hTX
  obtain ⟨am16, eam16⟩ : ∃ z, z = adx am10 (qn S13) q15 := ⟨_, rfl⟩
  have eq_q15 : am16 (qn S13) = q15 := by rw [eam16]; exact if_pos rfl
  rw [← eam16] at hR hk8 hak hE
  obtain ⟨S17, eS17⟩ : ∃ z, z = wN S13 219 48 48 := ⟨_, rfl⟩
  rw [← eS17] at hR hlg hs8
  replace h := h S17 eS17 hR.w
  have hsh := hsh.tr hs8
  have hT_b18 : qT S17 (qn S13) = 219 := by rw [eS17]; exact if_pos rfl
  have ea_0 : am16 p0 = am10 p0 := hk8 _ (hw8.hd hT_p0 (by decide) (by decide))
  have hT_p0 := hs8.T hT_p0 (by decide)
  have hl : lv_has ls 1 [(0, .ref (am16 p0))] := by simp only [ea_0]; exact hl
  refine W.eq (g2 := F0 m 30 ls [.ref (am16 (qn S13)), .ref (am16 p0)]) (by simp only [ea_0, eq_q15]) ?_
  clear hw8 hk8 hs8 hP hD hS e9 e8 e7 hTX
  refine va_putF (D := rD g) (ci := 6) (v := .ref (am16 (qn S13))) (ty := (.array .int)) (C := RX7) (T := TX7) (N := 17) hx hb hts inX7 tyX7 tyX7_ok nmX7 hown hR.K hR.P hR.D hR.sS p0 (hR.at46 hT_p0) rfl 9 (by decide) (hts _ kw_1342) (fun _ h9 => h9) rfl hin9 rfl (by decide +kernel) rfl rfl (Nat.le_of_ble_eq_true rfl) dX7_init_30 (fun H locs hP hD hS => ?_)
  have hw9 : wfCZ (wR S17 p0 9 (some (qn S13))) := hR.w.put (fun b q9 => by cases q9; exact (hT_b18).trans (by rw [hT_p0]; rfl)) (fun _ h9 => absurd h9 List.not_mem_nil) (by rw [hT_p0]; decide) (fun b _ q9 => absurd (show otgC (qT S17 p0) 9 = 0 by rw [hT_p0]; decide) q9) (fun _ => Option.some_ne_none _)
  have hTk9 : qT S17 p0 = 46 := hT_p0
  have hR : RepCZ g am16 A s (wR S17 p0 9 (some (qn S13))) H locs := hR.pR46 hT_p0 FX7_s9 hw9 hP hD hS
  obtain ⟨S19, eS19⟩ : ∃ z, z = wR S17 p0 9 (some (qn S13)) := ⟨_, rfl⟩
  rw [← eS19] at hR
  replace h := h S19 eS19 hTk9 hR.w
  have hT_p0 : qT S19 p0 = 46 := (congrArg (fun z => qT z p0) eS19).trans hT_p0
  have hsh : shx S S19 := by rw [eS19]; exact hsh
  have hlg : lgC S S19 (0 + 1 + 1 + 1) (0 + 0 + 500 + 48) := by rw [eS19]; exact hlg
  refine lv_aload_n hx hb dX7_init_33 rfl (lv_at hl 0 rfl) ?_
  refine lv_bipush (v := 24) hx hb dX7_init_34 (by decide) ?_
  obtain ⟨hv20, h⟩ := h
  have e9 : KCC = 300000 := rfl
  have e8 : KSC = 3553400 := rfl
  have e7 : TXB = 10000000 := rfl
  have hTX : qn S19 < TXB := by have := hv20.1; omega
  refine va_newa (atype := .int) (ty := .int) (a0 := (24, .inl (fun _ => 0))) (N' := 24) hx hb (hts (.arrayClass .int) kw_51) rfl hR.K hR.P hR.D hR.sS hA (fun _ => rfl) (by decide) (by decide) (by show 24 * 4 ≤ 536870912; have := hv20.2; omega) (show 0 + 1 + 1 + 1 + 1 ≤ KCC - qn S from hlg.c1 hv20.1) (show 0 + 0 + 500 + 48 + 24 ≤ KSC - qu S from hlg.s1 hv20.2) dX7_init_36 (fun q21 cA9 H hK9 hP hD hS => ?_)
  obtain rfl := cls_new3 hR.K hK9 (k := 1) rfl (fun _ h => by cases h)
  have hw8 := hR.w
  have hR := hR.new (t := 220) (n := 24) (k := 24) hTX (by decide) (by have := hv20.2; omega) (wN_CI (by decide)) hP hD hS
  have hk8 : adk am16 (adx am16 (qn S19) q21) S19 := adk.rf.new (Nat.le_refl _) hTX
  have hak := hak.new (q := q21) hlg.2.2.1 hTX
  have hE := hE.ad hk8
  have hlg : lgC S (wN S19 220 24 24) (0 + 1 + 1 + 1 + 1) (0 + 0 + 500 + 48 + 24) := hlg.new (t := 220) (n := 24) ⟨hv20.1, hv20.2⟩
  have hs8 : shx S19 (wN S19 220 24 24) := shx.newCZ (t := 220) (n := 24) (k := 24) shx.rf hw8 hTX
  obtain ⟨am22, eam22⟩ : ∃ z, z = adx am16 (qn S19) q21 := ⟨_, rfl⟩
  have eq_q21 : am22 (qn S19) = q21 := by rw [eam22]; exact if_pos rfl
  rw [← eam22] at hR hk8 hak hE
  obtain ⟨S23, eS23⟩ : ∃ z, z = wN S19 220 24 24 := ⟨_, rfl⟩
  rw [← eS23] at hR hlg hs8
  replace h := h S23 eS23 hR.w
  have hsh := hsh.tr hs8
  have hT_b24 : qT S23 (qn S19) = 220 := by rw [eS23]; exact if_pos rfl
  have ea_0 : am22 p0 = am16 p0 := hk8 _ (hw8.hd hT_p0 (by decide) (by decide))
  have hT_p0 := hs8.T hT_p0 (by decide)
  have hl : lv_has ls 1 [(0, .ref (am22 p0))] := by simp only [ea_0]; exact hl
  refine W.eq (g2 := F0 m 38 ls [.ref (am22 (qn S19)), .ref (am22 p0)]) (by simp only [ea_0, eq_q21]) ?_
  clear hw8 hk8 hs8 hP hD hS e9 e8 e7 hTX
  refine va_putF (D := rD g) (ci := 6) (v := .ref (am22 (qn S19))) (ty := (.array .int)) (C := RX7) (T := TX7) (N := 17) hx hb hts inX7 tyX7 tyX7_ok nmX7 hown hR.K hR.P hR.D hR.sS p0 (hR.at46 hT_p0) rfl 10 (by decide) (hts _ kw_1286) (fun _ h9 => h9) rfl hin9 rfl (by decide +kernel) rfl rfl (Nat.le_of_ble_eq_true rfl) dX7_init_38 (fun H locs hP hD hS => ?_)
  have hw9 : wfCZ (wR S23 p0 10 (some (qn S19))) := hR.w.put (fun b q9 => by cases q9; exact (hT_b24).trans (by rw [hT_p0]; rfl)) (fun _ h9 => absurd h9 List.not_mem_nil) (by rw [hT_p0]; decide) (fun b _ q9 => absurd (show otgC (qT S23 p0) 10 = 0 by rw [hT_p0]; decide) q9) (fun _ => Option.some_ne_none _)
  have hTk9 : qT S23 p0 = 46 := hT_p0
  have hR : RepCZ g am22 A s (wR S23 p0 10 (some (qn S19))) H locs := hR.pR46 hT_p0 FX7_s10 hw9 hP hD hS
  obtain ⟨S25, eS25⟩ : ∃ z, z = wR S23 p0 10 (some (qn S19)) := ⟨_, rfl⟩
  rw [← eS25] at hR
  replace h := h S25 eS25 hTk9 hR.w
  have hT_p0 : qT S25 p0 = 46 := (congrArg (fun z => qT z p0) eS25).trans hT_p0
  have hsh : shx S S25 := by rw [eS25]; exact hsh
  have hlg : lgC S S25 (0 + 1 + 1 + 1 + 1) (0 + 0 + 500 + 48 + 24) := by rw [eS25]; exact hlg
  refine lv_aload_n hx hb dX7_init_41 rfl (lv_at hl 0 rfl) ?_
  refine lv_bipush (v := 24) hx hb dX7_init_42 (by decide) ?_
  obtain ⟨hv26, h⟩ := h
  have e9 : KCC = 300000 := rfl
  have e8 : KSC = 3553400 := rfl
  have e7 : TXB = 10000000 := rfl
  have hTX : qn S25 < TXB := by have := hv26.1; omega
  refine va_newa (atype := .int) (ty := .int) (a0 := (24, .inl (fun _ => 0))) (N' := 24) hx hb (hts (.arrayClass .int) kw_51) rfl hR.K hR.P hR.D hR.sS hA (fun _ => rfl) (by decide) (by decide) (by show 24 * 4 ≤ 536870912; have := hv26.2; omega) (show 0 + 1 + 1 + 1 + 1 + 1 ≤ KCC - qn S from hlg.c1 hv26.1) (show 0 + 0 + 500 + 48 + 24 + 24 ≤ KSC - qu S from hlg.s1 hv26.2) dX7_init_44 (fun q27 cA9 H hK9 hP hD hS => ?_)
  obtain rfl := cls_new3 hR.K hK9 (k := 1) rfl (fun _ h => by cases h)
  have hw8 := hR.w
  have hR := hR.new (t := 221) (n := 24) (k := 24) hTX (by decide) (by have := hv26.2; omega) (wN_CI (by decide)) hP hD hS
  have hk8 : adk am22 (adx am22 (qn S25) q27) S25 := adk.rf.new (Nat.le_refl _) hTX
  have hak := hak.new (q := q27) hlg.2.2.1 hTX
  have hE := hE.ad hk8
  have hlg : lgC S (wN S25 221 24 24) (0 + 1 + 1 + 1 + 1 + 1) (0 + 0 + 500 + 48 + 24 + 24) := hlg.new (t := 221) (n := 24) ⟨hv26.1, hv26.2⟩
  have hs8 : shx S25 (wN S25 221 24 24) := shx.newCZ (t := 221) (n := 24) (k := 24) shx.rf hw8 hTX
  obtain ⟨am28, eam28⟩ : ∃ z, z = adx am22 (qn S25) q27 := ⟨_, rfl⟩
  have eq_q27 : am28 (qn S25) = q27 := by rw [eam28]; exact if_pos rfl
  rw [← eam28] at hR hk8 hak hE
  obtain ⟨S29, eS29⟩ : ∃ z, z = wN S25 221 24 24 := ⟨_, rfl⟩
  rw [← eS29] at hR hlg hs8
  replace h := h S29 eS29 hR.w
  have hsh := hsh.tr hs8
  have hT_b30 : qT S29 (qn S25) = 221 := by rw [eS29]; exact if_pos rfl
  have ea_0 : am28 p0 = am22 p0 := hk8 _ (hw8.hd hT_p0 (by decide) (by decide))
  have hT_p0 := hs8.T hT_p0 (by decide)
  have hl : lv_has ls 1 [(0, .ref (am28 p0))] := by simp only [ea_0]; exact hl
  refine W.eq (g2 := F0 m 46 ls [.ref (am28 (qn S25)), .ref (am28 p0)]) (by simp only [ea_0, eq_q27]) ?_
  clear hw8 hk8 hs8 hP hD hS e9 e8 e7 hTX
  refine va_putF (D := rD g) (ci := 6) (v := .ref (am28 (qn S25))) (ty := (.array .int)) (C := RX7) (T := TX7) (N := 17) hx hb hts inX7 tyX7 tyX7_ok nmX7 hown hR.K hR.P hR.D hR.sS p0 (hR.at46 hT_p0) rfl 11 (by decide) (hts _ kw_1290) (fun _ h9 => h9) rfl hin9 rfl (by decide +kernel) rfl rfl (Nat.le_of_ble_eq_true rfl) dX7_init_46 (fun H locs hP hD hS => ?_)
  have hw9 : wfCZ (wR S29 p0 11 (some (qn S25))) := hR.w.put (fun b q9 => by cases q9; exact (hT_b30).trans (by rw [hT_p0]; rfl)) (fun _ h9 => absurd h9 List.not_mem_nil) (by rw [hT_p0]; decide) (fun b _ q9 => absurd (show otgC (qT S29 p0) 11 = 0 by rw [hT_p0]; decide) q9) (fun _ => Option.some_ne_none _)
  have hTk9 : qT S29 p0 = 46 := hT_p0
  have hR : RepCZ g am28 A s (wR S29 p0 11 (some (qn S25))) H locs := hR.pR46 hT_p0 FX7_s11 hw9 hP hD hS
  obtain ⟨S31, eS31⟩ : ∃ z, z = wR S29 p0 11 (some (qn S25)) := ⟨_, rfl⟩
  rw [← eS31] at hR
  replace h := h S31 eS31 hTk9 hR.w
  have hT_p0 : qT S31 p0 = 46 := (congrArg (fun z => qT z p0) eS31).trans hT_p0
  have hsh : shx S S31 := by rw [eS31]; exact hsh
  have hlg : lgC S S31 (0 + 1 + 1 + 1 + 1 + 1) (0 + 0 + 500 + 48 + 24 + 24) := by rw [eS31]; exact hlg
  refine W_led2 (fun hLd => ?_)
  refine W.widen (k := KCC - qn S) (n := KSC - qu S) hlg.c hlg.s ?_
  exact W.vret hx hb hr (fun t9 ht9 hW9 => ⟨⟨(S31, am28), rfl, ⟨h, hR.w, hsh, hak⟩, ⟨⟨by rw [ht9]; exact hR.P, hR.D⟩, _, _, by rw [ht9]; exact hLd, hlg⟩⟩, hR.sS.F ht9⟩) hR.sS.2.2 dX7_init_49
def zX2_init (S : MS) (p0 : Nat) (Q : MS → Prop) : Prop := ((qn S + 1 ≤ KCC ∧ qu S + 17 ≤ KSC) ∧ (∀ S4, S4 = wN S 46 0 17 → wfCZ S4 → (qT S4 (qn S) = 46 → (∃ Q6, zX7_init S4 (qn S) Q6 ∧ ∀ S7, Q6 S7 → wfCZ S7 → shx S4 S7 → (∀ S10, S10 = wR S7 p0 0 (some (qn S)) → qT S7 p0 = 42 → wfCZ S10 → (((qn S10 + 1 ≤ KCC ∧ qu S10 + 1201 ≤ KSC)) ∧ (∀ S14, S14 = wN S10 201 1201 1201 → wfCZ S14 → (∀ S16, S16 = wR S14 p0 7 (some (qn S10)) → qT S14 p0 = 42 → wfCZ S16 → Q S16))))))))
set_option maxHeartbeats 2000000 in
set_option maxRecDepth 100000 in
theorem rzX2_init (l : Launch) (g : Gr) (ad : Nat → Nat) (H0 : Heap) (S : MS) (p0 : Nat) (hw : wfCZ S) (hT_p0 : qT S p0 = 42) (Q : MS → Prop) (h : zX2_init S p0 Q) : Met l yX2_init (wt yX2_init cX2_init 1 none) ({ frames := 2, cells := KCC - qn S, slots := KSC - qu S, locals := 32 }) (va_Pc [.ref (ad p0)] (st_CH g ad H0 S)) (va_Qv (fun (u : MS × (Nat → Nat)) => Q u.1 ∧ wfCZ u.1 ∧ shx S u.1 ∧ adk ad u.2 S) (fun (u : MS × (Nat → Nat)) (t : State) => qEHC g (va_A (WdC g ad S) H0.size) S H0 u t) (va_A (WdC g ad S) H0.size)) (KCC - qn S) (KSC - qu S) (va_A (WdC g ad S) H0.size) := by
  refine Met.ofW (cc := cX2_init) (maxL := 1) (ret := none) (by decide) rfl ?_
  intro p e s m args below meth c s₁ B hml hv
  obtain ⟨rfl, hH0, hsz, hP, hK, hD0, hex, hE⟩ := hv
  have hx := B.exec
  have hb := B.bytes
  have hr := B.returns
  have hts0 := atoms_spec (ws := wt yX2_init cX2_init 1 none) B.pre
  have hts : ∀ w ∈ tb, w.before _ s = true := fun w h => hts0 w (List.mem_cons_of_mem _ h)
  have hown : s.vm.findClass RX2 = some m.cls := findClass_of_methodNamed B.named
  subst hH0
  have hD := hD0.self (sz := s.heap.size)
  generalize hAe : va_A (WdC g ad S) s.heap.size = A at hD hE ⊢
  have hA : ∀ q : Nat, s.heap.size ≤ q → A q := fun q h => by rw [← hAe]; exact Or.inr h
  have hR : RepCZ g ad A s S s.heap [] := ⟨hK, hP, hD, va_S.rf, hw⟩
  clear hK hP hD hD0
  have hl := lv_entry ([.ref (ad p0)]) (n := 1) (Nat.le_of_ble_eq_true rfl)
  rw [lg_entry_eq]
  generalize (lg_sl ([.ref (ad p0)]) ++ List.replicate (1 - (lg_sl ([.ref (ad p0)])).length) Slot.unset).toArray = ls at hl ⊢
  have hlg : lgC S S 0 0 := lgC.rf
  have hak : adk ad ad S := adk.rf
  have hin9 : meth.name = "<init>" := (name_of_methodNamed B.named B.method).1
  have hl : lv_has ls 1 [(0, .ref (ad p0))] := hl
  have hsh : shx S S := shx.rf
  unfold zX2_init at h
  refine lv_aload_n hx hb dX2_init_0 rfl (lv_at hl 0 rfl) ?_
  refine W.objInit hx hb hown (hts _ kw_707) (hts _ kw_9) (hts _ kw_10) rfl (by rw [hml]; exact hl.1) rfl dX2_init_1 (Nat.le_of_ble_eq_true rfl) (Nat.le_of_ble_eq_true rfl) ?_
  refine W.eq (g2 := F0 m 4 ls []) rfl ?_
  refine lv_aload_n hx hb dX2_init_4 rfl (lv_at hl 0 rfl) ?_
  obtain ⟨hv1, h⟩ := h
  have e9 : KCC = 300000 := rfl
  have e8 : KSC = 3553400 := rfl
  have e7 : TXB = 10000000 := rfl
  have hTX : qn S < TXB := by have := hv1.1; omega
  refine va_new (ci := 6) (fs := dfX7) (C := RX7) (T := TX7) (N := 17) hx hb hts inX7 tyX7 tyX7_ok hown (hts _ kw_708) (hts _ kw_709) (hts _ kw_710) hR.K hR.P hR.D hR.sS hA rfl dfX7_ok (show 0 + 1 ≤ KCC - qn S from hlg.c1 hv1.1) (show 0 + 17 ≤ KSC - qu S from hlg.s1 hv1.2) dX2_init_5 (fun q2 H hP hD hS => ?_)
  have hw8 := hR.w
  have hR := hR.new (t := 46) (n := 0) (k := 17) hTX (by decide) (Nat.zero_le _) wN_C46 hP hD hS
  have hk8 : adk ad (adx ad (qn S) q2) S := adk.rf.new (Nat.le_refl _) hTX
  have hak := hak.new (q := q2) hlg.2.2.1 hTX
  have hE := hE.ad hk8
  have hlg : lgC S (wN S 46 0 17) (0 + 1) (0 + 17) := hlg.new (t := 46) (n := 0) ⟨hv1.1, hv1.2⟩
  have hs8 : shx S (wN S 46 0 17) := shx.newCZ (t := 46) (n := 0) (k := 17) shx.rf hw8 hTX
  obtain ⟨am3, eam3⟩ : ∃ z, z = adx ad (qn S) q2 := ⟨_, rfl⟩
  have eq_q2 : am3 (qn S) = q2 := by rw [eam3]; exact if_pos rfl
  rw [← eam3] at hR hk8 hak hE
  obtain ⟨S4, eS4⟩ : ∃ z, z = wN S 46 0 17 := ⟨_, rfl⟩
  rw [← eS4] at hR hlg hs8
  replace h := h S4 eS4 hR.w
  have hsh := hsh.tr hs8
  have hT_b5 : qT S4 (qn S) = 46 := by rw [eS4]; exact if_pos rfl
  have ea_0 : am3 p0 = ad p0 := hk8 _ (hw8.hd hT_p0 (by decide) (by decide))
  have hT_p0 := hs8.T hT_p0 (by decide)
  have hl : lv_has ls 1 [(0, .ref (am3 p0))] := by simp only [ea_0]; exact hl
  refine W.eq (g2 := F0 m 8 ls [.ref (am3 (qn S)), .ref (am3 p0)]) (by simp only [ea_0, eq_q2]) ?_
  clear hw8 hk8 hs8 hP hD hS e9 e8 e7 hTX
  refine lv_dup hx hb dX2_init_8 rfl ?_
  replace h := h (hT_b5)
  obtain ⟨Q6, h0, h⟩ := h
  have hFc := cfreeZ hR hA
  refine W_led2 (fun hL0 => ?_)
  refine va_callv (va_runIN (As := []) (rest := [.ref (am3 (qn S)), .ref (am3 p0)]) ⟨hx, hb, hml, hown, hts⟩ (rzX7_init l g am3 H S4 (qn S) hR.w hT_b5 Q6 h0) ⟨va_cnB 0 hts (gd_I kw_1338) rfl rfl rfl (nw_of (by exact nn_X2_11) hex) (hts _ kw_710) (by decide +kernel) ⟨Nat.le_of_ble_eq_true rfl, Nat.le_of_ble_eq_true rfl⟩, rfl, hts _ kw_1339⟩ ⟨cblindH, fun U hU hW9 => cmkHZ hU hW9 hR hex hE hFc⟩ rfl rfl hl.1 rfl (lv_room (Nat.le_of_ble_eq_true rfl)) dX2_init_9 ⟨(show 0 + 1 + (KCC - qn S4) ≤ KCC - qn S from hlg.cm), (show 0 + 17 + (KSC - qu S4) ≤ KSC - qu S from hlg.sm)⟩) hR.sS (fun q _ h => hFc q h) hFc (fun  S7 t9 H1 locs ht9 hvm9 hw9 hB9 hz9 hk9 hS => ?_)
  rcases S7 with ⟨S7, ak9⟩
  obtain ⟨hB9, dc9, ds9, hL9, hl9⟩ := hB9
  dsimp only at hw9 hB9 hl9
  rw [ht9] at hL9
  obtain ⟨hq8, hw9, hs9, hk8⟩ := hw9
  have hw8 := hR.w
  have hak := hak.tr hk8 hlg.2.2.1
  have hE := hE.ad hk8
  have hR : RepCZ g ak9 A s S7 H1 locs := hR.callH ht9 hB9 hw9 hS hFc
  have hsh := hsh.tr hs9
  refine W_tight2 (hL0.tr hL9).1 (hL0.tr hL9).2.1 ?_
  have hlg := hlg.call hl9
  replace h := h  S7 hq8 hw9 hs9
  have ea_0 : ak9 p0 = am3 p0 := hk8 _ (hw8.hd hT_p0 (by decide) (by decide))
  have ea_1 : ak9 (qn S) = am3 (qn S) := hk8 _ (hw8.hd hT_b5 (by decide) (by decide))
  have hl : lv_has ls 1 [(0, .ref (ak9 p0))] := by simp only [ea_0, ea_1]; exact hl
  refine W.eq (g2 := F0 m 12 ls ([.ref (ak9 (qn S)), .ref (ak9 p0)])) (by first | (simp only [ea_0, ea_1]; rfl) | simp only [ea_0, ea_1]) ?_
  have hT_p0 := hs9.T hT_p0 (by decide)
  have hT_b5 := hs9.T hT_b5 (by decide)
  clear hB9 hz9 hk9 hvm9 ht9 hw9 hs9 hS hL0 hL9
  generalize H1 = H at hR ⊢
  generalize dc9 = dc_ak9, ds9 = ds_ak9 at hlg ⊢
  refine va_putF (D := rD g) (ci := 2) (v := .ref (ak9 (qn S))) (ty := (.object "CodeFoundry$Reader")) (C := RX2) (T := TX2) (N := 12) hx hb hts inX2 tyX2 tyX2_ok nmX2 hown hR.K hR.P hR.D hR.sS p0 (hR.at42 hT_p0) rfl 0 (by decide) (hts _ kw_632) (fun _ h9 => h9) rfl hin9 rfl (by decide +kernel) rfl rfl (Nat.le_of_ble_eq_true rfl) dX2_init_12 (fun H locs hP hD hS => ?_)
  have hw9 : wfCZ (wR S7 p0 0 (some (qn S))) := hR.w.put (fun b q9 => by cases q9; exact (hT_b5).trans (by rw [hT_p0]; rfl)) (fun _ h9 => absurd h9 List.not_mem_nil) (by rw [hT_p0]; decide) (fun b _ q9 => absurd (show otgC (qT S7 p0) 0 = 0 by rw [hT_p0]; decide) q9) (fun _ => Option.some_ne_none _)
  have hTk9 : qT S7 p0 = 42 := hT_p0
  have hR : RepCZ g ak9 A s (wR S7 p0 0 (some (qn S))) H locs := hR.pR42 hT_p0 FX2_s0 hw9 hP hD hS
  obtain ⟨S10, eS10⟩ : ∃ z, z = wR S7 p0 0 (some (qn S)) := ⟨_, rfl⟩
  rw [← eS10] at hR
  replace h := h S10 eS10 hTk9 hR.w
  have hT_p0 : qT S10 p0 = 42 := (congrArg (fun z => qT z p0) eS10).trans hT_p0
  have hsh : shx S S10 := by rw [eS10]; exact hsh
  have hlg : lgC S S10 (0 + 1 + dc_ak9) (0 + 17 + ds_ak9) := by rw [eS10]; exact hlg
  refine lv_aload_n hx hb dX2_init_15 rfl (lv_at hl 0 rfl) ?_
  refine lv_sipush (v := 1201) hx hb dX2_init_16 (by decide) ?_
  obtain ⟨hv11, h⟩ := h
  have e9 : KCC = 300000 := rfl
  have e8 : KSC = 3553400 := rfl
  have e7 : TXB = 10000000 := rfl
  have hTX : qn S10 < TXB := by have := hv11.1; omega
  refine va_newa (atype := .int) (ty := .int) (a0 := (1201, .inl (fun _ => 0))) (N' := 1201) hx hb (hts (.arrayClass .int) kw_51) rfl hR.K hR.P hR.D hR.sS hA (fun _ => rfl) (by decide) (by decide) (by show 1201 * 4 ≤ 536870912; have := hv11.2; omega) (show 0 + 1 + dc_ak9 + 1 ≤ KCC - qn S from hlg.c1 hv11.1) (show 0 + 17 + ds_ak9 + 1201 ≤ KSC - qu S from hlg.s1 hv11.2) dX2_init_19 (fun q12 cA9 H hK9 hP hD hS => ?_)
  obtain rfl := cls_new3 hR.K hK9 (k := 1) rfl (fun _ h => by cases h)
  have hw8 := hR.w
  have hR := hR.new (t := 201) (n := 1201) (k := 1201) hTX (by decide) (by have := hv11.2; omega) (wN_CI (by decide)) hP hD hS
  have hk8 : adk ak9 (adx ak9 (qn S10) q12) S10 := adk.rf.new (Nat.le_refl _) hTX
  have hak := hak.new (q := q12) hlg.2.2.1 hTX
  have hE := hE.ad hk8
  have hlg : lgC S (wN S10 201 1201 1201) (0 + 1 + dc_ak9 + 1) (0 + 17 + ds_ak9 + 1201) := hlg.new (t := 201) (n := 1201) ⟨hv11.1, hv11.2⟩
  have hs8 : shx S10 (wN S10 201 1201 1201) := shx.newCZ (t := 201) (n := 1201) (k := 1201) shx.rf hw8 hTX
  obtain ⟨am13, eam13⟩ : ∃ z, z = adx ak9 (qn S10) q12 := ⟨_, rfl⟩
  have eq_q12 : am13 (qn S10) = q12 := by rw [eam13]; exact if_pos rfl
  rw [← eam13] at hR hk8 hak hE
  obtain ⟨S14, eS14⟩ : ∃ z, z = wN S10 201 1201 1201 := ⟨_, rfl⟩
  rw [← eS14] at hR hlg hs8
  replace h := h S14 eS14 hR.w
  have hsh := hsh.tr hs8
  have hT_b15 : qT S14 (qn S10) = 201 := by rw [eS14]; exact if_pos rfl
  have ea_0 : am13 p0 = ak9 p0 := hk8 _ (hw8.hd hT_p0 (by decide) (by decide))
  have hT_p0 := hs8.T hT_p0 (by decide)
  have hl : lv_has ls 1 [(0, .ref (am13 p0))] := by simp only [ea_0]; exact hl
  refine W.eq (g2 := F0 m 21 ls [.ref (am13 (qn S10)), .ref (am13 p0)]) (by simp only [ea_0, eq_q12]) ?_
  clear hw8 hk8 hs8 hP hD hS e9 e8 e7 hTX
  refine va_putF (D := rD g) (ci := 2) (v := .ref (am13 (qn S10))) (ty := (.array .int)) (C := RX2) (T := TX2) (N := 12) hx hb hts inX2 tyX2 tyX2_ok nmX2 hown hR.K hR.P hR.D hR.sS p0 (hR.at42 hT_p0) rfl 7 (by decide) (hts _ kw_711) (fun _ h9 => h9) rfl hin9 rfl (by decide +kernel) rfl rfl (Nat.le_of_ble_eq_true rfl) dX2_init_21 (fun H locs hP hD hS => ?_)
  have hw9 : wfCZ (wR S14 p0 7 (some (qn S10))) := hR.w.put (fun b q9 => by cases q9; exact (hT_b15).trans (by rw [hT_p0]; rfl)) (fun _ h9 => absurd h9 List.not_mem_nil) (by rw [hT_p0]; decide) (fun b _ q9 => absurd (show otgC (qT S14 p0) 7 = 0 by rw [hT_p0]; decide) q9) (fun _ => Option.some_ne_none _)
  have hTk9 : qT S14 p0 = 42 := hT_p0
  have hR : RepCZ g am13 A s (wR S14 p0 7 (some (qn S10))) H locs := hR.pR42 hT_p0 FX2_s7 hw9 hP hD hS
  obtain ⟨S16, eS16⟩ : ∃ z, z = wR S14 p0 7 (some (qn S10)) := ⟨_, rfl⟩
  rw [← eS16] at hR
  replace h := h S16 eS16 hTk9 hR.w
  have hT_p0 : qT S16 p0 = 42 := (congrArg (fun z => qT z p0) eS16).trans hT_p0
  have hsh : shx S S16 := by rw [eS16]; exact hsh
  have hlg : lgC S S16 (0 + 1 + dc_ak9 + 1) (0 + 17 + ds_ak9 + 1201) := by rw [eS16]; exact hlg
  refine W_led2 (fun hLd => ?_)
  refine W.widen (k := KCC - qn S) (n := KSC - qu S) hlg.c hlg.s ?_
  exact W.vret hx hb hr (fun t9 ht9 hW9 => ⟨⟨(S16, am13), rfl, ⟨h, hR.w, hsh, hak⟩, ⟨⟨by rw [ht9]; exact hR.P, hR.D⟩, _, _, by rw [ht9]; exact hLd, hlg⟩⟩, hR.sS.F ht9⟩) hR.sS.2.2 dX2_init_24
def zX1_init (S : MS) (p0 : Nat) (Q : MS → Prop) : Prop := ((qn S + 1 ≤ KCC ∧ qu S + 8 ≤ KSC) ∧ (∀ S4, S4 = wN S 44 0 8 → wfCZ S4 → (qT S4 (qn S) = 44 → (∃ Q6, zX4_init S4 (qn S) Q6 ∧ ∀ S7, Q6 S7 → wfCZ S7 → shx S4 S7 → (∀ S10, S10 = wR S7 p0 0 (some (qn S)) → qT S7 p0 = 41 → wfCZ S10 → (((qn S10 + 1 ≤ KCC ∧ qu S10 + 0 ≤ KSC)) ∧ (∀ S14, S14 = wN S10 102 0 0 → wfCZ S14 → (∀ S16, S16 = wR S14 p0 1 (some (qn S10)) → qT S14 p0 = 41 → wfCZ S16 → (((qn S16 + 1 ≤ KCC ∧ qu S16 + 0 ≤ KSC)) ∧ (∀ S20, S20 = wN S16 301 0 0 → wfCZ S20 → (∀ S22, S22 = wR S20 p0 2 (some (qn S16)) → qT S20 p0 = 41 → wfCZ S22 → (((qn S22 + 1 ≤ KCC ∧ qu S22 + 0 ≤ KSC)) ∧ (∀ S26, S26 = wN S22 302 0 0 → wfCZ S26 → (∀ S28, S28 = wR S26 p0 3 (some (qn S22)) → qT S26 p0 = 41 → wfCZ S28 → (((qn S28 + 1 ≤ KCC ∧ qu S28 + 48 ≤ KSC)) ∧ (∀ S32, S32 = wN S28 103 48 48 → wfCZ S32 → (∀ S34, S34 = wR S32 p0 4 (some (qn S28)) → qT S32 p0 = 41 → wfCZ S34 → Q S34)))))))))))))))))
set_option maxHeartbeats 2000000 in
set_option maxRecDepth 100000 in
theorem rzX1_init (l : Launch) (g : Gr) (ad : Nat → Nat) (H0 : Heap) (S : MS) (p0 : Nat) (hw : wfCZ S) (hT_p0 : qT S p0 = 41) (Q : MS → Prop) (h : zX1_init S p0 Q) : Met l yX1_init (wt yX1_init cX1_init 1 none) ({ frames := 2, cells := KCC - qn S, slots := KSC - qu S, locals := 32 }) (va_Pc [.ref (ad p0)] (st_CH g ad H0 S)) (va_Qv (fun (u : MS × (Nat → Nat)) => Q u.1 ∧ wfCZ u.1 ∧ shx S u.1 ∧ adk ad u.2 S) (fun (u : MS × (Nat → Nat)) (t : State) => qEHC g (va_A (WdC g ad S) H0.size) S H0 u t) (va_A (WdC g ad S) H0.size)) (KCC - qn S) (KSC - qu S) (va_A (WdC g ad S) H0.size) := by
  refine Met.ofW (cc := cX1_init) (maxL := 1) (ret := none) (by decide) rfl ?_
  intro p e s m args below meth c s₁ B hml hv
  obtain ⟨rfl, hH0, hsz, hP, hK, hD0, hex, hE⟩ := hv
  have hx := B.exec
  have hb := B.bytes
  have hr := B.returns
  have hts0 := atoms_spec (ws := wt yX1_init cX1_init 1 none) B.pre
  have hts : ∀ w ∈ tb, w.before _ s = true := fun w h => hts0 w (List.mem_cons_of_mem _ h)
  have hown : s.vm.findClass RX1 = some m.cls := findClass_of_methodNamed B.named
  subst hH0
  have hD := hD0.self (sz := s.heap.size)
  generalize hAe : va_A (WdC g ad S) s.heap.size = A at hD hE ⊢
  have hA : ∀ q : Nat, s.heap.size ≤ q → A q := fun q h => by rw [← hAe]; exact Or.inr h
  have hR : RepCZ g ad A s S s.heap [] := ⟨hK, hP, hD, va_S.rf, hw⟩
  clear hK hP hD hD0
  have hl := lv_entry ([.ref (ad p0)]) (n := 1) (Nat.le_of_ble_eq_true rfl)
  rw [lg_entry_eq]
  generalize (lg_sl ([.ref (ad p0)]) ++ List.replicate (1 - (lg_sl ([.ref (ad p0)])).length) Slot.unset).toArray = ls at hl ⊢
  have hlg : lgC S S 0 0 := lgC.rf
  have hak : adk ad ad S := adk.rf
  have hin9 : meth.name = "<init>" := (name_of_methodNamed B.named B.method).1
  have hl : lv_has ls 1 [(0, .ref (ad p0))] := hl
  have hsh : shx S S := shx.rf
  unfold zX1_init at h
  refine lv_aload_n hx hb dX1_init_0 rfl (lv_at hl 0 rfl) ?_
  refine W.objInit hx hb hown (hts _ kw_551) (hts _ kw_9) (hts _ kw_10) rfl (by rw [hml]; exact hl.1) rfl dX1_init_1 (Nat.le_of_ble_eq_true rfl) (Nat.le_of_ble_eq_true rfl) ?_
  refine W.eq (g2 := F0 m 4 ls []) rfl ?_
  refine lv_aload_n hx hb dX1_init_4 rfl (lv_at hl 0 rfl) ?_
  obtain ⟨hv1, h⟩ := h
  have e9 : KCC = 300000 := rfl
  have e8 : KSC = 3553400 := rfl
  have e7 : TXB = 10000000 := rfl
  have hTX : qn S < TXB := by have := hv1.1; omega
  refine va_new (ci := 4) (fs := dfX4) (C := RX4) (T := TX4) (N := 8) hx hb hts inX4 tyX4 tyX4_ok hown (hts _ kw_552) (hts _ kw_166) (hts _ kw_167) hR.K hR.P hR.D hR.sS hA rfl dfX4_ok (show 0 + 1 ≤ KCC - qn S from hlg.c1 hv1.1) (show 0 + 8 ≤ KSC - qu S from hlg.s1 hv1.2) dX1_init_5 (fun q2 H hP hD hS => ?_)
  have hw8 := hR.w
  have hR := hR.new (t := 44) (n := 0) (k := 8) hTX (by decide) (Nat.zero_le _) wN_C44 hP hD hS
  have hk8 : adk ad (adx ad (qn S) q2) S := adk.rf.new (Nat.le_refl _) hTX
  have hak := hak.new (q := q2) hlg.2.2.1 hTX
  have hE := hE.ad hk8
  have hlg : lgC S (wN S 44 0 8) (0 + 1) (0 + 8) := hlg.new (t := 44) (n := 0) ⟨hv1.1, hv1.2⟩
  have hs8 : shx S (wN S 44 0 8) := shx.newCZ (t := 44) (n := 0) (k := 8) shx.rf hw8 hTX
  obtain ⟨am3, eam3⟩ : ∃ z, z = adx ad (qn S) q2 := ⟨_, rfl⟩
  have eq_q2 : am3 (qn S) = q2 := by rw [eam3]; exact if_pos rfl
  rw [← eam3] at hR hk8 hak hE
  obtain ⟨S4, eS4⟩ : ∃ z, z = wN S 44 0 8 := ⟨_, rfl⟩
  rw [← eS4] at hR hlg hs8
  replace h := h S4 eS4 hR.w
  have hsh := hsh.tr hs8
  have hT_b5 : qT S4 (qn S) = 44 := by rw [eS4]; exact if_pos rfl
  have ea_0 : am3 p0 = ad p0 := hk8 _ (hw8.hd hT_p0 (by decide) (by decide))
  have hT_p0 := hs8.T hT_p0 (by decide)
  have hl : lv_has ls 1 [(0, .ref (am3 p0))] := by simp only [ea_0]; exact hl
  refine W.eq (g2 := F0 m 8 ls [.ref (am3 (qn S)), .ref (am3 p0)]) (by simp only [ea_0, eq_q2]) ?_
  clear hw8 hk8 hs8 hP hD hS e9 e8 e7 hTX
  refine lv_dup hx hb dX1_init_8 rfl ?_
  replace h := h (hT_b5)
  obtain ⟨Q6, h0, h⟩ := h
  have hFc := cfreeZ hR hA
  refine W_led2 (fun hL0 => ?_)
  refine va_callv (va_runIN (As := []) (rest := [.ref (am3 (qn S)), .ref (am3 p0)]) ⟨hx, hb, hml, hown, hts⟩ (rzX4_init l g am3 H S4 (qn S) hR.w hT_b5 Q6 h0) ⟨va_cnB 0 hts (gd_I kw_963) rfl rfl rfl (nw_of (by exact nn_X1_11) hex) (hts _ kw_167) (by decide +kernel) ⟨Nat.le_of_ble_eq_true rfl, Nat.le_of_ble_eq_true rfl⟩, rfl, hts _ kw_964⟩ ⟨cblindH, fun U hU hW9 => cmkHZ hU hW9 hR hex hE hFc⟩ rfl rfl hl.1 rfl (lv_room (Nat.le_of_ble_eq_true rfl)) dX1_init_9 ⟨(show 0 + 1 + (KCC - qn S4) ≤ KCC - qn S from hlg.cm), (show 0 + 8 + (KSC - qu S4) ≤ KSC - qu S from hlg.sm)⟩) hR.sS (fun q _ h => hFc q h) hFc (fun  S7 t9 H1 locs ht9 hvm9 hw9 hB9 hz9 hk9 hS => ?_)
  rcases S7 with ⟨S7, ak9⟩
  obtain ⟨hB9, dc9, ds9, hL9, hl9⟩ := hB9
  dsimp only at hw9 hB9 hl9
  rw [ht9] at hL9
  obtain ⟨hq8, hw9, hs9, hk8⟩ := hw9
  have hw8 := hR.w
  have hak := hak.tr hk8 hlg.2.2.1
  have hE := hE.ad hk8
  have hR : RepCZ g ak9 A s S7 H1 locs := hR.callH ht9 hB9 hw9 hS hFc
  have hsh := hsh.tr hs9
  refine W_tight2 (hL0.tr hL9).1 (hL0.tr hL9).2.1 ?_
  have hlg := hlg.call hl9
  replace h := h  S7 hq8 hw9 hs9
  have ea_0 : ak9 p0 = am3 p0 := hk8 _ (hw8.hd hT_p0 (by decide) (by decide))
  have ea_1 : ak9 (qn S) = am3 (qn S) := hk8 _ (hw8.hd hT_b5 (by decide) (by decide))
  have hl : lv_has ls 1 [(0, .ref (ak9 p0))] := by simp only [ea_0, ea_1]; exact hl
  refine W.eq (g2 := F0 m 12 ls ([.ref (ak9 (qn S)), .ref (ak9 p0)])) (by first | (simp only [ea_0, ea_1]; rfl) | simp only [ea_0, ea_1]) ?_
  have hT_p0 := hs9.T hT_p0 (by decide)
  have hT_b5 := hs9.T hT_b5 (by decide)
  clear hB9 hz9 hk9 hvm9 ht9 hw9 hs9 hS hL0 hL9
  generalize H1 = H at hR ⊢
  generalize dc9 = dc_ak9, ds9 = ds_ak9 at hlg ⊢
  refine va_putF (D := rD g) (ci := 1) (v := .ref (ak9 (qn S))) (ty := (.object "CodeFoundry$Heights")) (C := RX1) (T := TX1) (N := 10) hx hb hts inX1 tyX1 tyX1_ok nmX1 hown hR.K hR.P hR.D hR.sS p0 (hR.at41 hT_p0) rfl 0 (by decide) (hts _ kw_492) (fun _ h9 => h9) rfl hin9 rfl (by decide +kernel) rfl rfl (Nat.le_of_ble_eq_true rfl) dX1_init_12 (fun H locs hP hD hS => ?_)
  have hw9 : wfCZ (wR S7 p0 0 (some (qn S))) := hR.w.put (fun b q9 => by cases q9; exact (hT_b5).trans (by rw [hT_p0]; rfl)) (fun _ h9 => absurd h9 List.not_mem_nil) (by rw [hT_p0]; decide) (fun b _ q9 => absurd (show otgC (qT S7 p0) 0 = 0 by rw [hT_p0]; decide) q9) (fun _ => Option.some_ne_none _)
  have hTk9 : qT S7 p0 = 41 := hT_p0
  have hR : RepCZ g ak9 A s (wR S7 p0 0 (some (qn S))) H locs := hR.pR41 hT_p0 FX1_s0 hw9 hP hD hS
  obtain ⟨S10, eS10⟩ : ∃ z, z = wR S7 p0 0 (some (qn S)) := ⟨_, rfl⟩
  rw [← eS10] at hR
  replace h := h S10 eS10 hTk9 hR.w
  have hT_p0 : qT S10 p0 = 41 := (congrArg (fun z => qT z p0) eS10).trans hT_p0
  have hsh : shx S S10 := by rw [eS10]; exact hsh
  have hlg : lgC S S10 (0 + 1 + dc_ak9) (0 + 8 + ds_ak9) := by rw [eS10]; exact hlg
  refine lv_aload_n hx hb dX1_init_15 rfl (lv_at hl 0 rfl) ?_
  refine lv_iconst (v := 0) hx hb dX1_init_16 (by decide) ?_
  obtain ⟨hv11, h⟩ := h
  have e9 : KCC = 300000 := rfl
  have e8 : KSC = 3553400 := rfl
  have e7 : TXB = 10000000 := rfl
  have hTX : qn S10 < TXB := by have := hv11.1; omega
  refine va_newa (atype := .byte) (ty := .byte) (a0 := (0, .inl (fun _ => 0))) (N' := 0) hx hb (hts (.arrayClass .byte) kw_11) rfl hR.K hR.P hR.D hR.sS hA (fun _ => rfl) (by decide) (by decide) (by show 0 * 1 ≤ 536870912; have := hv11.2; omega) (show 0 + 1 + dc_ak9 + 1 ≤ KCC - qn S from hlg.c1 hv11.1) (show 0 + 8 + ds_ak9 + 0 ≤ KSC - qu S from hlg.s1 hv11.2) dX1_init_17 (fun q12 cA9 H hK9 hP hD hS => ?_)
  obtain rfl := cls_new3 hR.K hK9 (k := 0) rfl (fun _ h => by cases h)
  have hw8 := hR.w
  have hR := hR.new (t := 102) (n := 0) (k := 0) hTX (by decide) (Nat.zero_le _) (wN_CB (by decide)) hP hD hS
  have hk8 : adk ak9 (adx ak9 (qn S10) q12) S10 := adk.rf.new (Nat.le_refl _) hTX
  have hak := hak.new (q := q12) hlg.2.2.1 hTX
  have hE := hE.ad hk8
  have hlg : lgC S (wN S10 102 0 0) (0 + 1 + dc_ak9 + 1) (0 + 8 + ds_ak9 + 0) := hlg.new (t := 102) (n := 0) ⟨hv11.1, hv11.2⟩
  have hs8 : shx S10 (wN S10 102 0 0) := shx.newCZ (t := 102) (n := 0) (k := 0) shx.rf hw8 hTX
  obtain ⟨am13, eam13⟩ : ∃ z, z = adx ak9 (qn S10) q12 := ⟨_, rfl⟩
  have eq_q12 : am13 (qn S10) = q12 := by rw [eam13]; exact if_pos rfl
  rw [← eam13] at hR hk8 hak hE
  obtain ⟨S14, eS14⟩ : ∃ z, z = wN S10 102 0 0 := ⟨_, rfl⟩
  rw [← eS14] at hR hlg hs8
  replace h := h S14 eS14 hR.w
  have hsh := hsh.tr hs8
  have hT_b15 : qT S14 (qn S10) = 102 := by rw [eS14]; exact if_pos rfl
  have ea_0 : am13 p0 = ak9 p0 := hk8 _ (hw8.hd hT_p0 (by decide) (by decide))
  have hT_p0 := hs8.T hT_p0 (by decide)
  have hl : lv_has ls 1 [(0, .ref (am13 p0))] := by simp only [ea_0]; exact hl
  refine W.eq (g2 := F0 m 19 ls [.ref (am13 (qn S10)), .ref (am13 p0)]) (by simp only [ea_0, eq_q12]) ?_
  clear hw8 hk8 hs8 hP hD hS e9 e8 e7 hTX
  refine va_put (D := rD g) (ci := 1) (v := .ref (am13 (qn S10))) (ty := (.array .byte)) (C := RX1) (T := TX1) (N := 10) hx hb hts inX1 tyX1 tyX1_ok nmX1 hown hR.K hR.P hR.D hR.sS p0 (hR.at41 hT_p0) rfl 1 (by decide) (hts _ kw_495) (fun _ h9 => h9) rfl (by decide +kernel) rfl rfl (Nat.le_of_ble_eq_true rfl) dX1_init_19 (fun H locs hP hD hS => ?_)
  have hw9 : wfCZ (wR S14 p0 1 (some (qn S10))) := hR.w.put (fun b q9 => by cases q9; exact (hT_b15).trans (by rw [hT_p0]; rfl)) (fun _ h9 => absurd h9 List.not_mem_nil) (by rw [hT_p0]; decide) (fun b _ q9 => absurd (show otgC (qT S14 p0) 1 = 0 by rw [hT_p0]; decide) q9) (fun _ => Option.some_ne_none _)
  have hTk9 : qT S14 p0 = 41 := hT_p0
  have hR : RepCZ g am13 A s (wR S14 p0 1 (some (qn S10))) H locs := hR.pR41 hT_p0 FX1_s1 hw9 hP hD hS
  obtain ⟨S16, eS16⟩ : ∃ z, z = wR S14 p0 1 (some (qn S10)) := ⟨_, rfl⟩
  rw [← eS16] at hR
  replace h := h S16 eS16 hTk9 hR.w
  have hT_p0 : qT S16 p0 = 41 := (congrArg (fun z => qT z p0) eS16).trans hT_p0
  have hsh : shx S S16 := by rw [eS16]; exact hsh
  have hlg : lgC S S16 (0 + 1 + dc_ak9 + 1) (0 + 8 + ds_ak9 + 0) := by rw [eS16]; exact hlg
  refine lv_aload_n hx hb dX1_init_22 rfl (lv_at hl 0 rfl) ?_
  refine lv_iconst (v := 0) hx hb dX1_init_23 (by decide) ?_
  obtain ⟨hv17, h⟩ := h
  have e9 : KCC = 300000 := rfl
  have e8 : KSC = 3553400 := rfl
  have e7 : TXB = 10000000 := rfl
  have hTX : qn S16 < TXB := by have := hv17.1; omega
  refine va_newa (atype := .boolean) (ty := .boolean) (a0 := (0, .inl (fun _ => 0))) (N' := 0) hx hb (hts (.arrayClass .boolean) kw_553) rfl hR.K hR.P hR.D hR.sS hA (fun _ => rfl) (by decide) (by decide) (by show 0 * 1 ≤ 536870912; have := hv17.2; omega) (show 0 + 1 + dc_ak9 + 1 + 1 ≤ KCC - qn S from hlg.c1 hv17.1) (show 0 + 8 + ds_ak9 + 0 + 0 ≤ KSC - qu S from hlg.s1 hv17.2) dX1_init_24 (fun q18 cA9 H hK9 hP hD hS => ?_)
  obtain rfl := cls_new3 hR.K hK9 (k := 2) rfl (fun _ h => by cases h)
  have hw8 := hR.w
  have hR := hR.new (t := 301) (n := 0) (k := 0) hTX (by decide) (Nat.zero_le _) (wN_CZ (by decide)) hP hD hS
  have hk8 : adk am13 (adx am13 (qn S16) q18) S16 := adk.rf.new (Nat.le_refl _) hTX
  have hak := hak.new (q := q18) hlg.2.2.1 hTX
  have hE := hE.ad hk8
  have hlg : lgC S (wN S16 301 0 0) (0 + 1 + dc_ak9 + 1 + 1) (0 + 8 + ds_ak9 + 0 + 0) := hlg.new (t := 301) (n := 0) ⟨hv17.1, hv17.2⟩
  have hs8 : shx S16 (wN S16 301 0 0) := shx.newCZ (t := 301) (n := 0) (k := 0) shx.rf hw8 hTX
  obtain ⟨am19, eam19⟩ : ∃ z, z = adx am13 (qn S16) q18 := ⟨_, rfl⟩
  have eq_q18 : am19 (qn S16) = q18 := by rw [eam19]; exact if_pos rfl
  rw [← eam19] at hR hk8 hak hE
  obtain ⟨S20, eS20⟩ : ∃ z, z = wN S16 301 0 0 := ⟨_, rfl⟩
  rw [← eS20] at hR hlg hs8
  replace h := h S20 eS20 hR.w
  have hsh := hsh.tr hs8
  have hT_b21 : qT S20 (qn S16) = 301 := by rw [eS20]; exact if_pos rfl
  have ea_0 : am19 p0 = am13 p0 := hk8 _ (hw8.hd hT_p0 (by decide) (by decide))
  have hT_p0 := hs8.T hT_p0 (by decide)
  have hl : lv_has ls 1 [(0, .ref (am19 p0))] := by simp only [ea_0]; exact hl
  refine W.eq (g2 := F0 m 26 ls [.ref (am19 (qn S16)), .ref (am19 p0)]) (by simp only [ea_0, eq_q18]) ?_
  clear hw8 hk8 hs8 hP hD hS e9 e8 e7 hTX
  refine va_put (D := rD g) (ci := 1) (v := .ref (am19 (qn S16))) (ty := (.array .boolean)) (C := RX1) (T := TX1) (N := 10) hx hb hts inX1 tyX1 tyX1_ok nmX1 hown hR.K hR.P hR.D hR.sS p0 (hR.at41 hT_p0) rfl 2 (by decide) (hts _ kw_494) (fun _ h9 => h9) rfl (by decide +kernel) rfl rfl (Nat.le_of_ble_eq_true rfl) dX1_init_26 (fun H locs hP hD hS => ?_)
  have hw9 : wfCZ (wR S20 p0 2 (some (qn S16))) := hR.w.put (fun b q9 => by cases q9; exact (hT_b21).trans (by rw [hT_p0]; rfl)) (fun _ h9 => absurd h9 List.not_mem_nil) (by rw [hT_p0]; decide) (fun b _ q9 => absurd (show otgC (qT S20 p0) 2 = 0 by rw [hT_p0]; decide) q9) (fun _ => Option.some_ne_none _)
  have hTk9 : qT S20 p0 = 41 := hT_p0
  have hR : RepCZ g am19 A s (wR S20 p0 2 (some (qn S16))) H locs := hR.pR41 hT_p0 FX1_s2 hw9 hP hD hS
  obtain ⟨S22, eS22⟩ : ∃ z, z = wR S20 p0 2 (some (qn S16)) := ⟨_, rfl⟩
  rw [← eS22] at hR
  replace h := h S22 eS22 hTk9 hR.w
  have hT_p0 : qT S22 p0 = 41 := (congrArg (fun z => qT z p0) eS22).trans hT_p0
  have hsh : shx S S22 := by rw [eS22]; exact hsh
  have hlg : lgC S S22 (0 + 1 + dc_ak9 + 1 + 1) (0 + 8 + ds_ak9 + 0 + 0) := by rw [eS22]; exact hlg
  refine lv_aload_n hx hb dX1_init_29 rfl (lv_at hl 0 rfl) ?_
  refine lv_iconst (v := 0) hx hb dX1_init_30 (by decide) ?_
  obtain ⟨hv23, h⟩ := h
  have e9 : KCC = 300000 := rfl
  have e8 : KSC = 3553400 := rfl
  have e7 : TXB = 10000000 := rfl
  have hTX : qn S22 < TXB := by have := hv23.1; omega
  refine va_newa (atype := .boolean) (ty := .boolean) (a0 := (0, .inl (fun _ => 0))) (N' := 0) hx hb (hts (.arrayClass .boolean) kw_553) rfl hR.K hR.P hR.D hR.sS hA (fun _ => rfl) (by decide) (by decide) (by show 0 * 1 ≤ 536870912; have := hv23.2; omega) (show 0 + 1 + dc_ak9 + 1 + 1 + 1 ≤ KCC - qn S from hlg.c1 hv23.1) (show 0 + 8 + ds_ak9 + 0 + 0 + 0 ≤ KSC - qu S from hlg.s1 hv23.2) dX1_init_31 (fun q24 cA9 H hK9 hP hD hS => ?_)
  obtain rfl := cls_new3 hR.K hK9 (k := 2) rfl (fun _ h => by cases h)
  have hw8 := hR.w
  have hR := hR.new (t := 302) (n := 0) (k := 0) hTX (by decide) (Nat.zero_le _) (wN_CZ (by decide)) hP hD hS
  have hk8 : adk am19 (adx am19 (qn S22) q24) S22 := adk.rf.new (Nat.le_refl _) hTX
  have hak := hak.new (q := q24) hlg.2.2.1 hTX
  have hE := hE.ad hk8
  have hlg : lgC S (wN S22 302 0 0) (0 + 1 + dc_ak9 + 1 + 1 + 1) (0 + 8 + ds_ak9 + 0 + 0 + 0) := hlg.new (t := 302) (n := 0) ⟨hv23.1, hv23.2⟩
  have hs8 : shx S22 (wN S22 302 0 0) := shx.newCZ (t := 302) (n := 0) (k := 0) shx.rf hw8 hTX
  obtain ⟨am25, eam25⟩ : ∃ z, z = adx am19 (qn S22) q24 := ⟨_, rfl⟩
  have eq_q24 : am25 (qn S22) = q24 := by rw [eam25]; exact if_pos rfl
  rw [← eam25] at hR hk8 hak hE
  obtain ⟨S26, eS26⟩ : ∃ z, z = wN S22 302 0 0 := ⟨_, rfl⟩
  rw [← eS26] at hR hlg hs8
  replace h := h S26 eS26 hR.w
  have hsh := hsh.tr hs8
  have hT_b27 : qT S26 (qn S22) = 302 := by rw [eS26]; exact if_pos rfl
  have ea_0 : am25 p0 = am19 p0 := hk8 _ (hw8.hd hT_p0 (by decide) (by decide))
  have hT_p0 := hs8.T hT_p0 (by decide)
  have hl : lv_has ls 1 [(0, .ref (am25 p0))] := by simp only [ea_0]; exact hl
  refine W.eq (g2 := F0 m 33 ls [.ref (am25 (qn S22)), .ref (am25 p0)]) (by simp only [ea_0, eq_q24]) ?_
  clear hw8 hk8 hs8 hP hD hS e9 e8 e7 hTX
  refine va_put (D := rD g) (ci := 1) (v := .ref (am25 (qn S22))) (ty := (.array .boolean)) (C := RX1) (T := TX1) (N := 10) hx hb hts inX1 tyX1 tyX1_ok nmX1 hown hR.K hR.P hR.D hR.sS p0 (hR.at41 hT_p0) rfl 3 (by decide) (hts _ kw_497) (fun _ h9 => h9) rfl (by decide +kernel) rfl rfl (Nat.le_of_ble_eq_true rfl) dX1_init_33 (fun H locs hP hD hS => ?_)
  have hw9 : wfCZ (wR S26 p0 3 (some (qn S22))) := hR.w.put (fun b q9 => by cases q9; exact (hT_b27).trans (by rw [hT_p0]; rfl)) (fun _ h9 => absurd h9 List.not_mem_nil) (by rw [hT_p0]; decide) (fun b _ q9 => absurd (show otgC (qT S26 p0) 3 = 0 by rw [hT_p0]; decide) q9) (fun _ => Option.some_ne_none _)
  have hTk9 : qT S26 p0 = 41 := hT_p0
  have hR : RepCZ g am25 A s (wR S26 p0 3 (some (qn S22))) H locs := hR.pR41 hT_p0 FX1_s3 hw9 hP hD hS
  obtain ⟨S28, eS28⟩ : ∃ z, z = wR S26 p0 3 (some (qn S22)) := ⟨_, rfl⟩
  rw [← eS28] at hR
  replace h := h S28 eS28 hTk9 hR.w
  have hT_p0 : qT S28 p0 = 41 := (congrArg (fun z => qT z p0) eS28).trans hT_p0
  have hsh : shx S S28 := by rw [eS28]; exact hsh
  have hlg : lgC S S28 (0 + 1 + dc_ak9 + 1 + 1 + 1) (0 + 8 + ds_ak9 + 0 + 0 + 0) := by rw [eS28]; exact hlg
  refine lv_aload_n hx hb dX1_init_36 rfl (lv_at hl 0 rfl) ?_
  refine lv_bipush (v := 48) hx hb dX1_init_37 (by decide) ?_
  obtain ⟨hv29, h⟩ := h
  have e9 : KCC = 300000 := rfl
  have e8 : KSC = 3553400 := rfl
  have e7 : TXB = 10000000 := rfl
  have hTX : qn S28 < TXB := by have := hv29.1; omega
  refine va_newa (atype := .byte) (ty := .byte) (a0 := (48, .inl (fun _ => 0))) (N' := 48) hx hb (hts (.arrayClass .byte) kw_11) rfl hR.K hR.P hR.D hR.sS hA (fun _ => rfl) (by decide) (by decide) (by show 48 * 1 ≤ 536870912; have := hv29.2; omega) (show 0 + 1 + dc_ak9 + 1 + 1 + 1 + 1 ≤ KCC - qn S from hlg.c1 hv29.1) (show 0 + 8 + ds_ak9 + 0 + 0 + 0 + 48 ≤ KSC - qu S from hlg.s1 hv29.2) dX1_init_39 (fun q30 cA9 H hK9 hP hD hS => ?_)
  obtain rfl := cls_new3 hR.K hK9 (k := 0) rfl (fun _ h => by cases h)
  have hw8 := hR.w
  have hR := hR.new (t := 103) (n := 48) (k := 48) hTX (by decide) (by have := hv29.2; omega) (wN_CB (by decide)) hP hD hS
  have hk8 : adk am25 (adx am25 (qn S28) q30) S28 := adk.rf.new (Nat.le_refl _) hTX
  have hak := hak.new (q := q30) hlg.2.2.1 hTX
  have hE := hE.ad hk8
  have hlg : lgC S (wN S28 103 48 48) (0 + 1 + dc_ak9 + 1 + 1 + 1 + 1) (0 + 8 + ds_ak9 + 0 + 0 + 0 + 48) := hlg.new (t := 103) (n := 48) ⟨hv29.1, hv29.2⟩
  have hs8 : shx S28 (wN S28 103 48 48) := shx.newCZ (t := 103) (n := 48) (k := 48) shx.rf hw8 hTX
  obtain ⟨am31, eam31⟩ : ∃ z, z = adx am25 (qn S28) q30 := ⟨_, rfl⟩
  have eq_q30 : am31 (qn S28) = q30 := by rw [eam31]; exact if_pos rfl
  rw [← eam31] at hR hk8 hak hE
  obtain ⟨S32, eS32⟩ : ∃ z, z = wN S28 103 48 48 := ⟨_, rfl⟩
  rw [← eS32] at hR hlg hs8
  replace h := h S32 eS32 hR.w
  have hsh := hsh.tr hs8
  have hT_b33 : qT S32 (qn S28) = 103 := by rw [eS32]; exact if_pos rfl
  have ea_0 : am31 p0 = am25 p0 := hk8 _ (hw8.hd hT_p0 (by decide) (by decide))
  have hT_p0 := hs8.T hT_p0 (by decide)
  have hl : lv_has ls 1 [(0, .ref (am31 p0))] := by simp only [ea_0]; exact hl
  refine W.eq (g2 := F0 m 41 ls [.ref (am31 (qn S28)), .ref (am31 p0)]) (by simp only [ea_0, eq_q30]) ?_
  clear hw8 hk8 hs8 hP hD hS e9 e8 e7 hTX
  refine va_putF (D := rD g) (ci := 1) (v := .ref (am31 (qn S28))) (ty := (.array .byte)) (C := RX1) (T := TX1) (N := 10) hx hb hts inX1 tyX1 tyX1_ok nmX1 hown hR.K hR.P hR.D hR.sS p0 (hR.at41 hT_p0) rfl 4 (by decide) (hts _ kw_477) (fun _ h9 => h9) rfl hin9 rfl (by decide +kernel) rfl rfl (Nat.le_of_ble_eq_true rfl) dX1_init_41 (fun H locs hP hD hS => ?_)
  have hw9 : wfCZ (wR S32 p0 4 (some (qn S28))) := hR.w.put (fun b q9 => by cases q9; exact (hT_b33).trans (by rw [hT_p0]; rfl)) (fun _ h9 => absurd h9 List.not_mem_nil) (by rw [hT_p0]; decide) (fun b _ q9 => absurd (show otgC (qT S32 p0) 4 = 0 by rw [hT_p0]; decide) q9) (fun _ => Option.some_ne_none _)
  have hTk9 : qT S32 p0 = 41 := hT_p0
  have hR : RepCZ g am31 A s (wR S32 p0 4 (some (qn S28))) H locs := hR.pR41 hT_p0 FX1_s4 hw9 hP hD hS
  obtain ⟨S34, eS34⟩ : ∃ z, z = wR S32 p0 4 (some (qn S28)) := ⟨_, rfl⟩
  rw [← eS34] at hR
  replace h := h S34 eS34 hTk9 hR.w
  have hT_p0 : qT S34 p0 = 41 := (congrArg (fun z => qT z p0) eS34).trans hT_p0
  have hsh : shx S S34 := by rw [eS34]; exact hsh
  have hlg : lgC S S34 (0 + 1 + dc_ak9 + 1 + 1 + 1 + 1) (0 + 8 + ds_ak9 + 0 + 0 + 0 + 48) := by rw [eS34]; exact hlg
  refine W_led2 (fun hLd => ?_)
  refine W.widen (k := KCC - qn S) (n := KSC - qu S) hlg.c hlg.s ?_
  exact W.vret hx hb hr (fun t9 ht9 hW9 => ⟨⟨(S34, am31), rfl, ⟨h, hR.w, hsh, hak⟩, ⟨⟨by rw [ht9]; exact hR.P, hR.D⟩, _, _, by rw [ht9]; exact hLd, hlg⟩⟩, hR.sS.F ht9⟩) hR.sS.2.2 dX1_init_44
def zX11_init (S : MS) (p0 : Nat) (Q : MS → Prop) : Prop := ((qn S + 1 ≤ KCC ∧ qu S + 2 ≤ KSC) ∧ (∀ S4, S4 = wN S 40 0 2 → wfCZ S4 → (qT S4 (qn S) = 40 → (∃ Q6, zX0_init S4 (qn S) Q6 ∧ ∀ S7, Q6 S7 → wfCZ S7 → shx S4 S7 → (∀ S10, S10 = wR S7 p0 0 (some (qn S)) → qT S7 p0 = 50 → wfCZ S10 → ((qn S10 + 1 ≤ KCC ∧ qu S10 + 2 ≤ KSC) ∧ (∀ S14, S14 = wN S10 40 0 2 → wfCZ S14 → (qT S14 (qn S10) = 40 → (∃ Q16, zX0_init S14 (qn S10) Q16 ∧ ∀ S17, Q16 S17 → wfCZ S17 → shx S14 S17 → (∀ S20, S20 = wR S17 p0 1 (some (qn S10)) → qT S17 p0 = 50 → wfCZ S20 → ((qn S20 + 1 ≤ KCC ∧ qu S20 + 2 ≤ KSC) ∧ (∀ S24, S24 = wN S20 40 0 2 → wfCZ S24 → (qT S24 (qn S20) = 40 → (∃ Q26, zX0_init S24 (qn S20) Q26 ∧ ∀ S27, Q26 S27 → wfCZ S27 → shx S24 S27 → (∀ S30, S30 = wR S27 p0 2 (some (qn S20)) → qT S27 p0 = 50 → wfCZ S30 → (((qn S30 + 1 ≤ KCC ∧ qu S30 + 500 ≤ KSC)) ∧ (∀ S34, S34 = wN S30 238 500 500 → wfCZ S34 → (∀ S36, S36 = wR S34 p0 3 (some (qn S30)) → qT S34 p0 = 50 → wfCZ S36 → (((qn S36 + 1 ≤ KCC ∧ qu S36 + 500 ≤ KSC)) ∧ (∀ S40, S40 = wN S36 239 500 500 → wfCZ S40 → (∀ S42, S42 = wR S40 p0 4 (some (qn S36)) → qT S40 p0 = 50 → wfCZ S42 → (((qn S42 + 1 ≤ KCC ∧ qu S42 + 24 ≤ KSC)) ∧ (∀ S46, S46 = wN S42 240 24 24 → wfCZ S46 → (∀ S48, S48 = wR S46 p0 10 (some (qn S42)) → qT S46 p0 = 50 → wfCZ S48 → (((qn S48 + 1 ≤ KCC ∧ qu S48 + 24 ≤ KSC)) ∧ (∀ S52, S52 = wN S48 241 24 24 → wfCZ S52 → (∀ S54, S54 = wR S52 p0 11 (some (qn S48)) → qT S52 p0 = 50 → wfCZ S54 → (((qn S54 + 1 ≤ KCC ∧ qu S54 + 24 ≤ KSC)) ∧ (∀ S58, S58 = wN S54 242 24 24 → wfCZ S58 → (∀ S60, S60 = wR S58 p0 12 (some (qn S54)) → qT S58 p0 = 50 → wfCZ S60 → (((qn S60 + 1 ≤ KCC ∧ qu S60 + 24 ≤ KSC)) ∧ (∀ S64, S64 = wN S60 243 24 24 → wfCZ S64 → (∀ S66, S66 = wR S64 p0 13 (some (qn S60)) → qT S64 p0 = 50 → wfCZ S66 → ((qn S66 + 1 ≤ KCC ∧ qu S66 + 8 ≤ KSC) ∧ (∀ S70, S70 = wN S66 44 0 8 → wfCZ S70 → (qT S70 (qn S66) = 44 → (∃ Q72, zX4_init S70 (qn S66) Q72 ∧ ∀ S73, Q72 S73 → wfCZ S73 → shx S70 S73 → (∀ S76, S76 = wR S73 p0 14 (some (qn S66)) → qT S73 p0 = 50 → wfCZ S76 → (((qn S76 + 1 ≤ KCC ∧ qu S76 + 0 ≤ KSC)) ∧ (∀ S80, S80 = wN S76 244 0 0 → wfCZ S80 → (∀ S82, S82 = wR S80 p0 16 (some (qn S76)) → qT S80 p0 = 50 → wfCZ S82 → (((qn S82 + 1 ≤ KCC ∧ qu S82 + 0 ≤ KSC)) ∧ (∀ S86, S86 = wN S82 245 0 0 → wfCZ S86 → (∀ S88, S88 = wR S86 p0 17 (some (qn S82)) → qT S86 p0 = 50 → wfCZ S88 → Q S88))))))))))))))))))))))))))))))))))))))))))))
set_option maxHeartbeats 2000000 in
set_option maxRecDepth 100000 in
theorem rzX11_init (l : Launch) (g : Gr) (ad : Nat → Nat) (H0 : Heap) (S : MS) (p0 : Nat) (hw : wfCZ S) (hT_p0 : qT S p0 = 50) (Q : MS → Prop) (h : zX11_init S p0 Q) : Met l yX11_init (wt yX11_init cX11_init 1 none) ({ frames := 2, cells := KCC - qn S, slots := KSC - qu S, locals := 32 }) (va_Pc [.ref (ad p0)] (st_CH g ad H0 S)) (va_Qv (fun (u : MS × (Nat → Nat)) => Q u.1 ∧ wfCZ u.1 ∧ shx S u.1 ∧ adk ad u.2 S) (fun (u : MS × (Nat → Nat)) (t : State) => qEHC g (va_A (WdC g ad S) H0.size) S H0 u t) (va_A (WdC g ad S) H0.size)) (KCC - qn S) (KSC - qu S) (va_A (WdC g ad S) H0.size) := by
  refine Met.ofW (cc := cX11_init) (maxL := 1) (ret := none) (by decide) rfl ?_
  intro p e s m args below meth c s₁ B hml hv
  obtain ⟨rfl, hH0, hsz, hP, hK, hD0, hex, hE⟩ := hv
  have hx := B.exec
  have hb := B.bytes
  have hr := B.returns
  have hts0 := atoms_spec (ws := wt yX11_init cX11_init 1 none) B.pre
  have hts : ∀ w ∈ tb, w.before _ s = true := fun w h => hts0 w (List.mem_cons_of_mem _ h)
  have hown : s.vm.findClass RX11 = some m.cls := findClass_of_methodNamed B.named
  subst hH0
  have hD := hD0.self (sz := s.heap.size)
  generalize hAe : va_A (WdC g ad S) s.heap.size = A at hD hE ⊢
  have hA : ∀ q : Nat, s.heap.size ≤ q → A q := fun q h => by rw [← hAe]; exact Or.inr h
  have hR : RepCZ g ad A s S s.heap [] := ⟨hK, hP, hD, va_S.rf, hw⟩
  clear hK hP hD hD0
  have hl := lv_entry ([.ref (ad p0)]) (n := 1) (Nat.le_of_ble_eq_true rfl)
  rw [lg_entry_eq]
  generalize (lg_sl ([.ref (ad p0)]) ++ List.replicate (1 - (lg_sl ([.ref (ad p0)])).length) Slot.unset).toArray = ls at hl ⊢
  have hlg : lgC S S 0 0 := lgC.rf
  have hak : adk ad ad S := adk.rf
  have hin9 : meth.name = "<init>" := (name_of_methodNamed B.named B.method).1
  have hl : lv_has ls 1 [(0, .ref (ad p0))] := hl
  have hsh : shx S S := shx.rf
  unfold zX11_init at h
  refine lv_aload_n hx hb dX11_init_0 rfl (lv_at hl 0 rfl) ?_
  refine W.objInit hx hb hown (hts _ kw_162) (hts _ kw_9) (hts _ kw_10) rfl (by rw [hml]; exact hl.1) rfl dX11_init_1 (Nat.le_of_ble_eq_true rfl) (Nat.le_of_ble_eq_true rfl) ?_
  refine W.eq (g2 := F0 m 4 ls []) rfl ?_
  refine lv_aload_n hx hb dX11_init_4 rfl (lv_at hl 0 rfl) ?_
  obtain ⟨hv1, h⟩ := h
  have e9 : KCC = 300000 := rfl
  have e8 : KSC = 3553400 := rfl
  have e7 : TXB = 10000000 := rfl
  have hTX : qn S < TXB := by have := hv1.1; omega
  refine va_new (ci := 0) (fs := dfX0) (C := RX0) (T := TX0) (N := 2) hx hb hts inX0 tyX0 tyX0_ok hown (hts _ kw_163) (hts _ kw_164) (hts _ kw_3) hR.K hR.P hR.D hR.sS hA rfl dfX0_ok (show 0 + 1 ≤ KCC - qn S from hlg.c1 hv1.1) (show 0 + 2 ≤ KSC - qu S from hlg.s1 hv1.2) dX11_init_5 (fun q2 H hP hD hS => ?_)
  have hw8 := hR.w
  have hR := hR.new (t := 40) (n := 0) (k := 2) hTX (by decide) (Nat.zero_le _) wN_C40 hP hD hS
  have hk8 : adk ad (adx ad (qn S) q2) S := adk.rf.new (Nat.le_refl _) hTX
  have hak := hak.new (q := q2) hlg.2.2.1 hTX
  have hE := hE.ad hk8
  have hlg : lgC S (wN S 40 0 2) (0 + 1) (0 + 2) := hlg.new (t := 40) (n := 0) ⟨hv1.1, hv1.2⟩
  have hs8 : shx S (wN S 40 0 2) := shx.newCZ (t := 40) (n := 0) (k := 2) shx.rf hw8 hTX
  obtain ⟨am3, eam3⟩ : ∃ z, z = adx ad (qn S) q2 := ⟨_, rfl⟩
  have eq_q2 : am3 (qn S) = q2 := by rw [eam3]; exact if_pos rfl
  rw [← eam3] at hR hk8 hak hE
  obtain ⟨S4, eS4⟩ : ∃ z, z = wN S 40 0 2 := ⟨_, rfl⟩
  rw [← eS4] at hR hlg hs8
  replace h := h S4 eS4 hR.w
  have hsh := hsh.tr hs8
  have hT_b5 : qT S4 (qn S) = 40 := by rw [eS4]; exact if_pos rfl
  have ea_0 : am3 p0 = ad p0 := hk8 _ (hw8.hd hT_p0 (by decide) (by decide))
  have hT_p0 := hs8.T hT_p0 (by decide)
  have hl : lv_has ls 1 [(0, .ref (am3 p0))] := by simp only [ea_0]; exact hl
  refine W.eq (g2 := F0 m 8 ls [.ref (am3 (qn S)), .ref (am3 p0)]) (by simp only [ea_0, eq_q2]) ?_
  clear hw8 hk8 hs8 hP hD hS e9 e8 e7 hTX
  refine lv_dup hx hb dX11_init_8 rfl ?_
  replace h := h (hT_b5)
  obtain ⟨Q6, h0, h⟩ := h
  have hFc := cfreeZ hR hA
  refine W_led2 (fun hL0 => ?_)
  refine va_callv (va_runIN (As := []) (rest := [.ref (am3 (qn S)), .ref (am3 p0)]) ⟨hx, hb, hml, hown, hts⟩ (rzX0_init l g am3 H S4 (qn S) hR.w hT_b5 Q6 h0) ⟨va_cnB 0 hts (gd_I kw_6) rfl rfl rfl (nw_of (by exact nn_X11_11) hex) (hts _ kw_3) (by decide +kernel) ⟨Nat.le_of_ble_eq_true rfl, Nat.le_of_ble_eq_true rfl⟩, rfl, hts _ kw_7⟩ ⟨cblindH, fun U hU hW9 => cmkHZ hU hW9 hR hex hE hFc⟩ rfl rfl hl.1 rfl (lv_room (Nat.le_of_ble_eq_true rfl)) dX11_init_9 ⟨(show 0 + 1 + (KCC - qn S4) ≤ KCC - qn S from hlg.cm), (show 0 + 2 + (KSC - qu S4) ≤ KSC - qu S from hlg.sm)⟩) hR.sS (fun q _ h => hFc q h) hFc (fun  S7 t9 H1 locs ht9 hvm9 hw9 hB9 hz9 hk9 hS => ?_)
  rcases S7 with ⟨S7, ak9⟩
  obtain ⟨hB9, dc9, ds9, hL9, hl9⟩ := hB9
  dsimp only at hw9 hB9 hl9
  rw [ht9] at hL9
  obtain ⟨hq8, hw9, hs9, hk8⟩ := hw9
  have hw8 := hR.w
  have hak := hak.tr hk8 hlg.2.2.1
  have hE := hE.ad hk8
  have hR : RepCZ g ak9 A s S7 H1 locs := hR.callH ht9 hB9 hw9 hS hFc
  have hsh := hsh.tr hs9
  refine W_tight2 (hL0.tr hL9).1 (hL0.tr hL9).2.1 ?_
  have hlg := hlg.call hl9
  replace h := h  S7 hq8 hw9 hs9
  have ea_0 : ak9 p0 = am3 p0 := hk8 _ (hw8.hd hT_p0 (by decide) (by decide))
  have ea_1 : ak9 (qn S) = am3 (qn S) := hk8 _ (hw8.hd hT_b5 (by decide) (by decide))
  have hl : lv_has ls 1 [(0, .ref (ak9 p0))] := by simp only [ea_0, ea_1]; exact hl
  refine W.eq (g2 := F0 m 12 ls ([.ref (ak9 (qn S)), .ref (ak9 p0)])) (by first | (simp only [ea_0, ea_1]; rfl) | simp only [ea_0, ea_1]) ?_
  have hT_p0 := hs9.T hT_p0 (by decide)
  have hT_b5 := hs9.T hT_b5 (by decide)
  clear hB9 hz9 hk9 hvm9 ht9 hw9 hs9 hS hL0 hL9
  generalize H1 = H at hR ⊢
  generalize dc9 = dc_ak9, ds9 = ds_ak9 at hlg ⊢
  refine va_putF (D := rD g) (ci := 10) (v := .ref (ak9 (qn S))) (ty := (.object "CodeFoundry$Bytes")) (C := RX11) (T := TX11) (N := 18) hx hb hts inX11 tyX11 tyX11_ok nmX11 hown hR.K hR.P hR.D hR.sS p0 (hR.at50 hT_p0) rfl 0 (by decide) (hts _ kw_113) (fun _ h9 => h9) rfl hin9 rfl (by decide +kernel) rfl rfl (Nat.le_of_ble_eq_true rfl) dX11_init_12 (fun H locs hP hD hS => ?_)
  have hw9 : wfCZ (wR S7 p0 0 (some (qn S))) := hR.w.put (fun b q9 => by cases q9; exact (hT_b5).trans (by rw [hT_p0]; rfl)) (fun _ h9 => absurd h9 List.not_mem_nil) (by rw [hT_p0]; decide) (fun b _ q9 => absurd (show otgC (qT S7 p0) 0 = 0 by rw [hT_p0]; decide) q9) (fun _ => Option.some_ne_none _)
  have hTk9 : qT S7 p0 = 50 := hT_p0
  have hR : RepCZ g ak9 A s (wR S7 p0 0 (some (qn S))) H locs := hR.pR50 hT_p0 FX11_s0 hw9 hP hD hS
  obtain ⟨S10, eS10⟩ : ∃ z, z = wR S7 p0 0 (some (qn S)) := ⟨_, rfl⟩
  rw [← eS10] at hR
  replace h := h S10 eS10 hTk9 hR.w
  have hT_p0 : qT S10 p0 = 50 := (congrArg (fun z => qT z p0) eS10).trans hT_p0
  have hsh : shx S S10 := by rw [eS10]; exact hsh
  have hlg : lgC S S10 (0 + 1 + dc_ak9) (0 + 2 + ds_ak9) := by rw [eS10]; exact hlg
  refine lv_aload_n hx hb dX11_init_15 rfl (lv_at hl 0 rfl) ?_
  obtain ⟨hv11, h⟩ := h
  have e9 : KCC = 300000 := rfl
  have e8 : KSC = 3553400 := rfl
  have e7 : TXB = 10000000 := rfl
  have hTX : qn S10 < TXB := by have := hv11.1; omega
  refine va_new (ci := 0) (fs := dfX0) (C := RX0) (T := TX0) (N := 2) hx hb hts inX0 tyX0 tyX0_ok hown (hts _ kw_163) (hts _ kw_164) (hts _ kw_3) hR.K hR.P hR.D hR.sS hA rfl dfX0_ok (show 0 + 1 + dc_ak9 + 1 ≤ KCC - qn S from hlg.c1 hv11.1) (show 0 + 2 + ds_ak9 + 2 ≤ KSC - qu S from hlg.s1 hv11.2) dX11_init_16 (fun q12 H hP hD hS => ?_)
  have hw8 := hR.w
  have hR := hR.new (t := 40) (n := 0) (k := 2) hTX (by decide) (Nat.zero_le _) wN_C40 hP hD hS
  have hk8 : adk ak9 (adx ak9 (qn S10) q12) S10 := adk.rf.new (Nat.le_refl _) hTX
  have hak := hak.new (q := q12) hlg.2.2.1 hTX
  have hE := hE.ad hk8
  have hlg : lgC S (wN S10 40 0 2) (0 + 1 + dc_ak9 + 1) (0 + 2 + ds_ak9 + 2) := hlg.new (t := 40) (n := 0) ⟨hv11.1, hv11.2⟩
  have hs8 : shx S10 (wN S10 40 0 2) := shx.newCZ (t := 40) (n := 0) (k := 2) shx.rf hw8 hTX
  obtain ⟨am13, eam13⟩ : ∃ z, z = adx ak9 (qn S10) q12 := ⟨_, rfl⟩
  have eq_q12 : am13 (qn S10) = q12 := by rw [eam13]; exact if_pos rfl
  rw [← eam13] at hR hk8 hak hE
  obtain ⟨S14, eS14⟩ : ∃ z, z = wN S10 40 0 2 := ⟨_, rfl⟩
  rw [← eS14] at hR hlg hs8
  replace h := h S14 eS14 hR.w
  have hsh := hsh.tr hs8
  have hT_b15 : qT S14 (qn S10) = 40 := by rw [eS14]; exact if_pos rfl
  have ea_0 : am13 p0 = ak9 p0 := hk8 _ (hw8.hd hT_p0 (by decide) (by decide))
  have hT_p0 := hs8.T hT_p0 (by decide)
  have hl : lv_has ls 1 [(0, .ref (am13 p0))] := by simp only [ea_0]; exact hl
  refine W.eq (g2 := F0 m 19 ls [.ref (am13 (qn S10)), .ref (am13 p0)]) (by simp only [ea_0, eq_q12]) ?_
  clear hw8 hk8 hs8 hP hD hS e9 e8 e7 hTX
  refine lv_dup hx hb dX11_init_19 rfl ?_
  replace h := h (hT_b15)
  obtain ⟨Q16, h0, h⟩ := h
  have hFc := cfreeZ hR hA
  refine W_led2 (fun hL0 => ?_)
  refine va_callv (va_runIN (As := []) (rest := [.ref (am13 (qn S10)), .ref (am13 p0)]) ⟨hx, hb, hml, hown, hts⟩ (rzX0_init l g am13 H S14 (qn S10) hR.w hT_b15 Q16 h0) ⟨va_cnB 0 hts (gd_I kw_6) rfl rfl rfl (nw_of (by exact nn_X11_11) hex) (hts _ kw_3) (by decide +kernel) ⟨Nat.le_of_ble_eq_true rfl, Nat.le_of_ble_eq_true rfl⟩, rfl, hts _ kw_7⟩ ⟨cblindH, fun U hU hW9 => cmkHZ hU hW9 hR hex hE hFc⟩ rfl rfl hl.1 rfl (lv_room (Nat.le_of_ble_eq_true rfl)) dX11_init_20 ⟨(show 0 + 1 + dc_ak9 + 1 + (KCC - qn S14) ≤ KCC - qn S from hlg.cm), (show 0 + 2 + ds_ak9 + 2 + (KSC - qu S14) ≤ KSC - qu S from hlg.sm)⟩) hR.sS (fun q _ h => hFc q h) hFc (fun  S17 t9 H1 locs ht9 hvm9 hw9 hB9 hz9 hk9 hS => ?_)
  rcases S17 with ⟨S17, ak19⟩
  obtain ⟨hB9, dc9, ds9, hL9, hl9⟩ := hB9
  dsimp only at hw9 hB9 hl9
  rw [ht9] at hL9
  obtain ⟨hq18, hw9, hs9, hk8⟩ := hw9
  have hw8 := hR.w
  have hak := hak.tr hk8 hlg.2.2.1
  have hE := hE.ad hk8
  have hR : RepCZ g ak19 A s S17 H1 locs := hR.callH ht9 hB9 hw9 hS hFc
  have hsh := hsh.tr hs9
  refine W_tight2 (hL0.tr hL9).1 (hL0.tr hL9).2.1 ?_
  have hlg := hlg.call hl9
  replace h := h  S17 hq18 hw9 hs9
  have ea_0 : ak19 p0 = am13 p0 := hk8 _ (hw8.hd hT_p0 (by decide) (by decide))
  have ea_1 : ak19 (qn S10) = am13 (qn S10) := hk8 _ (hw8.hd hT_b15 (by decide) (by decide))
  have hl : lv_has ls 1 [(0, .ref (ak19 p0))] := by simp only [ea_0, ea_1]; exact hl
  refine W.eq (g2 := F0 m 23 ls ([.ref (ak19 (qn S10)), .ref (ak19 p0)])) (by first | (simp only [ea_0, ea_1]; rfl) | simp only [ea_0, ea_1]) ?_
  have hT_p0 := hs9.T hT_p0 (by decide)
  have hT_b15 := hs9.T hT_b15 (by decide)
  clear hB9 hz9 hk9 hvm9 ht9 hw9 hs9 hS hL0 hL9
  generalize H1 = H at hR ⊢
  generalize dc9 = dc_ak19, ds9 = ds_ak19 at hlg ⊢
  refine va_putF (D := rD g) (ci := 10) (v := .ref (ak19 (qn S10))) (ty := (.object "CodeFoundry$Bytes")) (C := RX11) (T := TX11) (N := 18) hx hb hts inX11 tyX11 tyX11_ok nmX11 hown hR.K hR.P hR.D hR.sS p0 (hR.at50 hT_p0) rfl 1 (by decide) (hts _ kw_94) (fun _ h9 => h9) rfl hin9 rfl (by decide +kernel) rfl rfl (Nat.le_of_ble_eq_true rfl) dX11_init_23 (fun H locs hP hD hS => ?_)
  have hw9 : wfCZ (wR S17 p0 1 (some (qn S10))) := hR.w.put (fun b q9 => by cases q9; exact (hT_b15).trans (by rw [hT_p0]; rfl)) (fun _ h9 => absurd h9 List.not_mem_nil) (by rw [hT_p0]; decide) (fun b _ q9 => absurd (show otgC (qT S17 p0) 1 = 0 by rw [hT_p0]; decide) q9) (fun _ => Option.some_ne_none _)
  have hTk9 : qT S17 p0 = 50 := hT_p0
  have hR : RepCZ g ak19 A s (wR S17 p0 1 (some (qn S10))) H locs := hR.pR50 hT_p0 FX11_s1 hw9 hP hD hS
  obtain ⟨S20, eS20⟩ : ∃ z, z = wR S17 p0 1 (some (qn S10)) := ⟨_, rfl⟩
  rw [← eS20] at hR
  replace h := h S20 eS20 hTk9 hR.w
  have hT_p0 : qT S20 p0 = 50 := (congrArg (fun z => qT z p0) eS20).trans hT_p0
  have hsh : shx S S20 := by rw [eS20]; exact hsh
  have hlg : lgC S S20 (0 + 1 + dc_ak9 + 1 + dc_ak19) (0 + 2 + ds_ak9 + 2 + ds_ak19) := by rw [eS20]; exact hlg
  refine lv_aload_n hx hb dX11_init_26 rfl (lv_at hl 0 rfl) ?_
  obtain ⟨hv21, h⟩ := h
  have e9 : KCC = 300000 := rfl
  have e8 : KSC = 3553400 := rfl
  have e7 : TXB = 10000000 := rfl
  have hTX : qn S20 < TXB := by have := hv21.1; omega
  refine va_new (ci := 0) (fs := dfX0) (C := RX0) (T := TX0) (N := 2) hx hb hts inX0 tyX0 tyX0_ok hown (hts _ kw_163) (hts _ kw_164) (hts _ kw_3) hR.K hR.P hR.D hR.sS hA rfl dfX0_ok (show 0 + 1 + dc_ak9 + 1 + dc_ak19 + 1 ≤ KCC - qn S from hlg.c1 hv21.1) (show 0 + 2 + ds_ak9 + 2 + ds_ak19 + 2 ≤ KSC - qu S from hlg.s1 hv21.2) dX11_init_27 (fun q22 H hP hD hS => ?_)
  have hw8 := hR.w
  have hR := hR.new (t := 40) (n := 0) (k := 2) hTX (by decide) (Nat.zero_le _) wN_C40 hP hD hS
  have hk8 : adk ak19 (adx ak19 (qn S20) q22) S20 := adk.rf.new (Nat.le_refl _) hTX
  have hak := hak.new (q := q22) hlg.2.2.1 hTX
  have hE := hE.ad hk8
  have hlg : lgC S (wN S20 40 0 2) (0 + 1 + dc_ak9 + 1 + dc_ak19 + 1) (0 + 2 + ds_ak9 + 2 + ds_ak19 + 2) := hlg.new (t := 40) (n := 0) ⟨hv21.1, hv21.2⟩
  have hs8 : shx S20 (wN S20 40 0 2) := shx.newCZ (t := 40) (n := 0) (k := 2) shx.rf hw8 hTX
  obtain ⟨am23, eam23⟩ : ∃ z, z = adx ak19 (qn S20) q22 := ⟨_, rfl⟩
  have eq_q22 : am23 (qn S20) = q22 := by rw [eam23]; exact if_pos rfl
  rw [← eam23] at hR hk8 hak hE
  obtain ⟨S24, eS24⟩ : ∃ z, z = wN S20 40 0 2 := ⟨_, rfl⟩
  rw [← eS24] at hR hlg hs8
  replace h := h S24 eS24 hR.w
  have hsh := hsh.tr hs8
  have hT_b25 : qT S24 (qn S20) = 40 := by rw [eS24]; exact if_pos rfl
  have ea_0 : am23 p0 = ak19 p0 := hk8 _ (hw8.hd hT_p0 (by decide) (by decide))
  have hT_p0 := hs8.T hT_p0 (by decide)
  have hl : lv_has ls 1 [(0, .ref (am23 p0))] := by simp only [ea_0]; exact hl
  refine W.eq (g2 := F0 m 30 ls [.ref (am23 (qn S20)), .ref (am23 p0)]) (by simp only [ea_0, eq_q22]) ?_
  clear hw8 hk8 hs8 hP hD hS e9 e8 e7 hTX
  refine lv_dup hx hb dX11_init_30 rfl ?_
  replace h := h (hT_b25)
  obtain ⟨Q26, h0, h⟩ := h
  have hFc := cfreeZ hR hA
  refine W_led2 (fun hL0 => ?_)
  refine va_callv (va_runIN (As := []) (rest := [.ref (am23 (qn S20)), .ref (am23 p0)]) ⟨hx, hb, hml, hown, hts⟩ (rzX0_init l g am23 H S24 (qn S20) hR.w hT_b25 Q26 h0) ⟨va_cnB 0 hts (gd_I kw_6) rfl rfl rfl (nw_of (by exact nn_X11_11) hex) (hts _ kw_3) (by decide +kernel) ⟨Nat.le_of_ble_eq_true rfl, Nat.le_of_ble_eq_true rfl⟩, rfl, hts _ kw_7⟩ ⟨cblindH, fun U hU hW9 => cmkHZ hU hW9 hR hex hE hFc⟩ rfl rfl hl.1 rfl (lv_room (Nat.le_of_ble_eq_true rfl)) dX11_init_31 ⟨(show 0 + 1 + dc_ak9 + 1 + dc_ak19 + 1 + (KCC - qn S24) ≤ KCC - qn S from hlg.cm), (show 0 + 2 + ds_ak9 + 2 + ds_ak19 + 2 + (KSC - qu S24) ≤ KSC - qu S from hlg.sm)⟩) hR.sS (fun q _ h => hFc q h) hFc (fun  S27 t9 H1 locs ht9 hvm9 hw9 hB9 hz9 hk9 hS => ?_)
  rcases S27 with ⟨S27, ak29⟩
  obtain ⟨hB9, dc9, ds9, hL9, hl9⟩ := hB9
  dsimp only at hw9 hB9 hl9
  rw [ht9] at hL9
  obtain ⟨hq28, hw9, hs9, hk8⟩ := hw9
  have hw8 := hR.w
  have hak := hak.tr hk8 hlg.2.2.1
  have hE := hE.ad hk8
  have hR : RepCZ g ak29 A s S27 H1 locs := hR.callH ht9 hB9 hw9 hS hFc
  have hsh := hsh.tr hs9
  refine W_tight2 (hL0.tr hL9).1 (hL0.tr hL9).2.1 ?_
  have hlg := hlg.call hl9
  replace h := h  S27 hq28 hw9 hs9
  have ea_0 : ak29 p0 = am23 p0 := hk8 _ (hw8.hd hT_p0 (by decide) (by decide))
  have ea_1 : ak29 (qn S20) = am23 (qn S20) := hk8 _ (hw8.hd hT_b25 (by decide) (by decide))
  have hl : lv_has ls 1 [(0, .ref (ak29 p0))] := by simp only [ea_0, ea_1]; exact hl
  refine W.eq (g2 := F0 m 34 ls ([.ref (ak29 (qn S20)), .ref (ak29 p0)])) (by first | (simp only [ea_0, ea_1]; rfl) | simp only [ea_0, ea_1]) ?_
  have hT_p0 := hs9.T hT_p0 (by decide)
  have hT_b25 := hs9.T hT_b25 (by decide)
  clear hB9 hz9 hk9 hvm9 ht9 hw9 hs9 hS hL0 hL9
  generalize H1 = H at hR ⊢
  generalize dc9 = dc_ak29, ds9 = ds_ak29 at hlg ⊢
  refine va_putF (D := rD g) (ci := 10) (v := .ref (ak29 (qn S20))) (ty := (.object "CodeFoundry$Bytes")) (C := RX11) (T := TX11) (N := 18) hx hb hts inX11 tyX11 tyX11_ok nmX11 hown hR.K hR.P hR.D hR.sS p0 (hR.at50 hT_p0) rfl 2 (by decide) (hts _ kw_139) (fun _ h9 => h9) rfl hin9 rfl (by decide +kernel) rfl rfl (Nat.le_of_ble_eq_true rfl) dX11_init_34 (fun H locs hP hD hS => ?_)
  have hw9 : wfCZ (wR S27 p0 2 (some (qn S20))) := hR.w.put (fun b q9 => by cases q9; exact (hT_b25).trans (by rw [hT_p0]; rfl)) (fun _ h9 => absurd h9 List.not_mem_nil) (by rw [hT_p0]; decide) (fun b _ q9 => absurd (show otgC (qT S27 p0) 2 = 0 by rw [hT_p0]; decide) q9) (fun _ => Option.some_ne_none _)
  have hTk9 : qT S27 p0 = 50 := hT_p0
  have hR : RepCZ g ak29 A s (wR S27 p0 2 (some (qn S20))) H locs := hR.pR50 hT_p0 FX11_s2 hw9 hP hD hS
  obtain ⟨S30, eS30⟩ : ∃ z, z = wR S27 p0 2 (some (qn S20)) := ⟨_, rfl⟩
  rw [← eS30] at hR
  replace h := h S30 eS30 hTk9 hR.w
  have hT_p0 : qT S30 p0 = 50 := (congrArg (fun z => qT z p0) eS30).trans hT_p0
  have hsh : shx S S30 := by rw [eS30]; exact hsh
  have hlg : lgC S S30 (0 + 1 + dc_ak9 + 1 + dc_ak19 + 1 + dc_ak29) (0 + 2 + ds_ak9 + 2 + ds_ak19 + 2 + ds_ak29) := by rw [eS30]; exact hlg
  refine lv_aload_n hx hb dX11_init_37 rfl (lv_at hl 0 rfl) ?_
  refine lv_sipush (v := 500) hx hb dX11_init_38 (by decide) ?_
  obtain ⟨hv31, h⟩ := h
  have e9 : KCC = 300000 := rfl
  have e8 : KSC = 3553400 := rfl
  have e7 : TXB = 10000000 := rfl
  have hTX : qn S30 < TXB := by have := hv31.1; omega
  refine va_newa (atype := .int) (ty := .int) (a0 := (500, .inl (fun _ => 0))) (N' := 500) hx hb (hts (.arrayClass .int) kw_51) rfl hR.K hR.P hR.D hR.sS hA (fun _ => rfl) (by decide) (by decide) (by show 500 * 4 ≤ 536870912; have := hv31.2; omega) (show 0 + 1 + dc_ak9 + 1 + dc_ak19 + 1 + dc_ak29 + 1 ≤ KCC - qn S from hlg.c1 hv31.1) (show 0 + 2 + ds_ak9 + 2 + ds_ak19 + 2 + ds_ak29 + 500 ≤ KSC - qu S from hlg.s1 hv31.2) dX11_init_41 (fun q32 cA9 H hK9 hP hD hS => ?_)
  obtain rfl := cls_new3 hR.K hK9 (k := 1) rfl (fun _ h => by cases h)
  have hw8 := hR.w
  have hR := hR.new (t := 238) (n := 500) (k := 500) hTX (by decide) (by have := hv31.2; omega) (wN_CI (by decide)) hP hD hS
  have hk8 : adk ak29 (adx ak29 (qn S30) q32) S30 := adk.rf.new (Nat.le_refl _) hTX
  have hak := hak.new (q := q32) hlg.2.2.1 hTX
  have hE := hE.ad hk8
  have hlg : lgC S (wN S30 238 500 500) (0 + 1 + dc_ak9 + 1 + dc_ak19 + 1 + dc_ak29 + 1) (0 + 2 + ds_ak9 + 2 + ds_ak19 + 2 + ds_ak29 + 500) := hlg.new (t := 238) (n := 500) ⟨hv31.1, hv31.2⟩
  have hs8 : shx S30 (wN S30 238 500 500) := shx.newCZ (t := 238) (n := 500) (k := 500) shx.rf hw8 hTX
  obtain ⟨am33, eam33⟩ : ∃ z, z = adx ak29 (qn S30) q32 := ⟨_, rfl⟩
  have eq_q32 : am33 (qn S30) = q32 := by rw [eam33]; exact if_pos rfl
  rw [← eam33] at hR hk8 hak hE
  obtain ⟨S34, eS34⟩ : ∃ z, z = wN S30 238 500 500 := ⟨_, rfl⟩
  rw [← eS34] at hR hlg hs8
  replace h := h S34 eS34 hR.w
  have hsh := hsh.tr hs8
  have hT_b35 : qT S34 (qn S30) = 238 := by rw [eS34]; exact if_pos rfl
  have ea_0 : am33 p0 = ak29 p0 := hk8 _ (hw8.hd hT_p0 (by decide) (by decide))
  have hT_p0 := hs8.T hT_p0 (by decide)
  have hl : lv_has ls 1 [(0, .ref (am33 p0))] := by simp only [ea_0]; exact hl
  refine W.eq (g2 := F0 m 43 ls [.ref (am33 (qn S30)), .ref (am33 p0)]) (by simp only [ea_0, eq_q32]) ?_
  clear hw8 hk8 hs8 hP hD hS e9 e8 e7 hTX
  refine va_putF (D := rD g) (ci := 10) (v := .ref (am33 (qn S30))) (ty := (.array .int)) (C := RX11) (T := TX11) (N := 18) hx hb hts inX11 tyX11 tyX11_ok nmX11 hown hR.K hR.P hR.D hR.sS p0 (hR.at50 hT_p0) rfl 3 (by decide) (hts _ kw_145) (fun _ h9 => h9) rfl hin9 rfl (by decide +kernel) rfl rfl (Nat.le_of_ble_eq_true rfl) dX11_init_43 (fun H locs hP hD hS => ?_)
  have hw9 : wfCZ (wR S34 p0 3 (some (qn S30))) := hR.w.put (fun b q9 => by cases q9; exact (hT_b35).trans (by rw [hT_p0]; rfl)) (fun _ h9 => absurd h9 List.not_mem_nil) (by rw [hT_p0]; decide) (fun b _ q9 => absurd (show otgC (qT S34 p0) 3 = 0 by rw [hT_p0]; decide) q9) (fun _ => Option.some_ne_none _)
  have hTk9 : qT S34 p0 = 50 := hT_p0
  have hR : RepCZ g am33 A s (wR S34 p0 3 (some (qn S30))) H locs := hR.pR50 hT_p0 FX11_s3 hw9 hP hD hS
  obtain ⟨S36, eS36⟩ : ∃ z, z = wR S34 p0 3 (some (qn S30)) := ⟨_, rfl⟩
  rw [← eS36] at hR
  replace h := h S36 eS36 hTk9 hR.w
  have hT_p0 : qT S36 p0 = 50 := (congrArg (fun z => qT z p0) eS36).trans hT_p0
  have hsh : shx S S36 := by rw [eS36]; exact hsh
  have hlg : lgC S S36 (0 + 1 + dc_ak9 + 1 + dc_ak19 + 1 + dc_ak29 + 1) (0 + 2 + ds_ak9 + 2 + ds_ak19 + 2 + ds_ak29 + 500) := by rw [eS36]; exact hlg
  refine lv_aload_n hx hb dX11_init_46 rfl (lv_at hl 0 rfl) ?_
  refine lv_sipush (v := 500) hx hb dX11_init_47 (by decide) ?_
  obtain ⟨hv37, h⟩ := h
  have e9 : KCC = 300000 := rfl
  have e8 : KSC = 3553400 := rfl
  have e7 : TXB = 10000000 := rfl
  have hTX : qn S36 < TXB := by have := hv37.1; omega
  refine va_newa (atype := .int) (ty := .int) (a0 := (500, .inl (fun _ => 0))) (N' := 500) hx hb (hts (.arrayClass .int) kw_51) rfl hR.K hR.P hR.D hR.sS hA (fun _ => rfl) (by decide) (by decide) (by show 500 * 4 ≤ 536870912; have := hv37.2; omega) (show 0 + 1 + dc_ak9 + 1 + dc_ak19 + 1 + dc_ak29 + 1 + 1 ≤ KCC - qn S from hlg.c1 hv37.1) (show 0 + 2 + ds_ak9 + 2 + ds_ak19 + 2 + ds_ak29 + 500 + 500 ≤ KSC - qu S from hlg.s1 hv37.2) dX11_init_50 (fun q38 cA9 H hK9 hP hD hS => ?_)
  obtain rfl := cls_new3 hR.K hK9 (k := 1) rfl (fun _ h => by cases h)
  have hw8 := hR.w
  have hR := hR.new (t := 239) (n := 500) (k := 500) hTX (by decide) (by have := hv37.2; omega) (wN_CI (by decide)) hP hD hS
  have hk8 : adk am33 (adx am33 (qn S36) q38) S36 := adk.rf.new (Nat.le_refl _) hTX
  have hak := hak.new (q := q38) hlg.2.2.1 hTX
  have hE := hE.ad hk8
  have hlg : lgC S (wN S36 239 500 500) (0 + 1 + dc_ak9 + 1 + dc_ak19 + 1 + dc_ak29 + 1 + 1) (0 + 2 + ds_ak9 + 2 + ds_ak19 + 2 + ds_ak29 + 500 + 500) := hlg.new (t := 239) (n := 500) ⟨hv37.1, hv37.2⟩
  have hs8 : shx S36 (wN S36 239 500 500) := shx.newCZ (t := 239) (n := 500) (k := 500) shx.rf hw8 hTX
  obtain ⟨am39, eam39⟩ : ∃ z, z = adx am33 (qn S36) q38 := ⟨_, rfl⟩
  have eq_q38 : am39 (qn S36) = q38 := by rw [eam39]; exact if_pos rfl
  rw [← eam39] at hR hk8 hak hE
  obtain ⟨S40, eS40⟩ : ∃ z, z = wN S36 239 500 500 := ⟨_, rfl⟩
  rw [← eS40] at hR hlg hs8
  replace h := h S40 eS40 hR.w
  have hsh := hsh.tr hs8
  have hT_b41 : qT S40 (qn S36) = 239 := by rw [eS40]; exact if_pos rfl
  have ea_0 : am39 p0 = am33 p0 := hk8 _ (hw8.hd hT_p0 (by decide) (by decide))
  have hT_p0 := hs8.T hT_p0 (by decide)
  have hl : lv_has ls 1 [(0, .ref (am39 p0))] := by simp only [ea_0]; exact hl
  refine W.eq (g2 := F0 m 52 ls [.ref (am39 (qn S36)), .ref (am39 p0)]) (by simp only [ea_0, eq_q38]) ?_
  clear hw8 hk8 hs8 hP hD hS e9 e8 e7 hTX
  refine va_putF (D := rD g) (ci := 10) (v := .ref (am39 (qn S36))) (ty := (.array .int)) (C := RX11) (T := TX11) (N := 18) hx hb hts inX11 tyX11 tyX11_ok nmX11 hown hR.K hR.P hR.D hR.sS p0 (hR.at50 hT_p0) rfl 4 (by decide) (hts _ kw_149) (fun _ h9 => h9) rfl hin9 rfl (by decide +kernel) rfl rfl (Nat.le_of_ble_eq_true rfl) dX11_init_52 (fun H locs hP hD hS => ?_)
  have hw9 : wfCZ (wR S40 p0 4 (some (qn S36))) := hR.w.put (fun b q9 => by cases q9; exact (hT_b41).trans (by rw [hT_p0]; rfl)) (fun _ h9 => absurd h9 List.not_mem_nil) (by rw [hT_p0]; decide) (fun b _ q9 => absurd (show otgC (qT S40 p0) 4 = 0 by rw [hT_p0]; decide) q9) (fun _ => Option.some_ne_none _)
  have hTk9 : qT S40 p0 = 50 := hT_p0
  have hR : RepCZ g am39 A s (wR S40 p0 4 (some (qn S36))) H locs := hR.pR50 hT_p0 FX11_s4 hw9 hP hD hS
  obtain ⟨S42, eS42⟩ : ∃ z, z = wR S40 p0 4 (some (qn S36)) := ⟨_, rfl⟩
  rw [← eS42] at hR
  replace h := h S42 eS42 hTk9 hR.w
  have hT_p0 : qT S42 p0 = 50 := (congrArg (fun z => qT z p0) eS42).trans hT_p0
  have hsh : shx S S42 := by rw [eS42]; exact hsh
  have hlg : lgC S S42 (0 + 1 + dc_ak9 + 1 + dc_ak19 + 1 + dc_ak29 + 1 + 1) (0 + 2 + ds_ak9 + 2 + ds_ak19 + 2 + ds_ak29 + 500 + 500) := by rw [eS42]; exact hlg
  refine lv_aload_n hx hb dX11_init_55 rfl (lv_at hl 0 rfl) ?_
  refine lv_bipush (v := 24) hx hb dX11_init_56 (by decide) ?_
  obtain ⟨hv43, h⟩ := h
  have e9 : KCC = 300000 := rfl
  have e8 : KSC = 3553400 := rfl
  have e7 : TXB = 10000000 := rfl
  have hTX : qn S42 < TXB := by have := hv43.1; omega
  refine va_newa (atype := .int) (ty := .int) (a0 := (24, .inl (fun _ => 0))) (N' := 24) hx hb (hts (.arrayClass .int) kw_51) rfl hR.K hR.P hR.D hR.sS hA (fun _ => rfl) (by decide) (by decide) (by show 24 * 4 ≤ 536870912; have := hv43.2; omega) (show 0 + 1 + dc_ak9 + 1 + dc_ak19 + 1 + dc_ak29 + 1 + 1 + 1 ≤ KCC - qn S from hlg.c1 hv43.1) (show 0 + 2 + ds_ak9 + 2 + ds_ak19 + 2 + ds_ak29 + 500 + 500 + 24 ≤ KSC - qu S from hlg.s1 hv43.2) dX11_init_58 (fun q44 cA9 H hK9 hP hD hS => ?_)
  obtain rfl := cls_new3 hR.K hK9 (k := 1) rfl (fun _ h => by cases h)
  have hw8 := hR.w
  have hR := hR.new (t := 240) (n := 24) (k := 24) hTX (by decide) (by have := hv43.2; omega) (wN_CI (by decide)) hP hD hS
  have hk8 : adk am39 (adx am39 (qn S42) q44) S42 := adk.rf.new (Nat.le_refl _) hTX
  have hak := hak.new (q := q44) hlg.2.2.1 hTX
  have hE := hE.ad hk8
  have hlg : lgC S (wN S42 240 24 24) (0 + 1 + dc_ak9 + 1 + dc_ak19 + 1 + dc_ak29 + 1 + 1 + 1) (0 + 2 + ds_ak9 + 2 + ds_ak19 + 2 + ds_ak29 + 500 + 500 + 24) := hlg.new (t := 240) (n := 24) ⟨hv43.1, hv43.2⟩
  have hs8 : shx S42 (wN S42 240 24 24) := shx.newCZ (t := 240) (n := 24) (k := 24) shx.rf hw8 hTX
  obtain ⟨am45, eam45⟩ : ∃ z, z = adx am39 (qn S42) q44 := ⟨_, rfl⟩
  have eq_q44 : am45 (qn S42) = q44 := by rw [eam45]; exact if_pos rfl
  rw [← eam45] at hR hk8 hak hE
  obtain ⟨S46, eS46⟩ : ∃ z, z = wN S42 240 24 24 := ⟨_, rfl⟩
  rw [← eS46] at hR hlg hs8
  replace h := h S46 eS46 hR.w
  have hsh := hsh.tr hs8
  have hT_b47 : qT S46 (qn S42) = 240 := by rw [eS46]; exact if_pos rfl
  have ea_0 : am45 p0 = am39 p0 := hk8 _ (hw8.hd hT_p0 (by decide) (by decide))
  have hT_p0 := hs8.T hT_p0 (by decide)
  have hl : lv_has ls 1 [(0, .ref (am45 p0))] := by simp only [ea_0]; exact hl
  refine W.eq (g2 := F0 m 60 ls [.ref (am45 (qn S42)), .ref (am45 p0)]) (by simp only [ea_0, eq_q44]) ?_
  clear hw8 hk8 hs8 hP hD hS e9 e8 e7 hTX
  refine va_putF (D := rD g) (ci := 10) (v := .ref (am45 (qn S42))) (ty := (.array .int)) (C := RX11) (T := TX11) (N := 18) hx hb hts inX11 tyX11 tyX11_ok nmX11 hown hR.K hR.P hR.D hR.sS p0 (hR.at50 hT_p0) rfl 10 (by decide) (hts _ kw_126) (fun _ h9 => h9) rfl hin9 rfl (by decide +kernel) rfl rfl (Nat.le_of_ble_eq_true rfl) dX11_init_60 (fun H locs hP hD hS => ?_)
  have hw9 : wfCZ (wR S46 p0 10 (some (qn S42))) := hR.w.put (fun b q9 => by cases q9; exact (hT_b47).trans (by rw [hT_p0]; rfl)) (fun _ h9 => absurd h9 List.not_mem_nil) (by rw [hT_p0]; decide) (fun b _ q9 => absurd (show otgC (qT S46 p0) 10 = 0 by rw [hT_p0]; decide) q9) (fun _ => Option.some_ne_none _)
  have hTk9 : qT S46 p0 = 50 := hT_p0
  have hR : RepCZ g am45 A s (wR S46 p0 10 (some (qn S42))) H locs := hR.pR50 hT_p0 FX11_s10 hw9 hP hD hS
  obtain ⟨S48, eS48⟩ : ∃ z, z = wR S46 p0 10 (some (qn S42)) := ⟨_, rfl⟩
  rw [← eS48] at hR
  replace h := h S48 eS48 hTk9 hR.w
  have hT_p0 : qT S48 p0 = 50 := (congrArg (fun z => qT z p0) eS48).trans hT_p0
  have hsh : shx S S48 := by rw [eS48]; exact hsh
  have hlg : lgC S S48 (0 + 1 + dc_ak9 + 1 + dc_ak19 + 1 + dc_ak29 + 1 + 1 + 1) (0 + 2 + ds_ak9 + 2 + ds_ak19 + 2 + ds_ak29 + 500 + 500 + 24) := by rw [eS48]; exact hlg
  refine lv_aload_n hx hb dX11_init_63 rfl (lv_at hl 0 rfl) ?_
  refine lv_bipush (v := 24) hx hb dX11_init_64 (by decide) ?_
  obtain ⟨hv49, h⟩ := h
  have e9 : KCC = 300000 := rfl
  have e8 : KSC = 3553400 := rfl
  have e7 : TXB = 10000000 := rfl
  have hTX : qn S48 < TXB := by have := hv49.1; omega
  refine va_newa (atype := .int) (ty := .int) (a0 := (24, .inl (fun _ => 0))) (N' := 24) hx hb (hts (.arrayClass .int) kw_51) rfl hR.K hR.P hR.D hR.sS hA (fun _ => rfl) (by decide) (by decide) (by show 24 * 4 ≤ 536870912; have := hv49.2; omega) (show 0 + 1 + dc_ak9 + 1 + dc_ak19 + 1 + dc_ak29 + 1 + 1 + 1 + 1 ≤ KCC - qn S from hlg.c1 hv49.1) (show 0 + 2 + ds_ak9 + 2 + ds_ak19 + 2 + ds_ak29 + 500 + 500 + 24 + 24 ≤ KSC - qu S from hlg.s1 hv49.2) dX11_init_66 (fun q50 cA9 H hK9 hP hD hS => ?_)
  obtain rfl := cls_new3 hR.K hK9 (k := 1) rfl (fun _ h => by cases h)
  have hw8 := hR.w
  have hR := hR.new (t := 241) (n := 24) (k := 24) hTX (by decide) (by have := hv49.2; omega) (wN_CI (by decide)) hP hD hS
  have hk8 : adk am45 (adx am45 (qn S48) q50) S48 := adk.rf.new (Nat.le_refl _) hTX
  have hak := hak.new (q := q50) hlg.2.2.1 hTX
  have hE := hE.ad hk8
  have hlg : lgC S (wN S48 241 24 24) (0 + 1 + dc_ak9 + 1 + dc_ak19 + 1 + dc_ak29 + 1 + 1 + 1 + 1) (0 + 2 + ds_ak9 + 2 + ds_ak19 + 2 + ds_ak29 + 500 + 500 + 24 + 24) := hlg.new (t := 241) (n := 24) ⟨hv49.1, hv49.2⟩
  have hs8 : shx S48 (wN S48 241 24 24) := shx.newCZ (t := 241) (n := 24) (k := 24) shx.rf hw8 hTX
  obtain ⟨am51, eam51⟩ : ∃ z, z = adx am45 (qn S48) q50 := ⟨_, rfl⟩
  have eq_q50 : am51 (qn S48) = q50 := by rw [eam51]; exact if_pos rfl
  rw [← eam51] at hR hk8 hak hE
  obtain ⟨S52, eS52⟩ : ∃ z, z = wN S48 241 24 24 := ⟨_, rfl⟩
  rw [← eS52] at hR hlg hs8
  replace h := h S52 eS52 hR.w
  have hsh := hsh.tr hs8
  have hT_b53 : qT S52 (qn S48) = 241 := by rw [eS52]; exact if_pos rfl
  have ea_0 : am51 p0 = am45 p0 := hk8 _ (hw8.hd hT_p0 (by decide) (by decide))
  have hT_p0 := hs8.T hT_p0 (by decide)
  have hl : lv_has ls 1 [(0, .ref (am51 p0))] := by simp only [ea_0]; exact hl
  refine W.eq (g2 := F0 m 68 ls [.ref (am51 (qn S48)), .ref (am51 p0)]) (by simp only [ea_0, eq_q50]) ?_
  clear hw8 hk8 hs8 hP hD hS e9 e8 e7 hTX
  refine va_putF (D := rD g) (ci := 10) (v := .ref (am51 (qn S48))) (ty := (.array .int)) (C := RX11) (T := TX11) (N := 18) hx hb hts inX11 tyX11 tyX11_ok nmX11 hown hR.K hR.P hR.D hR.sS p0 (hR.at50 hT_p0) rfl 11 (by decide) (hts _ kw_128) (fun _ h9 => h9) rfl hin9 rfl (by decide +kernel) rfl rfl (Nat.le_of_ble_eq_true rfl) dX11_init_68 (fun H locs hP hD hS => ?_)
  have hw9 : wfCZ (wR S52 p0 11 (some (qn S48))) := hR.w.put (fun b q9 => by cases q9; exact (hT_b53).trans (by rw [hT_p0]; rfl)) (fun _ h9 => absurd h9 List.not_mem_nil) (by rw [hT_p0]; decide) (fun b _ q9 => absurd (show otgC (qT S52 p0) 11 = 0 by rw [hT_p0]; decide) q9) (fun _ => Option.some_ne_none _)
  have hTk9 : qT S52 p0 = 50 := hT_p0
  have hR : RepCZ g am51 A s (wR S52 p0 11 (some (qn S48))) H locs := hR.pR50 hT_p0 FX11_s11 hw9 hP hD hS
  obtain ⟨S54, eS54⟩ : ∃ z, z = wR S52 p0 11 (some (qn S48)) := ⟨_, rfl⟩
  rw [← eS54] at hR
  replace h := h S54 eS54 hTk9 hR.w
  have hT_p0 : qT S54 p0 = 50 := (congrArg (fun z => qT z p0) eS54).trans hT_p0
  have hsh : shx S S54 := by rw [eS54]; exact hsh
  have hlg : lgC S S54 (0 + 1 + dc_ak9 + 1 + dc_ak19 + 1 + dc_ak29 + 1 + 1 + 1 + 1) (0 + 2 + ds_ak9 + 2 + ds_ak19 + 2 + ds_ak29 + 500 + 500 + 24 + 24) := by rw [eS54]; exact hlg
  refine lv_aload_n hx hb dX11_init_71 rfl (lv_at hl 0 rfl) ?_
  refine lv_bipush (v := 24) hx hb dX11_init_72 (by decide) ?_
  obtain ⟨hv55, h⟩ := h
  have e9 : KCC = 300000 := rfl
  have e8 : KSC = 3553400 := rfl
  have e7 : TXB = 10000000 := rfl
  have hTX : qn S54 < TXB := by have := hv55.1; omega
  refine va_newa (atype := .int) (ty := .int) (a0 := (24, .inl (fun _ => 0))) (N' := 24) hx hb (hts (.arrayClass .int) kw_51) rfl hR.K hR.P hR.D hR.sS hA (fun _ => rfl) (by decide) (by decide) (by show 24 * 4 ≤ 536870912; have := hv55.2; omega) (show 0 + 1 + dc_ak9 + 1 + dc_ak19 + 1 + dc_ak29 + 1 + 1 + 1 + 1 + 1 ≤ KCC - qn S from hlg.c1 hv55.1) (show 0 + 2 + ds_ak9 + 2 + ds_ak19 + 2 + ds_ak29 + 500 + 500 + 24 + 24 + 24 ≤ KSC - qu S from hlg.s1 hv55.2) dX11_init_74 (fun q56 cA9 H hK9 hP hD hS => ?_)
  obtain rfl := cls_new3 hR.K hK9 (k := 1) rfl (fun _ h => by cases h)
  have hw8 := hR.w
  have hR := hR.new (t := 242) (n := 24) (k := 24) hTX (by decide) (by have := hv55.2; omega) (wN_CI (by decide)) hP hD hS
  have hk8 : adk am51 (adx am51 (qn S54) q56) S54 := adk.rf.new (Nat.le_refl _) hTX
  have hak := hak.new (q := q56) hlg.2.2.1 hTX
  have hE := hE.ad hk8
  have hlg : lgC S (wN S54 242 24 24) (0 + 1 + dc_ak9 + 1 + dc_ak19 + 1 + dc_ak29 + 1 + 1 + 1 + 1 + 1) (0 + 2 + ds_ak9 + 2 + ds_ak19 + 2 + ds_ak29 + 500 + 500 + 24 + 24 + 24) := hlg.new (t := 242) (n := 24) ⟨hv55.1, hv55.2⟩
  have hs8 : shx S54 (wN S54 242 24 24) := shx.newCZ (t := 242) (n := 24) (k := 24) shx.rf hw8 hTX
  obtain ⟨am57, eam57⟩ : ∃ z, z = adx am51 (qn S54) q56 := ⟨_, rfl⟩
  have eq_q56 : am57 (qn S54) = q56 := by rw [eam57]; exact if_pos rfl
  rw [← eam57] at hR hk8 hak hE
  obtain ⟨S58, eS58⟩ : ∃ z, z = wN S54 242 24 24 := ⟨_, rfl⟩
  rw [← eS58] at hR hlg hs8
  replace h := h S58 eS58 hR.w
  have hsh := hsh.tr hs8
  have hT_b59 : qT S58 (qn S54) = 242 := by rw [eS58]; exact if_pos rfl
  have ea_0 : am57 p0 = am51 p0 := hk8 _ (hw8.hd hT_p0 (by decide) (by decide))
  have hT_p0 := hs8.T hT_p0 (by decide)
  have hl : lv_has ls 1 [(0, .ref (am57 p0))] := by simp only [ea_0]; exact hl
  refine W.eq (g2 := F0 m 76 ls [.ref (am57 (qn S54)), .ref (am57 p0)]) (by simp only [ea_0, eq_q56]) ?_
  clear hw8 hk8 hs8 hP hD hS e9 e8 e7 hTX
  refine va_putF (D := rD g) (ci := 10) (v := .ref (am57 (qn S54))) (ty := (.array .int)) (C := RX11) (T := TX11) (N := 18) hx hb hts inX11 tyX11 tyX11_ok nmX11 hown hR.K hR.P hR.D hR.sS p0 (hR.at50 hT_p0) rfl 12 (by decide) (hts _ kw_116) (fun _ h9 => h9) rfl hin9 rfl (by decide +kernel) rfl rfl (Nat.le_of_ble_eq_true rfl) dX11_init_76 (fun H locs hP hD hS => ?_)
  have hw9 : wfCZ (wR S58 p0 12 (some (qn S54))) := hR.w.put (fun b q9 => by cases q9; exact (hT_b59).trans (by rw [hT_p0]; rfl)) (fun _ h9 => absurd h9 List.not_mem_nil) (by rw [hT_p0]; decide) (fun b _ q9 => absurd (show otgC (qT S58 p0) 12 = 0 by rw [hT_p0]; decide) q9) (fun _ => Option.some_ne_none _)
  have hTk9 : qT S58 p0 = 50 := hT_p0
  have hR : RepCZ g am57 A s (wR S58 p0 12 (some (qn S54))) H locs := hR.pR50 hT_p0 FX11_s12 hw9 hP hD hS
  obtain ⟨S60, eS60⟩ : ∃ z, z = wR S58 p0 12 (some (qn S54)) := ⟨_, rfl⟩
  rw [← eS60] at hR
  replace h := h S60 eS60 hTk9 hR.w
  have hT_p0 : qT S60 p0 = 50 := (congrArg (fun z => qT z p0) eS60).trans hT_p0
  have hsh : shx S S60 := by rw [eS60]; exact hsh
  have hlg : lgC S S60 (0 + 1 + dc_ak9 + 1 + dc_ak19 + 1 + dc_ak29 + 1 + 1 + 1 + 1 + 1) (0 + 2 + ds_ak9 + 2 + ds_ak19 + 2 + ds_ak29 + 500 + 500 + 24 + 24 + 24) := by rw [eS60]; exact hlg
  refine lv_aload_n hx hb dX11_init_79 rfl (lv_at hl 0 rfl) ?_
  refine lv_bipush (v := 24) hx hb dX11_init_80 (by decide) ?_
  obtain ⟨hv61, h⟩ := h
  have e9 : KCC = 300000 := rfl
  have e8 : KSC = 3553400 := rfl
  have e7 : TXB = 10000000 := rfl
  have hTX : qn S60 < TXB := by have := hv61.1; omega
  refine va_newa (atype := .int) (ty := .int) (a0 := (24, .inl (fun _ => 0))) (N' := 24) hx hb (hts (.arrayClass .int) kw_51) rfl hR.K hR.P hR.D hR.sS hA (fun _ => rfl) (by decide) (by decide) (by show 24 * 4 ≤ 536870912; have := hv61.2; omega) (show 0 + 1 + dc_ak9 + 1 + dc_ak19 + 1 + dc_ak29 + 1 + 1 + 1 + 1 + 1 + 1 ≤ KCC - qn S from hlg.c1 hv61.1) (show 0 + 2 + ds_ak9 + 2 + ds_ak19 + 2 + ds_ak29 + 500 + 500 + 24 + 24 + 24 + 24 ≤ KSC - qu S from hlg.s1 hv61.2) dX11_init_82 (fun q62 cA9 H hK9 hP hD hS => ?_)
  obtain rfl := cls_new3 hR.K hK9 (k := 1) rfl (fun _ h => by cases h)
  have hw8 := hR.w
  have hR := hR.new (t := 243) (n := 24) (k := 24) hTX (by decide) (by have := hv61.2; omega) (wN_CI (by decide)) hP hD hS
  have hk8 : adk am57 (adx am57 (qn S60) q62) S60 := adk.rf.new (Nat.le_refl _) hTX
  have hak := hak.new (q := q62) hlg.2.2.1 hTX
  have hE := hE.ad hk8
  have hlg : lgC S (wN S60 243 24 24) (0 + 1 + dc_ak9 + 1 + dc_ak19 + 1 + dc_ak29 + 1 + 1 + 1 + 1 + 1 + 1) (0 + 2 + ds_ak9 + 2 + ds_ak19 + 2 + ds_ak29 + 500 + 500 + 24 + 24 + 24 + 24) := hlg.new (t := 243) (n := 24) ⟨hv61.1, hv61.2⟩
  have hs8 : shx S60 (wN S60 243 24 24) := shx.newCZ (t := 243) (n := 24) (k := 24) shx.rf hw8 hTX
  obtain ⟨am63, eam63⟩ : ∃ z, z = adx am57 (qn S60) q62 := ⟨_, rfl⟩
  have eq_q62 : am63 (qn S60) = q62 := by rw [eam63]; exact if_pos rfl
  rw [← eam63] at hR hk8 hak hE
  obtain ⟨S64, eS64⟩ : ∃ z, z = wN S60 243 24 24 := ⟨_, rfl⟩
  rw [← eS64] at hR hlg hs8
  replace h := h S64 eS64 hR.w
  have hsh := hsh.tr hs8
  have hT_b65 : qT S64 (qn S60) = 243 := by rw [eS64]; exact if_pos rfl
  have ea_0 : am63 p0 = am57 p0 := hk8 _ (hw8.hd hT_p0 (by decide) (by decide))
  have hT_p0 := hs8.T hT_p0 (by decide)
  have hl : lv_has ls 1 [(0, .ref (am63 p0))] := by simp only [ea_0]; exact hl
  refine W.eq (g2 := F0 m 84 ls [.ref (am63 (qn S60)), .ref (am63 p0)]) (by simp only [ea_0, eq_q62]) ?_
  clear hw8 hk8 hs8 hP hD hS e9 e8 e7 hTX
  refine va_putF (D := rD g) (ci := 10) (v := .ref (am63 (qn S60))) (ty := (.array .int)) (C := RX11) (T := TX11) (N := 18) hx hb hts inX11 tyX11 tyX11_ok nmX11 hown hR.K hR.P hR.D hR.sS p0 (hR.at50 hT_p0) rfl 13 (by decide) (hts _ kw_118) (fun _ h9 => h9) rfl hin9 rfl (by decide +kernel) rfl rfl (Nat.le_of_ble_eq_true rfl) dX11_init_84 (fun H locs hP hD hS => ?_)
  have hw9 : wfCZ (wR S64 p0 13 (some (qn S60))) := hR.w.put (fun b q9 => by cases q9; exact (hT_b65).trans (by rw [hT_p0]; rfl)) (fun _ h9 => absurd h9 List.not_mem_nil) (by rw [hT_p0]; decide) (fun b _ q9 => absurd (show otgC (qT S64 p0) 13 = 0 by rw [hT_p0]; decide) q9) (fun _ => Option.some_ne_none _)
  have hTk9 : qT S64 p0 = 50 := hT_p0
  have hR : RepCZ g am63 A s (wR S64 p0 13 (some (qn S60))) H locs := hR.pR50 hT_p0 FX11_s13 hw9 hP hD hS
  obtain ⟨S66, eS66⟩ : ∃ z, z = wR S64 p0 13 (some (qn S60)) := ⟨_, rfl⟩
  rw [← eS66] at hR
  replace h := h S66 eS66 hTk9 hR.w
  have hT_p0 : qT S66 p0 = 50 := (congrArg (fun z => qT z p0) eS66).trans hT_p0
  have hsh : shx S S66 := by rw [eS66]; exact hsh
  have hlg : lgC S S66 (0 + 1 + dc_ak9 + 1 + dc_ak19 + 1 + dc_ak29 + 1 + 1 + 1 + 1 + 1 + 1) (0 + 2 + ds_ak9 + 2 + ds_ak19 + 2 + ds_ak29 + 500 + 500 + 24 + 24 + 24 + 24) := by rw [eS66]; exact hlg
  refine lv_aload_n hx hb dX11_init_87 rfl (lv_at hl 0 rfl) ?_
  obtain ⟨hv67, h⟩ := h
  have e9 : KCC = 300000 := rfl
  have e8 : KSC = 3553400 := rfl
  have e7 : TXB = 10000000 := rfl
  have hTX : qn S66 < TXB := by have := hv67.1; omega
  refine va_new (ci := 4) (fs := dfX4) (C := RX4) (T := TX4) (N := 8) hx hb hts inX4 tyX4 tyX4_ok hown (hts _ kw_165) (hts _ kw_166) (hts _ kw_167) hR.K hR.P hR.D hR.sS hA rfl dfX4_ok (show 0 + 1 + dc_ak9 + 1 + dc_ak19 + 1 + dc_ak29 + 1 + 1 + 1 + 1 + 1 + 1 + 1 ≤ KCC - qn S from hlg.c1 hv67.1) (show 0 + 2 + ds_ak9 + 2 + ds_ak19 + 2 + ds_ak29 + 500 + 500 + 24 + 24 + 24 + 24 + 8 ≤ KSC - qu S from hlg.s1 hv67.2) dX11_init_88 (fun q68 H hP hD hS => ?_)
  have hw8 := hR.w
  have hR := hR.new (t := 44) (n := 0) (k := 8) hTX (by decide) (Nat.zero_le _) wN_C44 hP hD hS
  have hk8 : adk am63 (adx am63 (qn S66) q68) S66 := adk.rf.new (Nat.le_refl _) hTX
  have hak := hak.new (q := q68) hlg.2.2.1 hTX
  have hE := hE.ad hk8
  have hlg : lgC S (wN S66 44 0 8) (0 + 1 + dc_ak9 + 1 + dc_ak19 + 1 + dc_ak29 + 1 + 1 + 1 + 1 + 1 + 1 + 1) (0 + 2 + ds_ak9 + 2 + ds_ak19 + 2 + ds_ak29 + 500 + 500 + 24 + 24 + 24 + 24 + 8) := hlg.new (t := 44) (n := 0) ⟨hv67.1, hv67.2⟩
  have hs8 : shx S66 (wN S66 44 0 8) := shx.newCZ (t := 44) (n := 0) (k := 8) shx.rf hw8 hTX
  obtain ⟨am69, eam69⟩ : ∃ z, z = adx am63 (qn S66) q68 := ⟨_, rfl⟩
  have eq_q68 : am69 (qn S66) = q68 := by rw [eam69]; exact if_pos rfl
  rw [← eam69] at hR hk8 hak hE
  obtain ⟨S70, eS70⟩ : ∃ z, z = wN S66 44 0 8 := ⟨_, rfl⟩
  rw [← eS70] at hR hlg hs8
  replace h := h S70 eS70 hR.w
  have hsh := hsh.tr hs8
  have hT_b71 : qT S70 (qn S66) = 44 := by rw [eS70]; exact if_pos rfl
  have ea_0 : am69 p0 = am63 p0 := hk8 _ (hw8.hd hT_p0 (by decide) (by decide))
  have hT_p0 := hs8.T hT_p0 (by decide)
  have hl : lv_has ls 1 [(0, .ref (am69 p0))] := by simp only [ea_0]; exact hl
  refine W.eq (g2 := F0 m 91 ls [.ref (am69 (qn S66)), .ref (am69 p0)]) (by simp only [ea_0, eq_q68]) ?_
  clear hw8 hk8 hs8 hP hD hS e9 e8 e7 hTX
  refine lv_dup hx hb dX11_init_91 rfl ?_
  replace h := h (hT_b71)
  obtain ⟨Q72, h0, h⟩ := h
  have hFc := cfreeZ hR hA
  refine W_led2 (fun hL0 => ?_)
  refine va_callv (va_runIN (As := []) (rest := [.ref (am69 (qn S66)), .ref (am69 p0)]) ⟨hx, hb, hml, hown, hts⟩ (rzX4_init l g am69 H S70 (qn S66) hR.w hT_b71 Q72 h0) ⟨va_cnB 0 hts (gd_I kw_963) rfl rfl rfl (nw_of (by exact nn_X11_45) hex) (hts _ kw_167) (by decide +kernel) ⟨Nat.le_of_ble_eq_true rfl, Nat.le_of_ble_eq_true rfl⟩, rfl, hts _ kw_964⟩ ⟨cblindH, fun U hU hW9 => cmkHZ hU hW9 hR hex hE hFc⟩ rfl rfl hl.1 rfl (lv_room (Nat.le_of_ble_eq_true rfl)) dX11_init_92 ⟨(show 0 + 1 + dc_ak9 + 1 + dc_ak19 + 1 + dc_ak29 + 1 + 1 + 1 + 1 + 1 + 1 + 1 + (KCC - qn S70) ≤ KCC - qn S from hlg.cm), (show 0 + 2 + ds_ak9 + 2 + ds_ak19 + 2 + ds_ak29 + 500 + 500 + 24 + 24 + 24 + 24 + 8 + (KSC - qu S70) ≤ KSC - qu S from hlg.sm)⟩) hR.sS (fun q _ h => hFc q h) hFc (fun  S73 t9 H1 locs ht9 hvm9 hw9 hB9 hz9 hk9 hS => ?_)
  rcases S73 with ⟨S73, ak75⟩
  obtain ⟨hB9, dc9, ds9, hL9, hl9⟩ := hB9
  dsimp only at hw9 hB9 hl9
  rw [ht9] at hL9
  obtain ⟨hq74, hw9, hs9, hk8⟩ := hw9
  have hw8 := hR.w
  have hak := hak.tr hk8 hlg.2.2.1
  have hE := hE.ad hk8
  have hR : RepCZ g ak75 A s S73 H1 locs := hR.callH ht9 hB9 hw9 hS hFc
  have hsh := hsh.tr hs9
  refine W_tight2 (hL0.tr hL9).1 (hL0.tr hL9).2.1 ?_
  have hlg := hlg.call hl9
  replace h := h  S73 hq74 hw9 hs9
  have ea_0 : ak75 p0 = am69 p0 := hk8 _ (hw8.hd hT_p0 (by decide) (by decide))
  have ea_1 : ak75 (qn S66) = am69 (qn S66) := hk8 _ (hw8.hd hT_b71 (by decide) (by decide))
  have hl : lv_has ls 1 [(0, .ref (ak75 p0))] := by simp only [ea_0, ea_1]; exact hl
  refine W.eq (g2 := F0 m 95 ls ([.ref (ak75 (qn S66)), .ref (ak75 p0)])) (by first | (simp only [ea_0, ea_1]; rfl) | simp only [ea_0, ea_1]) ?_
  have hT_p0 := hs9.T hT_p0 (by decide)
  have hT_b71 := hs9.T hT_b71 (by decide)
  clear hB9 hz9 hk9 hvm9 ht9 hw9 hs9 hS hL0 hL9
  generalize H1 = H at hR ⊢
  generalize dc9 = dc_ak75, ds9 = ds_ak75 at hlg ⊢
  refine va_putF (D := rD g) (ci := 10) (v := .ref (ak75 (qn S66))) (ty := (.object "CodeFoundry$Heights")) (C := RX11) (T := TX11) (N := 18) hx hb hts inX11 tyX11 tyX11_ok nmX11 hown hR.K hR.P hR.D hR.sS p0 (hR.at50 hT_p0) rfl 14 (by decide) (hts _ kw_92) (fun _ h9 => h9) rfl hin9 rfl (by decide +kernel) rfl rfl (Nat.le_of_ble_eq_true rfl) dX11_init_95 (fun H locs hP hD hS => ?_)
  have hw9 : wfCZ (wR S73 p0 14 (some (qn S66))) := hR.w.put (fun b q9 => by cases q9; exact (hT_b71).trans (by rw [hT_p0]; rfl)) (fun _ h9 => absurd h9 List.not_mem_nil) (by rw [hT_p0]; decide) (fun b _ q9 => absurd (show otgC (qT S73 p0) 14 = 0 by rw [hT_p0]; decide) q9) (fun _ => Option.some_ne_none _)
  have hTk9 : qT S73 p0 = 50 := hT_p0
  have hR : RepCZ g ak75 A s (wR S73 p0 14 (some (qn S66))) H locs := hR.pR50 hT_p0 FX11_s14 hw9 hP hD hS
  obtain ⟨S76, eS76⟩ : ∃ z, z = wR S73 p0 14 (some (qn S66)) := ⟨_, rfl⟩
  rw [← eS76] at hR
  replace h := h S76 eS76 hTk9 hR.w
  have hT_p0 : qT S76 p0 = 50 := (congrArg (fun z => qT z p0) eS76).trans hT_p0
  have hsh : shx S S76 := by rw [eS76]; exact hsh
  have hlg : lgC S S76 (0 + 1 + dc_ak9 + 1 + dc_ak19 + 1 + dc_ak29 + 1 + 1 + 1 + 1 + 1 + 1 + 1 + dc_ak75) (0 + 2 + ds_ak9 + 2 + ds_ak19 + 2 + ds_ak29 + 500 + 500 + 24 + 24 + 24 + 24 + 8 + ds_ak75) := by rw [eS76]; exact hlg
  refine lv_aload_n hx hb dX11_init_98 rfl (lv_at hl 0 rfl) ?_
  refine lv_iconst (v := 0) hx hb dX11_init_99 (by decide) ?_
  obtain ⟨hv77, h⟩ := h
  have e9 : KCC = 300000 := rfl
  have e8 : KSC = 3553400 := rfl
  have e7 : TXB = 10000000 := rfl
  have hTX : qn S76 < TXB := by have := hv77.1; omega
  refine va_newa (atype := .int) (ty := .int) (a0 := (0, .inl (fun _ => 0))) (N' := 0) hx hb (hts (.arrayClass .int) kw_51) rfl hR.K hR.P hR.D hR.sS hA (fun _ => rfl) (by decide) (by decide) (by show 0 * 4 ≤ 536870912; have := hv77.2; omega) (show 0 + 1 + dc_ak9 + 1 + dc_ak19 + 1 + dc_ak29 + 1 + 1 + 1 + 1 + 1 + 1 + 1 + dc_ak75 + 1 ≤ KCC - qn S from hlg.c1 hv77.1) (show 0 + 2 + ds_ak9 + 2 + ds_ak19 + 2 + ds_ak29 + 500 + 500 + 24 + 24 + 24 + 24 + 8 + ds_ak75 + 0 ≤ KSC - qu S from hlg.s1 hv77.2) dX11_init_100 (fun q78 cA9 H hK9 hP hD hS => ?_)
  obtain rfl := cls_new3 hR.K hK9 (k := 1) rfl (fun _ h => by cases h)
  have hw8 := hR.w
  have hR := hR.new (t := 244) (n := 0) (k := 0) hTX (by decide) (Nat.zero_le _) (wN_CI (by decide)) hP hD hS
  have hk8 : adk ak75 (adx ak75 (qn S76) q78) S76 := adk.rf.new (Nat.le_refl _) hTX
  have hak := hak.new (q := q78) hlg.2.2.1 hTX
  have hE := hE.ad hk8
  have hlg : lgC S (wN S76 244 0 0) (0 + 1 + dc_ak9 + 1 + dc_ak19 + 1 + dc_ak29 + 1 + 1 + 1 + 1 + 1 + 1 + 1 + dc_ak75 + 1) (0 + 2 + ds_ak9 + 2 + ds_ak19 + 2 + ds_ak29 + 500 + 500 + 24 + 24 + 24 + 24 + 8 + ds_ak75 + 0) := hlg.new (t := 244) (n := 0) ⟨hv77.1, hv77.2⟩
  have hs8 : shx S76 (wN S76 244 0 0) := shx.newCZ (t := 244) (n := 0) (k := 0) shx.rf hw8 hTX
  obtain ⟨am79, eam79⟩ : ∃ z, z = adx ak75 (qn S76) q78 := ⟨_, rfl⟩
  have eq_q78 : am79 (qn S76) = q78 := by rw [eam79]; exact if_pos rfl
  rw [← eam79] at hR hk8 hak hE
  obtain ⟨S80, eS80⟩ : ∃ z, z = wN S76 244 0 0 := ⟨_, rfl⟩
  rw [← eS80] at hR hlg hs8
  replace h := h S80 eS80 hR.w
  have hsh := hsh.tr hs8
  have hT_b81 : qT S80 (qn S76) = 244 := by rw [eS80]; exact if_pos rfl
  have ea_0 : am79 p0 = ak75 p0 := hk8 _ (hw8.hd hT_p0 (by decide) (by decide))
  have hT_p0 := hs8.T hT_p0 (by decide)
  have hl : lv_has ls 1 [(0, .ref (am79 p0))] := by simp only [ea_0]; exact hl
  refine W.eq (g2 := F0 m 102 ls [.ref (am79 (qn S76)), .ref (am79 p0)]) (by simp only [ea_0, eq_q78]) ?_
  clear hw8 hk8 hs8 hP hD hS e9 e8 e7 hTX
  refine va_put (D := rD g) (ci := 10) (v := .ref (am79 (qn S76))) (ty := (.array .int)) (C := RX11) (T := TX11) (N := 18) hx hb hts inX11 tyX11 tyX11_ok nmX11 hown hR.K hR.P hR.D hR.sS p0 (hR.at50 hT_p0) rfl 16 (by decide) (hts _ kw_168) (fun _ h9 => h9) rfl (by decide +kernel) rfl rfl (Nat.le_of_ble_eq_true rfl) dX11_init_102 (fun H locs hP hD hS => ?_)
  have hw9 : wfCZ (wR S80 p0 16 (some (qn S76))) := hR.w.put (fun b q9 => by cases q9; exact (hT_b81).trans (by rw [hT_p0]; rfl)) (fun _ h9 => absurd h9 List.not_mem_nil) (by rw [hT_p0]; decide) (fun b _ q9 => absurd (show otgC (qT S80 p0) 16 = 0 by rw [hT_p0]; decide) q9) (fun _ => Option.some_ne_none _)
  have hTk9 : qT S80 p0 = 50 := hT_p0
  have hR : RepCZ g am79 A s (wR S80 p0 16 (some (qn S76))) H locs := hR.pR50 hT_p0 FX11_s16 hw9 hP hD hS
  obtain ⟨S82, eS82⟩ : ∃ z, z = wR S80 p0 16 (some (qn S76)) := ⟨_, rfl⟩
  rw [← eS82] at hR
  replace h := h S82 eS82 hTk9 hR.w
  have hT_p0 : qT S82 p0 = 50 := (congrArg (fun z => qT z p0) eS82).trans hT_p0
  have hsh : shx S S82 := by rw [eS82]; exact hsh
  have hlg : lgC S S82 (0 + 1 + dc_ak9 + 1 + dc_ak19 + 1 + dc_ak29 + 1 + 1 + 1 + 1 + 1 + 1 + 1 + dc_ak75 + 1) (0 + 2 + ds_ak9 + 2 + ds_ak19 + 2 + ds_ak29 + 500 + 500 + 24 + 24 + 24 + 24 + 8 + ds_ak75 + 0) := by rw [eS82]; exact hlg
  refine lv_aload_n hx hb dX11_init_105 rfl (lv_at hl 0 rfl) ?_
  refine lv_iconst (v := 0) hx hb dX11_init_106 (by decide) ?_
  obtain ⟨hv83, h⟩ := h
  have e9 : KCC = 300000 := rfl
  have e8 : KSC = 3553400 := rfl
  have e7 : TXB = 10000000 := rfl
  have hTX : qn S82 < TXB := by have := hv83.1; omega
  refine va_newa (atype := .int) (ty := .int) (a0 := (0, .inl (fun _ => 0))) (N' := 0) hx hb (hts (.arrayClass .int) kw_51) rfl hR.K hR.P hR.D hR.sS hA (fun _ => rfl) (by decide) (by decide) (by show 0 * 4 ≤ 536870912; have := hv83.2; omega) (show 0 + 1 + dc_ak9 + 1 + dc_ak19 + 1 + dc_ak29 + 1 + 1 + 1 + 1 + 1 + 1 + 1 + dc_ak75 + 1 + 1 ≤ KCC - qn S from hlg.c1 hv83.1) (show 0 + 2 + ds_ak9 + 2 + ds_ak19 + 2 + ds_ak29 + 500 + 500 + 24 + 24 + 24 + 24 + 8 + ds_ak75 + 0 + 0 ≤ KSC - qu S from hlg.s1 hv83.2) dX11_init_107 (fun q84 cA9 H hK9 hP hD hS => ?_)
  obtain rfl := cls_new3 hR.K hK9 (k := 1) rfl (fun _ h => by cases h)
  have hw8 := hR.w
  have hR := hR.new (t := 245) (n := 0) (k := 0) hTX (by decide) (Nat.zero_le _) (wN_CI (by decide)) hP hD hS
  have hk8 : adk am79 (adx am79 (qn S82) q84) S82 := adk.rf.new (Nat.le_refl _) hTX
  have hak := hak.new (q := q84) hlg.2.2.1 hTX
  have hE := hE.ad hk8
  have hlg : lgC S (wN S82 245 0 0) (0 + 1 + dc_ak9 + 1 + dc_ak19 + 1 + dc_ak29 + 1 + 1 + 1 + 1 + 1 + 1 + 1 + dc_ak75 + 1 + 1) (0 + 2 + ds_ak9 + 2 + ds_ak19 + 2 + ds_ak29 + 500 + 500 + 24 + 24 + 24 + 24 + 8 + ds_ak75 + 0 + 0) := hlg.new (t := 245) (n := 0) ⟨hv83.1, hv83.2⟩
  have hs8 : shx S82 (wN S82 245 0 0) := shx.newCZ (t := 245) (n := 0) (k := 0) shx.rf hw8 hTX
  obtain ⟨am85, eam85⟩ : ∃ z, z = adx am79 (qn S82) q84 := ⟨_, rfl⟩
  have eq_q84 : am85 (qn S82) = q84 := by rw [eam85]; exact if_pos rfl
  rw [← eam85] at hR hk8 hak hE
  obtain ⟨S86, eS86⟩ : ∃ z, z = wN S82 245 0 0 := ⟨_, rfl⟩
  rw [← eS86] at hR hlg hs8
  replace h := h S86 eS86 hR.w
  have hsh := hsh.tr hs8
  have hT_b87 : qT S86 (qn S82) = 245 := by rw [eS86]; exact if_pos rfl
  have ea_0 : am85 p0 = am79 p0 := hk8 _ (hw8.hd hT_p0 (by decide) (by decide))
  have hT_p0 := hs8.T hT_p0 (by decide)
  have hl : lv_has ls 1 [(0, .ref (am85 p0))] := by simp only [ea_0]; exact hl
  refine W.eq (g2 := F0 m 109 ls [.ref (am85 (qn S82)), .ref (am85 p0)]) (by simp only [ea_0, eq_q84]) ?_
  clear hw8 hk8 hs8 hP hD hS e9 e8 e7 hTX
  refine va_put (D := rD g) (ci := 10) (v := .ref (am85 (qn S82))) (ty := (.array .int)) (C := RX11) (T := TX11) (N := 18) hx hb hts inX11 tyX11 tyX11_ok nmX11 hown hR.K hR.P hR.D hR.sS p0 (hR.at50 hT_p0) rfl 17 (by decide) (hts _ kw_169) (fun _ h9 => h9) rfl (by decide +kernel) rfl rfl (Nat.le_of_ble_eq_true rfl) dX11_init_109 (fun H locs hP hD hS => ?_)
  have hw9 : wfCZ (wR S86 p0 17 (some (qn S82))) := hR.w.put (fun b q9 => by cases q9; exact (hT_b87).trans (by rw [hT_p0]; rfl)) (fun _ h9 => absurd h9 List.not_mem_nil) (by rw [hT_p0]; decide) (fun b _ q9 => absurd (show otgC (qT S86 p0) 17 = 0 by rw [hT_p0]; decide) q9) (fun _ => Option.some_ne_none _)
  have hTk9 : qT S86 p0 = 50 := hT_p0
  have hR : RepCZ g am85 A s (wR S86 p0 17 (some (qn S82))) H locs := hR.pR50 hT_p0 FX11_s17 hw9 hP hD hS
  obtain ⟨S88, eS88⟩ : ∃ z, z = wR S86 p0 17 (some (qn S82)) := ⟨_, rfl⟩
  rw [← eS88] at hR
  replace h := h S88 eS88 hTk9 hR.w
  have hT_p0 : qT S88 p0 = 50 := (congrArg (fun z => qT z p0) eS88).trans hT_p0
  have hsh : shx S S88 := by rw [eS88]; exact hsh
  have hlg : lgC S S88 (0 + 1 + dc_ak9 + 1 + dc_ak19 + 1 + dc_ak29 + 1 + 1 + 1 + 1 + 1 + 1 + 1 + dc_ak75 + 1 + 1) (0 + 2 + ds_ak9 + 2 + ds_ak19 + 2 + ds_ak29 + 500 + 500 + 24 + 24 + 24 + 24 + 8 + ds_ak75 + 0 + 0) := by rw [eS88]; exact hlg
  refine W_led2 (fun hLd => ?_)
  refine W.widen (k := KCC - qn S) (n := KSC - qu S) hlg.c hlg.s ?_
  exact W.vret hx hb hr (fun t9 ht9 hW9 => ⟨⟨(S88, am85), rfl, ⟨h, hR.w, hsh, hak⟩, ⟨⟨by rw [ht9]; exact hR.P, hR.D⟩, _, _, by rw [ht9]; exact hLd, hlg⟩⟩, hR.sS.F ht9⟩) hR.sS.2.2 dX11_init_112
def zX5_init (S : MS) (p0 : Nat) (Q : MS → Prop) : Prop := (((qn S + 1 ≤ KCC ∧ qu S + 24 ≤ KSC)) ∧ (∀ S4, S4 = wN S 402 24 24 → wfCZ S4 → (∀ S6, S6 = wR S4 p0 1 (some (qn S)) → qT S4 p0 = 45 → wfCZ S6 → (((qn S6 + 1 ≤ KCC ∧ qu S6 + 0 ≤ KSC)) ∧ (∀ S10, S10 = wN S6 215 0 0 → wfCZ S10 → (∀ S12, S12 = wR S10 p0 2 (some (qn S6)) → qT S10 p0 = 45 → wfCZ S12 → (((qn S12 + 1 ≤ KCC ∧ qu S12 + 8 ≤ KSC)) ∧ (∀ S16, S16 = wN S12 216 8 8 → wfCZ S16 → (∀ S18, S18 = wR S16 p0 4 (some (qn S12)) → qT S16 p0 = 45 → wfCZ S18 → (((qn S18 + 1 ≤ KCC ∧ qu S18 + 8 ≤ KSC)) ∧ (∀ S22, S22 = wN S18 403 8 8 → wfCZ S22 → (∀ S24, S24 = wR S22 p0 6 (some (qn S18)) → qT S22 p0 = 45 → wfCZ S24 → (((qn S24 + 1 ≤ KCC ∧ qu S24 + 0 ≤ KSC)) ∧ (∀ S28, S28 = wN S24 404 0 0 → wfCZ S28 → (∀ S30, S30 = wR S28 p0 8 (some (qn S24)) → qT S28 p0 = 45 → wfCZ S30 → (((qn S30 + 1 ≤ KCC ∧ qu S30 + 0 ≤ KSC)) ∧ (∀ S34, S34 = wN S30 405 0 0 → wfCZ S34 → (∀ S36, S36 = wR S34 p0 9 (some (qn S30)) → qT S34 p0 = 45 → wfCZ S36 → (((qn S36 + 1 ≤ KCC ∧ qu S36 + 180 ≤ KSC)) ∧ (∀ S40, S40 = wN S36 217 180 180 → wfCZ S40 → (∀ S42, S42 = wR S40 p0 10 (some (qn S36)) → qT S40 p0 = 45 → wfCZ S42 → (∀ S43, S43 = wI S42 p0 17 (-1 : Int32) → qT S42 p0 = 45 → wfCZ S43 → Q S43))))))))))))))))))))))
set_option maxHeartbeats 2000000 in
set_option maxRecDepth 100000 in
theorem rzX5_init (l : Launch) (g : Gr) (ad : Nat → Nat) (H0 : Heap) (S : MS) (p0 : Nat) (hw : wfCZ S) (hT_p0 : qT S p0 = 45) (Q : MS → Prop) (h : zX5_init S p0 Q) : Met l yX5_init (wt yX5_init cX5_init 1 none) ({ frames := 1, cells := KCC - qn S, slots := KSC - qu S, locals := 12 }) (va_Pc [.ref (ad p0)] (st_CH g ad H0 S)) (va_Qv (fun (u : MS × (Nat → Nat)) => Q u.1 ∧ wfCZ u.1 ∧ shx S u.1 ∧ adk ad u.2 S) (fun (u : MS × (Nat → Nat)) (t : State) => qEHC g (va_A (WdC g ad S) H0.size) S H0 u t) (va_A (WdC g ad S) H0.size)) (KCC - qn S) (KSC - qu S) (va_A (WdC g ad S) H0.size) := by
  refine Met.ofW (cc := cX5_init) (maxL := 1) (ret := none) (by decide) rfl ?_
  intro p e s m args below meth c s₁ B hml hv
  obtain ⟨rfl, hH0, hsz, hP, hK, hD0, hex, hE⟩ := hv
  have hx := B.exec
  have hb := B.bytes
  have hr := B.returns
  have hts0 := atoms_spec (ws := wt yX5_init cX5_init 1 none) B.pre
  have hts : ∀ w ∈ tb, w.before _ s = true := fun w h => hts0 w (List.mem_cons_of_mem _ h)
  have hown : s.vm.findClass RX5 = some m.cls := findClass_of_methodNamed B.named
  subst hH0
  have hD := hD0.self (sz := s.heap.size)
  generalize hAe : va_A (WdC g ad S) s.heap.size = A at hD hE ⊢
  have hA : ∀ q : Nat, s.heap.size ≤ q → A q := fun q h => by rw [← hAe]; exact Or.inr h
  have hR : RepCZ g ad A s S s.heap [] := ⟨hK, hP, hD, va_S.rf, hw⟩
  clear hK hP hD hD0
  have hl := lv_entry ([.ref (ad p0)]) (n := 1) (Nat.le_of_ble_eq_true rfl)
  rw [lg_entry_eq]
  generalize (lg_sl ([.ref (ad p0)]) ++ List.replicate (1 - (lg_sl ([.ref (ad p0)])).length) Slot.unset).toArray = ls at hl ⊢
  have hlg : lgC S S 0 0 := lgC.rf
  have hak : adk ad ad S := adk.rf
  have hin9 : meth.name = "<init>" := (name_of_methodNamed B.named B.method).1
  have hl : lv_has ls 1 [(0, .ref (ad p0))] := hl
  have hsh : shx S S := shx.rf
  unfold zX5_init at h
  refine lv_aload_n hx hb dX5_init_0 rfl (lv_at hl 0 rfl) ?_
  refine W.objInit hx hb hown (hts _ kw_1072) (hts _ kw_9) (hts _ kw_10) rfl (by rw [hml]; exact hl.1) rfl dX5_init_1 (Nat.le_of_ble_eq_true rfl) (Nat.le_of_ble_eq_true rfl) ?_
  refine W.eq (g2 := F0 m 4 ls []) rfl ?_
  refine lv_aload_n hx hb dX5_init_4 rfl (lv_at hl 0 rfl) ?_
  refine lv_bipush (v := 24) hx hb dX5_init_5 (by decide) ?_
  obtain ⟨hv1, h⟩ := h
  have e9 : KCC = 300000 := rfl
  have e8 : KSC = 3553400 := rfl
  have e7 : TXB = 10000000 := rfl
  have hTX : qn S < TXB := by have := hv1.1; omega
  refine va_newa (atype := .long) (ty := .long) (a0 := (24, .inr (.inl (fun _ => 0)))) (N' := 24) hx hb (hts (.arrayClass .long) kw_564) rfl hR.K hR.P hR.D hR.sS hA (fun _ => rfl) (by decide) (by decide) (by show 24 * 8 ≤ 536870912; have := hv1.2; omega) (show 0 + 1 ≤ KCC - qn S from hlg.c1 hv1.1) (show 0 + 24 ≤ KSC - qu S from hlg.s1 hv1.2) dX5_init_7 (fun q2 cA9 H hK9 hP hD hS => ?_)
  obtain rfl := cls_new3 hR.K hK9 (k := 3) rfl (fun _ h => by cases h)
  have hw8 := hR.w
  have hR := hR.new (t := 402) (n := 24) (k := 24) hTX (by decide) (by have := hv1.2; omega) (wN_CL (by decide)) hP hD hS
  have hk8 : adk ad (adx ad (qn S) q2) S := adk.rf.new (Nat.le_refl _) hTX
  have hak := hak.new (q := q2) hlg.2.2.1 hTX
  have hE := hE.ad hk8
  have hlg : lgC S (wN S 402 24 24) (0 + 1) (0 + 24) := hlg.new (t := 402) (n := 24) ⟨hv1.1, hv1.2⟩
  have hs8 : shx S (wN S 402 24 24) := shx.newCZ (t := 402) (n := 24) (k := 24) shx.rf hw8 hTX
  obtain ⟨am3, eam3⟩ : ∃ z, z = adx ad (qn S) q2 := ⟨_, rfl⟩
  have eq_q2 : am3 (qn S) = q2 := by rw [eam3]; exact if_pos rfl
  rw [← eam3] at hR hk8 hak hE
  obtain ⟨S4, eS4⟩ : ∃ z, z = wN S 402 24 24 := ⟨_, rfl⟩
  rw [← eS4] at hR hlg hs8
  replace h := h S4 eS4 hR.w
  have hsh := hsh.tr hs8
  have hT_b5 : qT S4 (qn S) = 402 := by rw [eS4]; exact if_pos rfl
  have ea_0 : am3 p0 = ad p0 := hk8 _ (hw8.hd hT_p0 (by decide) (by decide))
  have hT_p0 := hs8.T hT_p0 (by decide)
  have hl : lv_has ls 1 [(0, .ref (am3 p0))] := by simp only [ea_0]; exact hl
  refine W.eq (g2 := F0 m 9 ls [.ref (am3 (qn S)), .ref (am3 p0)]) (by simp only [ea_0, eq_q2]) ?_
  clear hw8 hk8 hs8 hP hD hS e9 e8 e7 hTX
  refine va_putF (D := rD g) (ci := 5) (v := .ref (am3 (qn S))) (ty := (.array .long)) (C := RX5) (T := TX5) (N := 20) hx hb hts inX5 tyX5 tyX5_ok nmX5 hown hR.K hR.P hR.D hR.sS p0 (hR.at45 hT_p0) rfl 1 (by decide) (hts _ kw_1054) (fun _ h9 => h9) rfl hin9 rfl (by decide +kernel) rfl rfl (Nat.le_of_ble_eq_true rfl) dX5_init_9 (fun H locs hP hD hS => ?_)
  have hw9 : wfCZ (wR S4 p0 1 (some (qn S))) := hR.w.put (fun b q9 => by cases q9; exact (hT_b5).trans (by rw [hT_p0]; rfl)) (fun _ h9 => absurd h9 List.not_mem_nil) (by rw [hT_p0]; decide) (fun b _ q9 => absurd (show otgC (qT S4 p0) 1 = 0 by rw [hT_p0]; decide) q9) (fun _ => Option.some_ne_none _)
  have hTk9 : qT S4 p0 = 45 := hT_p0
  have hR : RepCZ g am3 A s (wR S4 p0 1 (some (qn S))) H locs := hR.pR45 hT_p0 FX5_s1 hw9 hP hD hS
  obtain ⟨S6, eS6⟩ : ∃ z, z = wR S4 p0 1 (some (qn S)) := ⟨_, rfl⟩
  rw [← eS6] at hR
  replace h := h S6 eS6 hTk9 hR.w
  have hT_p0 : qT S6 p0 = 45 := (congrArg (fun z => qT z p0) eS6).trans hT_p0
  have hsh : shx S S6 := by rw [eS6]; exact hsh
  have hlg : lgC S S6 (0 + 1) (0 + 24) := by rw [eS6]; exact hlg
  refine lv_aload_n hx hb dX5_init_12 rfl (lv_at hl 0 rfl) ?_
  refine lv_iconst (v := 0) hx hb dX5_init_13 (by decide) ?_
  obtain ⟨hv7, h⟩ := h
  have e9 : KCC = 300000 := rfl
  have e8 : KSC = 3553400 := rfl
  have e7 : TXB = 10000000 := rfl
  have hTX : qn S6 < TXB := by have := hv7.1; omega
  refine va_newa (atype := .int) (ty := .int) (a0 := (0, .inl (fun _ => 0))) (N' := 0) hx hb (hts (.arrayClass .int) kw_51) rfl hR.K hR.P hR.D hR.sS hA (fun _ => rfl) (by decide) (by decide) (by show 0 * 4 ≤ 536870912; have := hv7.2; omega) (show 0 + 1 + 1 ≤ KCC - qn S from hlg.c1 hv7.1) (show 0 + 24 + 0 ≤ KSC - qu S from hlg.s1 hv7.2) dX5_init_14 (fun q8 cA9 H hK9 hP hD hS => ?_)
  obtain rfl := cls_new3 hR.K hK9 (k := 1) rfl (fun _ h => by cases h)
  have hw8 := hR.w
  have hR := hR.new (t := 215) (n := 0) (k := 0) hTX (by decide) (Nat.zero_le _) (wN_CI (by decide)) hP hD hS
  have hk8 : adk am3 (adx am3 (qn S6) q8) S6 := adk.rf.new (Nat.le_refl _) hTX
  have hak := hak.new (q := q8) hlg.2.2.1 hTX
  have hE := hE.ad hk8
  have hlg : lgC S (wN S6 215 0 0) (0 + 1 + 1) (0 + 24 + 0) := hlg.new (t := 215) (n := 0) ⟨hv7.1, hv7.2⟩
  have hs8 : shx S6 (wN S6 215 0 0) := shx.newCZ (t := 215) (n := 0) (k := 0) shx.rf hw8 hTX
  obtain ⟨am9, eam9⟩ : ∃ z, z = adx am3 (qn S6) q8 := ⟨_, rfl⟩
  have eq_q8 : am9 (qn S6) = q8 := by rw [eam9]; exact if_pos rfl
  rw [← eam9] at hR hk8 hak hE
  obtain ⟨S10, eS10⟩ : ∃ z, z = wN S6 215 0 0 := ⟨_, rfl⟩
  rw [← eS10] at hR hlg hs8
  replace h := h S10 eS10 hR.w
  have hsh := hsh.tr hs8
  have hT_b11 : qT S10 (qn S6) = 215 := by rw [eS10]; exact if_pos rfl
  have ea_0 : am9 p0 = am3 p0 := hk8 _ (hw8.hd hT_p0 (by decide) (by decide))
  have hT_p0 := hs8.T hT_p0 (by decide)
  have hl : lv_has ls 1 [(0, .ref (am9 p0))] := by simp only [ea_0]; exact hl
  refine W.eq (g2 := F0 m 16 ls [.ref (am9 (qn S6)), .ref (am9 p0)]) (by simp only [ea_0, eq_q8]) ?_
  clear hw8 hk8 hs8 hP hD hS e9 e8 e7 hTX
  refine va_put (D := rD g) (ci := 5) (v := .ref (am9 (qn S6))) (ty := (.array .int)) (C := RX5) (T := TX5) (N := 20) hx hb hts inX5 tyX5 tyX5_ok nmX5 hown hR.K hR.P hR.D hR.sS p0 (hR.at45 hT_p0) rfl 2 (by decide) (hts _ kw_1069) (fun _ h9 => h9) rfl (by decide +kernel) rfl rfl (Nat.le_of_ble_eq_true rfl) dX5_init_16 (fun H locs hP hD hS => ?_)
  have hw9 : wfCZ (wR S10 p0 2 (some (qn S6))) := hR.w.put (fun b q9 => by cases q9; exact (hT_b11).trans (by rw [hT_p0]; rfl)) (fun _ h9 => absurd h9 List.not_mem_nil) (by rw [hT_p0]; decide) (fun b _ q9 => absurd (show otgC (qT S10 p0) 2 = 0 by rw [hT_p0]; decide) q9) (fun _ => Option.some_ne_none _)
  have hTk9 : qT S10 p0 = 45 := hT_p0
  have hR : RepCZ g am9 A s (wR S10 p0 2 (some (qn S6))) H locs := hR.pR45 hT_p0 FX5_s2 hw9 hP hD hS
  obtain ⟨S12, eS12⟩ : ∃ z, z = wR S10 p0 2 (some (qn S6)) := ⟨_, rfl⟩
  rw [← eS12] at hR
  replace h := h S12 eS12 hTk9 hR.w
  have hT_p0 : qT S12 p0 = 45 := (congrArg (fun z => qT z p0) eS12).trans hT_p0
  have hsh : shx S S12 := by rw [eS12]; exact hsh
  have hlg : lgC S S12 (0 + 1 + 1) (0 + 24 + 0) := by rw [eS12]; exact hlg
  refine lv_aload_n hx hb dX5_init_19 rfl (lv_at hl 0 rfl) ?_
  refine lv_bipush (v := 8) hx hb dX5_init_20 (by decide) ?_
  obtain ⟨hv13, h⟩ := h
  have e9 : KCC = 300000 := rfl
  have e8 : KSC = 3553400 := rfl
  have e7 : TXB = 10000000 := rfl
  have hTX : qn S12 < TXB := by have := hv13.1; omega
  refine va_newa (atype := .int) (ty := .int) (a0 := (8, .inl (fun _ => 0))) (N' := 8) hx hb (hts (.arrayClass .int) kw_51) rfl hR.K hR.P hR.D hR.sS hA (fun _ => rfl) (by decide) (by decide) (by show 8 * 4 ≤ 536870912; have := hv13.2; omega) (show 0 + 1 + 1 + 1 ≤ KCC - qn S from hlg.c1 hv13.1) (show 0 + 24 + 0 + 8 ≤ KSC - qu S from hlg.s1 hv13.2) dX5_init_22 (fun q14 cA9 H hK9 hP hD hS => ?_)
  obtain rfl := cls_new3 hR.K hK9 (k := 1) rfl (fun _ h => by cases h)
  have hw8 := hR.w
  have hR := hR.new (t := 216) (n := 8) (k := 8) hTX (by decide) (by have := hv13.2; omega) (wN_CI (by decide)) hP hD hS
  have hk8 : adk am9 (adx am9 (qn S12) q14) S12 := adk.rf.new (Nat.le_refl _) hTX
  have hak := hak.new (q := q14) hlg.2.2.1 hTX
  have hE := hE.ad hk8
  have hlg : lgC S (wN S12 216 8 8) (0 + 1 + 1 + 1) (0 + 24 + 0 + 8) := hlg.new (t := 216) (n := 8) ⟨hv13.1, hv13.2⟩
  have hs8 : shx S12 (wN S12 216 8 8) := shx.newCZ (t := 216) (n := 8) (k := 8) shx.rf hw8 hTX
  obtain ⟨am15, eam15⟩ : ∃ z, z = adx am9 (qn S12) q14 := ⟨_, rfl⟩
  have eq_q14 : am15 (qn S12) = q14 := by rw [eam15]; exact if_pos rfl
  rw [← eam15] at hR hk8 hak hE
  obtain ⟨S16, eS16⟩ : ∃ z, z = wN S12 216 8 8 := ⟨_, rfl⟩
  rw [← eS16] at hR hlg hs8
  replace h := h S16 eS16 hR.w
  have hsh := hsh.tr hs8
  have hT_b17 : qT S16 (qn S12) = 216 := by rw [eS16]; exact if_pos rfl
  have ea_0 : am15 p0 = am9 p0 := hk8 _ (hw8.hd hT_p0 (by decide) (by decide))
  have hT_p0 := hs8.T hT_p0 (by decide)
  have hl : lv_has ls 1 [(0, .ref (am15 p0))] := by simp only [ea_0]; exact hl
  refine W.eq (g2 := F0 m 24 ls [.ref (am15 (qn S12)), .ref (am15 p0)]) (by simp only [ea_0, eq_q14]) ?_
  clear hw8 hk8 hs8 hP hD hS e9 e8 e7 hTX
  refine va_put (D := rD g) (ci := 5) (v := .ref (am15 (qn S12))) (ty := (.array .int)) (C := RX5) (T := TX5) (N := 20) hx hb hts inX5 tyX5 tyX5_ok nmX5 hown hR.K hR.P hR.D hR.sS p0 (hR.at45 hT_p0) rfl 4 (by decide) (hts _ kw_1010) (fun _ h9 => h9) rfl (by decide +kernel) rfl rfl (Nat.le_of_ble_eq_true rfl) dX5_init_24 (fun H locs hP hD hS => ?_)
  have hw9 : wfCZ (wR S16 p0 4 (some (qn S12))) := hR.w.put (fun b q9 => by cases q9; exact (hT_b17).trans (by rw [hT_p0]; rfl)) (fun _ h9 => absurd h9 List.not_mem_nil) (by rw [hT_p0]; decide) (fun b _ q9 => absurd (show otgC (qT S16 p0) 4 = 0 by rw [hT_p0]; decide) q9) (fun _ => Option.some_ne_none _)
  have hTk9 : qT S16 p0 = 45 := hT_p0
  have hR : RepCZ g am15 A s (wR S16 p0 4 (some (qn S12))) H locs := hR.pR45 hT_p0 FX5_s4 hw9 hP hD hS
  obtain ⟨S18, eS18⟩ : ∃ z, z = wR S16 p0 4 (some (qn S12)) := ⟨_, rfl⟩
  rw [← eS18] at hR
  replace h := h S18 eS18 hTk9 hR.w
  have hT_p0 : qT S18 p0 = 45 := (congrArg (fun z => qT z p0) eS18).trans hT_p0
  have hsh : shx S S18 := by rw [eS18]; exact hsh
  have hlg : lgC S S18 (0 + 1 + 1 + 1) (0 + 24 + 0 + 8) := by rw [eS18]; exact hlg
  refine lv_aload_n hx hb dX5_init_27 rfl (lv_at hl 0 rfl) ?_
  refine lv_bipush (v := 8) hx hb dX5_init_28 (by decide) ?_
  obtain ⟨hv19, h⟩ := h
  have e9 : KCC = 300000 := rfl
  have e8 : KSC = 3553400 := rfl
  have e7 : TXB = 10000000 := rfl
  have hTX : qn S18 < TXB := by have := hv19.1; omega
  refine va_newa (atype := .long) (ty := .long) (a0 := (8, .inr (.inl (fun _ => 0)))) (N' := 8) hx hb (hts (.arrayClass .long) kw_564) rfl hR.K hR.P hR.D hR.sS hA (fun _ => rfl) (by decide) (by decide) (by show 8 * 8 ≤ 536870912; have := hv19.2; omega) (show 0 + 1 + 1 + 1 + 1 ≤ KCC - qn S from hlg.c1 hv19.1) (show 0 + 24 + 0 + 8 + 8 ≤ KSC - qu S from hlg.s1 hv19.2) dX5_init_30 (fun q20 cA9 H hK9 hP hD hS => ?_)
  obtain rfl := cls_new3 hR.K hK9 (k := 3) rfl (fun _ h => by cases h)
  have hw8 := hR.w
  have hR := hR.new (t := 403) (n := 8) (k := 8) hTX (by decide) (by have := hv19.2; omega) (wN_CL (by decide)) hP hD hS
  have hk8 : adk am15 (adx am15 (qn S18) q20) S18 := adk.rf.new (Nat.le_refl _) hTX
  have hak := hak.new (q := q20) hlg.2.2.1 hTX
  have hE := hE.ad hk8
  have hlg : lgC S (wN S18 403 8 8) (0 + 1 + 1 + 1 + 1) (0 + 24 + 0 + 8 + 8) := hlg.new (t := 403) (n := 8) ⟨hv19.1, hv19.2⟩
  have hs8 : shx S18 (wN S18 403 8 8) := shx.newCZ (t := 403) (n := 8) (k := 8) shx.rf hw8 hTX
  obtain ⟨am21, eam21⟩ : ∃ z, z = adx am15 (qn S18) q20 := ⟨_, rfl⟩
  have eq_q20 : am21 (qn S18) = q20 := by rw [eam21]; exact if_pos rfl
  rw [← eam21] at hR hk8 hak hE
  obtain ⟨S22, eS22⟩ : ∃ z, z = wN S18 403 8 8 := ⟨_, rfl⟩
  rw [← eS22] at hR hlg hs8
  replace h := h S22 eS22 hR.w
  have hsh := hsh.tr hs8
  have hT_b23 : qT S22 (qn S18) = 403 := by rw [eS22]; exact if_pos rfl
  have ea_0 : am21 p0 = am15 p0 := hk8 _ (hw8.hd hT_p0 (by decide) (by decide))
  have hT_p0 := hs8.T hT_p0 (by decide)
  have hl : lv_has ls 1 [(0, .ref (am21 p0))] := by simp only [ea_0]; exact hl
  refine W.eq (g2 := F0 m 32 ls [.ref (am21 (qn S18)), .ref (am21 p0)]) (by simp only [ea_0, eq_q20]) ?_
  clear hw8 hk8 hs8 hP hD hS e9 e8 e7 hTX
  refine va_putF (D := rD g) (ci := 5) (v := .ref (am21 (qn S18))) (ty := (.array .long)) (C := RX5) (T := TX5) (N := 20) hx hb hts inX5 tyX5 tyX5_ok nmX5 hown hR.K hR.P hR.D hR.sS p0 (hR.at45 hT_p0) rfl 6 (by decide) (hts _ kw_1004) (fun _ h9 => h9) rfl hin9 rfl (by decide +kernel) rfl rfl (Nat.le_of_ble_eq_true rfl) dX5_init_32 (fun H locs hP hD hS => ?_)
  have hw9 : wfCZ (wR S22 p0 6 (some (qn S18))) := hR.w.put (fun b q9 => by cases q9; exact (hT_b23).trans (by rw [hT_p0]; rfl)) (fun _ h9 => absurd h9 List.not_mem_nil) (by rw [hT_p0]; decide) (fun b _ q9 => absurd (show otgC (qT S22 p0) 6 = 0 by rw [hT_p0]; decide) q9) (fun _ => Option.some_ne_none _)
  have hTk9 : qT S22 p0 = 45 := hT_p0
  have hR : RepCZ g am21 A s (wR S22 p0 6 (some (qn S18))) H locs := hR.pR45 hT_p0 FX5_s6 hw9 hP hD hS
  obtain ⟨S24, eS24⟩ : ∃ z, z = wR S22 p0 6 (some (qn S18)) := ⟨_, rfl⟩
  rw [← eS24] at hR
  replace h := h S24 eS24 hTk9 hR.w
  have hT_p0 : qT S24 p0 = 45 := (congrArg (fun z => qT z p0) eS24).trans hT_p0
  have hsh : shx S S24 := by rw [eS24]; exact hsh
  have hlg : lgC S S24 (0 + 1 + 1 + 1 + 1) (0 + 24 + 0 + 8 + 8) := by rw [eS24]; exact hlg
  refine lv_aload_n hx hb dX5_init_35 rfl (lv_at hl 0 rfl) ?_
  refine lv_iconst (v := 0) hx hb dX5_init_36 (by decide) ?_
  obtain ⟨hv25, h⟩ := h
  have e9 : KCC = 300000 := rfl
  have e8 : KSC = 3553400 := rfl
  have e7 : TXB = 10000000 := rfl
  have hTX : qn S24 < TXB := by have := hv25.1; omega
  refine va_newa (atype := .long) (ty := .long) (a0 := (0, .inr (.inl (fun _ => 0)))) (N' := 0) hx hb (hts (.arrayClass .long) kw_564) rfl hR.K hR.P hR.D hR.sS hA (fun _ => rfl) (by decide) (by decide) (by show 0 * 8 ≤ 536870912; have := hv25.2; omega) (show 0 + 1 + 1 + 1 + 1 + 1 ≤ KCC - qn S from hlg.c1 hv25.1) (show 0 + 24 + 0 + 8 + 8 + 0 ≤ KSC - qu S from hlg.s1 hv25.2) dX5_init_37 (fun q26 cA9 H hK9 hP hD hS => ?_)
  obtain rfl := cls_new3 hR.K hK9 (k := 3) rfl (fun _ h => by cases h)
  have hw8 := hR.w
  have hR := hR.new (t := 404) (n := 0) (k := 0) hTX (by decide) (Nat.zero_le _) (wN_CL (by decide)) hP hD hS
  have hk8 : adk am21 (adx am21 (qn S24) q26) S24 := adk.rf.new (Nat.le_refl _) hTX
  have hak := hak.new (q := q26) hlg.2.2.1 hTX
  have hE := hE.ad hk8
  have hlg : lgC S (wN S24 404 0 0) (0 + 1 + 1 + 1 + 1 + 1) (0 + 24 + 0 + 8 + 8 + 0) := hlg.new (t := 404) (n := 0) ⟨hv25.1, hv25.2⟩
  have hs8 : shx S24 (wN S24 404 0 0) := shx.newCZ (t := 404) (n := 0) (k := 0) shx.rf hw8 hTX
  obtain ⟨am27, eam27⟩ : ∃ z, z = adx am21 (qn S24) q26 := ⟨_, rfl⟩
  have eq_q26 : am27 (qn S24) = q26 := by rw [eam27]; exact if_pos rfl
  rw [← eam27] at hR hk8 hak hE
  obtain ⟨S28, eS28⟩ : ∃ z, z = wN S24 404 0 0 := ⟨_, rfl⟩
  rw [← eS28] at hR hlg hs8
  replace h := h S28 eS28 hR.w
  have hsh := hsh.tr hs8
  have hT_b29 : qT S28 (qn S24) = 404 := by rw [eS28]; exact if_pos rfl
  have ea_0 : am27 p0 = am21 p0 := hk8 _ (hw8.hd hT_p0 (by decide) (by decide))
  have hT_p0 := hs8.T hT_p0 (by decide)
  have hl : lv_has ls 1 [(0, .ref (am27 p0))] := by simp only [ea_0]; exact hl
  refine W.eq (g2 := F0 m 39 ls [.ref (am27 (qn S24)), .ref (am27 p0)]) (by simp only [ea_0, eq_q26]) ?_
  clear hw8 hk8 hs8 hP hD hS e9 e8 e7 hTX
  refine va_put (D := rD g) (ci := 5) (v := .ref (am27 (qn S24))) (ty := (.array .long)) (C := RX5) (T := TX5) (N := 20) hx hb hts inX5 tyX5 tyX5_ok nmX5 hown hR.K hR.P hR.D hR.sS p0 (hR.at45 hT_p0) rfl 8 (by decide) (hts _ kw_1044) (fun _ h9 => h9) rfl (by decide +kernel) rfl rfl (Nat.le_of_ble_eq_true rfl) dX5_init_39 (fun H locs hP hD hS => ?_)
  have hw9 : wfCZ (wR S28 p0 8 (some (qn S24))) := hR.w.put (fun b q9 => by cases q9; exact (hT_b29).trans (by rw [hT_p0]; rfl)) (fun _ h9 => absurd h9 List.not_mem_nil) (by rw [hT_p0]; decide) (fun b _ q9 => absurd (show otgC (qT S28 p0) 8 = 0 by rw [hT_p0]; decide) q9) (fun _ => Option.some_ne_none _)
  have hTk9 : qT S28 p0 = 45 := hT_p0
  have hR : RepCZ g am27 A s (wR S28 p0 8 (some (qn S24))) H locs := hR.pR45 hT_p0 FX5_s8 hw9 hP hD hS
  obtain ⟨S30, eS30⟩ : ∃ z, z = wR S28 p0 8 (some (qn S24)) := ⟨_, rfl⟩
  rw [← eS30] at hR
  replace h := h S30 eS30 hTk9 hR.w
  have hT_p0 : qT S30 p0 = 45 := (congrArg (fun z => qT z p0) eS30).trans hT_p0
  have hsh : shx S S30 := by rw [eS30]; exact hsh
  have hlg : lgC S S30 (0 + 1 + 1 + 1 + 1 + 1) (0 + 24 + 0 + 8 + 8 + 0) := by rw [eS30]; exact hlg
  refine lv_aload_n hx hb dX5_init_42 rfl (lv_at hl 0 rfl) ?_
  refine lv_iconst (v := 0) hx hb dX5_init_43 (by decide) ?_
  obtain ⟨hv31, h⟩ := h
  have e9 : KCC = 300000 := rfl
  have e8 : KSC = 3553400 := rfl
  have e7 : TXB = 10000000 := rfl
  have hTX : qn S30 < TXB := by have := hv31.1; omega
  refine va_newa (atype := .long) (ty := .long) (a0 := (0, .inr (.inl (fun _ => 0)))) (N' := 0) hx hb (hts (.arrayClass .long) kw_564) rfl hR.K hR.P hR.D hR.sS hA (fun _ => rfl) (by decide) (by decide) (by show 0 * 8 ≤ 536870912; have := hv31.2; omega) (show 0 + 1 + 1 + 1 + 1 + 1 + 1 ≤ KCC - qn S from hlg.c1 hv31.1) (show 0 + 24 + 0 + 8 + 8 + 0 + 0 ≤ KSC - qu S from hlg.s1 hv31.2) dX5_init_44 (fun q32 cA9 H hK9 hP hD hS => ?_)
  obtain rfl := cls_new3 hR.K hK9 (k := 3) rfl (fun _ h => by cases h)
  have hw8 := hR.w
  have hR := hR.new (t := 405) (n := 0) (k := 0) hTX (by decide) (Nat.zero_le _) (wN_CL (by decide)) hP hD hS
  have hk8 : adk am27 (adx am27 (qn S30) q32) S30 := adk.rf.new (Nat.le_refl _) hTX
  have hak := hak.new (q := q32) hlg.2.2.1 hTX
  have hE := hE.ad hk8
  have hlg : lgC S (wN S30 405 0 0) (0 + 1 + 1 + 1 + 1 + 1 + 1) (0 + 24 + 0 + 8 + 8 + 0 + 0) := hlg.new (t := 405) (n := 0) ⟨hv31.1, hv31.2⟩
  have hs8 : shx S30 (wN S30 405 0 0) := shx.newCZ (t := 405) (n := 0) (k := 0) shx.rf hw8 hTX
  obtain ⟨am33, eam33⟩ : ∃ z, z = adx am27 (qn S30) q32 := ⟨_, rfl⟩
  have eq_q32 : am33 (qn S30) = q32 := by rw [eam33]; exact if_pos rfl
  rw [← eam33] at hR hk8 hak hE
  obtain ⟨S34, eS34⟩ : ∃ z, z = wN S30 405 0 0 := ⟨_, rfl⟩
  rw [← eS34] at hR hlg hs8
  replace h := h S34 eS34 hR.w
  have hsh := hsh.tr hs8
  have hT_b35 : qT S34 (qn S30) = 405 := by rw [eS34]; exact if_pos rfl
  have ea_0 : am33 p0 = am27 p0 := hk8 _ (hw8.hd hT_p0 (by decide) (by decide))
  have hT_p0 := hs8.T hT_p0 (by decide)
  have hl : lv_has ls 1 [(0, .ref (am33 p0))] := by simp only [ea_0]; exact hl
  refine W.eq (g2 := F0 m 46 ls [.ref (am33 (qn S30)), .ref (am33 p0)]) (by simp only [ea_0, eq_q32]) ?_
  clear hw8 hk8 hs8 hP hD hS e9 e8 e7 hTX
  refine va_put (D := rD g) (ci := 5) (v := .ref (am33 (qn S30))) (ty := (.array .long)) (C := RX5) (T := TX5) (N := 20) hx hb hts inX5 tyX5 tyX5_ok nmX5 hown hR.K hR.P hR.D hR.sS p0 (hR.at45 hT_p0) rfl 9 (by decide) (hts _ kw_1046) (fun _ h9 => h9) rfl (by decide +kernel) rfl rfl (Nat.le_of_ble_eq_true rfl) dX5_init_46 (fun H locs hP hD hS => ?_)
  have hw9 : wfCZ (wR S34 p0 9 (some (qn S30))) := hR.w.put (fun b q9 => by cases q9; exact (hT_b35).trans (by rw [hT_p0]; rfl)) (fun _ h9 => absurd h9 List.not_mem_nil) (by rw [hT_p0]; decide) (fun b _ q9 => absurd (show otgC (qT S34 p0) 9 = 0 by rw [hT_p0]; decide) q9) (fun _ => Option.some_ne_none _)
  have hTk9 : qT S34 p0 = 45 := hT_p0
  have hR : RepCZ g am33 A s (wR S34 p0 9 (some (qn S30))) H locs := hR.pR45 hT_p0 FX5_s9 hw9 hP hD hS
  obtain ⟨S36, eS36⟩ : ∃ z, z = wR S34 p0 9 (some (qn S30)) := ⟨_, rfl⟩
  rw [← eS36] at hR
  replace h := h S36 eS36 hTk9 hR.w
  have hT_p0 : qT S36 p0 = 45 := (congrArg (fun z => qT z p0) eS36).trans hT_p0
  have hsh : shx S S36 := by rw [eS36]; exact hsh
  have hlg : lgC S S36 (0 + 1 + 1 + 1 + 1 + 1 + 1) (0 + 24 + 0 + 8 + 8 + 0 + 0) := by rw [eS36]; exact hlg
  refine lv_aload_n hx hb dX5_init_49 rfl (lv_at hl 0 rfl) ?_
  refine lv_sipush (v := 180) hx hb dX5_init_50 (by decide) ?_
  obtain ⟨hv37, h⟩ := h
  have e9 : KCC = 300000 := rfl
  have e8 : KSC = 3553400 := rfl
  have e7 : TXB = 10000000 := rfl
  have hTX : qn S36 < TXB := by have := hv37.1; omega
  refine va_newa (atype := .int) (ty := .int) (a0 := (180, .inl (fun _ => 0))) (N' := 180) hx hb (hts (.arrayClass .int) kw_51) rfl hR.K hR.P hR.D hR.sS hA (fun _ => rfl) (by decide) (by decide) (by show 180 * 4 ≤ 536870912; have := hv37.2; omega) (show 0 + 1 + 1 + 1 + 1 + 1 + 1 + 1 ≤ KCC - qn S from hlg.c1 hv37.1) (show 0 + 24 + 0 + 8 + 8 + 0 + 0 + 180 ≤ KSC - qu S from hlg.s1 hv37.2) dX5_init_53 (fun q38 cA9 H hK9 hP hD hS => ?_)
  obtain rfl := cls_new3 hR.K hK9 (k := 1) rfl (fun _ h => by cases h)
  have hw8 := hR.w
  have hR := hR.new (t := 217) (n := 180) (k := 180) hTX (by decide) (by have := hv37.2; omega) (wN_CI (by decide)) hP hD hS
  have hk8 : adk am33 (adx am33 (qn S36) q38) S36 := adk.rf.new (Nat.le_refl _) hTX
  have hak := hak.new (q := q38) hlg.2.2.1 hTX
  have hE := hE.ad hk8
  have hlg : lgC S (wN S36 217 180 180) (0 + 1 + 1 + 1 + 1 + 1 + 1 + 1) (0 + 24 + 0 + 8 + 8 + 0 + 0 + 180) := hlg.new (t := 217) (n := 180) ⟨hv37.1, hv37.2⟩
  have hs8 : shx S36 (wN S36 217 180 180) := shx.newCZ (t := 217) (n := 180) (k := 180) shx.rf hw8 hTX
  obtain ⟨am39, eam39⟩ : ∃ z, z = adx am33 (qn S36) q38 := ⟨_, rfl⟩
  have eq_q38 : am39 (qn S36) = q38 := by rw [eam39]; exact if_pos rfl
  rw [← eam39] at hR hk8 hak hE
  obtain ⟨S40, eS40⟩ : ∃ z, z = wN S36 217 180 180 := ⟨_, rfl⟩
  rw [← eS40] at hR hlg hs8
  replace h := h S40 eS40 hR.w
  have hsh := hsh.tr hs8
  have hT_b41 : qT S40 (qn S36) = 217 := by rw [eS40]; exact if_pos rfl
  have ea_0 : am39 p0 = am33 p0 := hk8 _ (hw8.hd hT_p0 (by decide) (by decide))
  have hT_p0 := hs8.T hT_p0 (by decide)
  have hl : lv_has ls 1 [(0, .ref (am39 p0))] := by simp only [ea_0]; exact hl
  refine W.eq (g2 := F0 m 55 ls [.ref (am39 (qn S36)), .ref (am39 p0)]) (by simp only [ea_0, eq_q38]) ?_
  clear hw8 hk8 hs8 hP hD hS e9 e8 e7 hTX
  refine va_putF (D := rD g) (ci := 5) (v := .ref (am39 (qn S36))) (ty := (.array .int)) (C := RX5) (T := TX5) (N := 20) hx hb hts inX5 tyX5 tyX5_ok nmX5 hown hR.K hR.P hR.D hR.sS p0 (hR.at45 hT_p0) rfl 10 (by decide) (hts _ kw_1058) (fun _ h9 => h9) rfl hin9 rfl (by decide +kernel) rfl rfl (Nat.le_of_ble_eq_true rfl) dX5_init_55 (fun H locs hP hD hS => ?_)
  have hw9 : wfCZ (wR S40 p0 10 (some (qn S36))) := hR.w.put (fun b q9 => by cases q9; exact (hT_b41).trans (by rw [hT_p0]; rfl)) (fun _ h9 => absurd h9 List.not_mem_nil) (by rw [hT_p0]; decide) (fun b _ q9 => absurd (show otgC (qT S40 p0) 10 = 0 by rw [hT_p0]; decide) q9) (fun _ => Option.some_ne_none _)
  have hTk9 : qT S40 p0 = 45 := hT_p0
  have hR : RepCZ g am39 A s (wR S40 p0 10 (some (qn S36))) H locs := hR.pR45 hT_p0 FX5_s10 hw9 hP hD hS
  obtain ⟨S42, eS42⟩ : ∃ z, z = wR S40 p0 10 (some (qn S36)) := ⟨_, rfl⟩
  rw [← eS42] at hR
  replace h := h S42 eS42 hTk9 hR.w
  have hT_p0 : qT S42 p0 = 45 := (congrArg (fun z => qT z p0) eS42).trans hT_p0
  have hsh : shx S S42 := by rw [eS42]; exact hsh
  have hlg : lgC S S42 (0 + 1 + 1 + 1 + 1 + 1 + 1 + 1) (0 + 24 + 0 + 8 + 8 + 0 + 0 + 180) := by rw [eS42]; exact hlg
  refine lv_aload_n hx hb dX5_init_58 rfl (lv_at hl 0 rfl) ?_
  refine lv_iconst (v := (-1)) hx hb dX5_init_59 (by decide) ?_
  refine va_put (D := rD g) (ci := 5) (v := .int (-1)) (ty := .int) (C := RX5) (T := TX5) (N := 20) hx hb hts inX5 tyX5 tyX5_ok nmX5 hown hR.K hR.P hR.D hR.sS p0 (hR.at45 hT_p0) rfl 17 (by decide) (hts _ kw_1073) (fun _ h9 => h9) rfl (by decide +kernel) rfl rfl (Nat.le_of_ble_eq_true rfl) dX5_init_60 (fun H locs hP hD hS => ?_)
  have hTk9 : qT S42 p0 = 45 := hT_p0
  have hR : RepCZ g am39 A s (wI S42 p0 17 (-1 : Int32)) H locs := hR.pI45 hT_p0 FX5_s17 (fun q9 => absurd q9 (by decide)) hP hD hS
  obtain ⟨S43, eS43⟩ : ∃ z, z = wI S42 p0 17 (-1 : Int32) := ⟨_, rfl⟩
  rw [← eS43] at hR
  replace h := h S43 eS43 hTk9 hR.w
  have hT_p0 : qT S43 p0 = 45 := (congrArg (fun z => qT z p0) eS43).trans hT_p0
  have hsh : shx S S43 := by rw [eS43]; exact hsh
  have hlg : lgC S S43 (0 + 1 + 1 + 1 + 1 + 1 + 1 + 1) (0 + 24 + 0 + 8 + 8 + 0 + 0 + 180) := by rw [eS43]; exact hlg
  refine W_led2 (fun hLd => ?_)
  refine W.widen (k := KCC - qn S) (n := KSC - qu S) hlg.c hlg.s ?_
  exact W.vret hx hb hr (fun t9 ht9 hW9 => ⟨⟨(S43, am39), rfl, ⟨h, hR.w, hsh, hak⟩, ⟨⟨by rw [ht9]; exact hR.P, hR.D⟩, _, _, by rw [ht9]; exact hLd, hlg⟩⟩, hR.sS.F ht9⟩) hR.sS.2.2 dX5_init_63
def zX3_init (S : MS) (p0 : Nat) (Q : MS → Prop) : Prop := (((qn S + 1 ≤ KCC ∧ qu S + 0 ≤ KSC)) ∧ (∀ S4, S4 = wN S 202 0 0 → wfCZ S4 → (∀ S6, S6 = wR S4 p0 2 (some (qn S)) → qT S4 p0 = 43 → wfCZ S6 → (((qn S6 + 1 ≤ KCC ∧ qu S6 + 0 ≤ KSC)) ∧ (∀ S10, S10 = wN S6 203 0 0 → wfCZ S10 → (∀ S12, S12 = wR S10 p0 3 (some (qn S6)) → qT S10 p0 = 43 → wfCZ S12 → (((qn S12 + 1 ≤ KCC ∧ qu S12 + 0 ≤ KSC)) ∧ (∀ S16, S16 = wN S12 204 0 0 → wfCZ S16 → (∀ S18, S18 = wR S16 p0 4 (some (qn S12)) → qT S16 p0 = 43 → wfCZ S18 → (((qn S18 + 1 ≤ KCC ∧ qu S18 + 16 ≤ KSC)) ∧ (∀ S22, S22 = wN S18 205 16 16 → wfCZ S22 → (∀ S24, S24 = wR S22 p0 5 (some (qn S18)) → qT S22 p0 = 43 → wfCZ S24 → (((qn S24 + 1 ≤ KCC ∧ qu S24 + 0 ≤ KSC)) ∧ (∀ S28, S28 = wN S24 206 0 0 → wfCZ S28 → (∀ S30, S30 = wR S28 p0 6 (some (qn S24)) → qT S28 p0 = 43 → wfCZ S30 → (((qn S30 + 1 ≤ KCC ∧ qu S30 + 0 ≤ KSC)) ∧ (∀ S34, S34 = wN S30 207 0 0 → wfCZ S34 → (∀ S36, S36 = wR S34 p0 7 (some (qn S30)) → qT S34 p0 = 43 → wfCZ S36 → (((qn S36 + 1 ≤ KCC ∧ qu S36 + 0 ≤ KSC)) ∧ (∀ S40, S40 = wN S36 303 0 0 → wfCZ S40 → (∀ S42, S42 = wR S40 p0 8 (some (qn S36)) → qT S40 p0 = 43 → wfCZ S42 → (((qn S42 + 1 ≤ KCC ∧ qu S42 + 0 ≤ KSC)) ∧ (∀ S46, S46 = wN S42 401 0 0 → wfCZ S46 → (∀ S48, S48 = wR S46 p0 9 (some (qn S42)) → qT S46 p0 = 43 → wfCZ S48 → (((qn S48 + 1 ≤ KCC ∧ qu S48 + 0 ≤ KSC)) ∧ (∀ S52, S52 = wN S48 208 0 0 → wfCZ S52 → (∀ S54, S54 = wR S52 p0 11 (some (qn S48)) → qT S52 p0 = 43 → wfCZ S54 → (((qn S54 + 1 ≤ KCC ∧ qu S54 + 0 ≤ KSC)) ∧ (∀ S58, S58 = wN S54 209 0 0 → wfCZ S58 → (∀ S60, S60 = wR S58 p0 12 (some (qn S54)) → qT S58 p0 = 43 → wfCZ S60 → (((qn S60 + 1 ≤ KCC ∧ qu S60 + 0 ≤ KSC)) ∧ (∀ S64, S64 = wN S60 210 0 0 → wfCZ S64 → (∀ S66, S66 = wR S64 p0 13 (some (qn S60)) → qT S64 p0 = 43 → wfCZ S66 → (((qn S66 + 1 ≤ KCC ∧ qu S66 + 0 ≤ KSC)) ∧ (∀ S70, S70 = wN S66 211 0 0 → wfCZ S70 → (∀ S72, S72 = wR S70 p0 14 (some (qn S66)) → qT S70 p0 = 43 → wfCZ S72 → (((qn S72 + 1 ≤ KCC ∧ qu S72 + 0 ≤ KSC)) ∧ (∀ S76, S76 = wN S72 212 0 0 → wfCZ S76 → (∀ S78, S78 = wR S76 p0 15 (some (qn S72)) → qT S76 p0 = 43 → wfCZ S78 → Q S78)))))))))))))))))))))))))))))))))))))))
set_option maxHeartbeats 2000000 in
set_option maxRecDepth 100000 in
theorem rzX3_init (l : Launch) (g : Gr) (ad : Nat → Nat) (H0 : Heap) (S : MS) (p0 : Nat) (hw : wfCZ S) (hT_p0 : qT S p0 = 43) (Q : MS → Prop) (h : zX3_init S p0 Q) : Met l yX3_init (wt yX3_init cX3_init 1 none) ({ frames := 1, cells := KCC - qn S, slots := KSC - qu S, locals := 12 }) (va_Pc [.ref (ad p0)] (st_CH g ad H0 S)) (va_Qv (fun (u : MS × (Nat → Nat)) => Q u.1 ∧ wfCZ u.1 ∧ shx S u.1 ∧ adk ad u.2 S) (fun (u : MS × (Nat → Nat)) (t : State) => qEHC g (va_A (WdC g ad S) H0.size) S H0 u t) (va_A (WdC g ad S) H0.size)) (KCC - qn S) (KSC - qu S) (va_A (WdC g ad S) H0.size) := by
  refine Met.ofW (cc := cX3_init) (maxL := 1) (ret := none) (by decide) rfl ?_
  intro p e s m args below meth c s₁ B hml hv
  obtain ⟨rfl, hH0, hsz, hP, hK, hD0, hex, hE⟩ := hv
  have hx := B.exec
  have hb := B.bytes
  have hr := B.returns
  have hts0 := atoms_spec (ws := wt yX3_init cX3_init 1 none) B.pre
  have hts : ∀ w ∈ tb, w.before _ s = true := fun w h => hts0 w (List.mem_cons_of_mem _ h)
  have hown : s.vm.findClass RX3 = some m.cls := findClass_of_methodNamed B.named
  subst hH0
  have hD := hD0.self (sz := s.heap.size)
  generalize hAe : va_A (WdC g ad S) s.heap.size = A at hD hE ⊢
  have hA : ∀ q : Nat, s.heap.size ≤ q → A q := fun q h => by rw [← hAe]; exact Or.inr h
  have hR : RepCZ g ad A s S s.heap [] := ⟨hK, hP, hD, va_S.rf, hw⟩
  clear hK hP hD hD0
  have hl := lv_entry ([.ref (ad p0)]) (n := 1) (Nat.le_of_ble_eq_true rfl)
  rw [lg_entry_eq]
  generalize (lg_sl ([.ref (ad p0)]) ++ List.replicate (1 - (lg_sl ([.ref (ad p0)])).length) Slot.unset).toArray = ls at hl ⊢
  have hlg : lgC S S 0 0 := lgC.rf
  have hak : adk ad ad S := adk.rf
  have hin9 : meth.name = "<init>" := (name_of_methodNamed B.named B.method).1
  have hl : lv_has ls 1 [(0, .ref (ad p0))] := hl
  have hsh : shx S S := shx.rf
  unfold zX3_init at h
  refine lv_aload_n hx hb dX3_init_0 rfl (lv_at hl 0 rfl) ?_
  refine W.objInit hx hb hown (hts _ kw_928) (hts _ kw_9) (hts _ kw_10) rfl (by rw [hml]; exact hl.1) rfl dX3_init_1 (Nat.le_of_ble_eq_true rfl) (Nat.le_of_ble_eq_true rfl) ?_
  refine W.eq (g2 := F0 m 4 ls []) rfl ?_
  refine lv_aload_n hx hb dX3_init_4 rfl (lv_at hl 0 rfl) ?_
  refine lv_iconst (v := 0) hx hb dX3_init_5 (by decide) ?_
  obtain ⟨hv1, h⟩ := h
  have e9 : KCC = 300000 := rfl
  have e8 : KSC = 3553400 := rfl
  have e7 : TXB = 10000000 := rfl
  have hTX : qn S < TXB := by have := hv1.1; omega
  refine va_newa (atype := .int) (ty := .int) (a0 := (0, .inl (fun _ => 0))) (N' := 0) hx hb (hts (.arrayClass .int) kw_51) rfl hR.K hR.P hR.D hR.sS hA (fun _ => rfl) (by decide) (by decide) (by show 0 * 4 ≤ 536870912; have := hv1.2; omega) (show 0 + 1 ≤ KCC - qn S from hlg.c1 hv1.1) (show 0 + 0 ≤ KSC - qu S from hlg.s1 hv1.2) dX3_init_6 (fun q2 cA9 H hK9 hP hD hS => ?_)
  obtain rfl := cls_new3 hR.K hK9 (k := 1) rfl (fun _ h => by cases h)
  have hw8 := hR.w
  have hR := hR.new (t := 202) (n := 0) (k := 0) hTX (by decide) (Nat.zero_le _) (wN_CI (by decide)) hP hD hS
  have hk8 : adk ad (adx ad (qn S) q2) S := adk.rf.new (Nat.le_refl _) hTX
  have hak := hak.new (q := q2) hlg.2.2.1 hTX
  have hE := hE.ad hk8
  have hlg : lgC S (wN S 202 0 0) (0 + 1) (0 + 0) := hlg.new (t := 202) (n := 0) ⟨hv1.1, hv1.2⟩
  have hs8 : shx S (wN S 202 0 0) := shx.newCZ (t := 202) (n := 0) (k := 0) shx.rf hw8 hTX
  obtain ⟨am3, eam3⟩ : ∃ z, z = adx ad (qn S) q2 := ⟨_, rfl⟩
  have eq_q2 : am3 (qn S) = q2 := by rw [eam3]; exact if_pos rfl
  rw [← eam3] at hR hk8 hak hE
  obtain ⟨S4, eS4⟩ : ∃ z, z = wN S 202 0 0 := ⟨_, rfl⟩
  rw [← eS4] at hR hlg hs8
  replace h := h S4 eS4 hR.w
  have hsh := hsh.tr hs8
  have hT_b5 : qT S4 (qn S) = 202 := by rw [eS4]; exact if_pos rfl
  have ea_0 : am3 p0 = ad p0 := hk8 _ (hw8.hd hT_p0 (by decide) (by decide))
  have hT_p0 := hs8.T hT_p0 (by decide)
  have hl : lv_has ls 1 [(0, .ref (am3 p0))] := by simp only [ea_0]; exact hl
  refine W.eq (g2 := F0 m 8 ls [.ref (am3 (qn S)), .ref (am3 p0)]) (by simp only [ea_0, eq_q2]) ?_
  clear hw8 hk8 hs8 hP hD hS e9 e8 e7 hTX
  refine va_put (D := rD g) (ci := 3) (v := .ref (am3 (qn S))) (ty := (.array .int)) (C := RX3) (T := TX3) (N := 16) hx hb hts inX3 tyX3 tyX3_ok nmX3 hown hR.K hR.P hR.D hR.sS p0 (hR.at43 hT_p0) rfl 2 (by decide) (hts _ kw_862) (fun _ h9 => h9) rfl (by decide +kernel) rfl rfl (Nat.le_of_ble_eq_true rfl) dX3_init_8 (fun H locs hP hD hS => ?_)
  have hw9 : wfCZ (wR S4 p0 2 (some (qn S))) := hR.w.put (fun b q9 => by cases q9; exact (hT_b5).trans (by rw [hT_p0]; rfl)) (fun _ h9 => absurd h9 List.not_mem_nil) (by rw [hT_p0]; decide) (fun b _ q9 => absurd (show otgC (qT S4 p0) 2 = 0 by rw [hT_p0]; decide) q9) (fun _ => Option.some_ne_none _)
  have hTk9 : qT S4 p0 = 43 := hT_p0
  have hR : RepCZ g am3 A s (wR S4 p0 2 (some (qn S))) H locs := hR.pR43 hT_p0 FX3_s2 hw9 hP hD hS
  obtain ⟨S6, eS6⟩ : ∃ z, z = wR S4 p0 2 (some (qn S)) := ⟨_, rfl⟩
  rw [← eS6] at hR
  replace h := h S6 eS6 hTk9 hR.w
  have hT_p0 : qT S6 p0 = 43 := (congrArg (fun z => qT z p0) eS6).trans hT_p0
  have hsh : shx S S6 := by rw [eS6]; exact hsh
  have hlg : lgC S S6 (0 + 1) (0 + 0) := by rw [eS6]; exact hlg
  refine lv_aload_n hx hb dX3_init_11 rfl (lv_at hl 0 rfl) ?_
  refine lv_iconst (v := 0) hx hb dX3_init_12 (by decide) ?_
  obtain ⟨hv7, h⟩ := h
  have e9 : KCC = 300000 := rfl
  have e8 : KSC = 3553400 := rfl
  have e7 : TXB = 10000000 := rfl
  have hTX : qn S6 < TXB := by have := hv7.1; omega
  refine va_newa (atype := .int) (ty := .int) (a0 := (0, .inl (fun _ => 0))) (N' := 0) hx hb (hts (.arrayClass .int) kw_51) rfl hR.K hR.P hR.D hR.sS hA (fun _ => rfl) (by decide) (by decide) (by show 0 * 4 ≤ 536870912; have := hv7.2; omega) (show 0 + 1 + 1 ≤ KCC - qn S from hlg.c1 hv7.1) (show 0 + 0 + 0 ≤ KSC - qu S from hlg.s1 hv7.2) dX3_init_13 (fun q8 cA9 H hK9 hP hD hS => ?_)
  obtain rfl := cls_new3 hR.K hK9 (k := 1) rfl (fun _ h => by cases h)
  have hw8 := hR.w
  have hR := hR.new (t := 203) (n := 0) (k := 0) hTX (by decide) (Nat.zero_le _) (wN_CI (by decide)) hP hD hS
  have hk8 : adk am3 (adx am3 (qn S6) q8) S6 := adk.rf.new (Nat.le_refl _) hTX
  have hak := hak.new (q := q8) hlg.2.2.1 hTX
  have hE := hE.ad hk8
  have hlg : lgC S (wN S6 203 0 0) (0 + 1 + 1) (0 + 0 + 0) := hlg.new (t := 203) (n := 0) ⟨hv7.1, hv7.2⟩
  have hs8 : shx S6 (wN S6 203 0 0) := shx.newCZ (t := 203) (n := 0) (k := 0) shx.rf hw8 hTX
  obtain ⟨am9, eam9⟩ : ∃ z, z = adx am3 (qn S6) q8 := ⟨_, rfl⟩
  have eq_q8 : am9 (qn S6) = q8 := by rw [eam9]; exact if_pos rfl
  rw [← eam9] at hR hk8 hak hE
  obtain ⟨S10, eS10⟩ : ∃ z, z = wN S6 203 0 0 := ⟨_, rfl⟩
  rw [← eS10] at hR hlg hs8
  replace h := h S10 eS10 hR.w
  have hsh := hsh.tr hs8
  have hT_b11 : qT S10 (qn S6) = 203 := by rw [eS10]; exact if_pos rfl
  have ea_0 : am9 p0 = am3 p0 := hk8 _ (hw8.hd hT_p0 (by decide) (by decide))
  have hT_p0 := hs8.T hT_p0 (by decide)
  have hl : lv_has ls 1 [(0, .ref (am9 p0))] := by simp only [ea_0]; exact hl
  refine W.eq (g2 := F0 m 15 ls [.ref (am9 (qn S6)), .ref (am9 p0)]) (by simp only [ea_0, eq_q8]) ?_
  clear hw8 hk8 hs8 hP hD hS e9 e8 e7 hTX
  refine va_put (D := rD g) (ci := 3) (v := .ref (am9 (qn S6))) (ty := (.array .int)) (C := RX3) (T := TX3) (N := 16) hx hb hts inX3 tyX3 tyX3_ok nmX3 hown hR.K hR.P hR.D hR.sS p0 (hR.at43 hT_p0) rfl 3 (by decide) (hts _ kw_839) (fun _ h9 => h9) rfl (by decide +kernel) rfl rfl (Nat.le_of_ble_eq_true rfl) dX3_init_15 (fun H locs hP hD hS => ?_)
  have hw9 : wfCZ (wR S10 p0 3 (some (qn S6))) := hR.w.put (fun b q9 => by cases q9; exact (hT_b11).trans (by rw [hT_p0]; rfl)) (fun _ h9 => absurd h9 List.not_mem_nil) (by rw [hT_p0]; decide) (fun b _ q9 => absurd (show otgC (qT S10 p0) 3 = 0 by rw [hT_p0]; decide) q9) (fun _ => Option.some_ne_none _)
  have hTk9 : qT S10 p0 = 43 := hT_p0
  have hR : RepCZ g am9 A s (wR S10 p0 3 (some (qn S6))) H locs := hR.pR43 hT_p0 FX3_s3 hw9 hP hD hS
  obtain ⟨S12, eS12⟩ : ∃ z, z = wR S10 p0 3 (some (qn S6)) := ⟨_, rfl⟩
  rw [← eS12] at hR
  replace h := h S12 eS12 hTk9 hR.w
  have hT_p0 : qT S12 p0 = 43 := (congrArg (fun z => qT z p0) eS12).trans hT_p0
  have hsh : shx S S12 := by rw [eS12]; exact hsh
  have hlg : lgC S S12 (0 + 1 + 1) (0 + 0 + 0) := by rw [eS12]; exact hlg
  refine lv_aload_n hx hb dX3_init_18 rfl (lv_at hl 0 rfl) ?_
  refine lv_iconst (v := 0) hx hb dX3_init_19 (by decide) ?_
  obtain ⟨hv13, h⟩ := h
  have e9 : KCC = 300000 := rfl
  have e8 : KSC = 3553400 := rfl
  have e7 : TXB = 10000000 := rfl
  have hTX : qn S12 < TXB := by have := hv13.1; omega
  refine va_newa (atype := .int) (ty := .int) (a0 := (0, .inl (fun _ => 0))) (N' := 0) hx hb (hts (.arrayClass .int) kw_51) rfl hR.K hR.P hR.D hR.sS hA (fun _ => rfl) (by decide) (by decide) (by show 0 * 4 ≤ 536870912; have := hv13.2; omega) (show 0 + 1 + 1 + 1 ≤ KCC - qn S from hlg.c1 hv13.1) (show 0 + 0 + 0 + 0 ≤ KSC - qu S from hlg.s1 hv13.2) dX3_init_20 (fun q14 cA9 H hK9 hP hD hS => ?_)
  obtain rfl := cls_new3 hR.K hK9 (k := 1) rfl (fun _ h => by cases h)
  have hw8 := hR.w
  have hR := hR.new (t := 204) (n := 0) (k := 0) hTX (by decide) (Nat.zero_le _) (wN_CI (by decide)) hP hD hS
  have hk8 : adk am9 (adx am9 (qn S12) q14) S12 := adk.rf.new (Nat.le_refl _) hTX
  have hak := hak.new (q := q14) hlg.2.2.1 hTX
  have hE := hE.ad hk8
  have hlg : lgC S (wN S12 204 0 0) (0 + 1 + 1 + 1) (0 + 0 + 0 + 0) := hlg.new (t := 204) (n := 0) ⟨hv13.1, hv13.2⟩
  have hs8 : shx S12 (wN S12 204 0 0) := shx.newCZ (t := 204) (n := 0) (k := 0) shx.rf hw8 hTX
  obtain ⟨am15, eam15⟩ : ∃ z, z = adx am9 (qn S12) q14 := ⟨_, rfl⟩
  have eq_q14 : am15 (qn S12) = q14 := by rw [eam15]; exact if_pos rfl
  rw [← eam15] at hR hk8 hak hE
  obtain ⟨S16, eS16⟩ : ∃ z, z = wN S12 204 0 0 := ⟨_, rfl⟩
  rw [← eS16] at hR hlg hs8
  replace h := h S16 eS16 hR.w
  have hsh := hsh.tr hs8
  have hT_b17 : qT S16 (qn S12) = 204 := by rw [eS16]; exact if_pos rfl
  have ea_0 : am15 p0 = am9 p0 := hk8 _ (hw8.hd hT_p0 (by decide) (by decide))
  have hT_p0 := hs8.T hT_p0 (by decide)
  have hl : lv_has ls 1 [(0, .ref (am15 p0))] := by simp only [ea_0]; exact hl
  refine W.eq (g2 := F0 m 22 ls [.ref (am15 (qn S12)), .ref (am15 p0)]) (by simp only [ea_0, eq_q14]) ?_
  clear hw8 hk8 hs8 hP hD hS e9 e8 e7 hTX
  refine va_put (D := rD g) (ci := 3) (v := .ref (am15 (qn S12))) (ty := (.array .int)) (C := RX3) (T := TX3) (N := 16) hx hb hts inX3 tyX3 tyX3_ok nmX3 hown hR.K hR.P hR.D hR.sS p0 (hR.at43 hT_p0) rfl 4 (by decide) (hts _ kw_885) (fun _ h9 => h9) rfl (by decide +kernel) rfl rfl (Nat.le_of_ble_eq_true rfl) dX3_init_22 (fun H locs hP hD hS => ?_)
  have hw9 : wfCZ (wR S16 p0 4 (some (qn S12))) := hR.w.put (fun b q9 => by cases q9; exact (hT_b17).trans (by rw [hT_p0]; rfl)) (fun _ h9 => absurd h9 List.not_mem_nil) (by rw [hT_p0]; decide) (fun b _ q9 => absurd (show otgC (qT S16 p0) 4 = 0 by rw [hT_p0]; decide) q9) (fun _ => Option.some_ne_none _)
  have hTk9 : qT S16 p0 = 43 := hT_p0
  have hR : RepCZ g am15 A s (wR S16 p0 4 (some (qn S12))) H locs := hR.pR43 hT_p0 FX3_s4 hw9 hP hD hS
  obtain ⟨S18, eS18⟩ : ∃ z, z = wR S16 p0 4 (some (qn S12)) := ⟨_, rfl⟩
  rw [← eS18] at hR
  replace h := h S18 eS18 hTk9 hR.w
  have hT_p0 : qT S18 p0 = 43 := (congrArg (fun z => qT z p0) eS18).trans hT_p0
  have hsh : shx S S18 := by rw [eS18]; exact hsh
  have hlg : lgC S S18 (0 + 1 + 1 + 1) (0 + 0 + 0 + 0) := by rw [eS18]; exact hlg
  refine lv_aload_n hx hb dX3_init_25 rfl (lv_at hl 0 rfl) ?_
  refine lv_bipush (v := 16) hx hb dX3_init_26 (by decide) ?_
  obtain ⟨hv19, h⟩ := h
  have e9 : KCC = 300000 := rfl
  have e8 : KSC = 3553400 := rfl
  have e7 : TXB = 10000000 := rfl
  have hTX : qn S18 < TXB := by have := hv19.1; omega
  refine va_newa (atype := .int) (ty := .int) (a0 := (16, .inl (fun _ => 0))) (N' := 16) hx hb (hts (.arrayClass .int) kw_51) rfl hR.K hR.P hR.D hR.sS hA (fun _ => rfl) (by decide) (by decide) (by show 16 * 4 ≤ 536870912; have := hv19.2; omega) (show 0 + 1 + 1 + 1 + 1 ≤ KCC - qn S from hlg.c1 hv19.1) (show 0 + 0 + 0 + 0 + 16 ≤ KSC - qu S from hlg.s1 hv19.2) dX3_init_28 (fun q20 cA9 H hK9 hP hD hS => ?_)
  obtain rfl := cls_new3 hR.K hK9 (k := 1) rfl (fun _ h => by cases h)
  have hw8 := hR.w
  have hR := hR.new (t := 205) (n := 16) (k := 16) hTX (by decide) (by have := hv19.2; omega) (wN_CI (by decide)) hP hD hS
  have hk8 : adk am15 (adx am15 (qn S18) q20) S18 := adk.rf.new (Nat.le_refl _) hTX
  have hak := hak.new (q := q20) hlg.2.2.1 hTX
  have hE := hE.ad hk8
  have hlg : lgC S (wN S18 205 16 16) (0 + 1 + 1 + 1 + 1) (0 + 0 + 0 + 0 + 16) := hlg.new (t := 205) (n := 16) ⟨hv19.1, hv19.2⟩
  have hs8 : shx S18 (wN S18 205 16 16) := shx.newCZ (t := 205) (n := 16) (k := 16) shx.rf hw8 hTX
  obtain ⟨am21, eam21⟩ : ∃ z, z = adx am15 (qn S18) q20 := ⟨_, rfl⟩
  have eq_q20 : am21 (qn S18) = q20 := by rw [eam21]; exact if_pos rfl
  rw [← eam21] at hR hk8 hak hE
  obtain ⟨S22, eS22⟩ : ∃ z, z = wN S18 205 16 16 := ⟨_, rfl⟩
  rw [← eS22] at hR hlg hs8
  replace h := h S22 eS22 hR.w
  have hsh := hsh.tr hs8
  have hT_b23 : qT S22 (qn S18) = 205 := by rw [eS22]; exact if_pos rfl
  have ea_0 : am21 p0 = am15 p0 := hk8 _ (hw8.hd hT_p0 (by decide) (by decide))
  have hT_p0 := hs8.T hT_p0 (by decide)
  have hl : lv_has ls 1 [(0, .ref (am21 p0))] := by simp only [ea_0]; exact hl
  refine W.eq (g2 := F0 m 30 ls [.ref (am21 (qn S18)), .ref (am21 p0)]) (by simp only [ea_0, eq_q20]) ?_
  clear hw8 hk8 hs8 hP hD hS e9 e8 e7 hTX
  refine va_put (D := rD g) (ci := 3) (v := .ref (am21 (qn S18))) (ty := (.array .int)) (C := RX3) (T := TX3) (N := 16) hx hb hts inX3 tyX3 tyX3_ok nmX3 hown hR.K hR.P hR.D hR.sS p0 (hR.at43 hT_p0) rfl 5 (by decide) (hts _ kw_840) (fun _ h9 => h9) rfl (by decide +kernel) rfl rfl (Nat.le_of_ble_eq_true rfl) dX3_init_30 (fun H locs hP hD hS => ?_)
  have hw9 : wfCZ (wR S22 p0 5 (some (qn S18))) := hR.w.put (fun b q9 => by cases q9; exact (hT_b23).trans (by rw [hT_p0]; rfl)) (fun _ h9 => absurd h9 List.not_mem_nil) (by rw [hT_p0]; decide) (fun b _ q9 => absurd (show otgC (qT S22 p0) 5 = 0 by rw [hT_p0]; decide) q9) (fun _ => Option.some_ne_none _)
  have hTk9 : qT S22 p0 = 43 := hT_p0
  have hR : RepCZ g am21 A s (wR S22 p0 5 (some (qn S18))) H locs := hR.pR43 hT_p0 FX3_s5 hw9 hP hD hS
  obtain ⟨S24, eS24⟩ : ∃ z, z = wR S22 p0 5 (some (qn S18)) := ⟨_, rfl⟩
  rw [← eS24] at hR
  replace h := h S24 eS24 hTk9 hR.w
  have hT_p0 : qT S24 p0 = 43 := (congrArg (fun z => qT z p0) eS24).trans hT_p0
  have hsh : shx S S24 := by rw [eS24]; exact hsh
  have hlg : lgC S S24 (0 + 1 + 1 + 1 + 1) (0 + 0 + 0 + 0 + 16) := by rw [eS24]; exact hlg
  refine lv_aload_n hx hb dX3_init_33 rfl (lv_at hl 0 rfl) ?_
  refine lv_iconst (v := 0) hx hb dX3_init_34 (by decide) ?_
  obtain ⟨hv25, h⟩ := h
  have e9 : KCC = 300000 := rfl
  have e8 : KSC = 3553400 := rfl
  have e7 : TXB = 10000000 := rfl
  have hTX : qn S24 < TXB := by have := hv25.1; omega
  refine va_newa (atype := .int) (ty := .int) (a0 := (0, .inl (fun _ => 0))) (N' := 0) hx hb (hts (.arrayClass .int) kw_51) rfl hR.K hR.P hR.D hR.sS hA (fun _ => rfl) (by decide) (by decide) (by show 0 * 4 ≤ 536870912; have := hv25.2; omega) (show 0 + 1 + 1 + 1 + 1 + 1 ≤ KCC - qn S from hlg.c1 hv25.1) (show 0 + 0 + 0 + 0 + 16 + 0 ≤ KSC - qu S from hlg.s1 hv25.2) dX3_init_35 (fun q26 cA9 H hK9 hP hD hS => ?_)
  obtain rfl := cls_new3 hR.K hK9 (k := 1) rfl (fun _ h => by cases h)
  have hw8 := hR.w
  have hR := hR.new (t := 206) (n := 0) (k := 0) hTX (by decide) (Nat.zero_le _) (wN_CI (by decide)) hP hD hS
  have hk8 : adk am21 (adx am21 (qn S24) q26) S24 := adk.rf.new (Nat.le_refl _) hTX
  have hak := hak.new (q := q26) hlg.2.2.1 hTX
  have hE := hE.ad hk8
  have hlg : lgC S (wN S24 206 0 0) (0 + 1 + 1 + 1 + 1 + 1) (0 + 0 + 0 + 0 + 16 + 0) := hlg.new (t := 206) (n := 0) ⟨hv25.1, hv25.2⟩
  have hs8 : shx S24 (wN S24 206 0 0) := shx.newCZ (t := 206) (n := 0) (k := 0) shx.rf hw8 hTX
  obtain ⟨am27, eam27⟩ : ∃ z, z = adx am21 (qn S24) q26 := ⟨_, rfl⟩
  have eq_q26 : am27 (qn S24) = q26 := by rw [eam27]; exact if_pos rfl
  rw [← eam27] at hR hk8 hak hE
  obtain ⟨S28, eS28⟩ : ∃ z, z = wN S24 206 0 0 := ⟨_, rfl⟩
  rw [← eS28] at hR hlg hs8
  replace h := h S28 eS28 hR.w
  have hsh := hsh.tr hs8
  have hT_b29 : qT S28 (qn S24) = 206 := by rw [eS28]; exact if_pos rfl
  have ea_0 : am27 p0 = am21 p0 := hk8 _ (hw8.hd hT_p0 (by decide) (by decide))
  have hT_p0 := hs8.T hT_p0 (by decide)
  have hl : lv_has ls 1 [(0, .ref (am27 p0))] := by simp only [ea_0]; exact hl
  refine W.eq (g2 := F0 m 37 ls [.ref (am27 (qn S24)), .ref (am27 p0)]) (by simp only [ea_0, eq_q26]) ?_
  clear hw8 hk8 hs8 hP hD hS e9 e8 e7 hTX
  refine va_put (D := rD g) (ci := 3) (v := .ref (am27 (qn S24))) (ty := (.array .int)) (C := RX3) (T := TX3) (N := 16) hx hb hts inX3 tyX3 tyX3_ok nmX3 hown hR.K hR.P hR.D hR.sS p0 (hR.at43 hT_p0) rfl 6 (by decide) (hts _ kw_846) (fun _ h9 => h9) rfl (by decide +kernel) rfl rfl (Nat.le_of_ble_eq_true rfl) dX3_init_37 (fun H locs hP hD hS => ?_)
  have hw9 : wfCZ (wR S28 p0 6 (some (qn S24))) := hR.w.put (fun b q9 => by cases q9; exact (hT_b29).trans (by rw [hT_p0]; rfl)) (fun _ h9 => absurd h9 List.not_mem_nil) (by rw [hT_p0]; decide) (fun b _ q9 => absurd (show otgC (qT S28 p0) 6 = 0 by rw [hT_p0]; decide) q9) (fun _ => Option.some_ne_none _)
  have hTk9 : qT S28 p0 = 43 := hT_p0
  have hR : RepCZ g am27 A s (wR S28 p0 6 (some (qn S24))) H locs := hR.pR43 hT_p0 FX3_s6 hw9 hP hD hS
  obtain ⟨S30, eS30⟩ : ∃ z, z = wR S28 p0 6 (some (qn S24)) := ⟨_, rfl⟩
  rw [← eS30] at hR
  replace h := h S30 eS30 hTk9 hR.w
  have hT_p0 : qT S30 p0 = 43 := (congrArg (fun z => qT z p0) eS30).trans hT_p0
  have hsh : shx S S30 := by rw [eS30]; exact hsh
  have hlg : lgC S S30 (0 + 1 + 1 + 1 + 1 + 1) (0 + 0 + 0 + 0 + 16 + 0) := by rw [eS30]; exact hlg
  refine lv_aload_n hx hb dX3_init_40 rfl (lv_at hl 0 rfl) ?_
  refine lv_iconst (v := 0) hx hb dX3_init_41 (by decide) ?_
  obtain ⟨hv31, h⟩ := h
  have e9 : KCC = 300000 := rfl
  have e8 : KSC = 3553400 := rfl
  have e7 : TXB = 10000000 := rfl
  have hTX : qn S30 < TXB := by have := hv31.1; omega
  refine va_newa (atype := .int) (ty := .int) (a0 := (0, .inl (fun _ => 0))) (N' := 0) hx hb (hts (.arrayClass .int) kw_51) rfl hR.K hR.P hR.D hR.sS hA (fun _ => rfl) (by decide) (by decide) (by show 0 * 4 ≤ 536870912; have := hv31.2; omega) (show 0 + 1 + 1 + 1 + 1 + 1 + 1 ≤ KCC - qn S from hlg.c1 hv31.1) (show 0 + 0 + 0 + 0 + 16 + 0 + 0 ≤ KSC - qu S from hlg.s1 hv31.2) dX3_init_42 (fun q32 cA9 H hK9 hP hD hS => ?_)
  obtain rfl := cls_new3 hR.K hK9 (k := 1) rfl (fun _ h => by cases h)
  have hw8 := hR.w
  have hR := hR.new (t := 207) (n := 0) (k := 0) hTX (by decide) (Nat.zero_le _) (wN_CI (by decide)) hP hD hS
  have hk8 : adk am27 (adx am27 (qn S30) q32) S30 := adk.rf.new (Nat.le_refl _) hTX
  have hak := hak.new (q := q32) hlg.2.2.1 hTX
  have hE := hE.ad hk8
  have hlg : lgC S (wN S30 207 0 0) (0 + 1 + 1 + 1 + 1 + 1 + 1) (0 + 0 + 0 + 0 + 16 + 0 + 0) := hlg.new (t := 207) (n := 0) ⟨hv31.1, hv31.2⟩
  have hs8 : shx S30 (wN S30 207 0 0) := shx.newCZ (t := 207) (n := 0) (k := 0) shx.rf hw8 hTX
  obtain ⟨am33, eam33⟩ : ∃ z, z = adx am27 (qn S30) q32 := ⟨_, rfl⟩
  have eq_q32 : am33 (qn S30) = q32 := by rw [eam33]; exact if_pos rfl
  rw [← eam33] at hR hk8 hak hE
  obtain ⟨S34, eS34⟩ : ∃ z, z = wN S30 207 0 0 := ⟨_, rfl⟩
  rw [← eS34] at hR hlg hs8
  replace h := h S34 eS34 hR.w
  have hsh := hsh.tr hs8
  have hT_b35 : qT S34 (qn S30) = 207 := by rw [eS34]; exact if_pos rfl
  have ea_0 : am33 p0 = am27 p0 := hk8 _ (hw8.hd hT_p0 (by decide) (by decide))
  have hT_p0 := hs8.T hT_p0 (by decide)
  have hl : lv_has ls 1 [(0, .ref (am33 p0))] := by simp only [ea_0]; exact hl
  refine W.eq (g2 := F0 m 44 ls [.ref (am33 (qn S30)), .ref (am33 p0)]) (by simp only [ea_0, eq_q32]) ?_
  clear hw8 hk8 hs8 hP hD hS e9 e8 e7 hTX
  refine va_put (D := rD g) (ci := 3) (v := .ref (am33 (qn S30))) (ty := (.array .int)) (C := RX3) (T := TX3) (N := 16) hx hb hts inX3 tyX3 tyX3_ok nmX3 hown hR.K hR.P hR.D hR.sS p0 (hR.at43 hT_p0) rfl 7 (by decide) (hts _ kw_848) (fun _ h9 => h9) rfl (by decide +kernel) rfl rfl (Nat.le_of_ble_eq_true rfl) dX3_init_44 (fun H locs hP hD hS => ?_)
  have hw9 : wfCZ (wR S34 p0 7 (some (qn S30))) := hR.w.put (fun b q9 => by cases q9; exact (hT_b35).trans (by rw [hT_p0]; rfl)) (fun _ h9 => absurd h9 List.not_mem_nil) (by rw [hT_p0]; decide) (fun b _ q9 => absurd (show otgC (qT S34 p0) 7 = 0 by rw [hT_p0]; decide) q9) (fun _ => Option.some_ne_none _)
  have hTk9 : qT S34 p0 = 43 := hT_p0
  have hR : RepCZ g am33 A s (wR S34 p0 7 (some (qn S30))) H locs := hR.pR43 hT_p0 FX3_s7 hw9 hP hD hS
  obtain ⟨S36, eS36⟩ : ∃ z, z = wR S34 p0 7 (some (qn S30)) := ⟨_, rfl⟩
  rw [← eS36] at hR
  replace h := h S36 eS36 hTk9 hR.w
  have hT_p0 : qT S36 p0 = 43 := (congrArg (fun z => qT z p0) eS36).trans hT_p0
  have hsh : shx S S36 := by rw [eS36]; exact hsh
  have hlg : lgC S S36 (0 + 1 + 1 + 1 + 1 + 1 + 1) (0 + 0 + 0 + 0 + 16 + 0 + 0) := by rw [eS36]; exact hlg
  refine lv_aload_n hx hb dX3_init_47 rfl (lv_at hl 0 rfl) ?_
  refine lv_iconst (v := 0) hx hb dX3_init_48 (by decide) ?_
  obtain ⟨hv37, h⟩ := h
  have e9 : KCC = 300000 := rfl
  have e8 : KSC = 3553400 := rfl
  have e7 : TXB = 10000000 := rfl
  have hTX : qn S36 < TXB := by have := hv37.1; omega
  refine va_newa (atype := .boolean) (ty := .boolean) (a0 := (0, .inl (fun _ => 0))) (N' := 0) hx hb (hts (.arrayClass .boolean) kw_553) rfl hR.K hR.P hR.D hR.sS hA (fun _ => rfl) (by decide) (by decide) (by show 0 * 1 ≤ 536870912; have := hv37.2; omega) (show 0 + 1 + 1 + 1 + 1 + 1 + 1 + 1 ≤ KCC - qn S from hlg.c1 hv37.1) (show 0 + 0 + 0 + 0 + 16 + 0 + 0 + 0 ≤ KSC - qu S from hlg.s1 hv37.2) dX3_init_49 (fun q38 cA9 H hK9 hP hD hS => ?_)
  obtain rfl := cls_new3 hR.K hK9 (k := 2) rfl (fun _ h => by cases h)
  have hw8 := hR.w
  have hR := hR.new (t := 303) (n := 0) (k := 0) hTX (by decide) (Nat.zero_le _) (wN_CZ (by decide)) hP hD hS
  have hk8 : adk am33 (adx am33 (qn S36) q38) S36 := adk.rf.new (Nat.le_refl _) hTX
  have hak := hak.new (q := q38) hlg.2.2.1 hTX
  have hE := hE.ad hk8
  have hlg : lgC S (wN S36 303 0 0) (0 + 1 + 1 + 1 + 1 + 1 + 1 + 1) (0 + 0 + 0 + 0 + 16 + 0 + 0 + 0) := hlg.new (t := 303) (n := 0) ⟨hv37.1, hv37.2⟩
  have hs8 : shx S36 (wN S36 303 0 0) := shx.newCZ (t := 303) (n := 0) (k := 0) shx.rf hw8 hTX
  obtain ⟨am39, eam39⟩ : ∃ z, z = adx am33 (qn S36) q38 := ⟨_, rfl⟩
  have eq_q38 : am39 (qn S36) = q38 := by rw [eam39]; exact if_pos rfl
  rw [← eam39] at hR hk8 hak hE
  obtain ⟨S40, eS40⟩ : ∃ z, z = wN S36 303 0 0 := ⟨_, rfl⟩
  rw [← eS40] at hR hlg hs8
  replace h := h S40 eS40 hR.w
  have hsh := hsh.tr hs8
  have hT_b41 : qT S40 (qn S36) = 303 := by rw [eS40]; exact if_pos rfl
  have ea_0 : am39 p0 = am33 p0 := hk8 _ (hw8.hd hT_p0 (by decide) (by decide))
  have hT_p0 := hs8.T hT_p0 (by decide)
  have hl : lv_has ls 1 [(0, .ref (am39 p0))] := by simp only [ea_0]; exact hl
  refine W.eq (g2 := F0 m 51 ls [.ref (am39 (qn S36)), .ref (am39 p0)]) (by simp only [ea_0, eq_q38]) ?_
  clear hw8 hk8 hs8 hP hD hS e9 e8 e7 hTX
  refine va_put (D := rD g) (ci := 3) (v := .ref (am39 (qn S36))) (ty := (.array .boolean)) (C := RX3) (T := TX3) (N := 16) hx hb hts inX3 tyX3 tyX3_ok nmX3 hown hR.K hR.P hR.D hR.sS p0 (hR.at43 hT_p0) rfl 8 (by decide) (hts _ kw_847) (fun _ h9 => h9) rfl (by decide +kernel) rfl rfl (Nat.le_of_ble_eq_true rfl) dX3_init_51 (fun H locs hP hD hS => ?_)
  have hw9 : wfCZ (wR S40 p0 8 (some (qn S36))) := hR.w.put (fun b q9 => by cases q9; exact (hT_b41).trans (by rw [hT_p0]; rfl)) (fun _ h9 => absurd h9 List.not_mem_nil) (by rw [hT_p0]; decide) (fun b _ q9 => absurd (show otgC (qT S40 p0) 8 = 0 by rw [hT_p0]; decide) q9) (fun _ => Option.some_ne_none _)
  have hTk9 : qT S40 p0 = 43 := hT_p0
  have hR : RepCZ g am39 A s (wR S40 p0 8 (some (qn S36))) H locs := hR.pR43 hT_p0 FX3_s8 hw9 hP hD hS
  obtain ⟨S42, eS42⟩ : ∃ z, z = wR S40 p0 8 (some (qn S36)) := ⟨_, rfl⟩
  rw [← eS42] at hR
  replace h := h S42 eS42 hTk9 hR.w
  have hT_p0 : qT S42 p0 = 43 := (congrArg (fun z => qT z p0) eS42).trans hT_p0
  have hsh : shx S S42 := by rw [eS42]; exact hsh
  have hlg : lgC S S42 (0 + 1 + 1 + 1 + 1 + 1 + 1 + 1) (0 + 0 + 0 + 0 + 16 + 0 + 0 + 0) := by rw [eS42]; exact hlg
  refine lv_aload_n hx hb dX3_init_54 rfl (lv_at hl 0 rfl) ?_
  refine lv_iconst (v := 0) hx hb dX3_init_55 (by decide) ?_
  obtain ⟨hv43, h⟩ := h
  have e9 : KCC = 300000 := rfl
  have e8 : KSC = 3553400 := rfl
  have e7 : TXB = 10000000 := rfl
  have hTX : qn S42 < TXB := by have := hv43.1; omega
  refine va_newa (atype := .long) (ty := .long) (a0 := (0, .inr (.inl (fun _ => 0)))) (N' := 0) hx hb (hts (.arrayClass .long) kw_564) rfl hR.K hR.P hR.D hR.sS hA (fun _ => rfl) (by decide) (by decide) (by show 0 * 8 ≤ 536870912; have := hv43.2; omega) (show 0 + 1 + 1 + 1 + 1 + 1 + 1 + 1 + 1 ≤ KCC - qn S from hlg.c1 hv43.1) (show 0 + 0 + 0 + 0 + 16 + 0 + 0 + 0 + 0 ≤ KSC - qu S from hlg.s1 hv43.2) dX3_init_56 (fun q44 cA9 H hK9 hP hD hS => ?_)
  obtain rfl := cls_new3 hR.K hK9 (k := 3) rfl (fun _ h => by cases h)
  have hw8 := hR.w
  have hR := hR.new (t := 401) (n := 0) (k := 0) hTX (by decide) (Nat.zero_le _) (wN_CL (by decide)) hP hD hS
  have hk8 : adk am39 (adx am39 (qn S42) q44) S42 := adk.rf.new (Nat.le_refl _) hTX
  have hak := hak.new (q := q44) hlg.2.2.1 hTX
  have hE := hE.ad hk8
  have hlg : lgC S (wN S42 401 0 0) (0 + 1 + 1 + 1 + 1 + 1 + 1 + 1 + 1) (0 + 0 + 0 + 0 + 16 + 0 + 0 + 0 + 0) := hlg.new (t := 401) (n := 0) ⟨hv43.1, hv43.2⟩
  have hs8 : shx S42 (wN S42 401 0 0) := shx.newCZ (t := 401) (n := 0) (k := 0) shx.rf hw8 hTX
  obtain ⟨am45, eam45⟩ : ∃ z, z = adx am39 (qn S42) q44 := ⟨_, rfl⟩
  have eq_q44 : am45 (qn S42) = q44 := by rw [eam45]; exact if_pos rfl
  rw [← eam45] at hR hk8 hak hE
  obtain ⟨S46, eS46⟩ : ∃ z, z = wN S42 401 0 0 := ⟨_, rfl⟩
  rw [← eS46] at hR hlg hs8
  replace h := h S46 eS46 hR.w
  have hsh := hsh.tr hs8
  have hT_b47 : qT S46 (qn S42) = 401 := by rw [eS46]; exact if_pos rfl
  have ea_0 : am45 p0 = am39 p0 := hk8 _ (hw8.hd hT_p0 (by decide) (by decide))
  have hT_p0 := hs8.T hT_p0 (by decide)
  have hl : lv_has ls 1 [(0, .ref (am45 p0))] := by simp only [ea_0]; exact hl
  refine W.eq (g2 := F0 m 58 ls [.ref (am45 (qn S42)), .ref (am45 p0)]) (by simp only [ea_0, eq_q44]) ?_
  clear hw8 hk8 hs8 hP hD hS e9 e8 e7 hTX
  refine va_put (D := rD g) (ci := 3) (v := .ref (am45 (qn S42))) (ty := (.array .long)) (C := RX3) (T := TX3) (N := 16) hx hb hts inX3 tyX3 tyX3_ok nmX3 hown hR.K hR.P hR.D hR.sS p0 (hR.at43 hT_p0) rfl 9 (by decide) (hts _ kw_866) (fun _ h9 => h9) rfl (by decide +kernel) rfl rfl (Nat.le_of_ble_eq_true rfl) dX3_init_58 (fun H locs hP hD hS => ?_)
  have hw9 : wfCZ (wR S46 p0 9 (some (qn S42))) := hR.w.put (fun b q9 => by cases q9; exact (hT_b47).trans (by rw [hT_p0]; rfl)) (fun _ h9 => absurd h9 List.not_mem_nil) (by rw [hT_p0]; decide) (fun b _ q9 => absurd (show otgC (qT S46 p0) 9 = 0 by rw [hT_p0]; decide) q9) (fun _ => Option.some_ne_none _)
  have hTk9 : qT S46 p0 = 43 := hT_p0
  have hR : RepCZ g am45 A s (wR S46 p0 9 (some (qn S42))) H locs := hR.pR43 hT_p0 FX3_s9 hw9 hP hD hS
  obtain ⟨S48, eS48⟩ : ∃ z, z = wR S46 p0 9 (some (qn S42)) := ⟨_, rfl⟩
  rw [← eS48] at hR
  replace h := h S48 eS48 hTk9 hR.w
  have hT_p0 : qT S48 p0 = 43 := (congrArg (fun z => qT z p0) eS48).trans hT_p0
  have hsh : shx S S48 := by rw [eS48]; exact hsh
  have hlg : lgC S S48 (0 + 1 + 1 + 1 + 1 + 1 + 1 + 1 + 1) (0 + 0 + 0 + 0 + 16 + 0 + 0 + 0 + 0) := by rw [eS48]; exact hlg
  refine lv_aload_n hx hb dX3_init_61 rfl (lv_at hl 0 rfl) ?_
  refine lv_iconst (v := 0) hx hb dX3_init_62 (by decide) ?_
  obtain ⟨hv49, h⟩ := h
  have e9 : KCC = 300000 := rfl
  have e8 : KSC = 3553400 := rfl
  have e7 : TXB = 10000000 := rfl
  have hTX : qn S48 < TXB := by have := hv49.1; omega
  refine va_newa (atype := .int) (ty := .int) (a0 := (0, .inl (fun _ => 0))) (N' := 0) hx hb (hts (.arrayClass .int) kw_51) rfl hR.K hR.P hR.D hR.sS hA (fun _ => rfl) (by decide) (by decide) (by show 0 * 4 ≤ 536870912; have := hv49.2; omega) (show 0 + 1 + 1 + 1 + 1 + 1 + 1 + 1 + 1 + 1 ≤ KCC - qn S from hlg.c1 hv49.1) (show 0 + 0 + 0 + 0 + 16 + 0 + 0 + 0 + 0 + 0 ≤ KSC - qu S from hlg.s1 hv49.2) dX3_init_63 (fun q50 cA9 H hK9 hP hD hS => ?_)
  obtain rfl := cls_new3 hR.K hK9 (k := 1) rfl (fun _ h => by cases h)
  have hw8 := hR.w
  have hR := hR.new (t := 208) (n := 0) (k := 0) hTX (by decide) (Nat.zero_le _) (wN_CI (by decide)) hP hD hS
  have hk8 : adk am45 (adx am45 (qn S48) q50) S48 := adk.rf.new (Nat.le_refl _) hTX
  have hak := hak.new (q := q50) hlg.2.2.1 hTX
  have hE := hE.ad hk8
  have hlg : lgC S (wN S48 208 0 0) (0 + 1 + 1 + 1 + 1 + 1 + 1 + 1 + 1 + 1) (0 + 0 + 0 + 0 + 16 + 0 + 0 + 0 + 0 + 0) := hlg.new (t := 208) (n := 0) ⟨hv49.1, hv49.2⟩
  have hs8 : shx S48 (wN S48 208 0 0) := shx.newCZ (t := 208) (n := 0) (k := 0) shx.rf hw8 hTX
  obtain ⟨am51, eam51⟩ : ∃ z, z = adx am45 (qn S48) q50 := ⟨_, rfl⟩
  have eq_q50 : am51 (qn S48) = q50 := by rw [eam51]; exact if_pos rfl
  rw [← eam51] at hR hk8 hak hE
  obtain ⟨S52, eS52⟩ : ∃ z, z = wN S48 208 0 0 := ⟨_, rfl⟩
  rw [← eS52] at hR hlg hs8
  replace h := h S52 eS52 hR.w
  have hsh := hsh.tr hs8
  have hT_b53 : qT S52 (qn S48) = 208 := by rw [eS52]; exact if_pos rfl
  have ea_0 : am51 p0 = am45 p0 := hk8 _ (hw8.hd hT_p0 (by decide) (by decide))
  have hT_p0 := hs8.T hT_p0 (by decide)
  have hl : lv_has ls 1 [(0, .ref (am51 p0))] := by simp only [ea_0]; exact hl
  refine W.eq (g2 := F0 m 65 ls [.ref (am51 (qn S48)), .ref (am51 p0)]) (by simp only [ea_0, eq_q50]) ?_
  clear hw8 hk8 hs8 hP hD hS e9 e8 e7 hTX
  refine va_put (D := rD g) (ci := 3) (v := .ref (am51 (qn S48))) (ty := (.array .int)) (C := RX3) (T := TX3) (N := 16) hx hb hts inX3 tyX3 tyX3_ok nmX3 hown hR.K hR.P hR.D hR.sS p0 (hR.at43 hT_p0) rfl 11 (by decide) (hts _ kw_907) (fun _ h9 => h9) rfl (by decide +kernel) rfl rfl (Nat.le_of_ble_eq_true rfl) dX3_init_65 (fun H locs hP hD hS => ?_)
  have hw9 : wfCZ (wR S52 p0 11 (some (qn S48))) := hR.w.put (fun b q9 => by cases q9; exact (hT_b53).trans (by rw [hT_p0]; rfl)) (fun _ h9 => absurd h9 List.not_mem_nil) (by rw [hT_p0]; decide) (fun b _ q9 => absurd (show otgC (qT S52 p0) 11 = 0 by rw [hT_p0]; decide) q9) (fun _ => Option.some_ne_none _)
  have hTk9 : qT S52 p0 = 43 := hT_p0
  have hR : RepCZ g am51 A s (wR S52 p0 11 (some (qn S48))) H locs := hR.pR43 hT_p0 FX3_s11 hw9 hP hD hS
  obtain ⟨S54, eS54⟩ : ∃ z, z = wR S52 p0 11 (some (qn S48)) := ⟨_, rfl⟩
  rw [← eS54] at hR
  replace h := h S54 eS54 hTk9 hR.w
  have hT_p0 : qT S54 p0 = 43 := (congrArg (fun z => qT z p0) eS54).trans hT_p0
  have hsh : shx S S54 := by rw [eS54]; exact hsh
  have hlg : lgC S S54 (0 + 1 + 1 + 1 + 1 + 1 + 1 + 1 + 1 + 1) (0 + 0 + 0 + 0 + 16 + 0 + 0 + 0 + 0 + 0) := by rw [eS54]; exact hlg
  refine lv_aload_n hx hb dX3_init_68 rfl (lv_at hl 0 rfl) ?_
  refine lv_iconst (v := 0) hx hb dX3_init_69 (by decide) ?_
  obtain ⟨hv55, h⟩ := h
  have e9 : KCC = 300000 := rfl
  have e8 : KSC = 3553400 := rfl
  have e7 : TXB = 10000000 := rfl
  have hTX : qn S54 < TXB := by have := hv55.1; omega
  refine va_newa (atype := .int) (ty := .int) (a0 := (0, .inl (fun _ => 0))) (N' := 0) hx hb (hts (.arrayClass .int) kw_51) rfl hR.K hR.P hR.D hR.sS hA (fun _ => rfl) (by decide) (by decide) (by show 0 * 4 ≤ 536870912; have := hv55.2; omega) (show 0 + 1 + 1 + 1 + 1 + 1 + 1 + 1 + 1 + 1 + 1 ≤ KCC - qn S from hlg.c1 hv55.1) (show 0 + 0 + 0 + 0 + 16 + 0 + 0 + 0 + 0 + 0 + 0 ≤ KSC - qu S from hlg.s1 hv55.2) dX3_init_70 (fun q56 cA9 H hK9 hP hD hS => ?_)
  obtain rfl := cls_new3 hR.K hK9 (k := 1) rfl (fun _ h => by cases h)
  have hw8 := hR.w
  have hR := hR.new (t := 209) (n := 0) (k := 0) hTX (by decide) (Nat.zero_le _) (wN_CI (by decide)) hP hD hS
  have hk8 : adk am51 (adx am51 (qn S54) q56) S54 := adk.rf.new (Nat.le_refl _) hTX
  have hak := hak.new (q := q56) hlg.2.2.1 hTX
  have hE := hE.ad hk8
  have hlg : lgC S (wN S54 209 0 0) (0 + 1 + 1 + 1 + 1 + 1 + 1 + 1 + 1 + 1 + 1) (0 + 0 + 0 + 0 + 16 + 0 + 0 + 0 + 0 + 0 + 0) := hlg.new (t := 209) (n := 0) ⟨hv55.1, hv55.2⟩
  have hs8 : shx S54 (wN S54 209 0 0) := shx.newCZ (t := 209) (n := 0) (k := 0) shx.rf hw8 hTX
  obtain ⟨am57, eam57⟩ : ∃ z, z = adx am51 (qn S54) q56 := ⟨_, rfl⟩
  have eq_q56 : am57 (qn S54) = q56 := by rw [eam57]; exact if_pos rfl
  rw [← eam57] at hR hk8 hak hE
  obtain ⟨S58, eS58⟩ : ∃ z, z = wN S54 209 0 0 := ⟨_, rfl⟩
  rw [← eS58] at hR hlg hs8
  replace h := h S58 eS58 hR.w
  have hsh := hsh.tr hs8
  have hT_b59 : qT S58 (qn S54) = 209 := by rw [eS58]; exact if_pos rfl
  have ea_0 : am57 p0 = am51 p0 := hk8 _ (hw8.hd hT_p0 (by decide) (by decide))
  have hT_p0 := hs8.T hT_p0 (by decide)
  have hl : lv_has ls 1 [(0, .ref (am57 p0))] := by simp only [ea_0]; exact hl
  refine W.eq (g2 := F0 m 72 ls [.ref (am57 (qn S54)), .ref (am57 p0)]) (by simp only [ea_0, eq_q56]) ?_
  clear hw8 hk8 hs8 hP hD hS e9 e8 e7 hTX
  refine va_put (D := rD g) (ci := 3) (v := .ref (am57 (qn S54))) (ty := (.array .int)) (C := RX3) (T := TX3) (N := 16) hx hb hts inX3 tyX3 tyX3_ok nmX3 hown hR.K hR.P hR.D hR.sS p0 (hR.at43 hT_p0) rfl 12 (by decide) (hts _ kw_918) (fun _ h9 => h9) rfl (by decide +kernel) rfl rfl (Nat.le_of_ble_eq_true rfl) dX3_init_72 (fun H locs hP hD hS => ?_)
  have hw9 : wfCZ (wR S58 p0 12 (some (qn S54))) := hR.w.put (fun b q9 => by cases q9; exact (hT_b59).trans (by rw [hT_p0]; rfl)) (fun _ h9 => absurd h9 List.not_mem_nil) (by rw [hT_p0]; decide) (fun b _ q9 => absurd (show otgC (qT S58 p0) 12 = 0 by rw [hT_p0]; decide) q9) (fun _ => Option.some_ne_none _)
  have hTk9 : qT S58 p0 = 43 := hT_p0
  have hR : RepCZ g am57 A s (wR S58 p0 12 (some (qn S54))) H locs := hR.pR43 hT_p0 FX3_s12 hw9 hP hD hS
  obtain ⟨S60, eS60⟩ : ∃ z, z = wR S58 p0 12 (some (qn S54)) := ⟨_, rfl⟩
  rw [← eS60] at hR
  replace h := h S60 eS60 hTk9 hR.w
  have hT_p0 : qT S60 p0 = 43 := (congrArg (fun z => qT z p0) eS60).trans hT_p0
  have hsh : shx S S60 := by rw [eS60]; exact hsh
  have hlg : lgC S S60 (0 + 1 + 1 + 1 + 1 + 1 + 1 + 1 + 1 + 1 + 1) (0 + 0 + 0 + 0 + 16 + 0 + 0 + 0 + 0 + 0 + 0) := by rw [eS60]; exact hlg
  refine lv_aload_n hx hb dX3_init_75 rfl (lv_at hl 0 rfl) ?_
  refine lv_iconst (v := 0) hx hb dX3_init_76 (by decide) ?_
  obtain ⟨hv61, h⟩ := h
  have e9 : KCC = 300000 := rfl
  have e8 : KSC = 3553400 := rfl
  have e7 : TXB = 10000000 := rfl
  have hTX : qn S60 < TXB := by have := hv61.1; omega
  refine va_newa (atype := .int) (ty := .int) (a0 := (0, .inl (fun _ => 0))) (N' := 0) hx hb (hts (.arrayClass .int) kw_51) rfl hR.K hR.P hR.D hR.sS hA (fun _ => rfl) (by decide) (by decide) (by show 0 * 4 ≤ 536870912; have := hv61.2; omega) (show 0 + 1 + 1 + 1 + 1 + 1 + 1 + 1 + 1 + 1 + 1 + 1 ≤ KCC - qn S from hlg.c1 hv61.1) (show 0 + 0 + 0 + 0 + 16 + 0 + 0 + 0 + 0 + 0 + 0 + 0 ≤ KSC - qu S from hlg.s1 hv61.2) dX3_init_77 (fun q62 cA9 H hK9 hP hD hS => ?_)
  obtain rfl := cls_new3 hR.K hK9 (k := 1) rfl (fun _ h => by cases h)
  have hw8 := hR.w
  have hR := hR.new (t := 210) (n := 0) (k := 0) hTX (by decide) (Nat.zero_le _) (wN_CI (by decide)) hP hD hS
  have hk8 : adk am57 (adx am57 (qn S60) q62) S60 := adk.rf.new (Nat.le_refl _) hTX
  have hak := hak.new (q := q62) hlg.2.2.1 hTX
  have hE := hE.ad hk8
  have hlg : lgC S (wN S60 210 0 0) (0 + 1 + 1 + 1 + 1 + 1 + 1 + 1 + 1 + 1 + 1 + 1) (0 + 0 + 0 + 0 + 16 + 0 + 0 + 0 + 0 + 0 + 0 + 0) := hlg.new (t := 210) (n := 0) ⟨hv61.1, hv61.2⟩
  have hs8 : shx S60 (wN S60 210 0 0) := shx.newCZ (t := 210) (n := 0) (k := 0) shx.rf hw8 hTX
  obtain ⟨am63, eam63⟩ : ∃ z, z = adx am57 (qn S60) q62 := ⟨_, rfl⟩
  have eq_q62 : am63 (qn S60) = q62 := by rw [eam63]; exact if_pos rfl
  rw [← eam63] at hR hk8 hak hE
  obtain ⟨S64, eS64⟩ : ∃ z, z = wN S60 210 0 0 := ⟨_, rfl⟩
  rw [← eS64] at hR hlg hs8
  replace h := h S64 eS64 hR.w
  have hsh := hsh.tr hs8
  have hT_b65 : qT S64 (qn S60) = 210 := by rw [eS64]; exact if_pos rfl
  have ea_0 : am63 p0 = am57 p0 := hk8 _ (hw8.hd hT_p0 (by decide) (by decide))
  have hT_p0 := hs8.T hT_p0 (by decide)
  have hl : lv_has ls 1 [(0, .ref (am63 p0))] := by simp only [ea_0]; exact hl
  refine W.eq (g2 := F0 m 79 ls [.ref (am63 (qn S60)), .ref (am63 p0)]) (by simp only [ea_0, eq_q62]) ?_
  clear hw8 hk8 hs8 hP hD hS e9 e8 e7 hTX
  refine va_put (D := rD g) (ci := 3) (v := .ref (am63 (qn S60))) (ty := (.array .int)) (C := RX3) (T := TX3) (N := 16) hx hb hts inX3 tyX3 tyX3_ok nmX3 hown hR.K hR.P hR.D hR.sS p0 (hR.at43 hT_p0) rfl 13 (by decide) (hts _ kw_845) (fun _ h9 => h9) rfl (by decide +kernel) rfl rfl (Nat.le_of_ble_eq_true rfl) dX3_init_79 (fun H locs hP hD hS => ?_)
  have hw9 : wfCZ (wR S64 p0 13 (some (qn S60))) := hR.w.put (fun b q9 => by cases q9; exact (hT_b65).trans (by rw [hT_p0]; rfl)) (fun _ h9 => absurd h9 List.not_mem_nil) (by rw [hT_p0]; decide) (fun b _ q9 => absurd (show otgC (qT S64 p0) 13 = 0 by rw [hT_p0]; decide) q9) (fun _ => Option.some_ne_none _)
  have hTk9 : qT S64 p0 = 43 := hT_p0
  have hR : RepCZ g am63 A s (wR S64 p0 13 (some (qn S60))) H locs := hR.pR43 hT_p0 FX3_s13 hw9 hP hD hS
  obtain ⟨S66, eS66⟩ : ∃ z, z = wR S64 p0 13 (some (qn S60)) := ⟨_, rfl⟩
  rw [← eS66] at hR
  replace h := h S66 eS66 hTk9 hR.w
  have hT_p0 : qT S66 p0 = 43 := (congrArg (fun z => qT z p0) eS66).trans hT_p0
  have hsh : shx S S66 := by rw [eS66]; exact hsh
  have hlg : lgC S S66 (0 + 1 + 1 + 1 + 1 + 1 + 1 + 1 + 1 + 1 + 1 + 1) (0 + 0 + 0 + 0 + 16 + 0 + 0 + 0 + 0 + 0 + 0 + 0) := by rw [eS66]; exact hlg
  refine lv_aload_n hx hb dX3_init_82 rfl (lv_at hl 0 rfl) ?_
  refine lv_iconst (v := 0) hx hb dX3_init_83 (by decide) ?_
  obtain ⟨hv67, h⟩ := h
  have e9 : KCC = 300000 := rfl
  have e8 : KSC = 3553400 := rfl
  have e7 : TXB = 10000000 := rfl
  have hTX : qn S66 < TXB := by have := hv67.1; omega
  refine va_newa (atype := .int) (ty := .int) (a0 := (0, .inl (fun _ => 0))) (N' := 0) hx hb (hts (.arrayClass .int) kw_51) rfl hR.K hR.P hR.D hR.sS hA (fun _ => rfl) (by decide) (by decide) (by show 0 * 4 ≤ 536870912; have := hv67.2; omega) (show 0 + 1 + 1 + 1 + 1 + 1 + 1 + 1 + 1 + 1 + 1 + 1 + 1 ≤ KCC - qn S from hlg.c1 hv67.1) (show 0 + 0 + 0 + 0 + 16 + 0 + 0 + 0 + 0 + 0 + 0 + 0 + 0 ≤ KSC - qu S from hlg.s1 hv67.2) dX3_init_84 (fun q68 cA9 H hK9 hP hD hS => ?_)
  obtain rfl := cls_new3 hR.K hK9 (k := 1) rfl (fun _ h => by cases h)
  have hw8 := hR.w
  have hR := hR.new (t := 211) (n := 0) (k := 0) hTX (by decide) (Nat.zero_le _) (wN_CI (by decide)) hP hD hS
  have hk8 : adk am63 (adx am63 (qn S66) q68) S66 := adk.rf.new (Nat.le_refl _) hTX
  have hak := hak.new (q := q68) hlg.2.2.1 hTX
  have hE := hE.ad hk8
  have hlg : lgC S (wN S66 211 0 0) (0 + 1 + 1 + 1 + 1 + 1 + 1 + 1 + 1 + 1 + 1 + 1 + 1) (0 + 0 + 0 + 0 + 16 + 0 + 0 + 0 + 0 + 0 + 0 + 0 + 0) := hlg.new (t := 211) (n := 0) ⟨hv67.1, hv67.2⟩
  have hs8 : shx S66 (wN S66 211 0 0) := shx.newCZ (t := 211) (n := 0) (k := 0) shx.rf hw8 hTX
  obtain ⟨am69, eam69⟩ : ∃ z, z = adx am63 (qn S66) q68 := ⟨_, rfl⟩
  have eq_q68 : am69 (qn S66) = q68 := by rw [eam69]; exact if_pos rfl
  rw [← eam69] at hR hk8 hak hE
  obtain ⟨S70, eS70⟩ : ∃ z, z = wN S66 211 0 0 := ⟨_, rfl⟩
  rw [← eS70] at hR hlg hs8
  replace h := h S70 eS70 hR.w
  have hsh := hsh.tr hs8
  have hT_b71 : qT S70 (qn S66) = 211 := by rw [eS70]; exact if_pos rfl
  have ea_0 : am69 p0 = am63 p0 := hk8 _ (hw8.hd hT_p0 (by decide) (by decide))
  have hT_p0 := hs8.T hT_p0 (by decide)
  have hl : lv_has ls 1 [(0, .ref (am69 p0))] := by simp only [ea_0]; exact hl
  refine W.eq (g2 := F0 m 86 ls [.ref (am69 (qn S66)), .ref (am69 p0)]) (by simp only [ea_0, eq_q68]) ?_
  clear hw8 hk8 hs8 hP hD hS e9 e8 e7 hTX
  refine va_put (D := rD g) (ci := 3) (v := .ref (am69 (qn S66))) (ty := (.array .int)) (C := RX3) (T := TX3) (N := 16) hx hb hts inX3 tyX3 tyX3_ok nmX3 hown hR.K hR.P hR.D hR.sS p0 (hR.at43 hT_p0) rfl 14 (by decide) (hts _ kw_838) (fun _ h9 => h9) rfl (by decide +kernel) rfl rfl (Nat.le_of_ble_eq_true rfl) dX3_init_86 (fun H locs hP hD hS => ?_)
  have hw9 : wfCZ (wR S70 p0 14 (some (qn S66))) := hR.w.put (fun b q9 => by cases q9; exact (hT_b71).trans (by rw [hT_p0]; rfl)) (fun _ h9 => absurd h9 List.not_mem_nil) (by rw [hT_p0]; decide) (fun b _ q9 => absurd (show otgC (qT S70 p0) 14 = 0 by rw [hT_p0]; decide) q9) (fun _ => Option.some_ne_none _)
  have hTk9 : qT S70 p0 = 43 := hT_p0
  have hR : RepCZ g am69 A s (wR S70 p0 14 (some (qn S66))) H locs := hR.pR43 hT_p0 FX3_s14 hw9 hP hD hS
  obtain ⟨S72, eS72⟩ : ∃ z, z = wR S70 p0 14 (some (qn S66)) := ⟨_, rfl⟩
  rw [← eS72] at hR
  replace h := h S72 eS72 hTk9 hR.w
  have hT_p0 : qT S72 p0 = 43 := (congrArg (fun z => qT z p0) eS72).trans hT_p0
  have hsh : shx S S72 := by rw [eS72]; exact hsh
  have hlg : lgC S S72 (0 + 1 + 1 + 1 + 1 + 1 + 1 + 1 + 1 + 1 + 1 + 1 + 1) (0 + 0 + 0 + 0 + 16 + 0 + 0 + 0 + 0 + 0 + 0 + 0 + 0) := by rw [eS72]; exact hlg
  refine lv_aload_n hx hb dX3_init_89 rfl (lv_at hl 0 rfl) ?_
  refine lv_iconst (v := 0) hx hb dX3_init_90 (by decide) ?_
  obtain ⟨hv73, h⟩ := h
  have e9 : KCC = 300000 := rfl
  have e8 : KSC = 3553400 := rfl
  have e7 : TXB = 10000000 := rfl
  have hTX : qn S72 < TXB := by have := hv73.1; omega
  refine va_newa (atype := .int) (ty := .int) (a0 := (0, .inl (fun _ => 0))) (N' := 0) hx hb (hts (.arrayClass .int) kw_51) rfl hR.K hR.P hR.D hR.sS hA (fun _ => rfl) (by decide) (by decide) (by show 0 * 4 ≤ 536870912; have := hv73.2; omega) (show 0 + 1 + 1 + 1 + 1 + 1 + 1 + 1 + 1 + 1 + 1 + 1 + 1 + 1 ≤ KCC - qn S from hlg.c1 hv73.1) (show 0 + 0 + 0 + 0 + 16 + 0 + 0 + 0 + 0 + 0 + 0 + 0 + 0 + 0 ≤ KSC - qu S from hlg.s1 hv73.2) dX3_init_91 (fun q74 cA9 H hK9 hP hD hS => ?_)
  obtain rfl := cls_new3 hR.K hK9 (k := 1) rfl (fun _ h => by cases h)
  have hw8 := hR.w
  have hR := hR.new (t := 212) (n := 0) (k := 0) hTX (by decide) (Nat.zero_le _) (wN_CI (by decide)) hP hD hS
  have hk8 : adk am69 (adx am69 (qn S72) q74) S72 := adk.rf.new (Nat.le_refl _) hTX
  have hak := hak.new (q := q74) hlg.2.2.1 hTX
  have hE := hE.ad hk8
  have hlg : lgC S (wN S72 212 0 0) (0 + 1 + 1 + 1 + 1 + 1 + 1 + 1 + 1 + 1 + 1 + 1 + 1 + 1) (0 + 0 + 0 + 0 + 16 + 0 + 0 + 0 + 0 + 0 + 0 + 0 + 0 + 0) := hlg.new (t := 212) (n := 0) ⟨hv73.1, hv73.2⟩
  have hs8 : shx S72 (wN S72 212 0 0) := shx.newCZ (t := 212) (n := 0) (k := 0) shx.rf hw8 hTX
  obtain ⟨am75, eam75⟩ : ∃ z, z = adx am69 (qn S72) q74 := ⟨_, rfl⟩
  have eq_q74 : am75 (qn S72) = q74 := by rw [eam75]; exact if_pos rfl
  rw [← eam75] at hR hk8 hak hE
  obtain ⟨S76, eS76⟩ : ∃ z, z = wN S72 212 0 0 := ⟨_, rfl⟩
  rw [← eS76] at hR hlg hs8
  replace h := h S76 eS76 hR.w
  have hsh := hsh.tr hs8
  have hT_b77 : qT S76 (qn S72) = 212 := by rw [eS76]; exact if_pos rfl
  have ea_0 : am75 p0 = am69 p0 := hk8 _ (hw8.hd hT_p0 (by decide) (by decide))
  have hT_p0 := hs8.T hT_p0 (by decide)
  have hl : lv_has ls 1 [(0, .ref (am75 p0))] := by simp only [ea_0]; exact hl
  refine W.eq (g2 := F0 m 93 ls [.ref (am75 (qn S72)), .ref (am75 p0)]) (by simp only [ea_0, eq_q74]) ?_
  clear hw8 hk8 hs8 hP hD hS e9 e8 e7 hTX
  refine va_put (D := rD g) (ci := 3) (v := .ref (am75 (qn S72))) (ty := (.array .int)) (C := RX3) (T := TX3) (N := 16) hx hb hts inX3 tyX3 tyX3_ok nmX3 hown hR.K hR.P hR.D hR.sS p0 (hR.at43 hT_p0) rfl 15 (by decide) (hts _ kw_852) (fun _ h9 => h9) rfl (by decide +kernel) rfl rfl (Nat.le_of_ble_eq_true rfl) dX3_init_93 (fun H locs hP hD hS => ?_)
  have hw9 : wfCZ (wR S76 p0 15 (some (qn S72))) := hR.w.put (fun b q9 => by cases q9; exact (hT_b77).trans (by rw [hT_p0]; rfl)) (fun _ h9 => absurd h9 List.not_mem_nil) (by rw [hT_p0]; decide) (fun b _ q9 => absurd (show otgC (qT S76 p0) 15 = 0 by rw [hT_p0]; decide) q9) (fun _ => Option.some_ne_none _)
  have hTk9 : qT S76 p0 = 43 := hT_p0
  have hR : RepCZ g am75 A s (wR S76 p0 15 (some (qn S72))) H locs := hR.pR43 hT_p0 FX3_s15 hw9 hP hD hS
  obtain ⟨S78, eS78⟩ : ∃ z, z = wR S76 p0 15 (some (qn S72)) := ⟨_, rfl⟩
  rw [← eS78] at hR
  replace h := h S78 eS78 hTk9 hR.w
  have hT_p0 : qT S78 p0 = 43 := (congrArg (fun z => qT z p0) eS78).trans hT_p0
  have hsh : shx S S78 := by rw [eS78]; exact hsh
  have hlg : lgC S S78 (0 + 1 + 1 + 1 + 1 + 1 + 1 + 1 + 1 + 1 + 1 + 1 + 1 + 1) (0 + 0 + 0 + 0 + 16 + 0 + 0 + 0 + 0 + 0 + 0 + 0 + 0 + 0) := by rw [eS78]; exact hlg
  refine W_led2 (fun hLd => ?_)
  refine W.widen (k := KCC - qn S) (n := KSC - qu S) hlg.c hlg.s ?_
  exact W.vret hx hb hr (fun t9 ht9 hW9 => ⟨⟨(S78, am75), rfl, ⟨h, hR.w, hsh, hak⟩, ⟨⟨by rw [ht9]; exact hR.P, hR.D⟩, _, _, by rw [ht9]; exact hLd, hlg⟩⟩, hR.sS.F ht9⟩) hR.sS.2.2 dX3_init_96
def zX8_init (S : MS) (p0 : Nat) (x1 : Int32) (x2 : Int32) (x3 : Int32) (Q : MS → Prop) : Prop := (((0 : Int) ≤ x1.toInt ∧ (qn S + 1 ≤ KCC ∧ qu S + x1.toInt.toNat ≤ KSC)) ∧ (∀ S4, S4 = wN S 222 x1.toInt.toNat x1.toInt.toNat → wfCZ S4 → (((qn S) = p0 + 1) ∧ (∀ S7, S7 = wR S4 p0 0 (some (qn S)) → qT S4 p0 = 47 → wfCZ S7 → (((0 : Int) ≤ x1.toInt ∧ (qn S7 + 1 ≤ KCC ∧ qu S7 + x1.toInt.toNat ≤ KSC)) ∧ (∀ S11, S11 = wN S7 406 x1.toInt.toNat x1.toInt.toNat → wfCZ S11 → (((qn S7) = p0 + 2) ∧ (∀ S14, S14 = wR S11 p0 1 (some (qn S7)) → qT S11 p0 = 47 → wfCZ S14 → (((0 : Int) ≤ x2.toInt ∧ (qn S14 + 1 ≤ KCC ∧ qu S14 + x2.toInt.toNat ≤ KSC)) ∧ (∀ S18, S18 = wN S14 223 x2.toInt.toNat x2.toInt.toNat → wfCZ S18 → (((qn S14) = p0 + 3) ∧ (∀ S21, S21 = wR S18 p0 3 (some (qn S14)) → qT S18 p0 = 47 → wfCZ S21 → (((0 : Int) ≤ x3.toInt ∧ (qn S21 + 1 ≤ KCC ∧ qu S21 + x3.toInt.toNat ≤ KSC)) ∧ (∀ S25, S25 = wN S21 224 x3.toInt.toNat x3.toInt.toNat → wfCZ S25 → (((qn S21) = p0 + 4) ∧ (∀ S28, S28 = wR S25 p0 5 (some (qn S21)) → qT S25 p0 = 47 → wfCZ S28 → (((0 : Int) ≤ x3.toInt ∧ (qn S28 + 1 ≤ KCC ∧ qu S28 + x3.toInt.toNat ≤ KSC)) ∧ (∀ S32, S32 = wN S28 225 x3.toInt.toNat x3.toInt.toNat → wfCZ S32 → (((qn S28) = p0 + 5) ∧ (∀ S35, S35 = wR S32 p0 6 (some (qn S28)) → qT S32 p0 = 47 → wfCZ S35 → (((0 : Int) ≤ x3.toInt ∧ (qn S35 + 1 ≤ KCC ∧ qu S35 + x3.toInt.toNat ≤ KSC)) ∧ (∀ S39, S39 = wN S35 226 x3.toInt.toNat x3.toInt.toNat → wfCZ S39 → (((qn S35) = p0 + 6) ∧ (∀ S42, S42 = wR S39 p0 7 (some (qn S35)) → qT S39 p0 = 47 → wfCZ S42 → (((0 : Int) ≤ x3.toInt ∧ (qn S42 + 1 ≤ KCC ∧ qu S42 + x3.toInt.toNat ≤ KSC)) ∧ (∀ S46, S46 = wN S42 227 x3.toInt.toNat x3.toInt.toNat → wfCZ S46 → (((qn S42) = p0 + 7) ∧ (∀ S49, S49 = wR S46 p0 8 (some (qn S42)) → qT S46 p0 = 47 → wfCZ S49 → Q S49))))))))))))))))))))))))))))
set_option maxHeartbeats 2000000 in
set_option maxRecDepth 100000 in
theorem rzX8_init (l : Launch) (g : Gr) (ad : Nat → Nat) (H0 : Heap) (S : MS) (p0 : Nat) (x1 : Int32) (x2 : Int32) (x3 : Int32) (hw : wfCZ S) (hT_p0 : qT S p0 = 47) (Q : MS → Prop) (h : zX8_init S p0 x1 x2 x3 Q) : Met l yX8_init (wt yX8_init cX8_init 4 none) ({ frames := 1, cells := KCC - qn S, slots := KSC - qu S, locals := 12 }) (va_Pc [.ref (ad p0), .int x1, .int x2, .int x3] (st_CH g ad H0 S)) (va_Qv (fun (u : MS × (Nat → Nat)) => Q u.1 ∧ wfCZ u.1 ∧ shx S u.1 ∧ adk ad u.2 S) (fun (u : MS × (Nat → Nat)) (t : State) => qEHC g (va_A (WdC g ad S) H0.size) S H0 u t) (va_A (WdC g ad S) H0.size)) (KCC - qn S) (KSC - qu S) (va_A (WdC g ad S) H0.size) := by
  refine Met.ofW (cc := cX8_init) (maxL := 4) (ret := none) (by decide) rfl ?_
  intro p e s m args below meth c s₁ B hml hv
  obtain ⟨rfl, hH0, hsz, hP, hK, hD0, hex, hE⟩ := hv
  have hx := B.exec
  have hb := B.bytes
  have hr := B.returns
  have hts0 := atoms_spec (ws := wt yX8_init cX8_init 4 none) B.pre
  have hts : ∀ w ∈ tb, w.before _ s = true := fun w h => hts0 w (List.mem_cons_of_mem _ h)
  have hown : s.vm.findClass RX8 = some m.cls := findClass_of_methodNamed B.named
  subst hH0
  have hD := hD0.self (sz := s.heap.size)
  generalize hAe : va_A (WdC g ad S) s.heap.size = A at hD hE ⊢
  have hA : ∀ q : Nat, s.heap.size ≤ q → A q := fun q h => by rw [← hAe]; exact Or.inr h
  have hR : RepCZ g ad A s S s.heap [] := ⟨hK, hP, hD, va_S.rf, hw⟩
  clear hK hP hD hD0
  have hl := lv_entry ([.ref (ad p0), .int x1, .int x2, .int x3]) (n := 4) (Nat.le_of_ble_eq_true rfl)
  rw [lg_entry_eq]
  generalize (lg_sl ([.ref (ad p0), .int x1, .int x2, .int x3]) ++ List.replicate (4 - (lg_sl ([.ref (ad p0), .int x1, .int x2, .int x3])).length) Slot.unset).toArray = ls at hl ⊢
  have hlg : lgC S S 0 0 := lgC.rf
  have hak : adk ad ad S := adk.rf
  have hin9 : meth.name = "<init>" := (name_of_methodNamed B.named B.method).1
  have hl : lv_has ls 4 [(0, .ref (ad p0)), (1, .int x1), (2, .int x2), (3, .int x3)] := hl
  have hsh : shx S S := shx.rf
  unfold zX8_init at h
  refine lv_aload_n hx hb dX8_init_0 rfl (lv_at hl 0 rfl) ?_
  refine W.objInit hx hb hown (hts _ kw_1498) (hts _ kw_9) (hts _ kw_10) rfl (by rw [hml]; exact hl.1) rfl dX8_init_1 (Nat.le_of_ble_eq_true rfl) (Nat.le_of_ble_eq_true rfl) ?_
  refine W.eq (g2 := F0 m 4 ls []) rfl ?_
  refine lv_aload_n hx hb dX8_init_4 rfl (lv_at hl 0 rfl) ?_
  refine lv_iload_n hx hb dX8_init_5 rfl (lv_at hl 1 rfl) ?_
  obtain ⟨hv1, h⟩ := h
  have e9 : KCC = 300000 := rfl
  have e8 : KSC = 3553400 := rfl
  have e7 : TXB = 10000000 := rfl
  have hTX : qn S < TXB := by have := hv1.2.1; omega
  refine va_newa (atype := .int) (ty := .int) (a0 := (x1.toInt.toNat, .inl (fun _ => 0))) (N' := x1.toInt.toNat) hx hb (hts (.arrayClass .int) kw_51) rfl hR.K hR.P hR.D hR.sS hA (fun _ => rfl) (fun q9 => absurd (k_lt (b := 0) rfl (by decide) q9) (Int.not_lt.mpr hv1.1)) rfl (by show x1.toInt.toNat * 4 ≤ 536870912; have := hv1.2.2; omega) (show 0 + 1 ≤ KCC - qn S from hlg.c1 hv1.2.1) (show 0 + x1.toInt.toNat ≤ KSC - qu S from hlg.s1 hv1.2.2) dX8_init_6 (fun q2 cA9 H hK9 hP hD hS => ?_)
  obtain rfl := cls_new3 hR.K hK9 (k := 1) rfl (fun _ h => by cases h)
  have hw8 := hR.w
  have hR := hR.new (t := 222) (n := x1.toInt.toNat) (k := x1.toInt.toNat) hTX (by decide) (by have := hv1.2.2; omega) (wN_CI (by decide)) hP hD hS
  have hk8 : adk ad (adx ad (qn S) q2) S := adk.rf.new (Nat.le_refl _) hTX
  have hak := hak.new (q := q2) hlg.2.2.1 hTX
  have hE := hE.ad hk8
  have hlg : lgC S (wN S 222 x1.toInt.toNat x1.toInt.toNat) (0 + 1) (0 + x1.toInt.toNat) := hlg.new (t := 222) (n := x1.toInt.toNat) ⟨hv1.2.1, hv1.2.2⟩
  have hs8 : shx S (wN S 222 x1.toInt.toNat x1.toInt.toNat) := shx.newCZ (t := 222) (n := x1.toInt.toNat) (k := x1.toInt.toNat) shx.rf hw8 hTX
  obtain ⟨am3, eam3⟩ : ∃ z, z = adx ad (qn S) q2 := ⟨_, rfl⟩
  have eq_q2 : am3 (qn S) = q2 := by rw [eam3]; exact if_pos rfl
  rw [← eam3] at hR hk8 hak hE
  obtain ⟨S4, eS4⟩ : ∃ z, z = wN S 222 x1.toInt.toNat x1.toInt.toNat := ⟨_, rfl⟩
  rw [← eS4] at hR hlg hs8
  replace h := h S4 eS4 hR.w
  have hsh := hsh.tr hs8
  have hT_b5 : qT S4 (qn S) = 222 := by rw [eS4]; exact if_pos rfl
  have ea_0 : am3 p0 = ad p0 := hk8 _ (hw8.hd hT_p0 (by decide) (by decide))
  have hT_p0 := hs8.T hT_p0 (by decide)
  have hl : lv_has ls 4 [(0, .ref (am3 p0)), (1, .int x1), (2, .int x2), (3, .int x3)] := by simp only [ea_0]; exact hl
  refine W.eq (g2 := F0 m 8 ls [.ref (am3 (qn S)), .ref (am3 p0)]) (by simp only [ea_0, eq_q2]) ?_
  clear hw8 hk8 hs8 hP hD hS e9 e8 e7 hTX
  refine va_put (D := rD g) (ci := 7) (v := .ref (am3 (qn S))) (ty := (.array .int)) (C := RX8) (T := TX8) (N := 15) hx hb hts inX8 tyX8 tyX8_ok nmX8 hown hR.K hR.P hR.D hR.sS p0 (hR.at47 hT_p0) rfl 0 (by decide) (hts _ kw_1460) (fun _ h9 => h9) rfl (by decide +kernel) rfl rfl (Nat.le_of_ble_eq_true rfl) dX8_init_8 (fun H locs hP hD hS => ?_)
  obtain ⟨hv6, h⟩ := h
  have hw9 : wfCZ (wR S4 p0 0 (some (qn S))) := hR.w.put (fun b q9 => by cases q9; exact (hT_b5).trans (by rw [hT_p0]; rfl)) (fun _ h9 => absurd h9 List.not_mem_nil) (by rw [hT_p0]; decide) (fun b q9 _ => by cases q9; rw [hT_p0]; exact hv6) (fun _ => Option.some_ne_none _)
  have hTk9 : qT S4 p0 = 47 := hT_p0
  have hR : RepCZ g am3 A s (wR S4 p0 0 (some (qn S))) H locs := hR.pR47 hT_p0 FX8_s0 hw9 hP hD hS
  obtain ⟨S7, eS7⟩ : ∃ z, z = wR S4 p0 0 (some (qn S)) := ⟨_, rfl⟩
  rw [← eS7] at hR
  replace h := h S7 eS7 hTk9 hR.w
  have hT_p0 : qT S7 p0 = 47 := (congrArg (fun z => qT z p0) eS7).trans hT_p0
  have hsh : shx S S7 := by rw [eS7]; exact hsh
  have hlg : lgC S S7 (0 + 1) (0 + x1.toInt.toNat) := by rw [eS7]; exact hlg
  refine lv_aload_n hx hb dX8_init_11 rfl (lv_at hl 0 rfl) ?_
  refine lv_iload_n hx hb dX8_init_12 rfl (lv_at hl 1 rfl) ?_
  obtain ⟨hv8, h⟩ := h
  have e9 : KCC = 300000 := rfl
  have e8 : KSC = 3553400 := rfl
  have e7 : TXB = 10000000 := rfl
  have hTX : qn S7 < TXB := by have := hv8.2.1; omega
  refine va_newa (atype := .long) (ty := .long) (a0 := (x1.toInt.toNat, .inr (.inl (fun _ => 0)))) (N' := x1.toInt.toNat) hx hb (hts (.arrayClass .long) kw_564) rfl hR.K hR.P hR.D hR.sS hA (fun _ => rfl) (fun q9 => absurd (k_lt (b := 0) rfl (by decide) q9) (Int.not_lt.mpr hv8.1)) rfl (by show x1.toInt.toNat * 8 ≤ 536870912; have := hv8.2.2; omega) (show 0 + 1 + 1 ≤ KCC - qn S from hlg.c1 hv8.2.1) (show 0 + x1.toInt.toNat + x1.toInt.toNat ≤ KSC - qu S from hlg.s1 hv8.2.2) dX8_init_13 (fun q9 cA9 H hK9 hP hD hS => ?_)
  obtain rfl := cls_new3 hR.K hK9 (k := 3) rfl (fun _ h => by cases h)
  have hw8 := hR.w
  have hR := hR.new (t := 406) (n := x1.toInt.toNat) (k := x1.toInt.toNat) hTX (by decide) (by have := hv8.2.2; omega) (wN_CL (by decide)) hP hD hS
  have hk8 : adk am3 (adx am3 (qn S7) q9) S7 := adk.rf.new (Nat.le_refl _) hTX
  have hak := hak.new (q := q9) hlg.2.2.1 hTX
  have hE := hE.ad hk8
  have hlg : lgC S (wN S7 406 x1.toInt.toNat x1.toInt.toNat) (0 + 1 + 1) (0 + x1.toInt.toNat + x1.toInt.toNat) := hlg.new (t := 406) (n := x1.toInt.toNat) ⟨hv8.2.1, hv8.2.2⟩
  have hs8 : shx S7 (wN S7 406 x1.toInt.toNat x1.toInt.toNat) := shx.newCZ (t := 406) (n := x1.toInt.toNat) (k := x1.toInt.toNat) shx.rf hw8 hTX
  obtain ⟨am10, eam10⟩ : ∃ z, z = adx am3 (qn S7) q9 := ⟨_, rfl⟩
  have eq_q9 : am10 (qn S7) = q9 := by rw [eam10]; exact if_pos rfl
  rw [← eam10] at hR hk8 hak hE
  obtain ⟨S11, eS11⟩ : ∃ z, z = wN S7 406 x1.toInt.toNat x1.toInt.toNat := ⟨_, rfl⟩
  rw [← eS11] at hR hlg hs8
  replace h := h S11 eS11 hR.w
  have hsh := hsh.tr hs8
  have hT_b12 : qT S11 (qn S7) = 406 := by rw [eS11]; exact if_pos rfl
  have ea_0 : am10 p0 = am3 p0 := hk8 _ (hw8.hd hT_p0 (by decide) (by decide))
  have hT_p0 := hs8.T hT_p0 (by decide)
  have hl : lv_has ls 4 [(0, .ref (am10 p0)), (1, .int x1), (2, .int x2), (3, .int x3)] := by simp only [ea_0]; exact hl
  refine W.eq (g2 := F0 m 15 ls [.ref (am10 (qn S7)), .ref (am10 p0)]) (by simp only [ea_0, eq_q9]) ?_
  clear hw8 hk8 hs8 hP hD hS e9 e8 e7 hTX
  refine va_put (D := rD g) (ci := 7) (v := .ref (am10 (qn S7))) (ty := (.array .long)) (C := RX8) (T := TX8) (N := 15) hx hb hts inX8 tyX8 tyX8_ok nmX8 hown hR.K hR.P hR.D hR.sS p0 (hR.at47 hT_p0) rfl 1 (by decide) (hts _ kw_1478) (fun _ h9 => h9) rfl (by decide +kernel) rfl rfl (Nat.le_of_ble_eq_true rfl) dX8_init_15 (fun H locs hP hD hS => ?_)
  obtain ⟨hv13, h⟩ := h
  have hw9 : wfCZ (wR S11 p0 1 (some (qn S7))) := hR.w.put (fun b q9 => by cases q9; exact (hT_b12).trans (by rw [hT_p0]; rfl)) (fun _ h9 => absurd h9 List.not_mem_nil) (by rw [hT_p0]; decide) (fun b q9 _ => by cases q9; rw [hT_p0]; exact hv13) (fun _ => Option.some_ne_none _)
  have hTk9 : qT S11 p0 = 47 := hT_p0
  have hR : RepCZ g am10 A s (wR S11 p0 1 (some (qn S7))) H locs := hR.pR47 hT_p0 FX8_s1 hw9 hP hD hS
  obtain ⟨S14, eS14⟩ : ∃ z, z = wR S11 p0 1 (some (qn S7)) := ⟨_, rfl⟩
  rw [← eS14] at hR
  replace h := h S14 eS14 hTk9 hR.w
  have hT_p0 : qT S14 p0 = 47 := (congrArg (fun z => qT z p0) eS14).trans hT_p0
  have hsh : shx S S14 := by rw [eS14]; exact hsh
  have hlg : lgC S S14 (0 + 1 + 1) (0 + x1.toInt.toNat + x1.toInt.toNat) := by rw [eS14]; exact hlg
  refine lv_aload_n hx hb dX8_init_18 rfl (lv_at hl 0 rfl) ?_
  refine lv_iload_n hx hb dX8_init_19 rfl (lv_at hl 2 rfl) ?_
  obtain ⟨hv15, h⟩ := h
  have e9 : KCC = 300000 := rfl
  have e8 : KSC = 3553400 := rfl
  have e7 : TXB = 10000000 := rfl
  have hTX : qn S14 < TXB := by have := hv15.2.1; omega
  refine va_newa (atype := .int) (ty := .int) (a0 := (x2.toInt.toNat, .inl (fun _ => 0))) (N' := x2.toInt.toNat) hx hb (hts (.arrayClass .int) kw_51) rfl hR.K hR.P hR.D hR.sS hA (fun _ => rfl) (fun q9 => absurd (k_lt (b := 0) rfl (by decide) q9) (Int.not_lt.mpr hv15.1)) rfl (by show x2.toInt.toNat * 4 ≤ 536870912; have := hv15.2.2; omega) (show 0 + 1 + 1 + 1 ≤ KCC - qn S from hlg.c1 hv15.2.1) (show 0 + x1.toInt.toNat + x1.toInt.toNat + x2.toInt.toNat ≤ KSC - qu S from hlg.s1 hv15.2.2) dX8_init_20 (fun q16 cA9 H hK9 hP hD hS => ?_)
  obtain rfl := cls_new3 hR.K hK9 (k := 1) rfl (fun _ h => by cases h)
  have hw8 := hR.w
  have hR := hR.new (t := 223) (n := x2.toInt.toNat) (k := x2.toInt.toNat) hTX (by decide) (by have := hv15.2.2; omega) (wN_CI (by decide)) hP hD hS
  have hk8 : adk am10 (adx am10 (qn S14) q16) S14 := adk.rf.new (Nat.le_refl _) hTX
  have hak := hak.new (q := q16) hlg.2.2.1 hTX
  have hE := hE.ad hk8
  have hlg : lgC S (wN S14 223 x2.toInt.toNat x2.toInt.toNat) (0 + 1 + 1 + 1) (0 + x1.toInt.toNat + x1.toInt.toNat + x2.toInt.toNat) := hlg.new (t := 223) (n := x2.toInt.toNat) ⟨hv15.2.1, hv15.2.2⟩
  have hs8 : shx S14 (wN S14 223 x2.toInt.toNat x2.toInt.toNat) := shx.newCZ (t := 223) (n := x2.toInt.toNat) (k := x2.toInt.toNat) shx.rf hw8 hTX
  obtain ⟨am17, eam17⟩ : ∃ z, z = adx am10 (qn S14) q16 := ⟨_, rfl⟩
  have eq_q16 : am17 (qn S14) = q16 := by rw [eam17]; exact if_pos rfl
  rw [← eam17] at hR hk8 hak hE
  obtain ⟨S18, eS18⟩ : ∃ z, z = wN S14 223 x2.toInt.toNat x2.toInt.toNat := ⟨_, rfl⟩
  rw [← eS18] at hR hlg hs8
  replace h := h S18 eS18 hR.w
  have hsh := hsh.tr hs8
  have hT_b19 : qT S18 (qn S14) = 223 := by rw [eS18]; exact if_pos rfl
  have ea_0 : am17 p0 = am10 p0 := hk8 _ (hw8.hd hT_p0 (by decide) (by decide))
  have hT_p0 := hs8.T hT_p0 (by decide)
  have hl : lv_has ls 4 [(0, .ref (am17 p0)), (1, .int x1), (2, .int x2), (3, .int x3)] := by simp only [ea_0]; exact hl
  refine W.eq (g2 := F0 m 22 ls [.ref (am17 (qn S14)), .ref (am17 p0)]) (by simp only [ea_0, eq_q16]) ?_
  clear hw8 hk8 hs8 hP hD hS e9 e8 e7 hTX
  refine va_put (D := rD g) (ci := 7) (v := .ref (am17 (qn S14))) (ty := (.array .int)) (C := RX8) (T := TX8) (N := 15) hx hb hts inX8 tyX8 tyX8_ok nmX8 hown hR.K hR.P hR.D hR.sS p0 (hR.at47 hT_p0) rfl 3 (by decide) (hts _ kw_1474) (fun _ h9 => h9) rfl (by decide +kernel) rfl rfl (Nat.le_of_ble_eq_true rfl) dX8_init_22 (fun H locs hP hD hS => ?_)
  obtain ⟨hv20, h⟩ := h
  have hw9 : wfCZ (wR S18 p0 3 (some (qn S14))) := hR.w.put (fun b q9 => by cases q9; exact (hT_b19).trans (by rw [hT_p0]; rfl)) (fun _ h9 => absurd h9 List.not_mem_nil) (by rw [hT_p0]; decide) (fun b q9 _ => by cases q9; rw [hT_p0]; exact hv20) (fun _ => Option.some_ne_none _)
  have hTk9 : qT S18 p0 = 47 := hT_p0
  have hR : RepCZ g am17 A s (wR S18 p0 3 (some (qn S14))) H locs := hR.pR47 hT_p0 FX8_s3 hw9 hP hD hS
  obtain ⟨S21, eS21⟩ : ∃ z, z = wR S18 p0 3 (some (qn S14)) := ⟨_, rfl⟩
  rw [← eS21] at hR
  replace h := h S21 eS21 hTk9 hR.w
  have hT_p0 : qT S21 p0 = 47 := (congrArg (fun z => qT z p0) eS21).trans hT_p0
  have hsh : shx S S21 := by rw [eS21]; exact hsh
  have hlg : lgC S S21 (0 + 1 + 1 + 1) (0 + x1.toInt.toNat + x1.toInt.toNat + x2.toInt.toNat) := by rw [eS21]; exact hlg
  refine lv_aload_n hx hb dX8_init_25 rfl (lv_at hl 0 rfl) ?_
  refine lv_iload_n hx hb dX8_init_26 rfl (lv_at hl 3 rfl) ?_
  obtain ⟨hv22, h⟩ := h
  have e9 : KCC = 300000 := rfl
  have e8 : KSC = 3553400 := rfl
  have e7 : TXB = 10000000 := rfl
  have hTX : qn S21 < TXB := by have := hv22.2.1; omega
  refine va_newa (atype := .int) (ty := .int) (a0 := (x3.toInt.toNat, .inl (fun _ => 0))) (N' := x3.toInt.toNat) hx hb (hts (.arrayClass .int) kw_51) rfl hR.K hR.P hR.D hR.sS hA (fun _ => rfl) (fun q9 => absurd (k_lt (b := 0) rfl (by decide) q9) (Int.not_lt.mpr hv22.1)) rfl (by show x3.toInt.toNat * 4 ≤ 536870912; have := hv22.2.2; omega) (show 0 + 1 + 1 + 1 + 1 ≤ KCC - qn S from hlg.c1 hv22.2.1) (show 0 + x1.toInt.toNat + x1.toInt.toNat + x2.toInt.toNat + x3.toInt.toNat ≤ KSC - qu S from hlg.s1 hv22.2.2) dX8_init_27 (fun q23 cA9 H hK9 hP hD hS => ?_)
  obtain rfl := cls_new3 hR.K hK9 (k := 1) rfl (fun _ h => by cases h)
  have hw8 := hR.w
  have hR := hR.new (t := 224) (n := x3.toInt.toNat) (k := x3.toInt.toNat) hTX (by decide) (by have := hv22.2.2; omega) (wN_CI (by decide)) hP hD hS
  have hk8 : adk am17 (adx am17 (qn S21) q23) S21 := adk.rf.new (Nat.le_refl _) hTX
  have hak := hak.new (q := q23) hlg.2.2.1 hTX
  have hE := hE.ad hk8
  have hlg : lgC S (wN S21 224 x3.toInt.toNat x3.toInt.toNat) (0 + 1 + 1 + 1 + 1) (0 + x1.toInt.toNat + x1.toInt.toNat + x2.toInt.toNat + x3.toInt.toNat) := hlg.new (t := 224) (n := x3.toInt.toNat) ⟨hv22.2.1, hv22.2.2⟩
  have hs8 : shx S21 (wN S21 224 x3.toInt.toNat x3.toInt.toNat) := shx.newCZ (t := 224) (n := x3.toInt.toNat) (k := x3.toInt.toNat) shx.rf hw8 hTX
  obtain ⟨am24, eam24⟩ : ∃ z, z = adx am17 (qn S21) q23 := ⟨_, rfl⟩
  have eq_q23 : am24 (qn S21) = q23 := by rw [eam24]; exact if_pos rfl
  rw [← eam24] at hR hk8 hak hE
  obtain ⟨S25, eS25⟩ : ∃ z, z = wN S21 224 x3.toInt.toNat x3.toInt.toNat := ⟨_, rfl⟩
  rw [← eS25] at hR hlg hs8
  replace h := h S25 eS25 hR.w
  have hsh := hsh.tr hs8
  have hT_b26 : qT S25 (qn S21) = 224 := by rw [eS25]; exact if_pos rfl
  have ea_0 : am24 p0 = am17 p0 := hk8 _ (hw8.hd hT_p0 (by decide) (by decide))
  have hT_p0 := hs8.T hT_p0 (by decide)
  have hl : lv_has ls 4 [(0, .ref (am24 p0)), (1, .int x1), (2, .int x2), (3, .int x3)] := by simp only [ea_0]; exact hl
  refine W.eq (g2 := F0 m 29 ls [.ref (am24 (qn S21)), .ref (am24 p0)]) (by simp only [ea_0, eq_q23]) ?_
  clear hw8 hk8 hs8 hP hD hS e9 e8 e7 hTX
  refine va_put (D := rD g) (ci := 7) (v := .ref (am24 (qn S21))) (ty := (.array .int)) (C := RX8) (T := TX8) (N := 15) hx hb hts inX8 tyX8 tyX8_ok nmX8 hown hR.K hR.P hR.D hR.sS p0 (hR.at47 hT_p0) rfl 5 (by decide) (hts _ kw_1466) (fun _ h9 => h9) rfl (by decide +kernel) rfl rfl (Nat.le_of_ble_eq_true rfl) dX8_init_29 (fun H locs hP hD hS => ?_)
  obtain ⟨hv27, h⟩ := h
  have hw9 : wfCZ (wR S25 p0 5 (some (qn S21))) := hR.w.put (fun b q9 => by cases q9; exact (hT_b26).trans (by rw [hT_p0]; rfl)) (fun _ h9 => absurd h9 List.not_mem_nil) (by rw [hT_p0]; decide) (fun b q9 _ => by cases q9; rw [hT_p0]; exact hv27) (fun _ => Option.some_ne_none _)
  have hTk9 : qT S25 p0 = 47 := hT_p0
  have hR : RepCZ g am24 A s (wR S25 p0 5 (some (qn S21))) H locs := hR.pR47 hT_p0 FX8_s5 hw9 hP hD hS
  obtain ⟨S28, eS28⟩ : ∃ z, z = wR S25 p0 5 (some (qn S21)) := ⟨_, rfl⟩
  rw [← eS28] at hR
  replace h := h S28 eS28 hTk9 hR.w
  have hT_p0 : qT S28 p0 = 47 := (congrArg (fun z => qT z p0) eS28).trans hT_p0
  have hsh : shx S S28 := by rw [eS28]; exact hsh
  have hlg : lgC S S28 (0 + 1 + 1 + 1 + 1) (0 + x1.toInt.toNat + x1.toInt.toNat + x2.toInt.toNat + x3.toInt.toNat) := by rw [eS28]; exact hlg
  refine lv_aload_n hx hb dX8_init_32 rfl (lv_at hl 0 rfl) ?_
  refine lv_iload_n hx hb dX8_init_33 rfl (lv_at hl 3 rfl) ?_
  obtain ⟨hv29, h⟩ := h
  have e9 : KCC = 300000 := rfl
  have e8 : KSC = 3553400 := rfl
  have e7 : TXB = 10000000 := rfl
  have hTX : qn S28 < TXB := by have := hv29.2.1; omega
  refine va_newa (atype := .int) (ty := .int) (a0 := (x3.toInt.toNat, .inl (fun _ => 0))) (N' := x3.toInt.toNat) hx hb (hts (.arrayClass .int) kw_51) rfl hR.K hR.P hR.D hR.sS hA (fun _ => rfl) (fun q9 => absurd (k_lt (b := 0) rfl (by decide) q9) (Int.not_lt.mpr hv29.1)) rfl (by show x3.toInt.toNat * 4 ≤ 536870912; have := hv29.2.2; omega) (show 0 + 1 + 1 + 1 + 1 + 1 ≤ KCC - qn S from hlg.c1 hv29.2.1) (show 0 + x1.toInt.toNat + x1.toInt.toNat + x2.toInt.toNat + x3.toInt.toNat + x3.toInt.toNat ≤ KSC - qu S from hlg.s1 hv29.2.2) dX8_init_34 (fun q30 cA9 H hK9 hP hD hS => ?_)
  obtain rfl := cls_new3 hR.K hK9 (k := 1) rfl (fun _ h => by cases h)
  have hw8 := hR.w
  have hR := hR.new (t := 225) (n := x3.toInt.toNat) (k := x3.toInt.toNat) hTX (by decide) (by have := hv29.2.2; omega) (wN_CI (by decide)) hP hD hS
  have hk8 : adk am24 (adx am24 (qn S28) q30) S28 := adk.rf.new (Nat.le_refl _) hTX
  have hak := hak.new (q := q30) hlg.2.2.1 hTX
  have hE := hE.ad hk8
  have hlg : lgC S (wN S28 225 x3.toInt.toNat x3.toInt.toNat) (0 + 1 + 1 + 1 + 1 + 1) (0 + x1.toInt.toNat + x1.toInt.toNat + x2.toInt.toNat + x3.toInt.toNat + x3.toInt.toNat) := hlg.new (t := 225) (n := x3.toInt.toNat) ⟨hv29.2.1, hv29.2.2⟩
  have hs8 : shx S28 (wN S28 225 x3.toInt.toNat x3.toInt.toNat) := shx.newCZ (t := 225) (n := x3.toInt.toNat) (k := x3.toInt.toNat) shx.rf hw8 hTX
  obtain ⟨am31, eam31⟩ : ∃ z, z = adx am24 (qn S28) q30 := ⟨_, rfl⟩
  have eq_q30 : am31 (qn S28) = q30 := by rw [eam31]; exact if_pos rfl
  rw [← eam31] at hR hk8 hak hE
  obtain ⟨S32, eS32⟩ : ∃ z, z = wN S28 225 x3.toInt.toNat x3.toInt.toNat := ⟨_, rfl⟩
  rw [← eS32] at hR hlg hs8
  replace h := h S32 eS32 hR.w
  have hsh := hsh.tr hs8
  have hT_b33 : qT S32 (qn S28) = 225 := by rw [eS32]; exact if_pos rfl
  have ea_0 : am31 p0 = am24 p0 := hk8 _ (hw8.hd hT_p0 (by decide) (by decide))
  have hT_p0 := hs8.T hT_p0 (by decide)
  have hl : lv_has ls 4 [(0, .ref (am31 p0)), (1, .int x1), (2, .int x2), (3, .int x3)] := by simp only [ea_0]; exact hl
  refine W.eq (g2 := F0 m 36 ls [.ref (am31 (qn S28)), .ref (am31 p0)]) (by simp only [ea_0, eq_q30]) ?_
  clear hw8 hk8 hs8 hP hD hS e9 e8 e7 hTX
  refine va_put (D := rD g) (ci := 7) (v := .ref (am31 (qn S28))) (ty := (.array .int)) (C := RX8) (T := TX8) (N := 15) hx hb hts inX8 tyX8 tyX8_ok nmX8 hown hR.K hR.P hR.D hR.sS p0 (hR.at47 hT_p0) rfl 6 (by decide) (hts _ kw_1467) (fun _ h9 => h9) rfl (by decide +kernel) rfl rfl (Nat.le_of_ble_eq_true rfl) dX8_init_36 (fun H locs hP hD hS => ?_)
  obtain ⟨hv34, h⟩ := h
  have hw9 : wfCZ (wR S32 p0 6 (some (qn S28))) := hR.w.put (fun b q9 => by cases q9; exact (hT_b33).trans (by rw [hT_p0]; rfl)) (fun _ h9 => absurd h9 List.not_mem_nil) (by rw [hT_p0]; decide) (fun b q9 _ => by cases q9; rw [hT_p0]; exact hv34) (fun _ => Option.some_ne_none _)
  have hTk9 : qT S32 p0 = 47 := hT_p0
  have hR : RepCZ g am31 A s (wR S32 p0 6 (some (qn S28))) H locs := hR.pR47 hT_p0 FX8_s6 hw9 hP hD hS
  obtain ⟨S35, eS35⟩ : ∃ z, z = wR S32 p0 6 (some (qn S28)) := ⟨_, rfl⟩
  rw [← eS35] at hR
  replace h := h S35 eS35 hTk9 hR.w
  have hT_p0 : qT S35 p0 = 47 := (congrArg (fun z => qT z p0) eS35).trans hT_p0
  have hsh : shx S S35 := by rw [eS35]; exact hsh
  have hlg : lgC S S35 (0 + 1 + 1 + 1 + 1 + 1) (0 + x1.toInt.toNat + x1.toInt.toNat + x2.toInt.toNat + x3.toInt.toNat + x3.toInt.toNat) := by rw [eS35]; exact hlg
  refine lv_aload_n hx hb dX8_init_39 rfl (lv_at hl 0 rfl) ?_
  refine lv_iload_n hx hb dX8_init_40 rfl (lv_at hl 3 rfl) ?_
  obtain ⟨hv36, h⟩ := h
  have e9 : KCC = 300000 := rfl
  have e8 : KSC = 3553400 := rfl
  have e7 : TXB = 10000000 := rfl
  have hTX : qn S35 < TXB := by have := hv36.2.1; omega
  refine va_newa (atype := .int) (ty := .int) (a0 := (x3.toInt.toNat, .inl (fun _ => 0))) (N' := x3.toInt.toNat) hx hb (hts (.arrayClass .int) kw_51) rfl hR.K hR.P hR.D hR.sS hA (fun _ => rfl) (fun q9 => absurd (k_lt (b := 0) rfl (by decide) q9) (Int.not_lt.mpr hv36.1)) rfl (by show x3.toInt.toNat * 4 ≤ 536870912; have := hv36.2.2; omega) (show 0 + 1 + 1 + 1 + 1 + 1 + 1 ≤ KCC - qn S from hlg.c1 hv36.2.1) (show 0 + x1.toInt.toNat + x1.toInt.toNat + x2.toInt.toNat + x3.toInt.toNat + x3.toInt.toNat + x3.toInt.toNat ≤ KSC - qu S from hlg.s1 hv36.2.2) dX8_init_41 (fun q37 cA9 H hK9 hP hD hS => ?_)
  obtain rfl := cls_new3 hR.K hK9 (k := 1) rfl (fun _ h => by cases h)
  have hw8 := hR.w
  have hR := hR.new (t := 226) (n := x3.toInt.toNat) (k := x3.toInt.toNat) hTX (by decide) (by have := hv36.2.2; omega) (wN_CI (by decide)) hP hD hS
  have hk8 : adk am31 (adx am31 (qn S35) q37) S35 := adk.rf.new (Nat.le_refl _) hTX
  have hak := hak.new (q := q37) hlg.2.2.1 hTX
  have hE := hE.ad hk8
  have hlg : lgC S (wN S35 226 x3.toInt.toNat x3.toInt.toNat) (0 + 1 + 1 + 1 + 1 + 1 + 1) (0 + x1.toInt.toNat + x1.toInt.toNat + x2.toInt.toNat + x3.toInt.toNat + x3.toInt.toNat + x3.toInt.toNat) := hlg.new (t := 226) (n := x3.toInt.toNat) ⟨hv36.2.1, hv36.2.2⟩
  have hs8 : shx S35 (wN S35 226 x3.toInt.toNat x3.toInt.toNat) := shx.newCZ (t := 226) (n := x3.toInt.toNat) (k := x3.toInt.toNat) shx.rf hw8 hTX
  obtain ⟨am38, eam38⟩ : ∃ z, z = adx am31 (qn S35) q37 := ⟨_, rfl⟩
  have eq_q37 : am38 (qn S35) = q37 := by rw [eam38]; exact if_pos rfl
  rw [← eam38] at hR hk8 hak hE
  obtain ⟨S39, eS39⟩ : ∃ z, z = wN S35 226 x3.toInt.toNat x3.toInt.toNat := ⟨_, rfl⟩
  rw [← eS39] at hR hlg hs8
  replace h := h S39 eS39 hR.w
  have hsh := hsh.tr hs8
  have hT_b40 : qT S39 (qn S35) = 226 := by rw [eS39]; exact if_pos rfl
  have ea_0 : am38 p0 = am31 p0 := hk8 _ (hw8.hd hT_p0 (by decide) (by decide))
  have hT_p0 := hs8.T hT_p0 (by decide)
  have hl : lv_has ls 4 [(0, .ref (am38 p0)), (1, .int x1), (2, .int x2), (3, .int x3)] := by simp only [ea_0]; exact hl
  refine W.eq (g2 := F0 m 43 ls [.ref (am38 (qn S35)), .ref (am38 p0)]) (by simp only [ea_0, eq_q37]) ?_
  clear hw8 hk8 hs8 hP hD hS e9 e8 e7 hTX
  refine va_put (D := rD g) (ci := 7) (v := .ref (am38 (qn S35))) (ty := (.array .int)) (C := RX8) (T := TX8) (N := 15) hx hb hts inX8 tyX8 tyX8_ok nmX8 hown hR.K hR.P hR.D hR.sS p0 (hR.at47 hT_p0) rfl 7 (by decide) (hts _ kw_1468) (fun _ h9 => h9) rfl (by decide +kernel) rfl rfl (Nat.le_of_ble_eq_true rfl) dX8_init_43 (fun H locs hP hD hS => ?_)
  obtain ⟨hv41, h⟩ := h
  have hw9 : wfCZ (wR S39 p0 7 (some (qn S35))) := hR.w.put (fun b q9 => by cases q9; exact (hT_b40).trans (by rw [hT_p0]; rfl)) (fun _ h9 => absurd h9 List.not_mem_nil) (by rw [hT_p0]; decide) (fun b q9 _ => by cases q9; rw [hT_p0]; exact hv41) (fun _ => Option.some_ne_none _)
  have hTk9 : qT S39 p0 = 47 := hT_p0
  have hR : RepCZ g am38 A s (wR S39 p0 7 (some (qn S35))) H locs := hR.pR47 hT_p0 FX8_s7 hw9 hP hD hS
  obtain ⟨S42, eS42⟩ : ∃ z, z = wR S39 p0 7 (some (qn S35)) := ⟨_, rfl⟩
  rw [← eS42] at hR
  replace h := h S42 eS42 hTk9 hR.w
  have hT_p0 : qT S42 p0 = 47 := (congrArg (fun z => qT z p0) eS42).trans hT_p0
  have hsh : shx S S42 := by rw [eS42]; exact hsh
  have hlg : lgC S S42 (0 + 1 + 1 + 1 + 1 + 1 + 1) (0 + x1.toInt.toNat + x1.toInt.toNat + x2.toInt.toNat + x3.toInt.toNat + x3.toInt.toNat + x3.toInt.toNat) := by rw [eS42]; exact hlg
  refine lv_aload_n hx hb dX8_init_46 rfl (lv_at hl 0 rfl) ?_
  refine lv_iload_n hx hb dX8_init_47 rfl (lv_at hl 3 rfl) ?_
  obtain ⟨hv43, h⟩ := h
  have e9 : KCC = 300000 := rfl
  have e8 : KSC = 3553400 := rfl
  have e7 : TXB = 10000000 := rfl
  have hTX : qn S42 < TXB := by have := hv43.2.1; omega
  refine va_newa (atype := .int) (ty := .int) (a0 := (x3.toInt.toNat, .inl (fun _ => 0))) (N' := x3.toInt.toNat) hx hb (hts (.arrayClass .int) kw_51) rfl hR.K hR.P hR.D hR.sS hA (fun _ => rfl) (fun q9 => absurd (k_lt (b := 0) rfl (by decide) q9) (Int.not_lt.mpr hv43.1)) rfl (by show x3.toInt.toNat * 4 ≤ 536870912; have := hv43.2.2; omega) (show 0 + 1 + 1 + 1 + 1 + 1 + 1 + 1 ≤ KCC - qn S from hlg.c1 hv43.2.1) (show 0 + x1.toInt.toNat + x1.toInt.toNat + x2.toInt.toNat + x3.toInt.toNat + x3.toInt.toNat + x3.toInt.toNat + x3.toInt.toNat ≤ KSC - qu S from hlg.s1 hv43.2.2) dX8_init_48 (fun q44 cA9 H hK9 hP hD hS => ?_)
  obtain rfl := cls_new3 hR.K hK9 (k := 1) rfl (fun _ h => by cases h)
  have hw8 := hR.w
  have hR := hR.new (t := 227) (n := x3.toInt.toNat) (k := x3.toInt.toNat) hTX (by decide) (by have := hv43.2.2; omega) (wN_CI (by decide)) hP hD hS
  have hk8 : adk am38 (adx am38 (qn S42) q44) S42 := adk.rf.new (Nat.le_refl _) hTX
  have hak := hak.new (q := q44) hlg.2.2.1 hTX
  have hE := hE.ad hk8
  have hlg : lgC S (wN S42 227 x3.toInt.toNat x3.toInt.toNat) (0 + 1 + 1 + 1 + 1 + 1 + 1 + 1) (0 + x1.toInt.toNat + x1.toInt.toNat + x2.toInt.toNat + x3.toInt.toNat + x3.toInt.toNat + x3.toInt.toNat + x3.toInt.toNat) := hlg.new (t := 227) (n := x3.toInt.toNat) ⟨hv43.2.1, hv43.2.2⟩
  have hs8 : shx S42 (wN S42 227 x3.toInt.toNat x3.toInt.toNat) := shx.newCZ (t := 227) (n := x3.toInt.toNat) (k := x3.toInt.toNat) shx.rf hw8 hTX
  obtain ⟨am45, eam45⟩ : ∃ z, z = adx am38 (qn S42) q44 := ⟨_, rfl⟩
  have eq_q44 : am45 (qn S42) = q44 := by rw [eam45]; exact if_pos rfl
  rw [← eam45] at hR hk8 hak hE
  obtain ⟨S46, eS46⟩ : ∃ z, z = wN S42 227 x3.toInt.toNat x3.toInt.toNat := ⟨_, rfl⟩
  rw [← eS46] at hR hlg hs8
  replace h := h S46 eS46 hR.w
  have hsh := hsh.tr hs8
  have hT_b47 : qT S46 (qn S42) = 227 := by rw [eS46]; exact if_pos rfl
  have ea_0 : am45 p0 = am38 p0 := hk8 _ (hw8.hd hT_p0 (by decide) (by decide))
  have hT_p0 := hs8.T hT_p0 (by decide)
  have hl : lv_has ls 4 [(0, .ref (am45 p0)), (1, .int x1), (2, .int x2), (3, .int x3)] := by simp only [ea_0]; exact hl
  refine W.eq (g2 := F0 m 50 ls [.ref (am45 (qn S42)), .ref (am45 p0)]) (by simp only [ea_0, eq_q44]) ?_
  clear hw8 hk8 hs8 hP hD hS e9 e8 e7 hTX
  refine va_put (D := rD g) (ci := 7) (v := .ref (am45 (qn S42))) (ty := (.array .int)) (C := RX8) (T := TX8) (N := 15) hx hb hts inX8 tyX8 tyX8_ok nmX8 hown hR.K hR.P hR.D hR.sS p0 (hR.at47 hT_p0) rfl 8 (by decide) (hts _ kw_1469) (fun _ h9 => h9) rfl (by decide +kernel) rfl rfl (Nat.le_of_ble_eq_true rfl) dX8_init_50 (fun H locs hP hD hS => ?_)
  obtain ⟨hv48, h⟩ := h
  have hw9 : wfCZ (wR S46 p0 8 (some (qn S42))) := hR.w.put (fun b q9 => by cases q9; exact (hT_b47).trans (by rw [hT_p0]; rfl)) (fun _ h9 => absurd h9 List.not_mem_nil) (by rw [hT_p0]; decide) (fun b q9 _ => by cases q9; rw [hT_p0]; exact hv48) (fun _ => Option.some_ne_none _)
  have hTk9 : qT S46 p0 = 47 := hT_p0
  have hR : RepCZ g am45 A s (wR S46 p0 8 (some (qn S42))) H locs := hR.pR47 hT_p0 FX8_s8 hw9 hP hD hS
  obtain ⟨S49, eS49⟩ : ∃ z, z = wR S46 p0 8 (some (qn S42)) := ⟨_, rfl⟩
  rw [← eS49] at hR
  replace h := h S49 eS49 hTk9 hR.w
  have hT_p0 : qT S49 p0 = 47 := (congrArg (fun z => qT z p0) eS49).trans hT_p0
  have hsh : shx S S49 := by rw [eS49]; exact hsh
  have hlg : lgC S S49 (0 + 1 + 1 + 1 + 1 + 1 + 1 + 1) (0 + x1.toInt.toNat + x1.toInt.toNat + x2.toInt.toNat + x3.toInt.toNat + x3.toInt.toNat + x3.toInt.toNat + x3.toInt.toNat) := by rw [eS49]; exact hlg
  refine W_led2 (fun hLd => ?_)
  refine W.widen (k := KCC - qn S) (n := KSC - qu S) hlg.c hlg.s ?_
  exact W.vret hx hb hr (fun t9 ht9 hW9 => ⟨⟨(S49, am45), rfl, ⟨h, hR.w, hsh, hak⟩, ⟨⟨by rw [ht9]; exact hR.P, hR.D⟩, _, _, by rw [ht9]; exact hLd, hlg⟩⟩, hR.sS.F ht9⟩) hR.sS.2.2 dX8_init_53
def zX9_init (S : MS) (p0 : Nat) (Q : MS → Prop) : Prop := ((qn S + 1 ≤ KCC ∧ qu S + 15 ≤ KSC) ∧ (∀ S4, S4 = wN S 47 0 15 → wfCZ S4 → (qT S4 (qn S) = 47 → (∃ Q6, zX8_init S4 (qn S) (0 : Int32) (0 : Int32) (0 : Int32) Q6 ∧ ∀ S7, Q6 S7 → wfCZ S7 → shx S4 S7 → (∀ S10, S10 = wR S7 p0 0 (some (qn S)) → qT S7 p0 = 48 → wfCZ S10 → (((qn S10 + 1 ≤ KCC ∧ qu S10 + 12 ≤ KSC)) ∧ (∀ S14, S14 = wN S10 228 12 12 → wfCZ S14 → (∀ S16, S16 = wR S14 p0 1 (some (qn S10)) → qT S14 p0 = 48 → wfCZ S16 → (((qn S16 + 1 ≤ KCC ∧ qu S16 + 0 ≤ KSC)) ∧ (∀ S20, S20 = wN S16 305 0 0 → wfCZ S20 → (∀ S22, S22 = wR S20 p0 2 (some (qn S16)) → qT S20 p0 = 48 → wfCZ S22 → (((qn S22 + 1 ≤ KCC ∧ qu S22 + 0 ≤ KSC)) ∧ (∀ S26, S26 = wN S22 306 0 0 → wfCZ S26 → (∀ S28, S28 = wR S26 p0 3 (some (qn S22)) → qT S26 p0 = 48 → wfCZ S28 → (((qn S28 + 1 ≤ KCC ∧ qu S28 + 0 ≤ KSC)) ∧ (∀ S32, S32 = wN S28 229 0 0 → wfCZ S32 → (∀ S34, S34 = wR S32 p0 4 (some (qn S28)) → qT S32 p0 = 48 → wfCZ S34 → (((qn S34 + 1 ≤ KCC ∧ qu S34 + 0 ≤ KSC)) ∧ (∀ S38, S38 = wN S34 230 0 0 → wfCZ S38 → (∀ S40, S40 = wR S38 p0 5 (some (qn S34)) → qT S38 p0 = 48 → wfCZ S40 → Q S40))))))))))))))))))))
set_option maxHeartbeats 2000000 in
set_option maxRecDepth 100000 in
theorem rzX9_init (l : Launch) (g : Gr) (ad : Nat → Nat) (H0 : Heap) (S : MS) (p0 : Nat) (hw : wfCZ S) (hT_p0 : qT S p0 = 48) (Q : MS → Prop) (h : zX9_init S p0 Q) : Met l yX9_init (wt yX9_init cX9_init 1 none) ({ frames := 2, cells := KCC - qn S, slots := KSC - qu S, locals := 35 }) (va_Pc [.ref (ad p0)] (st_CH g ad H0 S)) (va_Qv (fun (u : MS × (Nat → Nat)) => Q u.1 ∧ wfCZ u.1 ∧ shx S u.1 ∧ adk ad u.2 S) (fun (u : MS × (Nat → Nat)) (t : State) => qEHC g (va_A (WdC g ad S) H0.size) S H0 u t) (va_A (WdC g ad S) H0.size)) (KCC - qn S) (KSC - qu S) (va_A (WdC g ad S) H0.size) := by
  refine Met.ofW (cc := cX9_init) (maxL := 1) (ret := none) (by decide) rfl ?_
  intro p e s m args below meth c s₁ B hml hv
  obtain ⟨rfl, hH0, hsz, hP, hK, hD0, hex, hE⟩ := hv
  have hx := B.exec
  have hb := B.bytes
  have hr := B.returns
  have hts0 := atoms_spec (ws := wt yX9_init cX9_init 1 none) B.pre
  have hts : ∀ w ∈ tb, w.before _ s = true := fun w h => hts0 w (List.mem_cons_of_mem _ h)
  have hown : s.vm.findClass RX9 = some m.cls := findClass_of_methodNamed B.named
  subst hH0
  have hD := hD0.self (sz := s.heap.size)
  generalize hAe : va_A (WdC g ad S) s.heap.size = A at hD hE ⊢
  have hA : ∀ q : Nat, s.heap.size ≤ q → A q := fun q h => by rw [← hAe]; exact Or.inr h
  have hR : RepCZ g ad A s S s.heap [] := ⟨hK, hP, hD, va_S.rf, hw⟩
  clear hK hP hD hD0
  have hl := lv_entry ([.ref (ad p0)]) (n := 1) (Nat.le_of_ble_eq_true rfl)
  rw [lg_entry_eq]
  generalize (lg_sl ([.ref (ad p0)]) ++ List.replicate (1 - (lg_sl ([.ref (ad p0)])).length) Slot.unset).toArray = ls at hl ⊢
  have hlg : lgC S S 0 0 := lgC.rf
  have hak : adk ad ad S := adk.rf
  have hin9 : meth.name = "<init>" := (name_of_methodNamed B.named B.method).1
  have hl : lv_has ls 1 [(0, .ref (ad p0))] := hl
  have hsh : shx S S := shx.rf
  unfold zX9_init at h
  refine lv_aload_n hx hb dX9_init_0 rfl (lv_at hl 0 rfl) ?_
  refine W.objInit hx hb hown (hts _ kw_1589) (hts _ kw_9) (hts _ kw_10) rfl (by rw [hml]; exact hl.1) rfl dX9_init_1 (Nat.le_of_ble_eq_true rfl) (Nat.le_of_ble_eq_true rfl) ?_
  refine W.eq (g2 := F0 m 4 ls []) rfl ?_
  refine lv_aload_n hx hb dX9_init_4 rfl (lv_at hl 0 rfl) ?_
  obtain ⟨hv1, h⟩ := h
  have e9 : KCC = 300000 := rfl
  have e8 : KSC = 3553400 := rfl
  have e7 : TXB = 10000000 := rfl
  have hTX : qn S < TXB := by have := hv1.1; omega
  refine va_new (ci := 7) (fs := dfX8) (C := RX8) (T := TX8) (N := 15) hx hb hts inX8 tyX8 tyX8_ok hown (hts _ kw_1590) (hts _ kw_781) (hts _ kw_782) hR.K hR.P hR.D hR.sS hA rfl dfX8_ok (show 0 + 1 ≤ KCC - qn S from hlg.c1 hv1.1) (show 0 + 15 ≤ KSC - qu S from hlg.s1 hv1.2) dX9_init_5 (fun q2 H hP hD hS => ?_)
  have hw8 := hR.w
  have hR := hR.new (t := 47) (n := 0) (k := 15) hTX (by decide) (Nat.zero_le _) wN_C47 hP hD hS
  have hk8 : adk ad (adx ad (qn S) q2) S := adk.rf.new (Nat.le_refl _) hTX
  have hak := hak.new (q := q2) hlg.2.2.1 hTX
  have hE := hE.ad hk8
  have hlg : lgC S (wN S 47 0 15) (0 + 1) (0 + 15) := hlg.new (t := 47) (n := 0) ⟨hv1.1, hv1.2⟩
  have hs8 : shx S (wN S 47 0 15) := shx.newCZ (t := 47) (n := 0) (k := 15) shx.rf hw8 hTX
  obtain ⟨am3, eam3⟩ : ∃ z, z = adx ad (qn S) q2 := ⟨_, rfl⟩
  have eq_q2 : am3 (qn S) = q2 := by rw [eam3]; exact if_pos rfl
  rw [← eam3] at hR hk8 hak hE
  obtain ⟨S4, eS4⟩ : ∃ z, z = wN S 47 0 15 := ⟨_, rfl⟩
  rw [← eS4] at hR hlg hs8
  replace h := h S4 eS4 hR.w
  have hsh := hsh.tr hs8
  have hT_b5 : qT S4 (qn S) = 47 := by rw [eS4]; exact if_pos rfl
  have ea_0 : am3 p0 = ad p0 := hk8 _ (hw8.hd hT_p0 (by decide) (by decide))
  have hT_p0 := hs8.T hT_p0 (by decide)
  have hl : lv_has ls 1 [(0, .ref (am3 p0))] := by simp only [ea_0]; exact hl
  refine W.eq (g2 := F0 m 8 ls [.ref (am3 (qn S)), .ref (am3 p0)]) (by simp only [ea_0, eq_q2]) ?_
  clear hw8 hk8 hs8 hP hD hS e9 e8 e7 hTX
  refine lv_dup hx hb dX9_init_8 rfl ?_
  refine lv_iconst (v := 0) hx hb dX9_init_9 (by decide) ?_
  refine lv_iconst (v := 0) hx hb dX9_init_10 (by decide) ?_
  refine lv_iconst (v := 0) hx hb dX9_init_11 (by decide) ?_
  replace h := h (hT_b5)
  obtain ⟨Q6, h0, h⟩ := h
  have hFc := cfreeZ hR hA
  refine W_led2 (fun hL0 => ?_)
  refine va_callv (va_runI (As := [.int 0, .int 0, .int 0]) (rest := [.ref (am3 (qn S)), .ref (am3 p0)]) ⟨hx, hb, hml, hown, hts⟩ (rzX8_init l g am3 H S4 (qn S) (0 : Int32) (0 : Int32) (0 : Int32) hR.w hT_b5 Q6 h0) (cwI 3 hts (gd_I kw_1496) rfl rfl rfl (hts _ kw_782) (hts _ kw_1591) (hts _ kw_1497) rfl (by decide +kernel) ⟨Nat.le_of_ble_eq_true rfl, Nat.le_of_ble_eq_true rfl⟩) ⟨cblindH, fun U hU hW9 => cmkHZ hU hW9 hR hex hE hFc⟩ rfl rfl hl.1 rfl (lv_room (Nat.le_of_ble_eq_true rfl)) dX9_init_12 ⟨(show 0 + 1 + (KCC - qn S4) ≤ KCC - qn S from hlg.cm), (show 0 + 15 + (KSC - qu S4) ≤ KSC - qu S from hlg.sm)⟩) hR.sS (fun q _ h => hFc q h) hFc (fun  S7 t9 H1 locs ht9 hvm9 hw9 hB9 hz9 hk9 hS => ?_)
  rcases S7 with ⟨S7, ak9⟩
  obtain ⟨hB9, dc9, ds9, hL9, hl9⟩ := hB9
  dsimp only at hw9 hB9 hl9
  rw [ht9] at hL9
  obtain ⟨hq8, hw9, hs9, hk8⟩ := hw9
  have hw8 := hR.w
  have hak := hak.tr hk8 hlg.2.2.1
  have hE := hE.ad hk8
  have hR : RepCZ g ak9 A s S7 H1 locs := hR.callH ht9 hB9 hw9 hS hFc
  have hsh := hsh.tr hs9
  refine W_tight2 (hL0.tr hL9).1 (hL0.tr hL9).2.1 ?_
  have hlg := hlg.call hl9
  replace h := h  S7 hq8 hw9 hs9
  have ea_0 : ak9 p0 = am3 p0 := hk8 _ (hw8.hd hT_p0 (by decide) (by decide))
  have ea_1 : ak9 (qn S) = am3 (qn S) := hk8 _ (hw8.hd hT_b5 (by decide) (by decide))
  have hl : lv_has ls 1 [(0, .ref (ak9 p0))] := by simp only [ea_0, ea_1]; exact hl
  refine W.eq (g2 := F0 m 15 ls ([.ref (ak9 (qn S)), .ref (ak9 p0)])) (by first | (simp only [ea_0, ea_1]; rfl) | simp only [ea_0, ea_1]) ?_
  have hT_p0 := hs9.T hT_p0 (by decide)
  have hT_b5 := hs9.T hT_b5 (by decide)
  clear hB9 hz9 hk9 hvm9 ht9 hw9 hs9 hS hL0 hL9
  generalize H1 = H at hR ⊢
  generalize dc9 = dc_ak9, ds9 = ds_ak9 at hlg ⊢
  refine va_put (D := rD g) (ci := 8) (v := .ref (ak9 (qn S))) (ty := (.object "CodeFoundry$Row")) (C := RX9) (T := TX9) (N := 6) hx hb hts inX9 tyX9 tyX9_ok nmX9 hown hR.K hR.P hR.D hR.sS p0 (hR.at48 hT_p0) rfl 0 (by decide) (hts _ kw_1552) (fun _ h9 => h9) rfl (by decide +kernel) rfl rfl (Nat.le_of_ble_eq_true rfl) dX9_init_15 (fun H locs hP hD hS => ?_)
  have hw9 : wfCZ (wR S7 p0 0 (some (qn S))) := hR.w.put (fun b q9 => by cases q9; exact (hT_b5).trans (by rw [hT_p0]; rfl)) (fun _ h9 => absurd h9 List.not_mem_nil) (by rw [hT_p0]; decide) (fun b _ q9 => absurd (show otgC (qT S7 p0) 0 = 0 by rw [hT_p0]; decide) q9) (fun _ => Option.some_ne_none _)
  have hTk9 : qT S7 p0 = 48 := hT_p0
  have hR : RepCZ g ak9 A s (wR S7 p0 0 (some (qn S))) H locs := hR.pR48 hT_p0 FX9_s0 hw9 hP hD hS
  obtain ⟨S10, eS10⟩ : ∃ z, z = wR S7 p0 0 (some (qn S)) := ⟨_, rfl⟩
  rw [← eS10] at hR
  replace h := h S10 eS10 hTk9 hR.w
  have hT_p0 : qT S10 p0 = 48 := (congrArg (fun z => qT z p0) eS10).trans hT_p0
  have hsh : shx S S10 := by rw [eS10]; exact hsh
  have hlg : lgC S S10 (0 + 1 + dc_ak9) (0 + 15 + ds_ak9) := by rw [eS10]; exact hlg
  refine lv_aload_n hx hb dX9_init_18 rfl (lv_at hl 0 rfl) ?_
  refine lv_bipush (v := 12) hx hb dX9_init_19 (by decide) ?_
  obtain ⟨hv11, h⟩ := h
  have e9 : KCC = 300000 := rfl
  have e8 : KSC = 3553400 := rfl
  have e7 : TXB = 10000000 := rfl
  have hTX : qn S10 < TXB := by have := hv11.1; omega
  refine va_newa (atype := .int) (ty := .int) (a0 := (12, .inl (fun _ => 0))) (N' := 12) hx hb (hts (.arrayClass .int) kw_51) rfl hR.K hR.P hR.D hR.sS hA (fun _ => rfl) (by decide) (by decide) (by show 12 * 4 ≤ 536870912; have := hv11.2; omega) (show 0 + 1 + dc_ak9 + 1 ≤ KCC - qn S from hlg.c1 hv11.1) (show 0 + 15 + ds_ak9 + 12 ≤ KSC - qu S from hlg.s1 hv11.2) dX9_init_21 (fun q12 cA9 H hK9 hP hD hS => ?_)
  obtain rfl := cls_new3 hR.K hK9 (k := 1) rfl (fun _ h => by cases h)
  have hw8 := hR.w
  have hR := hR.new (t := 228) (n := 12) (k := 12) hTX (by decide) (by have := hv11.2; omega) (wN_CI (by decide)) hP hD hS
  have hk8 : adk ak9 (adx ak9 (qn S10) q12) S10 := adk.rf.new (Nat.le_refl _) hTX
  have hak := hak.new (q := q12) hlg.2.2.1 hTX
  have hE := hE.ad hk8
  have hlg : lgC S (wN S10 228 12 12) (0 + 1 + dc_ak9 + 1) (0 + 15 + ds_ak9 + 12) := hlg.new (t := 228) (n := 12) ⟨hv11.1, hv11.2⟩
  have hs8 : shx S10 (wN S10 228 12 12) := shx.newCZ (t := 228) (n := 12) (k := 12) shx.rf hw8 hTX
  obtain ⟨am13, eam13⟩ : ∃ z, z = adx ak9 (qn S10) q12 := ⟨_, rfl⟩
  have eq_q12 : am13 (qn S10) = q12 := by rw [eam13]; exact if_pos rfl
  rw [← eam13] at hR hk8 hak hE
  obtain ⟨S14, eS14⟩ : ∃ z, z = wN S10 228 12 12 := ⟨_, rfl⟩
  rw [← eS14] at hR hlg hs8
  replace h := h S14 eS14 hR.w
  have hsh := hsh.tr hs8
  have hT_b15 : qT S14 (qn S10) = 228 := by rw [eS14]; exact if_pos rfl
  have ea_0 : am13 p0 = ak9 p0 := hk8 _ (hw8.hd hT_p0 (by decide) (by decide))
  have hT_p0 := hs8.T hT_p0 (by decide)
  have hl : lv_has ls 1 [(0, .ref (am13 p0))] := by simp only [ea_0]; exact hl
  refine W.eq (g2 := F0 m 23 ls [.ref (am13 (qn S10)), .ref (am13 p0)]) (by simp only [ea_0, eq_q12]) ?_
  clear hw8 hk8 hs8 hP hD hS e9 e8 e7 hTX
  refine va_putF (D := rD g) (ci := 8) (v := .ref (am13 (qn S10))) (ty := (.array .int)) (C := RX9) (T := TX9) (N := 6) hx hb hts inX9 tyX9 tyX9_ok nmX9 hown hR.K hR.P hR.D hR.sS p0 (hR.at48 hT_p0) rfl 1 (by decide) (hts _ kw_1547) (fun _ h9 => h9) rfl hin9 rfl (by decide +kernel) rfl rfl (Nat.le_of_ble_eq_true rfl) dX9_init_23 (fun H locs hP hD hS => ?_)
  have hw9 : wfCZ (wR S14 p0 1 (some (qn S10))) := hR.w.put (fun b q9 => by cases q9; exact (hT_b15).trans (by rw [hT_p0]; rfl)) (fun _ h9 => absurd h9 List.not_mem_nil) (by rw [hT_p0]; decide) (fun b _ q9 => absurd (show otgC (qT S14 p0) 1 = 0 by rw [hT_p0]; decide) q9) (fun _ => Option.some_ne_none _)
  have hTk9 : qT S14 p0 = 48 := hT_p0
  have hR : RepCZ g am13 A s (wR S14 p0 1 (some (qn S10))) H locs := hR.pR48 hT_p0 FX9_s1 hw9 hP hD hS
  obtain ⟨S16, eS16⟩ : ∃ z, z = wR S14 p0 1 (some (qn S10)) := ⟨_, rfl⟩
  rw [← eS16] at hR
  replace h := h S16 eS16 hTk9 hR.w
  have hT_p0 : qT S16 p0 = 48 := (congrArg (fun z => qT z p0) eS16).trans hT_p0
  have hsh : shx S S16 := by rw [eS16]; exact hsh
  have hlg : lgC S S16 (0 + 1 + dc_ak9 + 1) (0 + 15 + ds_ak9 + 12) := by rw [eS16]; exact hlg
  refine lv_aload_n hx hb dX9_init_26 rfl (lv_at hl 0 rfl) ?_
  refine lv_iconst (v := 0) hx hb dX9_init_27 (by decide) ?_
  obtain ⟨hv17, h⟩ := h
  have e9 : KCC = 300000 := rfl
  have e8 : KSC = 3553400 := rfl
  have e7 : TXB = 10000000 := rfl
  have hTX : qn S16 < TXB := by have := hv17.1; omega
  refine va_newa (atype := .boolean) (ty := .boolean) (a0 := (0, .inl (fun _ => 0))) (N' := 0) hx hb (hts (.arrayClass .boolean) kw_553) rfl hR.K hR.P hR.D hR.sS hA (fun _ => rfl) (by decide) (by decide) (by show 0 * 1 ≤ 536870912; have := hv17.2; omega) (show 0 + 1 + dc_ak9 + 1 + 1 ≤ KCC - qn S from hlg.c1 hv17.1) (show 0 + 15 + ds_ak9 + 12 + 0 ≤ KSC - qu S from hlg.s1 hv17.2) dX9_init_28 (fun q18 cA9 H hK9 hP hD hS => ?_)
  obtain rfl := cls_new3 hR.K hK9 (k := 2) rfl (fun _ h => by cases h)
  have hw8 := hR.w
  have hR := hR.new (t := 305) (n := 0) (k := 0) hTX (by decide) (Nat.zero_le _) (wN_CZ (by decide)) hP hD hS
  have hk8 : adk am13 (adx am13 (qn S16) q18) S16 := adk.rf.new (Nat.le_refl _) hTX
  have hak := hak.new (q := q18) hlg.2.2.1 hTX
  have hE := hE.ad hk8
  have hlg : lgC S (wN S16 305 0 0) (0 + 1 + dc_ak9 + 1 + 1) (0 + 15 + ds_ak9 + 12 + 0) := hlg.new (t := 305) (n := 0) ⟨hv17.1, hv17.2⟩
  have hs8 : shx S16 (wN S16 305 0 0) := shx.newCZ (t := 305) (n := 0) (k := 0) shx.rf hw8 hTX
  obtain ⟨am19, eam19⟩ : ∃ z, z = adx am13 (qn S16) q18 := ⟨_, rfl⟩
  have eq_q18 : am19 (qn S16) = q18 := by rw [eam19]; exact if_pos rfl
  rw [← eam19] at hR hk8 hak hE
  obtain ⟨S20, eS20⟩ : ∃ z, z = wN S16 305 0 0 := ⟨_, rfl⟩
  rw [← eS20] at hR hlg hs8
  replace h := h S20 eS20 hR.w
  have hsh := hsh.tr hs8
  have hT_b21 : qT S20 (qn S16) = 305 := by rw [eS20]; exact if_pos rfl
  have ea_0 : am19 p0 = am13 p0 := hk8 _ (hw8.hd hT_p0 (by decide) (by decide))
  have hT_p0 := hs8.T hT_p0 (by decide)
  have hl : lv_has ls 1 [(0, .ref (am19 p0))] := by simp only [ea_0]; exact hl
  refine W.eq (g2 := F0 m 30 ls [.ref (am19 (qn S16)), .ref (am19 p0)]) (by simp only [ea_0, eq_q18]) ?_
  clear hw8 hk8 hs8 hP hD hS e9 e8 e7 hTX
  refine va_put (D := rD g) (ci := 8) (v := .ref (am19 (qn S16))) (ty := (.array .boolean)) (C := RX9) (T := TX9) (N := 6) hx hb hts inX9 tyX9 tyX9_ok nmX9 hown hR.K hR.P hR.D hR.sS p0 (hR.at48 hT_p0) rfl 2 (by decide) (hts _ kw_1566) (fun _ h9 => h9) rfl (by decide +kernel) rfl rfl (Nat.le_of_ble_eq_true rfl) dX9_init_30 (fun H locs hP hD hS => ?_)
  have hw9 : wfCZ (wR S20 p0 2 (some (qn S16))) := hR.w.put (fun b q9 => by cases q9; exact (hT_b21).trans (by rw [hT_p0]; rfl)) (fun _ h9 => absurd h9 List.not_mem_nil) (by rw [hT_p0]; decide) (fun b _ q9 => absurd (show otgC (qT S20 p0) 2 = 0 by rw [hT_p0]; decide) q9) (fun _ => Option.some_ne_none _)
  have hTk9 : qT S20 p0 = 48 := hT_p0
  have hR : RepCZ g am19 A s (wR S20 p0 2 (some (qn S16))) H locs := hR.pR48 hT_p0 FX9_s2 hw9 hP hD hS
  obtain ⟨S22, eS22⟩ : ∃ z, z = wR S20 p0 2 (some (qn S16)) := ⟨_, rfl⟩
  rw [← eS22] at hR
  replace h := h S22 eS22 hTk9 hR.w
  have hT_p0 : qT S22 p0 = 48 := (congrArg (fun z => qT z p0) eS22).trans hT_p0
  have hsh : shx S S22 := by rw [eS22]; exact hsh
  have hlg : lgC S S22 (0 + 1 + dc_ak9 + 1 + 1) (0 + 15 + ds_ak9 + 12 + 0) := by rw [eS22]; exact hlg
  refine lv_aload_n hx hb dX9_init_33 rfl (lv_at hl 0 rfl) ?_
  refine lv_iconst (v := 0) hx hb dX9_init_34 (by decide) ?_
  obtain ⟨hv23, h⟩ := h
  have e9 : KCC = 300000 := rfl
  have e8 : KSC = 3553400 := rfl
  have e7 : TXB = 10000000 := rfl
  have hTX : qn S22 < TXB := by have := hv23.1; omega
  refine va_newa (atype := .boolean) (ty := .boolean) (a0 := (0, .inl (fun _ => 0))) (N' := 0) hx hb (hts (.arrayClass .boolean) kw_553) rfl hR.K hR.P hR.D hR.sS hA (fun _ => rfl) (by decide) (by decide) (by show 0 * 1 ≤ 536870912; have := hv23.2; omega) (show 0 + 1 + dc_ak9 + 1 + 1 + 1 ≤ KCC - qn S from hlg.c1 hv23.1) (show 0 + 15 + ds_ak9 + 12 + 0 + 0 ≤ KSC - qu S from hlg.s1 hv23.2) dX9_init_35 (fun q24 cA9 H hK9 hP hD hS => ?_)
  obtain rfl := cls_new3 hR.K hK9 (k := 2) rfl (fun _ h => by cases h)
  have hw8 := hR.w
  have hR := hR.new (t := 306) (n := 0) (k := 0) hTX (by decide) (Nat.zero_le _) (wN_CZ (by decide)) hP hD hS
  have hk8 : adk am19 (adx am19 (qn S22) q24) S22 := adk.rf.new (Nat.le_refl _) hTX
  have hak := hak.new (q := q24) hlg.2.2.1 hTX
  have hE := hE.ad hk8
  have hlg : lgC S (wN S22 306 0 0) (0 + 1 + dc_ak9 + 1 + 1 + 1) (0 + 15 + ds_ak9 + 12 + 0 + 0) := hlg.new (t := 306) (n := 0) ⟨hv23.1, hv23.2⟩
  have hs8 : shx S22 (wN S22 306 0 0) := shx.newCZ (t := 306) (n := 0) (k := 0) shx.rf hw8 hTX
  obtain ⟨am25, eam25⟩ : ∃ z, z = adx am19 (qn S22) q24 := ⟨_, rfl⟩
  have eq_q24 : am25 (qn S22) = q24 := by rw [eam25]; exact if_pos rfl
  rw [← eam25] at hR hk8 hak hE
  obtain ⟨S26, eS26⟩ : ∃ z, z = wN S22 306 0 0 := ⟨_, rfl⟩
  rw [← eS26] at hR hlg hs8
  replace h := h S26 eS26 hR.w
  have hsh := hsh.tr hs8
  have hT_b27 : qT S26 (qn S22) = 306 := by rw [eS26]; exact if_pos rfl
  have ea_0 : am25 p0 = am19 p0 := hk8 _ (hw8.hd hT_p0 (by decide) (by decide))
  have hT_p0 := hs8.T hT_p0 (by decide)
  have hl : lv_has ls 1 [(0, .ref (am25 p0))] := by simp only [ea_0]; exact hl
  refine W.eq (g2 := F0 m 37 ls [.ref (am25 (qn S22)), .ref (am25 p0)]) (by simp only [ea_0, eq_q24]) ?_
  clear hw8 hk8 hs8 hP hD hS e9 e8 e7 hTX
  refine va_put (D := rD g) (ci := 8) (v := .ref (am25 (qn S22))) (ty := (.array .boolean)) (C := RX9) (T := TX9) (N := 6) hx hb hts inX9 tyX9 tyX9_ok nmX9 hown hR.K hR.P hR.D hR.sS p0 (hR.at48 hT_p0) rfl 3 (by decide) (hts _ kw_1554) (fun _ h9 => h9) rfl (by decide +kernel) rfl rfl (Nat.le_of_ble_eq_true rfl) dX9_init_37 (fun H locs hP hD hS => ?_)
  have hw9 : wfCZ (wR S26 p0 3 (some (qn S22))) := hR.w.put (fun b q9 => by cases q9; exact (hT_b27).trans (by rw [hT_p0]; rfl)) (fun _ h9 => absurd h9 List.not_mem_nil) (by rw [hT_p0]; decide) (fun b _ q9 => absurd (show otgC (qT S26 p0) 3 = 0 by rw [hT_p0]; decide) q9) (fun _ => Option.some_ne_none _)
  have hTk9 : qT S26 p0 = 48 := hT_p0
  have hR : RepCZ g am25 A s (wR S26 p0 3 (some (qn S22))) H locs := hR.pR48 hT_p0 FX9_s3 hw9 hP hD hS
  obtain ⟨S28, eS28⟩ : ∃ z, z = wR S26 p0 3 (some (qn S22)) := ⟨_, rfl⟩
  rw [← eS28] at hR
  replace h := h S28 eS28 hTk9 hR.w
  have hT_p0 : qT S28 p0 = 48 := (congrArg (fun z => qT z p0) eS28).trans hT_p0
  have hsh : shx S S28 := by rw [eS28]; exact hsh
  have hlg : lgC S S28 (0 + 1 + dc_ak9 + 1 + 1 + 1) (0 + 15 + ds_ak9 + 12 + 0 + 0) := by rw [eS28]; exact hlg
  refine lv_aload_n hx hb dX9_init_40 rfl (lv_at hl 0 rfl) ?_
  refine lv_iconst (v := 0) hx hb dX9_init_41 (by decide) ?_
  obtain ⟨hv29, h⟩ := h
  have e9 : KCC = 300000 := rfl
  have e8 : KSC = 3553400 := rfl
  have e7 : TXB = 10000000 := rfl
  have hTX : qn S28 < TXB := by have := hv29.1; omega
  refine va_newa (atype := .int) (ty := .int) (a0 := (0, .inl (fun _ => 0))) (N' := 0) hx hb (hts (.arrayClass .int) kw_51) rfl hR.K hR.P hR.D hR.sS hA (fun _ => rfl) (by decide) (by decide) (by show 0 * 4 ≤ 536870912; have := hv29.2; omega) (show 0 + 1 + dc_ak9 + 1 + 1 + 1 + 1 ≤ KCC - qn S from hlg.c1 hv29.1) (show 0 + 15 + ds_ak9 + 12 + 0 + 0 + 0 ≤ KSC - qu S from hlg.s1 hv29.2) dX9_init_42 (fun q30 cA9 H hK9 hP hD hS => ?_)
  obtain rfl := cls_new3 hR.K hK9 (k := 1) rfl (fun _ h => by cases h)
  have hw8 := hR.w
  have hR := hR.new (t := 229) (n := 0) (k := 0) hTX (by decide) (Nat.zero_le _) (wN_CI (by decide)) hP hD hS
  have hk8 : adk am25 (adx am25 (qn S28) q30) S28 := adk.rf.new (Nat.le_refl _) hTX
  have hak := hak.new (q := q30) hlg.2.2.1 hTX
  have hE := hE.ad hk8
  have hlg : lgC S (wN S28 229 0 0) (0 + 1 + dc_ak9 + 1 + 1 + 1 + 1) (0 + 15 + ds_ak9 + 12 + 0 + 0 + 0) := hlg.new (t := 229) (n := 0) ⟨hv29.1, hv29.2⟩
  have hs8 : shx S28 (wN S28 229 0 0) := shx.newCZ (t := 229) (n := 0) (k := 0) shx.rf hw8 hTX
  obtain ⟨am31, eam31⟩ : ∃ z, z = adx am25 (qn S28) q30 := ⟨_, rfl⟩
  have eq_q30 : am31 (qn S28) = q30 := by rw [eam31]; exact if_pos rfl
  rw [← eam31] at hR hk8 hak hE
  obtain ⟨S32, eS32⟩ : ∃ z, z = wN S28 229 0 0 := ⟨_, rfl⟩
  rw [← eS32] at hR hlg hs8
  replace h := h S32 eS32 hR.w
  have hsh := hsh.tr hs8
  have hT_b33 : qT S32 (qn S28) = 229 := by rw [eS32]; exact if_pos rfl
  have ea_0 : am31 p0 = am25 p0 := hk8 _ (hw8.hd hT_p0 (by decide) (by decide))
  have hT_p0 := hs8.T hT_p0 (by decide)
  have hl : lv_has ls 1 [(0, .ref (am31 p0))] := by simp only [ea_0]; exact hl
  refine W.eq (g2 := F0 m 44 ls [.ref (am31 (qn S28)), .ref (am31 p0)]) (by simp only [ea_0, eq_q30]) ?_
  clear hw8 hk8 hs8 hP hD hS e9 e8 e7 hTX
  refine va_put (D := rD g) (ci := 8) (v := .ref (am31 (qn S28))) (ty := (.array .int)) (C := RX9) (T := TX9) (N := 6) hx hb hts inX9 tyX9 tyX9_ok nmX9 hown hR.K hR.P hR.D hR.sS p0 (hR.at48 hT_p0) rfl 4 (by decide) (hts _ kw_1559) (fun _ h9 => h9) rfl (by decide +kernel) rfl rfl (Nat.le_of_ble_eq_true rfl) dX9_init_44 (fun H locs hP hD hS => ?_)
  have hw9 : wfCZ (wR S32 p0 4 (some (qn S28))) := hR.w.put (fun b q9 => by cases q9; exact (hT_b33).trans (by rw [hT_p0]; rfl)) (fun _ h9 => absurd h9 List.not_mem_nil) (by rw [hT_p0]; decide) (fun b _ q9 => absurd (show otgC (qT S32 p0) 4 = 0 by rw [hT_p0]; decide) q9) (fun _ => Option.some_ne_none _)
  have hTk9 : qT S32 p0 = 48 := hT_p0
  have hR : RepCZ g am31 A s (wR S32 p0 4 (some (qn S28))) H locs := hR.pR48 hT_p0 FX9_s4 hw9 hP hD hS
  obtain ⟨S34, eS34⟩ : ∃ z, z = wR S32 p0 4 (some (qn S28)) := ⟨_, rfl⟩
  rw [← eS34] at hR
  replace h := h S34 eS34 hTk9 hR.w
  have hT_p0 : qT S34 p0 = 48 := (congrArg (fun z => qT z p0) eS34).trans hT_p0
  have hsh : shx S S34 := by rw [eS34]; exact hsh
  have hlg : lgC S S34 (0 + 1 + dc_ak9 + 1 + 1 + 1 + 1) (0 + 15 + ds_ak9 + 12 + 0 + 0 + 0) := by rw [eS34]; exact hlg
  refine lv_aload_n hx hb dX9_init_47 rfl (lv_at hl 0 rfl) ?_
  refine lv_iconst (v := 0) hx hb dX9_init_48 (by decide) ?_
  obtain ⟨hv35, h⟩ := h
  have e9 : KCC = 300000 := rfl
  have e8 : KSC = 3553400 := rfl
  have e7 : TXB = 10000000 := rfl
  have hTX : qn S34 < TXB := by have := hv35.1; omega
  refine va_newa (atype := .int) (ty := .int) (a0 := (0, .inl (fun _ => 0))) (N' := 0) hx hb (hts (.arrayClass .int) kw_51) rfl hR.K hR.P hR.D hR.sS hA (fun _ => rfl) (by decide) (by decide) (by show 0 * 4 ≤ 536870912; have := hv35.2; omega) (show 0 + 1 + dc_ak9 + 1 + 1 + 1 + 1 + 1 ≤ KCC - qn S from hlg.c1 hv35.1) (show 0 + 15 + ds_ak9 + 12 + 0 + 0 + 0 + 0 ≤ KSC - qu S from hlg.s1 hv35.2) dX9_init_49 (fun q36 cA9 H hK9 hP hD hS => ?_)
  obtain rfl := cls_new3 hR.K hK9 (k := 1) rfl (fun _ h => by cases h)
  have hw8 := hR.w
  have hR := hR.new (t := 230) (n := 0) (k := 0) hTX (by decide) (Nat.zero_le _) (wN_CI (by decide)) hP hD hS
  have hk8 : adk am31 (adx am31 (qn S34) q36) S34 := adk.rf.new (Nat.le_refl _) hTX
  have hak := hak.new (q := q36) hlg.2.2.1 hTX
  have hE := hE.ad hk8
  have hlg : lgC S (wN S34 230 0 0) (0 + 1 + dc_ak9 + 1 + 1 + 1 + 1 + 1) (0 + 15 + ds_ak9 + 12 + 0 + 0 + 0 + 0) := hlg.new (t := 230) (n := 0) ⟨hv35.1, hv35.2⟩
  have hs8 : shx S34 (wN S34 230 0 0) := shx.newCZ (t := 230) (n := 0) (k := 0) shx.rf hw8 hTX
  obtain ⟨am37, eam37⟩ : ∃ z, z = adx am31 (qn S34) q36 := ⟨_, rfl⟩
  have eq_q36 : am37 (qn S34) = q36 := by rw [eam37]; exact if_pos rfl
  rw [← eam37] at hR hk8 hak hE
  obtain ⟨S38, eS38⟩ : ∃ z, z = wN S34 230 0 0 := ⟨_, rfl⟩
  rw [← eS38] at hR hlg hs8
  replace h := h S38 eS38 hR.w
  have hsh := hsh.tr hs8
  have hT_b39 : qT S38 (qn S34) = 230 := by rw [eS38]; exact if_pos rfl
  have ea_0 : am37 p0 = am31 p0 := hk8 _ (hw8.hd hT_p0 (by decide) (by decide))
  have hT_p0 := hs8.T hT_p0 (by decide)
  have hl : lv_has ls 1 [(0, .ref (am37 p0))] := by simp only [ea_0]; exact hl
  refine W.eq (g2 := F0 m 51 ls [.ref (am37 (qn S34)), .ref (am37 p0)]) (by simp only [ea_0, eq_q36]) ?_
  clear hw8 hk8 hs8 hP hD hS e9 e8 e7 hTX
  refine va_put (D := rD g) (ci := 8) (v := .ref (am37 (qn S34))) (ty := (.array .int)) (C := RX9) (T := TX9) (N := 6) hx hb hts inX9 tyX9 tyX9_ok nmX9 hown hR.K hR.P hR.D hR.sS p0 (hR.at48 hT_p0) rfl 5 (by decide) (hts _ kw_1592) (fun _ h9 => h9) rfl (by decide +kernel) rfl rfl (Nat.le_of_ble_eq_true rfl) dX9_init_51 (fun H locs hP hD hS => ?_)
  have hw9 : wfCZ (wR S38 p0 5 (some (qn S34))) := hR.w.put (fun b q9 => by cases q9; exact (hT_b39).trans (by rw [hT_p0]; rfl)) (fun _ h9 => absurd h9 List.not_mem_nil) (by rw [hT_p0]; decide) (fun b _ q9 => absurd (show otgC (qT S38 p0) 5 = 0 by rw [hT_p0]; decide) q9) (fun _ => Option.some_ne_none _)
  have hTk9 : qT S38 p0 = 48 := hT_p0
  have hR : RepCZ g am37 A s (wR S38 p0 5 (some (qn S34))) H locs := hR.pR48 hT_p0 FX9_s5 hw9 hP hD hS
  obtain ⟨S40, eS40⟩ : ∃ z, z = wR S38 p0 5 (some (qn S34)) := ⟨_, rfl⟩
  rw [← eS40] at hR
  replace h := h S40 eS40 hTk9 hR.w
  have hT_p0 : qT S40 p0 = 48 := (congrArg (fun z => qT z p0) eS40).trans hT_p0
  have hsh : shx S S40 := by rw [eS40]; exact hsh
  have hlg : lgC S S40 (0 + 1 + dc_ak9 + 1 + 1 + 1 + 1 + 1) (0 + 15 + ds_ak9 + 12 + 0 + 0 + 0 + 0) := by rw [eS40]; exact hlg
  refine W_led2 (fun hLd => ?_)
  refine W.widen (k := KCC - qn S) (n := KSC - qu S) hlg.c hlg.s ?_
  exact W.vret hx hb hr (fun t9 ht9 hW9 => ⟨⟨(S40, am37), rfl, ⟨h, hR.w, hsh, hak⟩, ⟨⟨by rw [ht9]; exact hR.P, hR.D⟩, _, _, by rw [ht9]; exact hLd, hlg⟩⟩, hR.sS.F ht9⟩) hR.sS.2.2 dX9_init_54
def zX12_init (S : MS) (p0 : Nat) (Q : MS → Prop) : Prop := ((qn S + 1 ≤ KCC ∧ qu S + 2 ≤ KSC) ∧ (∀ S4, S4 = wN S 40 0 2 → wfCZ S4 → (qT S4 (qn S) = 40 → (∃ Q6, zX0_init S4 (qn S) Q6 ∧ ∀ S7, Q6 S7 → wfCZ S7 → shx S4 S7 → (∀ S10, S10 = wR S7 p0 0 (some (qn S)) → qT S7 p0 = 51 → wfCZ S10 → ((qn S10 + 1 ≤ KCC ∧ qu S10 + 2 ≤ KSC) ∧ (∀ S14, S14 = wN S10 40 0 2 → wfCZ S14 → (qT S14 (qn S10) = 40 → (∃ Q16, zX0_init S14 (qn S10) Q16 ∧ ∀ S17, Q16 S17 → wfCZ S17 → shx S14 S17 → (∀ S20, S20 = wR S17 p0 1 (some (qn S10)) → qT S17 p0 = 51 → wfCZ S20 → ((qn S20 + 1 ≤ KCC ∧ qu S20 + 2 ≤ KSC) ∧ (∀ S24, S24 = wN S20 40 0 2 → wfCZ S24 → (qT S24 (qn S20) = 40 → (∃ Q26, zX0_init S24 (qn S20) Q26 ∧ ∀ S27, Q26 S27 → wfCZ S27 → shx S24 S27 → (∀ S30, S30 = wR S27 p0 2 (some (qn S20)) → qT S27 p0 = 51 → wfCZ S30 → (((qn S30 + 1 ≤ KCC ∧ qu S30 + 12 ≤ KSC)) ∧ (∀ S34, S34 = wN S30 5 12 12 → wfCZ S34 → (∀ S36, S36 = wR S34 p0 3 (some (qn S30)) → qT S34 p0 = 51 → wfCZ S36 → ((qn S36 + 1 ≤ KCC ∧ qu S36 + 12 ≤ KSC) ∧ (∀ S40, S40 = wN S36 42 0 12 → wfCZ S40 → (qT S40 (qn S36) = 42 → (∃ Q42, zX2_init S40 (qn S36) Q42 ∧ ∀ S43, Q42 S43 → wfCZ S43 → shx S40 S43 → (∀ S46, S46 = wR S43 p0 4 (some (qn S36)) → qT S43 p0 = 51 → wfCZ S46 → ((qn S46 + 1 ≤ KCC ∧ qu S46 + 10 ≤ KSC) ∧ (∀ S50, S50 = wN S46 41 0 10 → wfCZ S50 → (qT S50 (qn S46) = 41 → (∃ Q52, zX1_init S50 (qn S46) Q52 ∧ ∀ S53, Q52 S53 → wfCZ S53 → shx S50 S53 → (∀ S56, S56 = wR S53 p0 5 (some (qn S46)) → qT S53 p0 = 51 → wfCZ S56 → ((qn S56 + 1 ≤ KCC ∧ qu S56 + 18 ≤ KSC) ∧ (∀ S60, S60 = wN S56 50 0 18 → wfCZ S60 → (qT S60 (qn S56) = 50 → (∃ Q62, zX11_init S60 (qn S56) Q62 ∧ ∀ S63, Q62 S63 → wfCZ S63 → shx S60 S63 → (∀ S66, S66 = wR S63 p0 6 (some (qn S56)) → qT S63 p0 = 51 → wfCZ S66 → ((qn S66 + 1 ≤ KCC ∧ qu S66 + 20 ≤ KSC) ∧ (∀ S70, S70 = wN S66 45 0 20 → wfCZ S70 → (qT S70 (qn S66) = 45 → (∃ Q72, zX5_init S70 (qn S66) Q72 ∧ ∀ S73, Q72 S73 → wfCZ S73 → shx S70 S73 → (∀ S76, S76 = wR S73 p0 7 (some (qn S66)) → qT S73 p0 = 51 → wfCZ S76 → ((qn S76 + 1 ≤ KCC ∧ qu S76 + 16 ≤ KSC) ∧ (∀ S80, S80 = wN S76 43 0 16 → wfCZ S80 → (qT S80 (qn S76) = 43 → (∃ Q82, zX3_init S80 (qn S76) Q82 ∧ ∀ S83, Q82 S83 → wfCZ S83 → shx S80 S83 → (∀ S86, S86 = wR S83 p0 8 (some (qn S76)) → qT S83 p0 = 51 → wfCZ S86 → ((qn S86 + 1 ≤ KCC ∧ qu S86 + 6 ≤ KSC) ∧ (∀ S90, S90 = wN S86 48 0 6 → wfCZ S90 → (qT S90 (qn S86) = 48 → (∃ Q92, zX9_init S90 (qn S86) Q92 ∧ ∀ S93, Q92 S93 → wfCZ S93 → shx S90 S93 → (∀ S96, S96 = wR S93 p0 9 (some (qn S86)) → qT S93 p0 = 51 → wfCZ S96 → (∀ S97, S97 = wI S96 p0 14 (-1 : Int32) → qT S96 p0 = 51 → wfCZ S97 → (∀ S98, S98 = wI S97 p0 15 (-1 : Int32) → qT S97 p0 = 51 → wfCZ S98 → (∀ S99, S99 = wI S98 p0 16 (-1 : Int32) → qT S98 p0 = 51 → wfCZ S99 → (∀ S100, S100 = wI S99 p0 17 (-1 : Int32) → qT S99 p0 = 51 → wfCZ S100 → Q S100))))))))))))))))))))))))))))))))))))))))))))))))))))
set_option maxHeartbeats 2000000 in
set_option maxRecDepth 100000 in
theorem rzX12_init (l : Launch) (g : Gr) (ad : Nat → Nat) (H0 : Heap) (S : MS) (p0 : Nat) (hw : wfCZ S) (hT_p0 : qT S p0 = 51) (Q : MS → Prop) (h : zX12_init S p0 Q) : Met l yX12_init (wt yX12_init cX12_init 1 none) ({ frames := 3, cells := KCC - qn S, slots := KSC - qu S, locals := 55 }) (va_Pc [.ref (ad p0)] (st_CH g ad H0 S)) (va_Qv (fun (u : MS × (Nat → Nat)) => Q u.1 ∧ wfCZ u.1 ∧ shx S u.1 ∧ adk ad u.2 S) (fun (u : MS × (Nat → Nat)) (t : State) => qEHC g (va_A (WdC g ad S) H0.size) S H0 u t) (va_A (WdC g ad S) H0.size)) (KCC - qn S) (KSC - qu S) (va_A (WdC g ad S) H0.size) := by
  refine Met.ofW (cc := cX12_init) (maxL := 1) (ret := none) (by decide) rfl ?_
  intro p e s m args below meth c s₁ B hml hv
  obtain ⟨rfl, hH0, hsz, hP, hK, hD0, hex, hE⟩ := hv
  have hx := B.exec
  have hb := B.bytes
  have hr := B.returns
  have hts0 := atoms_spec (ws := wt yX12_init cX12_init 1 none) B.pre
  have hts : ∀ w ∈ tb, w.before _ s = true := fun w h => hts0 w (List.mem_cons_of_mem _ h)
  have hown : s.vm.findClass RX12 = some m.cls := findClass_of_methodNamed B.named
  subst hH0
  have hD := hD0.self (sz := s.heap.size)
  generalize hAe : va_A (WdC g ad S) s.heap.size = A at hD hE ⊢
  have hA : ∀ q : Nat, s.heap.size ≤ q → A q := fun q h => by rw [← hAe]; exact Or.inr h
  have hR : RepCZ g ad A s S s.heap [] := ⟨hK, hP, hD, va_S.rf, hw⟩
  clear hK hP hD hD0
  have hl := lv_entry ([.ref (ad p0)]) (n := 1) (Nat.le_of_ble_eq_true rfl)
  rw [lg_entry_eq]
  generalize (lg_sl ([.ref (ad p0)]) ++ List.replicate (1 - (lg_sl ([.ref (ad p0)])).length) Slot.unset).toArray = ls at hl ⊢
  have hlg : lgC S S 0 0 := lgC.rf
  have hak : adk ad ad S := adk.rf
  have hin9 : meth.name = "<init>" := (name_of_methodNamed B.named B.method).1
  have hl : lv_has ls 1 [(0, .ref (ad p0))] := hl
  have hsh : shx S S := shx.rf
  unfold zX12_init at h
  refine lv_aload_n hx hb dX12_init_0 rfl (lv_at hl 0 rfl) ?_
  refine W.objInit hx hb hown (hts _ kw_383) (hts _ kw_9) (hts _ kw_10) rfl (by rw [hml]; exact hl.1) rfl dX12_init_1 (Nat.le_of_ble_eq_true rfl) (Nat.le_of_ble_eq_true rfl) ?_
  refine W.eq (g2 := F0 m 4 ls []) rfl ?_
  refine lv_aload_n hx hb dX12_init_4 rfl (lv_at hl 0 rfl) ?_
  obtain ⟨hv1, h⟩ := h
  have e9 : KCC = 300000 := rfl
  have e8 : KSC = 3553400 := rfl
  have e7 : TXB = 10000000 := rfl
  have hTX : qn S < TXB := by have := hv1.1; omega
  refine va_new (ci := 0) (fs := dfX0) (C := RX0) (T := TX0) (N := 2) hx hb hts inX0 tyX0 tyX0_ok hown (hts _ kw_384) (hts _ kw_164) (hts _ kw_3) hR.K hR.P hR.D hR.sS hA rfl dfX0_ok (show 0 + 1 ≤ KCC - qn S from hlg.c1 hv1.1) (show 0 + 2 ≤ KSC - qu S from hlg.s1 hv1.2) dX12_init_5 (fun q2 H hP hD hS => ?_)
  have hw8 := hR.w
  have hR := hR.new (t := 40) (n := 0) (k := 2) hTX (by decide) (Nat.zero_le _) wN_C40 hP hD hS
  have hk8 : adk ad (adx ad (qn S) q2) S := adk.rf.new (Nat.le_refl _) hTX
  have hak := hak.new (q := q2) hlg.2.2.1 hTX
  have hE := hE.ad hk8
  have hlg : lgC S (wN S 40 0 2) (0 + 1) (0 + 2) := hlg.new (t := 40) (n := 0) ⟨hv1.1, hv1.2⟩
  have hs8 : shx S (wN S 40 0 2) := shx.newCZ (t := 40) (n := 0) (k := 2) shx.rf hw8 hTX
  obtain ⟨am3, eam3⟩ : ∃ z, z = adx ad (qn S) q2 := ⟨_, rfl⟩
  have eq_q2 : am3 (qn S) = q2 := by rw [eam3]; exact if_pos rfl
  rw [← eam3] at hR hk8 hak hE
  obtain ⟨S4, eS4⟩ : ∃ z, z = wN S 40 0 2 := ⟨_, rfl⟩
  rw [← eS4] at hR hlg hs8
  replace h := h S4 eS4 hR.w
  have hsh := hsh.tr hs8
  have hT_b5 : qT S4 (qn S) = 40 := by rw [eS4]; exact if_pos rfl
  have ea_0 : am3 p0 = ad p0 := hk8 _ (hw8.hd hT_p0 (by decide) (by decide))
  have hT_p0 := hs8.T hT_p0 (by decide)
  have hl : lv_has ls 1 [(0, .ref (am3 p0))] := by simp only [ea_0]; exact hl
  refine W.eq (g2 := F0 m 8 ls [.ref (am3 (qn S)), .ref (am3 p0)]) (by simp only [ea_0, eq_q2]) ?_
  clear hw8 hk8 hs8 hP hD hS e9 e8 e7 hTX
  refine lv_dup hx hb dX12_init_8 rfl ?_
  replace h := h (hT_b5)
  obtain ⟨Q6, h0, h⟩ := h
  have hFc := cfreeZ hR hA
  refine W_led2 (fun hL0 => ?_)
  refine va_callv (va_runIN (As := []) (rest := [.ref (am3 (qn S)), .ref (am3 p0)]) ⟨hx, hb, hml, hown, hts⟩ (rzX0_init l g am3 H S4 (qn S) hR.w hT_b5 Q6 h0) ⟨va_cnB 0 hts (gd_I kw_6) rfl rfl rfl (nw_of (by exact nn_X12_9) hex) (hts _ kw_3) (by decide +kernel) ⟨Nat.le_of_ble_eq_true rfl, Nat.le_of_ble_eq_true rfl⟩, rfl, hts _ kw_7⟩ ⟨cblindH, fun U hU hW9 => cmkHZ hU hW9 hR hex hE hFc⟩ rfl rfl hl.1 rfl (lv_room (Nat.le_of_ble_eq_true rfl)) dX12_init_9 ⟨(show 0 + 1 + (KCC - qn S4) ≤ KCC - qn S from hlg.cm), (show 0 + 2 + (KSC - qu S4) ≤ KSC - qu S from hlg.sm)⟩) hR.sS (fun q _ h => hFc q h) hFc (fun  S7 t9 H1 locs ht9 hvm9 hw9 hB9 hz9 hk9 hS => ?_)
  rcases S7 with ⟨S7, ak9⟩
  obtain ⟨hB9, dc9, ds9, hL9, hl9⟩ := hB9
  dsimp only at hw9 hB9 hl9
  rw [ht9] at hL9
  obtain ⟨hq8, hw9, hs9, hk8⟩ := hw9
  have hw8 := hR.w
  have hak := hak.tr hk8 hlg.2.2.1
  have hE := hE.ad hk8
  have hR : RepCZ g ak9 A s S7 H1 locs := hR.callH ht9 hB9 hw9 hS hFc
  have hsh := hsh.tr hs9
  refine W_tight2 (hL0.tr hL9).1 (hL0.tr hL9).2.1 ?_
  have hlg := hlg.call hl9
  replace h := h  S7 hq8 hw9 hs9
  have ea_0 : ak9 p0 = am3 p0 := hk8 _ (hw8.hd hT_p0 (by decide) (by decide))
  have ea_1 : ak9 (qn S) = am3 (qn S) := hk8 _ (hw8.hd hT_b5 (by decide) (by decide))
  have hl : lv_has ls 1 [(0, .ref (ak9 p0))] := by simp only [ea_0, ea_1]; exact hl
  refine W.eq (g2 := F0 m 12 ls ([.ref (ak9 (qn S)), .ref (ak9 p0)])) (by first | (simp only [ea_0, ea_1]; rfl) | simp only [ea_0, ea_1]) ?_
  have hT_p0 := hs9.T hT_p0 (by decide)
  have hT_b5 := hs9.T hT_b5 (by decide)
  clear hB9 hz9 hk9 hvm9 ht9 hw9 hs9 hS hL0 hL9
  generalize H1 = H at hR ⊢
  generalize dc9 = dc_ak9, ds9 = ds_ak9 at hlg ⊢
  refine va_putF (D := rD g) (ci := 11) (v := .ref (ak9 (qn S))) (ty := (.object "CodeFoundry$Bytes")) (C := RX12) (T := TX12) (N := 18) hx hb hts inX12 tyX12 tyX12_ok nmX12 hown hR.K hR.P hR.D hR.sS p0 (hR.at51 hT_p0) rfl 0 (by decide) (hts _ kw_349) (fun _ h9 => h9) rfl hin9 rfl (by decide +kernel) rfl rfl (Nat.le_of_ble_eq_true rfl) dX12_init_12 (fun H locs hP hD hS => ?_)
  have hw9 : wfCZ (wR S7 p0 0 (some (qn S))) := hR.w.put (fun b q9 => by cases q9; exact (hT_b5).trans (by rw [hT_p0]; rfl)) (fun _ h9 => absurd h9 List.not_mem_nil) (by rw [hT_p0]; decide) (fun b _ q9 => absurd (show otgC (qT S7 p0) 0 = 0 by rw [hT_p0]; decide) q9) (fun _ => Option.some_ne_none _)
  have hTk9 : qT S7 p0 = 51 := hT_p0
  have hR : RepCZ g ak9 A s (wR S7 p0 0 (some (qn S))) H locs := hR.pR51 hT_p0 FX12_s0 hw9 hP hD hS
  obtain ⟨S10, eS10⟩ : ∃ z, z = wR S7 p0 0 (some (qn S)) := ⟨_, rfl⟩
  rw [← eS10] at hR
  replace h := h S10 eS10 hTk9 hR.w
  have hT_p0 : qT S10 p0 = 51 := (congrArg (fun z => qT z p0) eS10).trans hT_p0
  have hsh : shx S S10 := by rw [eS10]; exact hsh
  have hlg : lgC S S10 (0 + 1 + dc_ak9) (0 + 2 + ds_ak9) := by rw [eS10]; exact hlg
  refine lv_aload_n hx hb dX12_init_15 rfl (lv_at hl 0 rfl) ?_
  obtain ⟨hv11, h⟩ := h
  have e9 : KCC = 300000 := rfl
  have e8 : KSC = 3553400 := rfl
  have e7 : TXB = 10000000 := rfl
  have hTX : qn S10 < TXB := by have := hv11.1; omega
  refine va_new (ci := 0) (fs := dfX0) (C := RX0) (T := TX0) (N := 2) hx hb hts inX0 tyX0 tyX0_ok hown (hts _ kw_384) (hts _ kw_164) (hts _ kw_3) hR.K hR.P hR.D hR.sS hA rfl dfX0_ok (show 0 + 1 + dc_ak9 + 1 ≤ KCC - qn S from hlg.c1 hv11.1) (show 0 + 2 + ds_ak9 + 2 ≤ KSC - qu S from hlg.s1 hv11.2) dX12_init_16 (fun q12 H hP hD hS => ?_)
  have hw8 := hR.w
  have hR := hR.new (t := 40) (n := 0) (k := 2) hTX (by decide) (Nat.zero_le _) wN_C40 hP hD hS
  have hk8 : adk ak9 (adx ak9 (qn S10) q12) S10 := adk.rf.new (Nat.le_refl _) hTX
  have hak := hak.new (q := q12) hlg.2.2.1 hTX
  have hE := hE.ad hk8
  have hlg : lgC S (wN S10 40 0 2) (0 + 1 + dc_ak9 + 1) (0 + 2 + ds_ak9 + 2) := hlg.new (t := 40) (n := 0) ⟨hv11.1, hv11.2⟩
  have hs8 : shx S10 (wN S10 40 0 2) := shx.newCZ (t := 40) (n := 0) (k := 2) shx.rf hw8 hTX
  obtain ⟨am13, eam13⟩ : ∃ z, z = adx ak9 (qn S10) q12 := ⟨_, rfl⟩
  have eq_q12 : am13 (qn S10) = q12 := by rw [eam13]; exact if_pos rfl
  rw [← eam13] at hR hk8 hak hE
  obtain ⟨S14, eS14⟩ : ∃ z, z = wN S10 40 0 2 := ⟨_, rfl⟩
  rw [← eS14] at hR hlg hs8
  replace h := h S14 eS14 hR.w
  have hsh := hsh.tr hs8
  have hT_b15 : qT S14 (qn S10) = 40 := by rw [eS14]; exact if_pos rfl
  have ea_0 : am13 p0 = ak9 p0 := hk8 _ (hw8.hd hT_p0 (by decide) (by decide))
  have hT_p0 := hs8.T hT_p0 (by decide)
  have hl : lv_has ls 1 [(0, .ref (am13 p0))] := by simp only [ea_0]; exact hl
  refine W.eq (g2 := F0 m 19 ls [.ref (am13 (qn S10)), .ref (am13 p0)]) (by simp only [ea_0, eq_q12]) ?_
  clear hw8 hk8 hs8 hP hD hS e9 e8 e7 hTX
  refine lv_dup hx hb dX12_init_19 rfl ?_
  replace h := h (hT_b15)
  obtain ⟨Q16, h0, h⟩ := h
  have hFc := cfreeZ hR hA
  refine W_led2 (fun hL0 => ?_)
  refine va_callv (va_runIN (As := []) (rest := [.ref (am13 (qn S10)), .ref (am13 p0)]) ⟨hx, hb, hml, hown, hts⟩ (rzX0_init l g am13 H S14 (qn S10) hR.w hT_b15 Q16 h0) ⟨va_cnB 0 hts (gd_I kw_6) rfl rfl rfl (nw_of (by exact nn_X12_9) hex) (hts _ kw_3) (by decide +kernel) ⟨Nat.le_of_ble_eq_true rfl, Nat.le_of_ble_eq_true rfl⟩, rfl, hts _ kw_7⟩ ⟨cblindH, fun U hU hW9 => cmkHZ hU hW9 hR hex hE hFc⟩ rfl rfl hl.1 rfl (lv_room (Nat.le_of_ble_eq_true rfl)) dX12_init_20 ⟨(show 0 + 1 + dc_ak9 + 1 + (KCC - qn S14) ≤ KCC - qn S from hlg.cm), (show 0 + 2 + ds_ak9 + 2 + (KSC - qu S14) ≤ KSC - qu S from hlg.sm)⟩) hR.sS (fun q _ h => hFc q h) hFc (fun  S17 t9 H1 locs ht9 hvm9 hw9 hB9 hz9 hk9 hS => ?_)
  rcases S17 with ⟨S17, ak19⟩
  obtain ⟨hB9, dc9, ds9, hL9, hl9⟩ := hB9
  dsimp only at hw9 hB9 hl9
  rw [ht9] at hL9
  obtain ⟨hq18, hw9, hs9, hk8⟩ := hw9
  have hw8 := hR.w
  have hak := hak.tr hk8 hlg.2.2.1
  have hE := hE.ad hk8
  have hR : RepCZ g ak19 A s S17 H1 locs := hR.callH ht9 hB9 hw9 hS hFc
  have hsh := hsh.tr hs9
  refine W_tight2 (hL0.tr hL9).1 (hL0.tr hL9).2.1 ?_
  have hlg := hlg.call hl9
  replace h := h  S17 hq18 hw9 hs9
  have ea_0 : ak19 p0 = am13 p0 := hk8 _ (hw8.hd hT_p0 (by decide) (by decide))
  have ea_1 : ak19 (qn S10) = am13 (qn S10) := hk8 _ (hw8.hd hT_b15 (by decide) (by decide))
  have hl : lv_has ls 1 [(0, .ref (ak19 p0))] := by simp only [ea_0, ea_1]; exact hl
  refine W.eq (g2 := F0 m 23 ls ([.ref (ak19 (qn S10)), .ref (ak19 p0)])) (by first | (simp only [ea_0, ea_1]; rfl) | simp only [ea_0, ea_1]) ?_
  have hT_p0 := hs9.T hT_p0 (by decide)
  have hT_b15 := hs9.T hT_b15 (by decide)
  clear hB9 hz9 hk9 hvm9 ht9 hw9 hs9 hS hL0 hL9
  generalize H1 = H at hR ⊢
  generalize dc9 = dc_ak19, ds9 = ds_ak19 at hlg ⊢
  refine va_putF (D := rD g) (ci := 11) (v := .ref (ak19 (qn S10))) (ty := (.object "CodeFoundry$Bytes")) (C := RX12) (T := TX12) (N := 18) hx hb hts inX12 tyX12 tyX12_ok nmX12 hown hR.K hR.P hR.D hR.sS p0 (hR.at51 hT_p0) rfl 1 (by decide) (hts _ kw_310) (fun _ h9 => h9) rfl hin9 rfl (by decide +kernel) rfl rfl (Nat.le_of_ble_eq_true rfl) dX12_init_23 (fun H locs hP hD hS => ?_)
  have hw9 : wfCZ (wR S17 p0 1 (some (qn S10))) := hR.w.put (fun b q9 => by cases q9; exact (hT_b15).trans (by rw [hT_p0]; rfl)) (fun _ h9 => absurd h9 List.not_mem_nil) (by rw [hT_p0]; decide) (fun b _ q9 => absurd (show otgC (qT S17 p0) 1 = 0 by rw [hT_p0]; decide) q9) (fun _ => Option.some_ne_none _)
  have hTk9 : qT S17 p0 = 51 := hT_p0
  have hR : RepCZ g ak19 A s (wR S17 p0 1 (some (qn S10))) H locs := hR.pR51 hT_p0 FX12_s1 hw9 hP hD hS
  obtain ⟨S20, eS20⟩ : ∃ z, z = wR S17 p0 1 (some (qn S10)) := ⟨_, rfl⟩
  rw [← eS20] at hR
  replace h := h S20 eS20 hTk9 hR.w
  have hT_p0 : qT S20 p0 = 51 := (congrArg (fun z => qT z p0) eS20).trans hT_p0
  have hsh : shx S S20 := by rw [eS20]; exact hsh
  have hlg : lgC S S20 (0 + 1 + dc_ak9 + 1 + dc_ak19) (0 + 2 + ds_ak9 + 2 + ds_ak19) := by rw [eS20]; exact hlg
  refine lv_aload_n hx hb dX12_init_26 rfl (lv_at hl 0 rfl) ?_
  obtain ⟨hv21, h⟩ := h
  have e9 : KCC = 300000 := rfl
  have e8 : KSC = 3553400 := rfl
  have e7 : TXB = 10000000 := rfl
  have hTX : qn S20 < TXB := by have := hv21.1; omega
  refine va_new (ci := 0) (fs := dfX0) (C := RX0) (T := TX0) (N := 2) hx hb hts inX0 tyX0 tyX0_ok hown (hts _ kw_384) (hts _ kw_164) (hts _ kw_3) hR.K hR.P hR.D hR.sS hA rfl dfX0_ok (show 0 + 1 + dc_ak9 + 1 + dc_ak19 + 1 ≤ KCC - qn S from hlg.c1 hv21.1) (show 0 + 2 + ds_ak9 + 2 + ds_ak19 + 2 ≤ KSC - qu S from hlg.s1 hv21.2) dX12_init_27 (fun q22 H hP hD hS => ?_)
  have hw8 := hR.w
  have hR := hR.new (t := 40) (n := 0) (k := 2) hTX (by decide) (Nat.zero_le _) wN_C40 hP hD hS
  have hk8 : adk ak19 (adx ak19 (qn S20) q22) S20 := adk.rf.new (Nat.le_refl _) hTX
  have hak := hak.new (q := q22) hlg.2.2.1 hTX
  have hE := hE.ad hk8
  have hlg : lgC S (wN S20 40 0 2) (0 + 1 + dc_ak9 + 1 + dc_ak19 + 1) (0 + 2 + ds_ak9 + 2 + ds_ak19 + 2) := hlg.new (t := 40) (n := 0) ⟨hv21.1, hv21.2⟩
  have hs8 : shx S20 (wN S20 40 0 2) := shx.newCZ (t := 40) (n := 0) (k := 2) shx.rf hw8 hTX
  obtain ⟨am23, eam23⟩ : ∃ z, z = adx ak19 (qn S20) q22 := ⟨_, rfl⟩
  have eq_q22 : am23 (qn S20) = q22 := by rw [eam23]; exact if_pos rfl
  rw [← eam23] at hR hk8 hak hE
  obtain ⟨S24, eS24⟩ : ∃ z, z = wN S20 40 0 2 := ⟨_, rfl⟩
  rw [← eS24] at hR hlg hs8
  replace h := h S24 eS24 hR.w
  have hsh := hsh.tr hs8
  have hT_b25 : qT S24 (qn S20) = 40 := by rw [eS24]; exact if_pos rfl
  have ea_0 : am23 p0 = ak19 p0 := hk8 _ (hw8.hd hT_p0 (by decide) (by decide))
  have hT_p0 := hs8.T hT_p0 (by decide)
  have hl : lv_has ls 1 [(0, .ref (am23 p0))] := by simp only [ea_0]; exact hl
  refine W.eq (g2 := F0 m 30 ls [.ref (am23 (qn S20)), .ref (am23 p0)]) (by simp only [ea_0, eq_q22]) ?_
  clear hw8 hk8 hs8 hP hD hS e9 e8 e7 hTX
  refine lv_dup hx hb dX12_init_30 rfl ?_
  replace h := h (hT_b25)
  obtain ⟨Q26, h0, h⟩ := h
  have hFc := cfreeZ hR hA
  refine W_led2 (fun hL0 => ?_)
  refine va_callv (va_runIN (As := []) (rest := [.ref (am23 (qn S20)), .ref (am23 p0)]) ⟨hx, hb, hml, hown, hts⟩ (rzX0_init l g am23 H S24 (qn S20) hR.w hT_b25 Q26 h0) ⟨va_cnB 0 hts (gd_I kw_6) rfl rfl rfl (nw_of (by exact nn_X12_9) hex) (hts _ kw_3) (by decide +kernel) ⟨Nat.le_of_ble_eq_true rfl, Nat.le_of_ble_eq_true rfl⟩, rfl, hts _ kw_7⟩ ⟨cblindH, fun U hU hW9 => cmkHZ hU hW9 hR hex hE hFc⟩ rfl rfl hl.1 rfl (lv_room (Nat.le_of_ble_eq_true rfl)) dX12_init_31 ⟨(show 0 + 1 + dc_ak9 + 1 + dc_ak19 + 1 + (KCC - qn S24) ≤ KCC - qn S from hlg.cm), (show 0 + 2 + ds_ak9 + 2 + ds_ak19 + 2 + (KSC - qu S24) ≤ KSC - qu S from hlg.sm)⟩) hR.sS (fun q _ h => hFc q h) hFc (fun  S27 t9 H1 locs ht9 hvm9 hw9 hB9 hz9 hk9 hS => ?_)
  rcases S27 with ⟨S27, ak29⟩
  obtain ⟨hB9, dc9, ds9, hL9, hl9⟩ := hB9
  dsimp only at hw9 hB9 hl9
  rw [ht9] at hL9
  obtain ⟨hq28, hw9, hs9, hk8⟩ := hw9
  have hw8 := hR.w
  have hak := hak.tr hk8 hlg.2.2.1
  have hE := hE.ad hk8
  have hR : RepCZ g ak29 A s S27 H1 locs := hR.callH ht9 hB9 hw9 hS hFc
  have hsh := hsh.tr hs9
  refine W_tight2 (hL0.tr hL9).1 (hL0.tr hL9).2.1 ?_
  have hlg := hlg.call hl9
  replace h := h  S27 hq28 hw9 hs9
  have ea_0 : ak29 p0 = am23 p0 := hk8 _ (hw8.hd hT_p0 (by decide) (by decide))
  have ea_1 : ak29 (qn S20) = am23 (qn S20) := hk8 _ (hw8.hd hT_b25 (by decide) (by decide))
  have hl : lv_has ls 1 [(0, .ref (ak29 p0))] := by simp only [ea_0, ea_1]; exact hl
  refine W.eq (g2 := F0 m 34 ls ([.ref (ak29 (qn S20)), .ref (ak29 p0)])) (by first | (simp only [ea_0, ea_1]; rfl) | simp only [ea_0, ea_1]) ?_
  have hT_p0 := hs9.T hT_p0 (by decide)
  have hT_b25 := hs9.T hT_b25 (by decide)
  clear hB9 hz9 hk9 hvm9 ht9 hw9 hs9 hS hL0 hL9
  generalize H1 = H at hR ⊢
  generalize dc9 = dc_ak29, ds9 = ds_ak29 at hlg ⊢
  refine va_putF (D := rD g) (ci := 11) (v := .ref (ak29 (qn S20))) (ty := (.object "CodeFoundry$Bytes")) (C := RX12) (T := TX12) (N := 18) hx hb hts inX12 tyX12 tyX12_ok nmX12 hown hR.K hR.P hR.D hR.sS p0 (hR.at51 hT_p0) rfl 2 (by decide) (hts _ kw_330) (fun _ h9 => h9) rfl hin9 rfl (by decide +kernel) rfl rfl (Nat.le_of_ble_eq_true rfl) dX12_init_34 (fun H locs hP hD hS => ?_)
  have hw9 : wfCZ (wR S27 p0 2 (some (qn S20))) := hR.w.put (fun b q9 => by cases q9; exact (hT_b25).trans (by rw [hT_p0]; rfl)) (fun _ h9 => absurd h9 List.not_mem_nil) (by rw [hT_p0]; decide) (fun b _ q9 => absurd (show otgC (qT S27 p0) 2 = 0 by rw [hT_p0]; decide) q9) (fun _ => Option.some_ne_none _)
  have hTk9 : qT S27 p0 = 51 := hT_p0
  have hR : RepCZ g ak29 A s (wR S27 p0 2 (some (qn S20))) H locs := hR.pR51 hT_p0 FX12_s2 hw9 hP hD hS
  obtain ⟨S30, eS30⟩ : ∃ z, z = wR S27 p0 2 (some (qn S20)) := ⟨_, rfl⟩
  rw [← eS30] at hR
  replace h := h S30 eS30 hTk9 hR.w
  have hT_p0 : qT S30 p0 = 51 := (congrArg (fun z => qT z p0) eS30).trans hT_p0
  have hsh : shx S S30 := by rw [eS30]; exact hsh
  have hlg : lgC S S30 (0 + 1 + dc_ak9 + 1 + dc_ak19 + 1 + dc_ak29) (0 + 2 + ds_ak9 + 2 + ds_ak19 + 2 + ds_ak29) := by rw [eS30]; exact hlg
  refine lv_aload_n hx hb dX12_init_37 rfl (lv_at hl 0 rfl) ?_
  refine lv_bipush (v := 12) hx hb dX12_init_38 (by decide) ?_
  obtain ⟨hv31, h⟩ := h
  have e9 : KCC = 300000 := rfl
  have e8 : KSC = 3553400 := rfl
  have e7 : TXB = 10000000 := rfl
  have hTX : qn S30 < TXB := by have := hv31.1; omega
  refine va_newq (C := "CodeFoundry$Unit") (N' := 12) hx hb hown (hts _ kw_385) (ao_of (by exact ao_CodeFoundry_Unit) hex) hR.K hR.P hR.D hR.sS hA (by decide) (by decide) (by have := hv31.2; omega) (show 0 + 1 + dc_ak9 + 1 + dc_ak19 + 1 + dc_ak29 + 1 ≤ KCC - qn S from hlg.c1 hv31.1) (show 0 + 2 + ds_ak9 + 2 + ds_ak19 + 2 + ds_ak29 + 12 ≤ KSC - qu S from hlg.s1 hv31.2) dX12_init_40 (fun q32 cA9 H hK9 hP hD hS => ?_)
  obtain rfl := cls_newR3 hR.K hK9 (k := 4) rfl
  have hw8 := hR.w
  have hR := hR.new (t := 5) (n := 12) (k := 12) hTX (by decide) (by have := hv31.2; omega) wN_C5 hP hD hS
  have hk8 : adk ak29 (adx ak29 (qn S30) q32) S30 := adk.rf.new (Nat.le_refl _) hTX
  have hak := hak.new (q := q32) hlg.2.2.1 hTX
  have hE := hE.ad hk8
  have hlg : lgC S (wN S30 5 12 12) (0 + 1 + dc_ak9 + 1 + dc_ak19 + 1 + dc_ak29 + 1) (0 + 2 + ds_ak9 + 2 + ds_ak19 + 2 + ds_ak29 + 12) := hlg.new (t := 5) (n := 12) ⟨hv31.1, hv31.2⟩
  have hs8 : shx S30 (wN S30 5 12 12) := shx.newCZ (t := 5) (n := 12) (k := 12) shx.rf hw8 hTX
  obtain ⟨am33, eam33⟩ : ∃ z, z = adx ak29 (qn S30) q32 := ⟨_, rfl⟩
  have eq_q32 : am33 (qn S30) = q32 := by rw [eam33]; exact if_pos rfl
  rw [← eam33] at hR hk8 hak hE
  obtain ⟨S34, eS34⟩ : ∃ z, z = wN S30 5 12 12 := ⟨_, rfl⟩
  rw [← eS34] at hR hlg hs8
  replace h := h S34 eS34 hR.w
  have hsh := hsh.tr hs8
  have hT_b35 : qT S34 (qn S30) = 5 := by rw [eS34]; exact if_pos rfl
  have ea_0 : am33 p0 = ak29 p0 := hk8 _ (hw8.hd hT_p0 (by decide) (by decide))
  have hT_p0 := hs8.T hT_p0 (by decide)
  have hl : lv_has ls 1 [(0, .ref (am33 p0))] := by simp only [ea_0]; exact hl
  refine W.eq (g2 := F0 m 43 ls [.ref (am33 (qn S30)), .ref (am33 p0)]) (by simp only [ea_0, eq_q32]) ?_
  clear hw8 hk8 hs8 hP hD hS e9 e8 e7 hTX
  refine va_putF (D := rD g) (ci := 11) (v := .ref (am33 (qn S30))) (ty := (.array (.object "CodeFoundry$Unit"))) (C := RX12) (T := TX12) (N := 18) hx hb hts inX12 tyX12 tyX12_ok nmX12 hown hR.K hR.P hR.D hR.sS p0 (hR.at51 hT_p0) rfl 3 (by decide) (hts _ kw_386) (fun _ h9 => h9) rfl hin9 rfl (by decide +kernel) rfl rfl (Nat.le_of_ble_eq_true rfl) dX12_init_43 (fun H locs hP hD hS => ?_)
  have hw9 : wfCZ (wR S34 p0 3 (some (qn S30))) := hR.w.put (fun b q9 => by cases q9; exact (hT_b35).trans (by rw [hT_p0]; rfl)) (fun _ h9 => absurd h9 List.not_mem_nil) (by rw [hT_p0]; decide) (fun b _ q9 => absurd (show otgC (qT S34 p0) 3 = 0 by rw [hT_p0]; decide) q9) (fun _ => Option.some_ne_none _)
  have hTk9 : qT S34 p0 = 51 := hT_p0
  have hR : RepCZ g am33 A s (wR S34 p0 3 (some (qn S30))) H locs := hR.pR51 hT_p0 FX12_s3 hw9 hP hD hS
  obtain ⟨S36, eS36⟩ : ∃ z, z = wR S34 p0 3 (some (qn S30)) := ⟨_, rfl⟩
  rw [← eS36] at hR
  replace h := h S36 eS36 hTk9 hR.w
  have hT_p0 : qT S36 p0 = 51 := (congrArg (fun z => qT z p0) eS36).trans hT_p0
  have hsh : shx S S36 := by rw [eS36]; exact hsh
  have hlg : lgC S S36 (0 + 1 + dc_ak9 + 1 + dc_ak19 + 1 + dc_ak29 + 1) (0 + 2 + ds_ak9 + 2 + ds_ak19 + 2 + ds_ak29 + 12) := by rw [eS36]; exact hlg
  refine lv_aload_n hx hb dX12_init_46 rfl (lv_at hl 0 rfl) ?_
  obtain ⟨hv37, h⟩ := h
  have e9 : KCC = 300000 := rfl
  have e8 : KSC = 3553400 := rfl
  have e7 : TXB = 10000000 := rfl
  have hTX : qn S36 < TXB := by have := hv37.1; omega
  refine va_new (ci := 2) (fs := dfX2) (C := RX2) (T := TX2) (N := 12) hx hb hts inX2 tyX2 tyX2_ok hown (hts _ kw_387) (hts _ kw_388) (hts _ kw_389) hR.K hR.P hR.D hR.sS hA rfl dfX2_ok (show 0 + 1 + dc_ak9 + 1 + dc_ak19 + 1 + dc_ak29 + 1 + 1 ≤ KCC - qn S from hlg.c1 hv37.1) (show 0 + 2 + ds_ak9 + 2 + ds_ak19 + 2 + ds_ak29 + 12 + 12 ≤ KSC - qu S from hlg.s1 hv37.2) dX12_init_47 (fun q38 H hP hD hS => ?_)
  have hw8 := hR.w
  have hR := hR.new (t := 42) (n := 0) (k := 12) hTX (by decide) (Nat.zero_le _) wN_C42 hP hD hS
  have hk8 : adk am33 (adx am33 (qn S36) q38) S36 := adk.rf.new (Nat.le_refl _) hTX
  have hak := hak.new (q := q38) hlg.2.2.1 hTX
  have hE := hE.ad hk8
  have hlg : lgC S (wN S36 42 0 12) (0 + 1 + dc_ak9 + 1 + dc_ak19 + 1 + dc_ak29 + 1 + 1) (0 + 2 + ds_ak9 + 2 + ds_ak19 + 2 + ds_ak29 + 12 + 12) := hlg.new (t := 42) (n := 0) ⟨hv37.1, hv37.2⟩
  have hs8 : shx S36 (wN S36 42 0 12) := shx.newCZ (t := 42) (n := 0) (k := 12) shx.rf hw8 hTX
  obtain ⟨am39, eam39⟩ : ∃ z, z = adx am33 (qn S36) q38 := ⟨_, rfl⟩
  have eq_q38 : am39 (qn S36) = q38 := by rw [eam39]; exact if_pos rfl
  rw [← eam39] at hR hk8 hak hE
  obtain ⟨S40, eS40⟩ : ∃ z, z = wN S36 42 0 12 := ⟨_, rfl⟩
  rw [← eS40] at hR hlg hs8
  replace h := h S40 eS40 hR.w
  have hsh := hsh.tr hs8
  have hT_b41 : qT S40 (qn S36) = 42 := by rw [eS40]; exact if_pos rfl
  have ea_0 : am39 p0 = am33 p0 := hk8 _ (hw8.hd hT_p0 (by decide) (by decide))
  have hT_p0 := hs8.T hT_p0 (by decide)
  have hl : lv_has ls 1 [(0, .ref (am39 p0))] := by simp only [ea_0]; exact hl
  refine W.eq (g2 := F0 m 50 ls [.ref (am39 (qn S36)), .ref (am39 p0)]) (by simp only [ea_0, eq_q38]) ?_
  clear hw8 hk8 hs8 hP hD hS e9 e8 e7 hTX
  refine lv_dup hx hb dX12_init_50 rfl ?_
  replace h := h (hT_b41)
  obtain ⟨Q42, h0, h⟩ := h
  have hFc := cfreeZ hR hA
  refine W_led2 (fun hL0 => ?_)
  refine va_callv (va_runIN (As := []) (rest := [.ref (am39 (qn S36)), .ref (am39 p0)]) ⟨hx, hb, hml, hown, hts⟩ (rzX2_init l g am39 H S40 (qn S36) hR.w hT_b41 Q42 h0) ⟨va_cnB 0 hts (gd_I kw_705) rfl rfl rfl (nw_of (by exact nn_X12_30) hex) (hts _ kw_389) (by decide +kernel) ⟨Nat.le_of_ble_eq_true rfl, Nat.le_of_ble_eq_true rfl⟩, rfl, hts _ kw_706⟩ ⟨cblindH, fun U hU hW9 => cmkHZ hU hW9 hR hex hE hFc⟩ rfl rfl hl.1 rfl (lv_room (Nat.le_of_ble_eq_true rfl)) dX12_init_51 ⟨(show 0 + 1 + dc_ak9 + 1 + dc_ak19 + 1 + dc_ak29 + 1 + 1 + (KCC - qn S40) ≤ KCC - qn S from hlg.cm), (show 0 + 2 + ds_ak9 + 2 + ds_ak19 + 2 + ds_ak29 + 12 + 12 + (KSC - qu S40) ≤ KSC - qu S from hlg.sm)⟩) hR.sS (fun q _ h => hFc q h) hFc (fun  S43 t9 H1 locs ht9 hvm9 hw9 hB9 hz9 hk9 hS => ?_)
  rcases S43 with ⟨S43, ak45⟩
  obtain ⟨hB9, dc9, ds9, hL9, hl9⟩ := hB9
  dsimp only at hw9 hB9 hl9
  rw [ht9] at hL9
  obtain ⟨hq44, hw9, hs9, hk8⟩ := hw9
  have hw8 := hR.w
  have hak := hak.tr hk8 hlg.2.2.1
  have hE := hE.ad hk8
  have hR : RepCZ g ak45 A s S43 H1 locs := hR.callH ht9 hB9 hw9 hS hFc
  have hsh := hsh.tr hs9
  refine W_tight2 (hL0.tr hL9).1 (hL0.tr hL9).2.1 ?_
  have hlg := hlg.call hl9
  replace h := h  S43 hq44 hw9 hs9
  have ea_0 : ak45 p0 = am39 p0 := hk8 _ (hw8.hd hT_p0 (by decide) (by decide))
  have ea_1 : ak45 (qn S36) = am39 (qn S36) := hk8 _ (hw8.hd hT_b41 (by decide) (by decide))
  have hl : lv_has ls 1 [(0, .ref (ak45 p0))] := by simp only [ea_0, ea_1]; exact hl
  refine W.eq (g2 := F0 m 54 ls ([.ref (ak45 (qn S36)), .ref (ak45 p0)])) (by first | (simp only [ea_0, ea_1]; rfl) | simp only [ea_0, ea_1]) ?_
  have hT_p0 := hs9.T hT_p0 (by decide)
  have hT_b41 := hs9.T hT_b41 (by decide)
  clear hB9 hz9 hk9 hvm9 ht9 hw9 hs9 hS hL0 hL9
  generalize H1 = H at hR ⊢
  generalize dc9 = dc_ak45, ds9 = ds_ak45 at hlg ⊢
  refine va_putF (D := rD g) (ci := 11) (v := .ref (ak45 (qn S36))) (ty := (.object "CodeFoundry$CodeReader")) (C := RX12) (T := TX12) (N := 18) hx hb hts inX12 tyX12 tyX12_ok nmX12 hown hR.K hR.P hR.D hR.sS p0 (hR.at51 hT_p0) rfl 4 (by decide) (hts _ kw_332) (fun _ h9 => h9) rfl hin9 rfl (by decide +kernel) rfl rfl (Nat.le_of_ble_eq_true rfl) dX12_init_54 (fun H locs hP hD hS => ?_)
  have hw9 : wfCZ (wR S43 p0 4 (some (qn S36))) := hR.w.put (fun b q9 => by cases q9; exact (hT_b41).trans (by rw [hT_p0]; rfl)) (fun _ h9 => absurd h9 List.not_mem_nil) (by rw [hT_p0]; decide) (fun b _ q9 => absurd (show otgC (qT S43 p0) 4 = 0 by rw [hT_p0]; decide) q9) (fun _ => Option.some_ne_none _)
  have hTk9 : qT S43 p0 = 51 := hT_p0
  have hR : RepCZ g ak45 A s (wR S43 p0 4 (some (qn S36))) H locs := hR.pR51 hT_p0 FX12_s4 hw9 hP hD hS
  obtain ⟨S46, eS46⟩ : ∃ z, z = wR S43 p0 4 (some (qn S36)) := ⟨_, rfl⟩
  rw [← eS46] at hR
  replace h := h S46 eS46 hTk9 hR.w
  have hT_p0 : qT S46 p0 = 51 := (congrArg (fun z => qT z p0) eS46).trans hT_p0
  have hsh : shx S S46 := by rw [eS46]; exact hsh
  have hlg : lgC S S46 (0 + 1 + dc_ak9 + 1 + dc_ak19 + 1 + dc_ak29 + 1 + 1 + dc_ak45) (0 + 2 + ds_ak9 + 2 + ds_ak19 + 2 + ds_ak29 + 12 + 12 + ds_ak45) := by rw [eS46]; exact hlg
  refine lv_aload_n hx hb dX12_init_57 rfl (lv_at hl 0 rfl) ?_
  obtain ⟨hv47, h⟩ := h
  have e9 : KCC = 300000 := rfl
  have e8 : KSC = 3553400 := rfl
  have e7 : TXB = 10000000 := rfl
  have hTX : qn S46 < TXB := by have := hv47.1; omega
  refine va_new (ci := 1) (fs := dfX1) (C := RX1) (T := TX1) (N := 10) hx hb hts inX1 tyX1 tyX1_ok hown (hts _ kw_390) (hts _ kw_391) (hts _ kw_392) hR.K hR.P hR.D hR.sS hA rfl dfX1_ok (show 0 + 1 + dc_ak9 + 1 + dc_ak19 + 1 + dc_ak29 + 1 + 1 + dc_ak45 + 1 ≤ KCC - qn S from hlg.c1 hv47.1) (show 0 + 2 + ds_ak9 + 2 + ds_ak19 + 2 + ds_ak29 + 12 + 12 + ds_ak45 + 10 ≤ KSC - qu S from hlg.s1 hv47.2) dX12_init_58 (fun q48 H hP hD hS => ?_)
  have hw8 := hR.w
  have hR := hR.new (t := 41) (n := 0) (k := 10) hTX (by decide) (Nat.zero_le _) wN_C41 hP hD hS
  have hk8 : adk ak45 (adx ak45 (qn S46) q48) S46 := adk.rf.new (Nat.le_refl _) hTX
  have hak := hak.new (q := q48) hlg.2.2.1 hTX
  have hE := hE.ad hk8
  have hlg : lgC S (wN S46 41 0 10) (0 + 1 + dc_ak9 + 1 + dc_ak19 + 1 + dc_ak29 + 1 + 1 + dc_ak45 + 1) (0 + 2 + ds_ak9 + 2 + ds_ak19 + 2 + ds_ak29 + 12 + 12 + ds_ak45 + 10) := hlg.new (t := 41) (n := 0) ⟨hv47.1, hv47.2⟩
  have hs8 : shx S46 (wN S46 41 0 10) := shx.newCZ (t := 41) (n := 0) (k := 10) shx.rf hw8 hTX
  obtain ⟨am49, eam49⟩ : ∃ z, z = adx ak45 (qn S46) q48 := ⟨_, rfl⟩
  have eq_q48 : am49 (qn S46) = q48 := by rw [eam49]; exact if_pos rfl
  rw [← eam49] at hR hk8 hak hE
  obtain ⟨S50, eS50⟩ : ∃ z, z = wN S46 41 0 10 := ⟨_, rfl⟩
  rw [← eS50] at hR hlg hs8
  replace h := h S50 eS50 hR.w
  have hsh := hsh.tr hs8
  have hT_b51 : qT S50 (qn S46) = 41 := by rw [eS50]; exact if_pos rfl
  have ea_0 : am49 p0 = ak45 p0 := hk8 _ (hw8.hd hT_p0 (by decide) (by decide))
  have hT_p0 := hs8.T hT_p0 (by decide)
  have hl : lv_has ls 1 [(0, .ref (am49 p0))] := by simp only [ea_0]; exact hl
  refine W.eq (g2 := F0 m 61 ls [.ref (am49 (qn S46)), .ref (am49 p0)]) (by simp only [ea_0, eq_q48]) ?_
  clear hw8 hk8 hs8 hP hD hS e9 e8 e7 hTX
  refine lv_dup hx hb dX12_init_61 rfl ?_
  replace h := h (hT_b51)
  obtain ⟨Q52, h0, h⟩ := h
  have hFc := cfreeZ hR hA
  refine W_led2 (fun hL0 => ?_)
  refine va_callv (va_runIN (As := []) (rest := [.ref (am49 (qn S46)), .ref (am49 p0)]) ⟨hx, hb, hml, hown, hts⟩ (rzX1_init l g am49 H S50 (qn S46) hR.w hT_b51 Q52 h0) ⟨va_cnB 0 hts (gd_I kw_549) rfl rfl rfl (nw_of (by exact nn_X12_37) hex) (hts _ kw_392) (by decide +kernel) ⟨Nat.le_of_ble_eq_true rfl, Nat.le_of_ble_eq_true rfl⟩, rfl, hts _ kw_550⟩ ⟨cblindH, fun U hU hW9 => cmkHZ hU hW9 hR hex hE hFc⟩ rfl rfl hl.1 rfl (lv_room (Nat.le_of_ble_eq_true rfl)) dX12_init_62 ⟨(show 0 + 1 + dc_ak9 + 1 + dc_ak19 + 1 + dc_ak29 + 1 + 1 + dc_ak45 + 1 + (KCC - qn S50) ≤ KCC - qn S from hlg.cm), (show 0 + 2 + ds_ak9 + 2 + ds_ak19 + 2 + ds_ak29 + 12 + 12 + ds_ak45 + 10 + (KSC - qu S50) ≤ KSC - qu S from hlg.sm)⟩) hR.sS (fun q _ h => hFc q h) hFc (fun  S53 t9 H1 locs ht9 hvm9 hw9 hB9 hz9 hk9 hS => ?_)
  rcases S53 with ⟨S53, ak55⟩
  obtain ⟨hB9, dc9, ds9, hL9, hl9⟩ := hB9
  dsimp only at hw9 hB9 hl9
  rw [ht9] at hL9
  obtain ⟨hq54, hw9, hs9, hk8⟩ := hw9
  have hw8 := hR.w
  have hak := hak.tr hk8 hlg.2.2.1
  have hE := hE.ad hk8
  have hR : RepCZ g ak55 A s S53 H1 locs := hR.callH ht9 hB9 hw9 hS hFc
  have hsh := hsh.tr hs9
  refine W_tight2 (hL0.tr hL9).1 (hL0.tr hL9).2.1 ?_
  have hlg := hlg.call hl9
  replace h := h  S53 hq54 hw9 hs9
  have ea_0 : ak55 p0 = am49 p0 := hk8 _ (hw8.hd hT_p0 (by decide) (by decide))
  have ea_1 : ak55 (qn S46) = am49 (qn S46) := hk8 _ (hw8.hd hT_b51 (by decide) (by decide))
  have hl : lv_has ls 1 [(0, .ref (ak55 p0))] := by simp only [ea_0, ea_1]; exact hl
  refine W.eq (g2 := F0 m 65 ls ([.ref (ak55 (qn S46)), .ref (ak55 p0)])) (by first | (simp only [ea_0, ea_1]; rfl) | simp only [ea_0, ea_1]) ?_
  have hT_p0 := hs9.T hT_p0 (by decide)
  have hT_b51 := hs9.T hT_b51 (by decide)
  clear hB9 hz9 hk9 hvm9 ht9 hw9 hs9 hS hL0 hL9
  generalize H1 = H at hR ⊢
  generalize dc9 = dc_ak55, ds9 = ds_ak55 at hlg ⊢
  refine va_putF (D := rD g) (ci := 11) (v := .ref (ak55 (qn S46))) (ty := (.object "CodeFoundry$Checker")) (C := RX12) (T := TX12) (N := 18) hx hb hts inX12 tyX12 tyX12_ok nmX12 hown hR.K hR.P hR.D hR.sS p0 (hR.at51 hT_p0) rfl 5 (by decide) (hts _ kw_393) (fun _ h9 => h9) rfl hin9 rfl (by decide +kernel) rfl rfl (Nat.le_of_ble_eq_true rfl) dX12_init_65 (fun H locs hP hD hS => ?_)
  have hw9 : wfCZ (wR S53 p0 5 (some (qn S46))) := hR.w.put (fun b q9 => by cases q9; exact (hT_b51).trans (by rw [hT_p0]; rfl)) (fun _ h9 => absurd h9 List.not_mem_nil) (by rw [hT_p0]; decide) (fun b _ q9 => absurd (show otgC (qT S53 p0) 5 = 0 by rw [hT_p0]; decide) q9) (fun _ => Option.some_ne_none _)
  have hTk9 : qT S53 p0 = 51 := hT_p0
  have hR : RepCZ g ak55 A s (wR S53 p0 5 (some (qn S46))) H locs := hR.pR51 hT_p0 FX12_s5 hw9 hP hD hS
  obtain ⟨S56, eS56⟩ : ∃ z, z = wR S53 p0 5 (some (qn S46)) := ⟨_, rfl⟩
  rw [← eS56] at hR
  replace h := h S56 eS56 hTk9 hR.w
  have hT_p0 : qT S56 p0 = 51 := (congrArg (fun z => qT z p0) eS56).trans hT_p0
  have hsh : shx S S56 := by rw [eS56]; exact hsh
  have hlg : lgC S S56 (0 + 1 + dc_ak9 + 1 + dc_ak19 + 1 + dc_ak29 + 1 + 1 + dc_ak45 + 1 + dc_ak55) (0 + 2 + ds_ak9 + 2 + ds_ak19 + 2 + ds_ak29 + 12 + 12 + ds_ak45 + 10 + ds_ak55) := by rw [eS56]; exact hlg
  refine lv_aload_n hx hb dX12_init_68 rfl (lv_at hl 0 rfl) ?_
  obtain ⟨hv57, h⟩ := h
  have e9 : KCC = 300000 := rfl
  have e8 : KSC = 3553400 := rfl
  have e7 : TXB = 10000000 := rfl
  have hTX : qn S56 < TXB := by have := hv57.1; omega
  refine va_new (ci := 10) (fs := dfX11) (C := RX11) (T := TX11) (N := 18) hx hb hts inX11 tyX11 tyX11_ok hown (hts _ kw_394) (hts _ kw_395) (hts _ kw_83) hR.K hR.P hR.D hR.sS hA rfl dfX11_ok (show 0 + 1 + dc_ak9 + 1 + dc_ak19 + 1 + dc_ak29 + 1 + 1 + dc_ak45 + 1 + dc_ak55 + 1 ≤ KCC - qn S from hlg.c1 hv57.1) (show 0 + 2 + ds_ak9 + 2 + ds_ak19 + 2 + ds_ak29 + 12 + 12 + ds_ak45 + 10 + ds_ak55 + 18 ≤ KSC - qu S from hlg.s1 hv57.2) dX12_init_69 (fun q58 H hP hD hS => ?_)
  have hw8 := hR.w
  have hR := hR.new (t := 50) (n := 0) (k := 18) hTX (by decide) (Nat.zero_le _) wN_C50 hP hD hS
  have hk8 : adk ak55 (adx ak55 (qn S56) q58) S56 := adk.rf.new (Nat.le_refl _) hTX
  have hak := hak.new (q := q58) hlg.2.2.1 hTX
  have hE := hE.ad hk8
  have hlg : lgC S (wN S56 50 0 18) (0 + 1 + dc_ak9 + 1 + dc_ak19 + 1 + dc_ak29 + 1 + 1 + dc_ak45 + 1 + dc_ak55 + 1) (0 + 2 + ds_ak9 + 2 + ds_ak19 + 2 + ds_ak29 + 12 + 12 + ds_ak45 + 10 + ds_ak55 + 18) := hlg.new (t := 50) (n := 0) ⟨hv57.1, hv57.2⟩
  have hs8 : shx S56 (wN S56 50 0 18) := shx.newCZ (t := 50) (n := 0) (k := 18) shx.rf hw8 hTX
  obtain ⟨am59, eam59⟩ : ∃ z, z = adx ak55 (qn S56) q58 := ⟨_, rfl⟩
  have eq_q58 : am59 (qn S56) = q58 := by rw [eam59]; exact if_pos rfl
  rw [← eam59] at hR hk8 hak hE
  obtain ⟨S60, eS60⟩ : ∃ z, z = wN S56 50 0 18 := ⟨_, rfl⟩
  rw [← eS60] at hR hlg hs8
  replace h := h S60 eS60 hR.w
  have hsh := hsh.tr hs8
  have hT_b61 : qT S60 (qn S56) = 50 := by rw [eS60]; exact if_pos rfl
  have ea_0 : am59 p0 = ak55 p0 := hk8 _ (hw8.hd hT_p0 (by decide) (by decide))
  have hT_p0 := hs8.T hT_p0 (by decide)
  have hl : lv_has ls 1 [(0, .ref (am59 p0))] := by simp only [ea_0]; exact hl
  refine W.eq (g2 := F0 m 72 ls [.ref (am59 (qn S56)), .ref (am59 p0)]) (by simp only [ea_0, eq_q58]) ?_
  clear hw8 hk8 hs8 hP hD hS e9 e8 e7 hTX
  refine lv_dup hx hb dX12_init_72 rfl ?_
  replace h := h (hT_b61)
  obtain ⟨Q62, h0, h⟩ := h
  have hFc := cfreeZ hR hA
  refine W_led2 (fun hL0 => ?_)
  refine va_callv (va_runIN (As := []) (rest := [.ref (am59 (qn S56)), .ref (am59 p0)]) ⟨hx, hb, hml, hown, hts⟩ (rzX11_init l g am59 H S60 (qn S56) hR.w hT_b61 Q62 h0) ⟨va_cnB 0 hts (gd_I kw_160) rfl rfl rfl (nw_of (by exact nn_X12_44) hex) (hts _ kw_83) (by decide +kernel) ⟨Nat.le_of_ble_eq_true rfl, Nat.le_of_ble_eq_true rfl⟩, rfl, hts _ kw_161⟩ ⟨cblindH, fun U hU hW9 => cmkHZ hU hW9 hR hex hE hFc⟩ rfl rfl hl.1 rfl (lv_room (Nat.le_of_ble_eq_true rfl)) dX12_init_73 ⟨(show 0 + 1 + dc_ak9 + 1 + dc_ak19 + 1 + dc_ak29 + 1 + 1 + dc_ak45 + 1 + dc_ak55 + 1 + (KCC - qn S60) ≤ KCC - qn S from hlg.cm), (show 0 + 2 + ds_ak9 + 2 + ds_ak19 + 2 + ds_ak29 + 12 + 12 + ds_ak45 + 10 + ds_ak55 + 18 + (KSC - qu S60) ≤ KSC - qu S from hlg.sm)⟩) hR.sS (fun q _ h => hFc q h) hFc (fun  S63 t9 H1 locs ht9 hvm9 hw9 hB9 hz9 hk9 hS => ?_)
  rcases S63 with ⟨S63, ak65⟩
  obtain ⟨hB9, dc9, ds9, hL9, hl9⟩ := hB9
  dsimp only at hw9 hB9 hl9
  rw [ht9] at hL9
  obtain ⟨hq64, hw9, hs9, hk8⟩ := hw9
  have hw8 := hR.w
  have hak := hak.tr hk8 hlg.2.2.1
  have hE := hE.ad hk8
  have hR : RepCZ g ak65 A s S63 H1 locs := hR.callH ht9 hB9 hw9 hS hFc
  have hsh := hsh.tr hs9
  refine W_tight2 (hL0.tr hL9).1 (hL0.tr hL9).2.1 ?_
  have hlg := hlg.call hl9
  replace h := h  S63 hq64 hw9 hs9
  have ea_0 : ak65 p0 = am59 p0 := hk8 _ (hw8.hd hT_p0 (by decide) (by decide))
  have ea_1 : ak65 (qn S56) = am59 (qn S56) := hk8 _ (hw8.hd hT_b61 (by decide) (by decide))
  have hl : lv_has ls 1 [(0, .ref (ak65 p0))] := by simp only [ea_0, ea_1]; exact hl
  refine W.eq (g2 := F0 m 76 ls ([.ref (ak65 (qn S56)), .ref (ak65 p0)])) (by first | (simp only [ea_0, ea_1]; rfl) | simp only [ea_0, ea_1]) ?_
  have hT_p0 := hs9.T hT_p0 (by decide)
  have hT_b61 := hs9.T hT_b61 (by decide)
  clear hB9 hz9 hk9 hvm9 ht9 hw9 hs9 hS hL0 hL9
  generalize H1 = H at hR ⊢
  generalize dc9 = dc_ak65, ds9 = ds_ak65 at hlg ⊢
  refine va_putF (D := rD g) (ci := 11) (v := .ref (ak65 (qn S56))) (ty := (.object "CodeFoundry$Writer")) (C := RX12) (T := TX12) (N := 18) hx hb hts inX12 tyX12 tyX12_ok nmX12 hown hR.K hR.P hR.D hR.sS p0 (hR.at51 hT_p0) rfl 6 (by decide) (hts _ kw_321) (fun _ h9 => h9) rfl hin9 rfl (by decide +kernel) rfl rfl (Nat.le_of_ble_eq_true rfl) dX12_init_76 (fun H locs hP hD hS => ?_)
  have hw9 : wfCZ (wR S63 p0 6 (some (qn S56))) := hR.w.put (fun b q9 => by cases q9; exact (hT_b61).trans (by rw [hT_p0]; rfl)) (fun _ h9 => absurd h9 List.not_mem_nil) (by rw [hT_p0]; decide) (fun b _ q9 => absurd (show otgC (qT S63 p0) 6 = 0 by rw [hT_p0]; decide) q9) (fun _ => Option.some_ne_none _)
  have hTk9 : qT S63 p0 = 51 := hT_p0
  have hR : RepCZ g ak65 A s (wR S63 p0 6 (some (qn S56))) H locs := hR.pR51 hT_p0 FX12_s6 hw9 hP hD hS
  obtain ⟨S66, eS66⟩ : ∃ z, z = wR S63 p0 6 (some (qn S56)) := ⟨_, rfl⟩
  rw [← eS66] at hR
  replace h := h S66 eS66 hTk9 hR.w
  have hT_p0 : qT S66 p0 = 51 := (congrArg (fun z => qT z p0) eS66).trans hT_p0
  have hsh : shx S S66 := by rw [eS66]; exact hsh
  have hlg : lgC S S66 (0 + 1 + dc_ak9 + 1 + dc_ak19 + 1 + dc_ak29 + 1 + 1 + dc_ak45 + 1 + dc_ak55 + 1 + dc_ak65) (0 + 2 + ds_ak9 + 2 + ds_ak19 + 2 + ds_ak29 + 12 + 12 + ds_ak45 + 10 + ds_ak55 + 18 + ds_ak65) := by rw [eS66]; exact hlg
  refine lv_aload_n hx hb dX12_init_79 rfl (lv_at hl 0 rfl) ?_
  obtain ⟨hv67, h⟩ := h
  have e9 : KCC = 300000 := rfl
  have e8 : KSC = 3553400 := rfl
  have e7 : TXB = 10000000 := rfl
  have hTX : qn S66 < TXB := by have := hv67.1; omega
  refine va_new (ci := 5) (fs := dfX5) (C := RX5) (T := TX5) (N := 20) hx hb hts inX5 tyX5 tyX5_ok hown (hts _ kw_396) (hts _ kw_397) (hts _ kw_398) hR.K hR.P hR.D hR.sS hA rfl dfX5_ok (show 0 + 1 + dc_ak9 + 1 + dc_ak19 + 1 + dc_ak29 + 1 + 1 + dc_ak45 + 1 + dc_ak55 + 1 + dc_ak65 + 1 ≤ KCC - qn S from hlg.c1 hv67.1) (show 0 + 2 + ds_ak9 + 2 + ds_ak19 + 2 + ds_ak29 + 12 + 12 + ds_ak45 + 10 + ds_ak55 + 18 + ds_ak65 + 20 ≤ KSC - qu S from hlg.s1 hv67.2) dX12_init_80 (fun q68 H hP hD hS => ?_)
  have hw8 := hR.w
  have hR := hR.new (t := 45) (n := 0) (k := 20) hTX (by decide) (Nat.zero_le _) wN_C45 hP hD hS
  have hk8 : adk ak65 (adx ak65 (qn S66) q68) S66 := adk.rf.new (Nat.le_refl _) hTX
  have hak := hak.new (q := q68) hlg.2.2.1 hTX
  have hE := hE.ad hk8
  have hlg : lgC S (wN S66 45 0 20) (0 + 1 + dc_ak9 + 1 + dc_ak19 + 1 + dc_ak29 + 1 + 1 + dc_ak45 + 1 + dc_ak55 + 1 + dc_ak65 + 1) (0 + 2 + ds_ak9 + 2 + ds_ak19 + 2 + ds_ak29 + 12 + 12 + ds_ak45 + 10 + ds_ak55 + 18 + ds_ak65 + 20) := hlg.new (t := 45) (n := 0) ⟨hv67.1, hv67.2⟩
  have hs8 : shx S66 (wN S66 45 0 20) := shx.newCZ (t := 45) (n := 0) (k := 20) shx.rf hw8 hTX
  obtain ⟨am69, eam69⟩ : ∃ z, z = adx ak65 (qn S66) q68 := ⟨_, rfl⟩
  have eq_q68 : am69 (qn S66) = q68 := by rw [eam69]; exact if_pos rfl
  rw [← eam69] at hR hk8 hak hE
  obtain ⟨S70, eS70⟩ : ∃ z, z = wN S66 45 0 20 := ⟨_, rfl⟩
  rw [← eS70] at hR hlg hs8
  replace h := h S70 eS70 hR.w
  have hsh := hsh.tr hs8
  have hT_b71 : qT S70 (qn S66) = 45 := by rw [eS70]; exact if_pos rfl
  have ea_0 : am69 p0 = ak65 p0 := hk8 _ (hw8.hd hT_p0 (by decide) (by decide))
  have hT_p0 := hs8.T hT_p0 (by decide)
  have hl : lv_has ls 1 [(0, .ref (am69 p0))] := by simp only [ea_0]; exact hl
  refine W.eq (g2 := F0 m 83 ls [.ref (am69 (qn S66)), .ref (am69 p0)]) (by simp only [ea_0, eq_q68]) ?_
  clear hw8 hk8 hs8 hP hD hS e9 e8 e7 hTX
  refine lv_dup hx hb dX12_init_83 rfl ?_
  replace h := h (hT_b71)
  obtain ⟨Q72, h0, h⟩ := h
  have hFc := cfreeZ hR hA
  refine W_led2 (fun hL0 => ?_)
  refine va_callv (va_runIN (As := []) (rest := [.ref (am69 (qn S66)), .ref (am69 p0)]) ⟨hx, hb, hml, hown, hts⟩ (rzX5_init l g am69 H S70 (qn S66) hR.w hT_b71 Q72 h0) ⟨va_cnB 0 hts (gd_I kw_1070) rfl rfl rfl (nw_of (by exact nn_X12_51) hex) (hts _ kw_398) (by decide +kernel) ⟨Nat.le_of_ble_eq_true rfl, Nat.le_of_ble_eq_true rfl⟩, rfl, hts _ kw_1071⟩ ⟨cblindH, fun U hU hW9 => cmkHZ hU hW9 hR hex hE hFc⟩ rfl rfl hl.1 rfl (lv_room (Nat.le_of_ble_eq_true rfl)) dX12_init_84 ⟨(show 0 + 1 + dc_ak9 + 1 + dc_ak19 + 1 + dc_ak29 + 1 + 1 + dc_ak45 + 1 + dc_ak55 + 1 + dc_ak65 + 1 + (KCC - qn S70) ≤ KCC - qn S from hlg.cm), (show 0 + 2 + ds_ak9 + 2 + ds_ak19 + 2 + ds_ak29 + 12 + 12 + ds_ak45 + 10 + ds_ak55 + 18 + ds_ak65 + 20 + (KSC - qu S70) ≤ KSC - qu S from hlg.sm)⟩) hR.sS (fun q _ h => hFc q h) hFc (fun  S73 t9 H1 locs ht9 hvm9 hw9 hB9 hz9 hk9 hS => ?_)
  rcases S73 with ⟨S73, ak75⟩
  obtain ⟨hB9, dc9, ds9, hL9, hl9⟩ := hB9
  dsimp only at hw9 hB9 hl9
  rw [ht9] at hL9
  obtain ⟨hq74, hw9, hs9, hk8⟩ := hw9
  have hw8 := hR.w
  have hak := hak.tr hk8 hlg.2.2.1
  have hE := hE.ad hk8
  have hR : RepCZ g ak75 A s S73 H1 locs := hR.callH ht9 hB9 hw9 hS hFc
  have hsh := hsh.tr hs9
  refine W_tight2 (hL0.tr hL9).1 (hL0.tr hL9).2.1 ?_
  have hlg := hlg.call hl9
  replace h := h  S73 hq74 hw9 hs9
  have ea_0 : ak75 p0 = am69 p0 := hk8 _ (hw8.hd hT_p0 (by decide) (by decide))
  have ea_1 : ak75 (qn S66) = am69 (qn S66) := hk8 _ (hw8.hd hT_b71 (by decide) (by decide))
  have hl : lv_has ls 1 [(0, .ref (ak75 p0))] := by simp only [ea_0, ea_1]; exact hl
  refine W.eq (g2 := F0 m 87 ls ([.ref (ak75 (qn S66)), .ref (ak75 p0)])) (by first | (simp only [ea_0, ea_1]; rfl) | simp only [ea_0, ea_1]) ?_
  have hT_p0 := hs9.T hT_p0 (by decide)
  have hT_b71 := hs9.T hT_b71 (by decide)
  clear hB9 hz9 hk9 hvm9 ht9 hw9 hs9 hS hL0 hL9
  generalize H1 = H at hR ⊢
  generalize dc9 = dc_ak75, ds9 = ds_ak75 at hlg ⊢
  refine va_putF (D := rD g) (ci := 11) (v := .ref (ak75 (qn S66))) (ty := (.object "CodeFoundry$Machine")) (C := RX12) (T := TX12) (N := 18) hx hb hts inX12 tyX12 tyX12_ok nmX12 hown hR.K hR.P hR.D hR.sS p0 (hR.at51 hT_p0) rfl 7 (by decide) (hts _ kw_286) (fun _ h9 => h9) rfl hin9 rfl (by decide +kernel) rfl rfl (Nat.le_of_ble_eq_true rfl) dX12_init_87 (fun H locs hP hD hS => ?_)
  have hw9 : wfCZ (wR S73 p0 7 (some (qn S66))) := hR.w.put (fun b q9 => by cases q9; exact (hT_b71).trans (by rw [hT_p0]; rfl)) (fun _ h9 => absurd h9 List.not_mem_nil) (by rw [hT_p0]; decide) (fun b _ q9 => absurd (show otgC (qT S73 p0) 7 = 0 by rw [hT_p0]; decide) q9) (fun _ => Option.some_ne_none _)
  have hTk9 : qT S73 p0 = 51 := hT_p0
  have hR : RepCZ g ak75 A s (wR S73 p0 7 (some (qn S66))) H locs := hR.pR51 hT_p0 FX12_s7 hw9 hP hD hS
  obtain ⟨S76, eS76⟩ : ∃ z, z = wR S73 p0 7 (some (qn S66)) := ⟨_, rfl⟩
  rw [← eS76] at hR
  replace h := h S76 eS76 hTk9 hR.w
  have hT_p0 : qT S76 p0 = 51 := (congrArg (fun z => qT z p0) eS76).trans hT_p0
  have hsh : shx S S76 := by rw [eS76]; exact hsh
  have hlg : lgC S S76 (0 + 1 + dc_ak9 + 1 + dc_ak19 + 1 + dc_ak29 + 1 + 1 + dc_ak45 + 1 + dc_ak55 + 1 + dc_ak65 + 1 + dc_ak75) (0 + 2 + ds_ak9 + 2 + ds_ak19 + 2 + ds_ak29 + 12 + 12 + ds_ak45 + 10 + ds_ak55 + 18 + ds_ak65 + 20 + ds_ak75) := by rw [eS76]; exact hlg
  refine lv_aload_n hx hb dX12_init_90 rfl (lv_at hl 0 rfl) ?_
  obtain ⟨hv77, h⟩ := h
  have e9 : KCC = 300000 := rfl
  have e8 : KSC = 3553400 := rfl
  have e7 : TXB = 10000000 := rfl
  have hTX : qn S76 < TXB := by have := hv77.1; omega
  refine va_new (ci := 3) (fs := dfX3) (C := RX3) (T := TX3) (N := 16) hx hb hts inX3 tyX3 tyX3_ok hown (hts _ kw_399) (hts _ kw_400) (hts _ kw_401) hR.K hR.P hR.D hR.sS hA rfl dfX3_ok (show 0 + 1 + dc_ak9 + 1 + dc_ak19 + 1 + dc_ak29 + 1 + 1 + dc_ak45 + 1 + dc_ak55 + 1 + dc_ak65 + 1 + dc_ak75 + 1 ≤ KCC - qn S from hlg.c1 hv77.1) (show 0 + 2 + ds_ak9 + 2 + ds_ak19 + 2 + ds_ak29 + 12 + 12 + ds_ak45 + 10 + ds_ak55 + 18 + ds_ak65 + 20 + ds_ak75 + 16 ≤ KSC - qu S from hlg.s1 hv77.2) dX12_init_91 (fun q78 H hP hD hS => ?_)
  have hw8 := hR.w
  have hR := hR.new (t := 43) (n := 0) (k := 16) hTX (by decide) (Nat.zero_le _) wN_C43 hP hD hS
  have hk8 : adk ak75 (adx ak75 (qn S76) q78) S76 := adk.rf.new (Nat.le_refl _) hTX
  have hak := hak.new (q := q78) hlg.2.2.1 hTX
  have hE := hE.ad hk8
  have hlg : lgC S (wN S76 43 0 16) (0 + 1 + dc_ak9 + 1 + dc_ak19 + 1 + dc_ak29 + 1 + 1 + dc_ak45 + 1 + dc_ak55 + 1 + dc_ak65 + 1 + dc_ak75 + 1) (0 + 2 + ds_ak9 + 2 + ds_ak19 + 2 + ds_ak29 + 12 + 12 + ds_ak45 + 10 + ds_ak55 + 18 + ds_ak65 + 20 + ds_ak75 + 16) := hlg.new (t := 43) (n := 0) ⟨hv77.1, hv77.2⟩
  have hs8 : shx S76 (wN S76 43 0 16) := shx.newCZ (t := 43) (n := 0) (k := 16) shx.rf hw8 hTX
  obtain ⟨am79, eam79⟩ : ∃ z, z = adx ak75 (qn S76) q78 := ⟨_, rfl⟩
  have eq_q78 : am79 (qn S76) = q78 := by rw [eam79]; exact if_pos rfl
  rw [← eam79] at hR hk8 hak hE
  obtain ⟨S80, eS80⟩ : ∃ z, z = wN S76 43 0 16 := ⟨_, rfl⟩
  rw [← eS80] at hR hlg hs8
  replace h := h S80 eS80 hR.w
  have hsh := hsh.tr hs8
  have hT_b81 : qT S80 (qn S76) = 43 := by rw [eS80]; exact if_pos rfl
  have ea_0 : am79 p0 = ak75 p0 := hk8 _ (hw8.hd hT_p0 (by decide) (by decide))
  have hT_p0 := hs8.T hT_p0 (by decide)
  have hl : lv_has ls 1 [(0, .ref (am79 p0))] := by simp only [ea_0]; exact hl
  refine W.eq (g2 := F0 m 94 ls [.ref (am79 (qn S76)), .ref (am79 p0)]) (by simp only [ea_0, eq_q78]) ?_
  clear hw8 hk8 hs8 hP hD hS e9 e8 e7 hTX
  refine lv_dup hx hb dX12_init_94 rfl ?_
  replace h := h (hT_b81)
  obtain ⟨Q82, h0, h⟩ := h
  have hFc := cfreeZ hR hA
  refine W_led2 (fun hL0 => ?_)
  refine va_callv (va_runIN (As := []) (rest := [.ref (am79 (qn S76)), .ref (am79 p0)]) ⟨hx, hb, hml, hown, hts⟩ (rzX3_init l g am79 H S80 (qn S76) hR.w hT_b81 Q82 h0) ⟨va_cnB 0 hts (gd_I kw_926) rfl rfl rfl (nw_of (by exact nn_X12_58) hex) (hts _ kw_401) (by decide +kernel) ⟨Nat.le_of_ble_eq_true rfl, Nat.le_of_ble_eq_true rfl⟩, rfl, hts _ kw_927⟩ ⟨cblindH, fun U hU hW9 => cmkHZ hU hW9 hR hex hE hFc⟩ rfl rfl hl.1 rfl (lv_room (Nat.le_of_ble_eq_true rfl)) dX12_init_95 ⟨(show 0 + 1 + dc_ak9 + 1 + dc_ak19 + 1 + dc_ak29 + 1 + 1 + dc_ak45 + 1 + dc_ak55 + 1 + dc_ak65 + 1 + dc_ak75 + 1 + (KCC - qn S80) ≤ KCC - qn S from hlg.cm), (show 0 + 2 + ds_ak9 + 2 + ds_ak19 + 2 + ds_ak29 + 12 + 12 + ds_ak45 + 10 + ds_ak55 + 18 + ds_ak65 + 20 + ds_ak75 + 16 + (KSC - qu S80) ≤ KSC - qu S from hlg.sm)⟩) hR.sS (fun q _ h => hFc q h) hFc (fun  S83 t9 H1 locs ht9 hvm9 hw9 hB9 hz9 hk9 hS => ?_)
  rcases S83 with ⟨S83, ak85⟩
  obtain ⟨hB9, dc9, ds9, hL9, hl9⟩ := hB9
  dsimp only at hw9 hB9 hl9
  rw [ht9] at hL9
  obtain ⟨hq84, hw9, hs9, hk8⟩ := hw9
  have hw8 := hR.w
  have hak := hak.tr hk8 hlg.2.2.1
  have hE := hE.ad hk8
  have hR : RepCZ g ak85 A s S83 H1 locs := hR.callH ht9 hB9 hw9 hS hFc
  have hsh := hsh.tr hs9
  refine W_tight2 (hL0.tr hL9).1 (hL0.tr hL9).2.1 ?_
  have hlg := hlg.call hl9
  replace h := h  S83 hq84 hw9 hs9
  have ea_0 : ak85 p0 = am79 p0 := hk8 _ (hw8.hd hT_p0 (by decide) (by decide))
  have ea_1 : ak85 (qn S76) = am79 (qn S76) := hk8 _ (hw8.hd hT_b81 (by decide) (by decide))
  have hl : lv_has ls 1 [(0, .ref (ak85 p0))] := by simp only [ea_0, ea_1]; exact hl
  refine W.eq (g2 := F0 m 98 ls ([.ref (ak85 (qn S76)), .ref (ak85 p0)])) (by first | (simp only [ea_0, ea_1]; rfl) | simp only [ea_0, ea_1]) ?_
  have hT_p0 := hs9.T hT_p0 (by decide)
  have hT_b81 := hs9.T hT_b81 (by decide)
  clear hB9 hz9 hk9 hvm9 ht9 hw9 hs9 hS hL0 hL9
  generalize H1 = H at hR ⊢
  generalize dc9 = dc_ak85, ds9 = ds_ak85 at hlg ⊢
  refine va_putF (D := rD g) (ci := 11) (v := .ref (ak85 (qn S76))) (ty := (.object "CodeFoundry$Graph")) (C := RX12) (T := TX12) (N := 18) hx hb hts inX12 tyX12 tyX12_ok nmX12 hown hR.K hR.P hR.D hR.sS p0 (hR.at51 hT_p0) rfl 8 (by decide) (hts _ kw_300) (fun _ h9 => h9) rfl hin9 rfl (by decide +kernel) rfl rfl (Nat.le_of_ble_eq_true rfl) dX12_init_98 (fun H locs hP hD hS => ?_)
  have hw9 : wfCZ (wR S83 p0 8 (some (qn S76))) := hR.w.put (fun b q9 => by cases q9; exact (hT_b81).trans (by rw [hT_p0]; rfl)) (fun _ h9 => absurd h9 List.not_mem_nil) (by rw [hT_p0]; decide) (fun b _ q9 => absurd (show otgC (qT S83 p0) 8 = 0 by rw [hT_p0]; decide) q9) (fun _ => Option.some_ne_none _)
  have hTk9 : qT S83 p0 = 51 := hT_p0
  have hR : RepCZ g ak85 A s (wR S83 p0 8 (some (qn S76))) H locs := hR.pR51 hT_p0 FX12_s8 hw9 hP hD hS
  obtain ⟨S86, eS86⟩ : ∃ z, z = wR S83 p0 8 (some (qn S76)) := ⟨_, rfl⟩
  rw [← eS86] at hR
  replace h := h S86 eS86 hTk9 hR.w
  have hT_p0 : qT S86 p0 = 51 := (congrArg (fun z => qT z p0) eS86).trans hT_p0
  have hsh : shx S S86 := by rw [eS86]; exact hsh
  have hlg : lgC S S86 (0 + 1 + dc_ak9 + 1 + dc_ak19 + 1 + dc_ak29 + 1 + 1 + dc_ak45 + 1 + dc_ak55 + 1 + dc_ak65 + 1 + dc_ak75 + 1 + dc_ak85) (0 + 2 + ds_ak9 + 2 + ds_ak19 + 2 + ds_ak29 + 12 + 12 + ds_ak45 + 10 + ds_ak55 + 18 + ds_ak65 + 20 + ds_ak75 + 16 + ds_ak85) := by rw [eS86]; exact hlg
  refine lv_aload_n hx hb dX12_init_101 rfl (lv_at hl 0 rfl) ?_
  obtain ⟨hv87, h⟩ := h
  have e9 : KCC = 300000 := rfl
  have e8 : KSC = 3553400 := rfl
  have e7 : TXB = 10000000 := rfl
  have hTX : qn S86 < TXB := by have := hv87.1; omega
  refine va_new (ci := 8) (fs := dfX9) (C := RX9) (T := TX9) (N := 6) hx hb hts inX9 tyX9 tyX9_ok hown (hts _ kw_402) (hts _ kw_403) (hts _ kw_404) hR.K hR.P hR.D hR.sS hA rfl dfX9_ok (show 0 + 1 + dc_ak9 + 1 + dc_ak19 + 1 + dc_ak29 + 1 + 1 + dc_ak45 + 1 + dc_ak55 + 1 + dc_ak65 + 1 + dc_ak75 + 1 + dc_ak85 + 1 ≤ KCC - qn S from hlg.c1 hv87.1) (show 0 + 2 + ds_ak9 + 2 + ds_ak19 + 2 + ds_ak29 + 12 + 12 + ds_ak45 + 10 + ds_ak55 + 18 + ds_ak65 + 20 + ds_ak75 + 16 + ds_ak85 + 6 ≤ KSC - qu S from hlg.s1 hv87.2) dX12_init_102 (fun q88 H hP hD hS => ?_)
  have hw8 := hR.w
  have hR := hR.new (t := 48) (n := 0) (k := 6) hTX (by decide) (Nat.zero_le _) wN_C48 hP hD hS
  have hk8 : adk ak85 (adx ak85 (qn S86) q88) S86 := adk.rf.new (Nat.le_refl _) hTX
  have hak := hak.new (q := q88) hlg.2.2.1 hTX
  have hE := hE.ad hk8
  have hlg : lgC S (wN S86 48 0 6) (0 + 1 + dc_ak9 + 1 + dc_ak19 + 1 + dc_ak29 + 1 + 1 + dc_ak45 + 1 + dc_ak55 + 1 + dc_ak65 + 1 + dc_ak75 + 1 + dc_ak85 + 1) (0 + 2 + ds_ak9 + 2 + ds_ak19 + 2 + ds_ak29 + 12 + 12 + ds_ak45 + 10 + ds_ak55 + 18 + ds_ak65 + 20 + ds_ak75 + 16 + ds_ak85 + 6) := hlg.new (t := 48) (n := 0) ⟨hv87.1, hv87.2⟩
  have hs8 : shx S86 (wN S86 48 0 6) := shx.newCZ (t := 48) (n := 0) (k := 6) shx.rf hw8 hTX
  obtain ⟨am89, eam89⟩ : ∃ z, z = adx ak85 (qn S86) q88 := ⟨_, rfl⟩
  have eq_q88 : am89 (qn S86) = q88 := by rw [eam89]; exact if_pos rfl
  rw [← eam89] at hR hk8 hak hE
  obtain ⟨S90, eS90⟩ : ∃ z, z = wN S86 48 0 6 := ⟨_, rfl⟩
  rw [← eS90] at hR hlg hs8
  replace h := h S90 eS90 hR.w
  have hsh := hsh.tr hs8
  have hT_b91 : qT S90 (qn S86) = 48 := by rw [eS90]; exact if_pos rfl
  have ea_0 : am89 p0 = ak85 p0 := hk8 _ (hw8.hd hT_p0 (by decide) (by decide))
  have hT_p0 := hs8.T hT_p0 (by decide)
  have hl : lv_has ls 1 [(0, .ref (am89 p0))] := by simp only [ea_0]; exact hl
  refine W.eq (g2 := F0 m 105 ls [.ref (am89 (qn S86)), .ref (am89 p0)]) (by simp only [ea_0, eq_q88]) ?_
  clear hw8 hk8 hs8 hP hD hS e9 e8 e7 hTX
  refine lv_dup hx hb dX12_init_105 rfl ?_
  replace h := h (hT_b91)
  obtain ⟨Q92, h0, h⟩ := h
  have hFc := cfreeZ hR hA
  refine W_led2 (fun hL0 => ?_)
  refine va_callv (va_runIN (As := []) (rest := [.ref (am89 (qn S86)), .ref (am89 p0)]) ⟨hx, hb, hml, hown, hts⟩ (rzX9_init l g am89 H S90 (qn S86) hR.w hT_b91 Q92 h0) ⟨va_cnB 0 hts (gd_I kw_1587) rfl rfl rfl (nw_of (by exact nn_X12_65) hex) (hts _ kw_404) (by decide +kernel) ⟨Nat.le_of_ble_eq_true rfl, Nat.le_of_ble_eq_true rfl⟩, rfl, hts _ kw_1588⟩ ⟨cblindH, fun U hU hW9 => cmkHZ hU hW9 hR hex hE hFc⟩ rfl rfl hl.1 rfl (lv_room (Nat.le_of_ble_eq_true rfl)) dX12_init_106 ⟨(show 0 + 1 + dc_ak9 + 1 + dc_ak19 + 1 + dc_ak29 + 1 + 1 + dc_ak45 + 1 + dc_ak55 + 1 + dc_ak65 + 1 + dc_ak75 + 1 + dc_ak85 + 1 + (KCC - qn S90) ≤ KCC - qn S from hlg.cm), (show 0 + 2 + ds_ak9 + 2 + ds_ak19 + 2 + ds_ak29 + 12 + 12 + ds_ak45 + 10 + ds_ak55 + 18 + ds_ak65 + 20 + ds_ak75 + 16 + ds_ak85 + 6 + (KSC - qu S90) ≤ KSC - qu S from hlg.sm)⟩) hR.sS (fun q _ h => hFc q h) hFc (fun  S93 t9 H1 locs ht9 hvm9 hw9 hB9 hz9 hk9 hS => ?_)
  rcases S93 with ⟨S93, ak95⟩
  obtain ⟨hB9, dc9, ds9, hL9, hl9⟩ := hB9
  dsimp only at hw9 hB9 hl9
  rw [ht9] at hL9
  obtain ⟨hq94, hw9, hs9, hk8⟩ := hw9
  have hw8 := hR.w
  have hak := hak.tr hk8 hlg.2.2.1
  have hE := hE.ad hk8
  have hR : RepCZ g ak95 A s S93 H1 locs := hR.callH ht9 hB9 hw9 hS hFc
  have hsh := hsh.tr hs9
  refine W_tight2 (hL0.tr hL9).1 (hL0.tr hL9).2.1 ?_
  have hlg := hlg.call hl9
  replace h := h  S93 hq94 hw9 hs9
  have ea_0 : ak95 p0 = am89 p0 := hk8 _ (hw8.hd hT_p0 (by decide) (by decide))
  have ea_1 : ak95 (qn S86) = am89 (qn S86) := hk8 _ (hw8.hd hT_b91 (by decide) (by decide))
  have hl : lv_has ls 1 [(0, .ref (ak95 p0))] := by simp only [ea_0, ea_1]; exact hl
  refine W.eq (g2 := F0 m 109 ls ([.ref (ak95 (qn S86)), .ref (ak95 p0)])) (by first | (simp only [ea_0, ea_1]; rfl) | simp only [ea_0, ea_1]) ?_
  have hT_p0 := hs9.T hT_p0 (by decide)
  have hT_b91 := hs9.T hT_b91 (by decide)
  clear hB9 hz9 hk9 hvm9 ht9 hw9 hs9 hS hL0 hL9
  generalize H1 = H at hR ⊢
  generalize dc9 = dc_ak95, ds9 = ds_ak95 at hlg ⊢
  refine va_putF (D := rD g) (ci := 11) (v := .ref (ak95 (qn S86))) (ty := (.object "CodeFoundry$Smith")) (C := RX12) (T := TX12) (N := 18) hx hb hts inX12 tyX12 tyX12_ok nmX12 hown hR.K hR.P hR.D hR.sS p0 (hR.at51 hT_p0) rfl 9 (by decide) (hts _ kw_281) (fun _ h9 => h9) rfl hin9 rfl (by decide +kernel) rfl rfl (Nat.le_of_ble_eq_true rfl) dX12_init_109 (fun H locs hP hD hS => ?_)
  have hw9 : wfCZ (wR S93 p0 9 (some (qn S86))) := hR.w.put (fun b q9 => by cases q9; exact (hT_b91).trans (by rw [hT_p0]; rfl)) (fun _ h9 => absurd h9 List.not_mem_nil) (by rw [hT_p0]; decide) (fun b _ q9 => absurd (show otgC (qT S93 p0) 9 = 0 by rw [hT_p0]; decide) q9) (fun _ => Option.some_ne_none _)
  have hTk9 : qT S93 p0 = 51 := hT_p0
  have hR : RepCZ g ak95 A s (wR S93 p0 9 (some (qn S86))) H locs := hR.pR51 hT_p0 FX12_s9 hw9 hP hD hS
  obtain ⟨S96, eS96⟩ : ∃ z, z = wR S93 p0 9 (some (qn S86)) := ⟨_, rfl⟩
  rw [← eS96] at hR
  replace h := h S96 eS96 hTk9 hR.w
  have hT_p0 : qT S96 p0 = 51 := (congrArg (fun z => qT z p0) eS96).trans hT_p0
  have hsh : shx S S96 := by rw [eS96]; exact hsh
  have hlg : lgC S S96 (0 + 1 + dc_ak9 + 1 + dc_ak19 + 1 + dc_ak29 + 1 + 1 + dc_ak45 + 1 + dc_ak55 + 1 + dc_ak65 + 1 + dc_ak75 + 1 + dc_ak85 + 1 + dc_ak95) (0 + 2 + ds_ak9 + 2 + ds_ak19 + 2 + ds_ak29 + 12 + 12 + ds_ak45 + 10 + ds_ak55 + 18 + ds_ak65 + 20 + ds_ak75 + 16 + ds_ak85 + 6 + ds_ak95) := by rw [eS96]; exact hlg
  refine lv_aload_n hx hb dX12_init_112 rfl (lv_at hl 0 rfl) ?_
  refine lv_iconst (v := (-1)) hx hb dX12_init_113 (by decide) ?_
  refine va_put (D := rD g) (ci := 11) (v := .int (-1)) (ty := .int) (C := RX12) (T := TX12) (N := 18) hx hb hts inX12 tyX12 tyX12_ok nmX12 hown hR.K hR.P hR.D hR.sS p0 (hR.at51 hT_p0) rfl 14 (by decide) (hts _ kw_371) (fun _ h9 => h9) rfl (by decide +kernel) rfl rfl (Nat.le_of_ble_eq_true rfl) dX12_init_114 (fun H locs hP hD hS => ?_)
  have hTk9 : qT S96 p0 = 51 := hT_p0
  have hR : RepCZ g ak95 A s (wI S96 p0 14 (-1 : Int32)) H locs := hR.pI51 hT_p0 FX12_s14 (fun q9 => absurd q9 (by decide)) hP hD hS
  obtain ⟨S97, eS97⟩ : ∃ z, z = wI S96 p0 14 (-1 : Int32) := ⟨_, rfl⟩
  rw [← eS97] at hR
  replace h := h S97 eS97 hTk9 hR.w
  have hT_p0 : qT S97 p0 = 51 := (congrArg (fun z => qT z p0) eS97).trans hT_p0
  have hsh : shx S S97 := by rw [eS97]; exact hsh
  have hlg : lgC S S97 (0 + 1 + dc_ak9 + 1 + dc_ak19 + 1 + dc_ak29 + 1 + 1 + dc_ak45 + 1 + dc_ak55 + 1 + dc_ak65 + 1 + dc_ak75 + 1 + dc_ak85 + 1 + dc_ak95) (0 + 2 + ds_ak9 + 2 + ds_ak19 + 2 + ds_ak29 + 12 + 12 + ds_ak45 + 10 + ds_ak55 + 18 + ds_ak65 + 20 + ds_ak75 + 16 + ds_ak85 + 6 + ds_ak95) := by rw [eS97]; exact hlg
  refine lv_aload_n hx hb dX12_init_117 rfl (lv_at hl 0 rfl) ?_
  refine lv_iconst (v := (-1)) hx hb dX12_init_118 (by decide) ?_
  refine va_put (D := rD g) (ci := 11) (v := .int (-1)) (ty := .int) (C := RX12) (T := TX12) (N := 18) hx hb hts inX12 tyX12 tyX12_ok nmX12 hown hR.K hR.P hR.D hR.sS p0 (hR.at51 hT_p0) rfl 15 (by decide) (hts _ kw_405) (fun _ h9 => h9) rfl (by decide +kernel) rfl rfl (Nat.le_of_ble_eq_true rfl) dX12_init_119 (fun H locs hP hD hS => ?_)
  have hTk9 : qT S97 p0 = 51 := hT_p0
  have hR : RepCZ g ak95 A s (wI S97 p0 15 (-1 : Int32)) H locs := hR.pI51 hT_p0 FX12_s15 (fun q9 => absurd q9 (by decide)) hP hD hS
  obtain ⟨S98, eS98⟩ : ∃ z, z = wI S97 p0 15 (-1 : Int32) := ⟨_, rfl⟩
  rw [← eS98] at hR
  replace h := h S98 eS98 hTk9 hR.w
  have hT_p0 : qT S98 p0 = 51 := (congrArg (fun z => qT z p0) eS98).trans hT_p0
  have hsh : shx S S98 := by rw [eS98]; exact hsh
  have hlg : lgC S S98 (0 + 1 + dc_ak9 + 1 + dc_ak19 + 1 + dc_ak29 + 1 + 1 + dc_ak45 + 1 + dc_ak55 + 1 + dc_ak65 + 1 + dc_ak75 + 1 + dc_ak85 + 1 + dc_ak95) (0 + 2 + ds_ak9 + 2 + ds_ak19 + 2 + ds_ak29 + 12 + 12 + ds_ak45 + 10 + ds_ak55 + 18 + ds_ak65 + 20 + ds_ak75 + 16 + ds_ak85 + 6 + ds_ak95) := by rw [eS98]; exact hlg
  refine lv_aload_n hx hb dX12_init_122 rfl (lv_at hl 0 rfl) ?_
  refine lv_iconst (v := (-1)) hx hb dX12_init_123 (by decide) ?_
  refine va_put (D := rD g) (ci := 11) (v := .int (-1)) (ty := .int) (C := RX12) (T := TX12) (N := 18) hx hb hts inX12 tyX12 tyX12_ok nmX12 hown hR.K hR.P hR.D hR.sS p0 (hR.at51 hT_p0) rfl 16 (by decide) (hts _ kw_295) (fun _ h9 => h9) rfl (by decide +kernel) rfl rfl (Nat.le_of_ble_eq_true rfl) dX12_init_124 (fun H locs hP hD hS => ?_)
  have hTk9 : qT S98 p0 = 51 := hT_p0
  have hR : RepCZ g ak95 A s (wI S98 p0 16 (-1 : Int32)) H locs := hR.pI51 hT_p0 FX12_s16 (fun q9 => absurd q9 (by decide)) hP hD hS
  obtain ⟨S99, eS99⟩ : ∃ z, z = wI S98 p0 16 (-1 : Int32) := ⟨_, rfl⟩
  rw [← eS99] at hR
  replace h := h S99 eS99 hTk9 hR.w
  have hT_p0 : qT S99 p0 = 51 := (congrArg (fun z => qT z p0) eS99).trans hT_p0
  have hsh : shx S S99 := by rw [eS99]; exact hsh
  have hlg : lgC S S99 (0 + 1 + dc_ak9 + 1 + dc_ak19 + 1 + dc_ak29 + 1 + 1 + dc_ak45 + 1 + dc_ak55 + 1 + dc_ak65 + 1 + dc_ak75 + 1 + dc_ak85 + 1 + dc_ak95) (0 + 2 + ds_ak9 + 2 + ds_ak19 + 2 + ds_ak29 + 12 + 12 + ds_ak45 + 10 + ds_ak55 + 18 + ds_ak65 + 20 + ds_ak75 + 16 + ds_ak85 + 6 + ds_ak95) := by rw [eS99]; exact hlg
  refine lv_aload_n hx hb dX12_init_127 rfl (lv_at hl 0 rfl) ?_
  refine lv_iconst (v := (-1)) hx hb dX12_init_128 (by decide) ?_
  refine va_put (D := rD g) (ci := 11) (v := .int (-1)) (ty := .int) (C := RX12) (T := TX12) (N := 18) hx hb hts inX12 tyX12 tyX12_ok nmX12 hown hR.K hR.P hR.D hR.sS p0 (hR.at51 hT_p0) rfl 17 (by decide) (hts _ kw_406) (fun _ h9 => h9) rfl (by decide +kernel) rfl rfl (Nat.le_of_ble_eq_true rfl) dX12_init_129 (fun H locs hP hD hS => ?_)
  have hTk9 : qT S99 p0 = 51 := hT_p0
  have hR : RepCZ g ak95 A s (wI S99 p0 17 (-1 : Int32)) H locs := hR.pI51 hT_p0 FX12_s17 (fun q9 => absurd q9 (by decide)) hP hD hS
  obtain ⟨S100, eS100⟩ : ∃ z, z = wI S99 p0 17 (-1 : Int32) := ⟨_, rfl⟩
  rw [← eS100] at hR
  replace h := h S100 eS100 hTk9 hR.w
  have hT_p0 : qT S100 p0 = 51 := (congrArg (fun z => qT z p0) eS100).trans hT_p0
  have hsh : shx S S100 := by rw [eS100]; exact hsh
  have hlg : lgC S S100 (0 + 1 + dc_ak9 + 1 + dc_ak19 + 1 + dc_ak29 + 1 + 1 + dc_ak45 + 1 + dc_ak55 + 1 + dc_ak65 + 1 + dc_ak75 + 1 + dc_ak85 + 1 + dc_ak95) (0 + 2 + ds_ak9 + 2 + ds_ak19 + 2 + ds_ak29 + 12 + 12 + ds_ak45 + 10 + ds_ak55 + 18 + ds_ak65 + 20 + ds_ak75 + 16 + ds_ak85 + 6 + ds_ak95) := by rw [eS100]; exact hlg
  refine W_led2 (fun hLd => ?_)
  refine W.widen (k := KCC - qn S) (n := KSC - qu S) hlg.c hlg.s ?_
  exact W.vret hx hb hr (fun t9 ht9 hW9 => ⟨⟨(S100, ak95), rfl, ⟨h, hR.w, hsh, hak⟩, ⟨⟨by rw [ht9]; exact hR.P, hR.D⟩, _, _, by rw [ht9]; exact hLd, hlg⟩⟩, hR.sS.F ht9⟩) hR.sS.2.2 dX12_init_132
