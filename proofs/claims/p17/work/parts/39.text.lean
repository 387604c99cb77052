set_option maxHeartbeats 1000000 in
set_option maxRecDepth 100000 in
theorem m_J3_checkIndex_8e157 (l : Launch) (g : Gm) (sz : Nat) (ws : va_W) (x0 : Int32) (x1 : Int32) (b2 : Nat) (hG : Good g ws) (pi : 0 ≤ x0.toInt ∧ x0.toInt < x1.toInt) : Met l yJ3_checkIndex_8e157 (wt yJ3_checkIndex_8e157 cJ3_checkIndex_8e157 3 (some .int)) ({ frames := 0, cells := 0, slots := 0, locals := 0 }) (va_Pc [.int x0, .int x1, .ref b2] (st_G g sz ws)) (va_Qi (fun (r : Int32) (u9 : Unit) => True) (gQ0 g (va_A ws sz) ws) (va_A ws sz)) (0) (0) (va_A ws sz) := by
  refine Met.ofW (cc := cJ3_checkIndex_8e157) (maxL := 3) (ret := (some .int)) (by decide) rfl ?_
  intro p e s m args below meth c s₁ B hml hv
  obtain ⟨rfl, hsz, hP, hK, hD0, hex, hE⟩ := hv
  have hx := B.exec
  have hb := B.bytes
  have hr := B.returns
  have hts0 := atoms_spec (ws := wt yJ3_checkIndex_8e157 cJ3_checkIndex_8e157 3 (some .int)) B.pre
  have hts : ∀ w ∈ tb, w.before _ s = true := fun w h => hts0 w (List.mem_cons_of_mem _ h)
  have hown : s.vm.findClass RJ3 = some m.cls := findClass_of_methodNamed B.named
  subst hsz
  have hD := hD0.self (sz := s.heap.size)
  generalize hAe : va_A ws s.heap.size = A at hD hE ⊢
  have hA : ∀ q : Nat, s.heap.size ≤ q → A q := fun q h => by rw [← hAe]; exact Or.inr h
  have hS : va_S A s.heap s.heap [] := va_S.rf
  have hl := lv_entry ([.int x0, .int x1, .ref b2]) (n := 3) (Nat.le_of_ble_eq_true rfl)
  rw [lg_entry_eq]
  generalize (lg_sl ([.int x0, .int x1, .ref b2]) ++ List.replicate (3 - (lg_sl ([.int x0, .int x1, .ref b2])).length) Slot.unset).toArray = ls at hl ⊢
  have hl : lv_has ls 3 [(0, .int x0), (1, .int x1), (2, .ref b2)] := hl
  refine lv_iload_n hx hb dJ3_checkIndex_8e157_0 rfl (lv_at hl 0 rfl) ?_
  refine lv_if_lt (tgt := 9) hx hb dJ3_checkIndex_8e157_1 (by decide) (fun c_1 => ?_) (fun c_1 => ?_)
  · exact False.elim (by have e0 : (0 : Int32).toInt = 0 := (by decide); have q_pi := pi; have q_c_1 := i_lt c_1; have g_x0 := i_rg x0; have g_x1 := i_rg x1; omega)
  · refine lv_iload_n hx hb dJ3_checkIndex_8e157_4 rfl (lv_at hl 0 rfl) ?_
    refine lv_iload_n hx hb dJ3_checkIndex_8e157_5 rfl (lv_at hl 1 rfl) ?_
    refine lv_icmp_lt (tgt := 16) hx hb dJ3_checkIndex_8e157_6 (by decide) (fun c_2 => ?_) (fun c_2 => ?_)
    · refine lv_iload_n hx hb dJ3_checkIndex_8e157_16 rfl (lv_at hl 0 rfl) ?_
      refine W.widen (k := 0) (n := 0) (Nat.le_of_ble_eq_true rfl) (Nat.le_of_ble_eq_true rfl) ?_
      exact W.iret (v := x0) hx hb hr (fun t9 ht9 hW9 => ⟨⟨_, (), rfl, trivial, ⟨by rw [ht9]; exact hP, hD⟩⟩, hS.F ht9⟩) hS.2.2 dJ3_checkIndex_8e157_17
    · exact False.elim (by have e0 : (0 : Int32).toInt = 0 := (by decide); have q_pi := pi; have q_c_1 := i_nlt c_1; have q_c_2 := i_nlt c_2; have g_x0 := i_rg x0; have g_x1 := i_rg x1; omega)
set_option maxHeartbeats 1000000 in
set_option maxRecDepth 100000 in
theorem m_J0_checkIndex_df160 (l : Launch) (g : Gm) (sz : Nat) (ws : va_W) (x0 : Int32) (x1 : Int32) (hG : Good g ws) (pi : 0 ≤ x0.toInt ∧ x0.toInt < x1.toInt) : Met l yJ0_checkIndex_df160 (wt yJ0_checkIndex_df160 cJ0_checkIndex_df160 2 none) ({ frames := 1, cells := 0, slots := 0, locals := 22 }) (va_Pc [.int x0, .int x1] (st_G g sz ws)) (va_Qv (fun (u9 : Unit) => True) (gQ0 g (va_A ws sz) ws) (va_A ws sz)) (0) (0) (va_A ws sz) := by
  refine Met.ofW (cc := cJ0_checkIndex_df160) (maxL := 2) (ret := none) (by decide) rfl ?_
  intro p e s m args below meth c s₁ B hml hv
  obtain ⟨rfl, hsz, hP, hK, hD0, hex, hE⟩ := hv
  have hx := B.exec
  have hb := B.bytes
  have hr := B.returns
  have hts0 := atoms_spec (ws := wt yJ0_checkIndex_df160 cJ0_checkIndex_df160 2 none) B.pre
  have hts : ∀ w ∈ tb, w.before _ s = true := fun w h => hts0 w (List.mem_cons_of_mem _ h)
  have hown : s.vm.findClass RJ0 = some m.cls := findClass_of_methodNamed B.named
  subst hsz
  have hD := hD0.self (sz := s.heap.size)
  generalize hAe : va_A ws s.heap.size = A at hD hE ⊢
  have hA : ∀ q : Nat, s.heap.size ≤ q → A q := fun q h => by rw [← hAe]; exact Or.inr h
  have hS : va_S A s.heap s.heap [] := va_S.rf
  have hl := lv_entry ([.int x0, .int x1]) (n := 2) (Nat.le_of_ble_eq_true rfl)
  rw [lg_entry_eq]
  generalize (lg_sl ([.int x0, .int x1]) ++ List.replicate (2 - (lg_sl ([.int x0, .int x1])).length) Slot.unset).toArray = ls at hl ⊢
  have hl : lv_has ls 2 [(0, .int x0), (1, .int x1)] := hl
  refine lv_iload_n hx hb dJ0_checkIndex_df160_0 rfl (lv_at hl 0 rfl) ?_
  refine lv_iload_n hx hb dJ0_checkIndex_df160_1 rfl (lv_at hl 1 rfl) ?_
  obtain ⟨t_1, hZ_t_1⟩ := hE.2.2.2.2.2.1
  refine va_gets (v := .ref t_1) hx hb hZ_t_1 hS hown (hts _ kw_1777) (fun _ h9 => h9) dJ0_checkIndex_df160_2 ?_
  have hFc := gfree hD hS hA
  refine va_calli (va_runS (As := [.int x0, .int x1, .ref t_1]) (rest := []) ⟨hx, hb, hml, hown, hts⟩ (m_J3_checkIndex_8e157 l g s.heap.size ws (x0) (x1) t_1 hG (by have q_pi := pi; have g_x0 := i_rg x0; have g_x1 := i_rg x1; omega)) (va_cwS 3 hts (gd_S kw_1778 kw_1780 kw_1781 kw_1779) rfl rfl rfl (by decide +kernel) ⟨Nat.le_of_ble_eq_true rfl, Nat.le_of_ble_eq_true rfl⟩) ⟨gblind, fun U hU hW9 => gmk hU hW9 hP hK hD hex hE hS hFc⟩ rfl rfl hl.1 rfl (lv_room (Nat.le_of_ble_eq_true rfl)) dJ0_checkIndex_df160_5 ⟨Nat.le_of_ble_eq_true rfl, Nat.le_of_ble_eq_true rfl⟩) hS (fun q _ h => hFc q h) hFc (fun r_2 u9 t9 H1 locs ht9 hvm9 hw9 hB9 hz9 hk9 hS => ?_)
  have hP : va_P (gD g) cl0 ws H1 := by rw [← ht9]; exact hB9.1
  clear hB9 hz9 hk9 hvm9 ht9 hw9
  generalize H1 = H at hP hS ⊢
  refine lv_pop hx hb dJ0_checkIndex_df160_8 rfl ?_
  refine W.widen (k := 0) (n := 0) (Nat.le_of_ble_eq_true rfl) (Nat.le_of_ble_eq_true rfl) ?_
  exact W.vret hx hb hr (fun t9 ht9 hW9 => ⟨⟨(), rfl, trivial, ⟨by rw [ht9]; exact hP, hD⟩⟩, hS.F ht9⟩) hS.2.2 dJ0_checkIndex_df160_9
set_option maxHeartbeats 1000000 in
set_option maxRecDepth 100000 in
theorem m_J1_charAt_3b067 (l : Launch) (g : Gm) (sz : Nat) (ws : va_W) (b0 : Nat) (n_b0 : Nat) (x1 : Int32) (hG : Good g ws) (t_b0 : gV g b0 n_b0) (pi : 0 ≤ x1.toInt ∧ x1.toInt < (n_b0 : Int)) : Met l yJ1_charAt_3b067 (wt yJ1_charAt_3b067 cJ1_charAt_3b067 2 (some .char)) ({ frames := 2, cells := 0, slots := 0, locals := 43 }) (va_Pc [.ref b0, .int x1] (st_G g sz ws)) (va_Qi (fun (r : Int32) (u9 : Unit) => narrow .char (.int r) = .int r) (gQ0 g (va_A ws sz) ws) (va_A ws sz)) (0) (0) (va_A ws sz) := by
  refine Met.ofW (cc := cJ1_charAt_3b067) (maxL := 2) (ret := (some .char)) (by decide) rfl ?_
  intro p e s m args below meth c s₁ B hml hv
  obtain ⟨rfl, hsz, hP, hK, hD0, hex, hE⟩ := hv
  have hx := B.exec
  have hb := B.bytes
  have hr := B.returns
  have hts0 := atoms_spec (ws := wt yJ1_charAt_3b067 cJ1_charAt_3b067 2 (some .char)) B.pre
  have hts : ∀ w ∈ tb, w.before _ s = true := fun w h => hts0 w (List.mem_cons_of_mem _ h)
  have hown : s.vm.findClass RJ1 = some m.cls := findClass_of_methodNamed B.named
  subst hsz
  have hD := hD0.self (sz := s.heap.size)
  generalize hAe : va_A ws s.heap.size = A at hD hE ⊢
  have hA : ∀ q : Nat, s.heap.size ≤ q → A q := fun q h => by rw [← hAe]; exact Or.inr h
  have hS : va_S A s.heap s.heap [] := va_S.rf
  have hl := lv_entry ([.ref b0, .int x1]) (n := 2) (Nat.le_of_ble_eq_true rfl)
  rw [lg_entry_eq]
  generalize (lg_sl ([.ref b0, .int x1]) ++ List.replicate (2 - (lg_sl ([.ref b0, .int x1])).length) Slot.unset).toArray = ls at hl ⊢
  have hl : lv_has ls 2 [(0, .ref b0), (1, .int x1)] := hl
  refine lv_iload_n hx hb dJ1_charAt_3b067_0 rfl (lv_at hl 1 rfl) ?_
  refine lv_aload_n hx hb dJ1_charAt_3b067_1 rfl (lv_at hl 0 rfl) ?_
  obtain ⟨i_1, hi_1, e1_1, e2_1⟩ := id t_b0
  have hT_1 : va_T .byte b0 n_b0 (fun j => .int ((sB.getD i_1 []).getD j 0)) A s s.heap := by rw [e1_1, e2_1]; exact (hE.2.2.2.2.2.2.1.1 i_1 hi_1).2.2.2
  obtain ⟨z_1, ez_1⟩ : ∃ z : Int32, Int32.ofNat n_b0 = z := ⟨_, rfl⟩
  refine va_tlen (v := z_1) hx hb hT_1 hS ez_1 dJ1_charAt_3b067_2 ?_
  have s_z_1 : n_b0 < 2147483648 := Nat.lt_of_le_of_lt (gV_le t_b0) (by decide)
  have hFc := gfree hD hS hA
  refine va_callv (va_runS (As := [.int x1, .int z_1]) (rest := []) ⟨hx, hb, hml, hown, hts⟩ (m_J0_checkIndex_df160 l g s.heap.size ws (x1) (z_1) hG (by have q_pi := pi; have q_z_1 := i_len ez_1 s_z_1; have q_t_b0 := gV_le t_b0; have q2_z_1 := gV_le t_b0; have g_x1 := i_rg x1; have g_z_1 := i_rg z_1; omega)) (va_cwS 2 hts (gd_S kw_1774 kw_1776 kw_1754 kw_1775) rfl rfl rfl (by decide +kernel) ⟨Nat.le_of_ble_eq_true rfl, Nat.le_of_ble_eq_true rfl⟩) ⟨gblind, fun U hU hW9 => gmk hU hW9 hP hK hD hex hE hS hFc⟩ rfl rfl hl.1 rfl (lv_room (Nat.le_of_ble_eq_true rfl)) dJ1_charAt_3b067_3 ⟨Nat.le_of_ble_eq_true rfl, Nat.le_of_ble_eq_true rfl⟩) hS (fun q _ h => hFc q h) hFc (fun  u9 t9 H1 locs ht9 hvm9 hw9 hB9 hz9 hk9 hS => ?_)
  have hP : va_P (gD g) cl0 ws H1 := by rw [← ht9]; exact hB9.1
  clear hB9 hz9 hk9 hvm9 ht9 hw9
  generalize H1 = H at hP hS ⊢
  refine lv_aload_n hx hb dJ1_charAt_3b067_6 rfl (lv_at hl 0 rfl) ?_
  refine lv_iload_n hx hb dJ1_charAt_3b067_7 rfl (lv_at hl 1 rfl) ?_
  obtain ⟨i_2, hi_2, e1_2, e2_2⟩ := id t_b0
  have hT_2 : va_T .byte b0 n_b0 (fun j => .int ((sB.getD i_2 []).getD j 0)) A s s.heap := by rw [e1_2, e2_2]; exact (hE.2.2.2.2.2.2.1.1 i_2 hi_2).2.2.2
  refine va_tb hx hb hT_2 hS (i_in2 (by have q_t_b0 := gV_le t_b0; have q_pi := pi; have q_z_1 := i_len ez_1 s_z_1; have q2_z_1 := gV_le t_b0; have g_x1 := i_rg x1; have g_z_1 := i_rg z_1; omega)) rfl dJ1_charAt_3b067_8 ?_
  refine lv_topi (fun z_3 ez_3 => ?_)
  refine lv_sipush (v := 255) hx hb dJ1_charAt_3b067_9 (by decide) ?_
  refine lv_iand hx hb dJ1_charAt_3b067_12 ?_
  refine lv_topi (fun z_4 ez_4 => ?_)
  obtain ⟨z_5, ez_5⟩ : ∃ y : Int32, ((z_4 : Int32).toUInt32 % 65536).toInt32 = y := ⟨_, rfl⟩
  refine lv_i2c (v := z_5) hx hb dJ1_charAt_3b067_13 ez_5 ?_
  refine W.widen (k := 0) (n := 0) (Nat.le_of_ble_eq_true rfl) (Nat.le_of_ble_eq_true rfl) ?_
  exact W.zret (v := z_5) hx hb hr (nc ez_5) (fun t9 ht9 hW9 => ⟨⟨_, (), rfl, nc ez_5, ⟨by rw [ht9]; exact hP, hD⟩⟩, hS.F ht9⟩) hS.2.2 dJ1_charAt_3b067_14
set_option maxHeartbeats 1000000 in
set_option maxRecDepth 100000 in
theorem m_J0_coder_7d493 (l : Launch) (g : Gm) (sz : Nat) (ws : va_W) (h0 : Nat) (n_h0 : Nat) (hG : Good g ws) (t_h0 : gT g h0 n_h0) : Met l yJ0_coder_7d493 (wt yJ0_coder_7d493 cJ0_coder_7d493 1 (some .byte)) ({ frames := 0, cells := 0, slots := 0, locals := 0 }) (va_Pc [.ref h0] (st_G g sz ws)) (va_Qi (fun (r : Int32) (u9 : Unit) => r.toInt = 0) (gQ0 g (va_A ws sz) ws) (va_A ws sz)) (0) (0) (va_A ws sz) := by
  refine Met.ofW (cc := cJ0_coder_7d493) (maxL := 1) (ret := (some .byte)) (by decide) rfl ?_
  intro p e s m args below meth c s₁ B hml hv
  obtain ⟨rfl, hsz, hP, hK, hD0, hex, hE⟩ := hv
  have hx := B.exec
  have hb := B.bytes
  have hr := B.returns
  have hts0 := atoms_spec (ws := wt yJ0_coder_7d493 cJ0_coder_7d493 1 (some .byte)) B.pre
  have hts : ∀ w ∈ tb, w.before _ s = true := fun w h => hts0 w (List.mem_cons_of_mem _ h)
  have hown : s.vm.findClass RJ0 = some m.cls := findClass_of_methodNamed B.named
  subst hsz
  have hD := hD0.self (sz := s.heap.size)
  generalize hAe : va_A ws s.heap.size = A at hD hE ⊢
  have hA : ∀ q : Nat, s.heap.size ≤ q → A q := fun q h => by rw [← hAe]; exact Or.inr h
  have hS : va_S A s.heap s.heap [] := va_S.rf
  have hl := lv_entry ([.ref h0]) (n := 1) (Nat.le_of_ble_eq_true rfl)
  rw [lg_entry_eq]
  generalize (lg_sl ([.ref h0]) ++ List.replicate (1 - (lg_sl ([.ref h0])).length) Slot.unset).toArray = ls at hl ⊢
  have hl : lv_has ls 1 [(0, .ref h0)] := hl
  refine va_gets (C := "java/lang/String") (n := "COMPACT_STRINGS") (d := "Z") (v := .int 1) hx hb hE.2.2.2.2.1 hS hown (hts _ kw_1766) (fun _ h9 => h9) dJ0_coder_7d493_0 ?_
  refine lv_if_eq (tgt := 13) hx hb dJ0_coder_7d493_3 (by decide) (fun c9 => absurd c9 (by decide)) (fun _ => ?_)
  refine lv_aload_n hx hb dJ0_coder_7d493_6 rfl (lv_at hl 0 rfl) ?_
  obtain ⟨i_1, hi_1, e_1, en_1⟩ := id t_h0
  refine vk_getf (v := .int 0) hx hb (show va_OF "java/lang/String" "coder" "B" (.int 0) h0 A s s.heap by rw [e_1]; exact (hE.2.2.2.2.2.2.1.1 i_1 hi_1).2.1) hS hown (hts _ kw_1767) (fun _ h9 => h9) dJ0_coder_7d493_7 ?_
  refine lv_goto (tgt := 14) hx hb dJ0_coder_7d493_10 (by decide) ?_
  refine W.widen (k := 0) (n := 0) (Nat.le_of_ble_eq_true rfl) (Nat.le_of_ble_eq_true rfl) ?_
  exact W.zret (v := 0) hx hb hr (rfl) (fun t9 ht9 hW9 => ⟨⟨_, (), rfl, (by have e0 : (0 : Int32).toInt = 0 := (by decide); omega), ⟨by rw [ht9]; exact hP, hD⟩⟩, hS.F ht9⟩) hS.2.2 dJ0_coder_7d493_14
set_option maxHeartbeats 1000000 in
set_option maxRecDepth 100000 in
theorem m_J0_isLatin1_aae02 (l : Launch) (g : Gm) (sz : Nat) (ws : va_W) (h0 : Nat) (n_h0 : Nat) (hG : Good g ws) (t_h0 : gT g h0 n_h0) : Met l yJ0_isLatin1_aae02 (wt yJ0_isLatin1_aae02 cJ0_isLatin1_aae02 1 (some .boolean)) ({ frames := 0, cells := 0, slots := 0, locals := 0 }) (va_Pc [.ref h0] (st_G g sz ws)) (va_Qi (fun (r : Int32) (u9 : Unit) => r.toInt = 1) (gQ0 g (va_A ws sz) ws) (va_A ws sz)) (0) (0) (va_A ws sz) := by
  refine Met.ofW (cc := cJ0_isLatin1_aae02) (maxL := 1) (ret := (some .boolean)) (by decide) rfl ?_
  intro p e s m args below meth c s₁ B hml hv
  obtain ⟨rfl, hsz, hP, hK, hD0, hex, hE⟩ := hv
  have hx := B.exec
  have hb := B.bytes
  have hr := B.returns
  have hts0 := atoms_spec (ws := wt yJ0_isLatin1_aae02 cJ0_isLatin1_aae02 1 (some .boolean)) B.pre
  have hts : ∀ w ∈ tb, w.before _ s = true := fun w h => hts0 w (List.mem_cons_of_mem _ h)
  have hown : s.vm.findClass RJ0 = some m.cls := findClass_of_methodNamed B.named
  subst hsz
  have hD := hD0.self (sz := s.heap.size)
  generalize hAe : va_A ws s.heap.size = A at hD hE ⊢
  have hA : ∀ q : Nat, s.heap.size ≤ q → A q := fun q h => by rw [← hAe]; exact Or.inr h
  have hS : va_S A s.heap s.heap [] := va_S.rf
  have hl := lv_entry ([.ref h0]) (n := 1) (Nat.le_of_ble_eq_true rfl)
  rw [lg_entry_eq]
  generalize (lg_sl ([.ref h0]) ++ List.replicate (1 - (lg_sl ([.ref h0])).length) Slot.unset).toArray = ls at hl ⊢
  have hl : lv_has ls 1 [(0, .ref h0)] := hl
  refine va_gets (C := "java/lang/String") (n := "COMPACT_STRINGS") (d := "Z") (v := .int 1) hx hb hE.2.2.2.2.1 hS hown (hts _ kw_1766) (fun _ h9 => h9) dJ0_isLatin1_aae02_0 ?_
  refine lv_if_eq (tgt := 17) hx hb dJ0_isLatin1_aae02_3 (by decide) (fun c9 => absurd c9 (by decide)) (fun _ => ?_)
  refine lv_aload_n hx hb dJ0_isLatin1_aae02_6 rfl (lv_at hl 0 rfl) ?_
  obtain ⟨i_1, hi_1, e_1, en_1⟩ := id t_h0
  refine vk_getf (v := .int 0) hx hb (show va_OF "java/lang/String" "coder" "B" (.int 0) h0 A s s.heap by rw [e_1]; exact (hE.2.2.2.2.2.2.1.1 i_1 hi_1).2.1) hS hown (hts _ kw_1767) (fun _ h9 => h9) dJ0_isLatin1_aae02_7 ?_
  refine lv_if_ne (tgt := 17) hx hb dJ0_isLatin1_aae02_10 (by decide) (fun c9 => absurd (by decide) c9) (fun _ => ?_)
  refine lv_iconst (v := 1) hx hb dJ0_isLatin1_aae02_13 (by decide) ?_
  refine lv_goto (tgt := 18) hx hb dJ0_isLatin1_aae02_14 (by decide) ?_
  refine W.widen (k := 0) (n := 0) (Nat.le_of_ble_eq_true rfl) (Nat.le_of_ble_eq_true rfl) ?_
  exact W.zret (v := 1) hx hb hr (nz (Or.inr rfl)) (fun t9 ht9 hW9 => ⟨⟨_, (), rfl, (by have e1 : (1 : Int32).toInt = 1 := (by decide); omega), ⟨by rw [ht9]; exact hP, hD⟩⟩, hS.F ht9⟩) hS.2.2 dJ0_isLatin1_aae02_18
set_option maxHeartbeats 1000000 in
set_option maxRecDepth 100000 in
theorem m_J0_length_8abf5 (l : Launch) (g : Gm) (sz : Nat) (ws : va_W) (h0 : Nat) (n_h0 : Nat) (hG : Good g ws) (t_h0 : gT g h0 n_h0) : Met l yJ0_length_8abf5 (wt yJ0_length_8abf5 cJ0_length_8abf5 1 (some .int)) ({ frames := 1, cells := 0, slots := 0, locals := 20 }) (va_Pc [.ref h0] (st_G g sz ws)) (va_Qi (fun (r : Int32) (u9 : Unit) => r.toInt = (n_h0 : Int)) (gQ0 g (va_A ws sz) ws) (va_A ws sz)) (0) (0) (va_A ws sz) := by
  refine Met.ofW (cc := cJ0_length_8abf5) (maxL := 1) (ret := (some .int)) (by decide) rfl ?_
  intro p e s m args below meth c s₁ B hml hv
  obtain ⟨rfl, hsz, hP, hK, hD0, hex, hE⟩ := hv
  have hx := B.exec
  have hb := B.bytes
  have hr := B.returns
  have hts0 := atoms_spec (ws := wt yJ0_length_8abf5 cJ0_length_8abf5 1 (some .int)) B.pre
  have hts : ∀ w ∈ tb, w.before _ s = true := fun w h => hts0 w (List.mem_cons_of_mem _ h)
  have hown : s.vm.findClass RJ0 = some m.cls := findClass_of_methodNamed B.named
  subst hsz
  have hD := hD0.self (sz := s.heap.size)
  generalize hAe : va_A ws s.heap.size = A at hD hE ⊢
  have hA : ∀ q : Nat, s.heap.size ≤ q → A q := fun q h => by rw [← hAe]; exact Or.inr h
  have hS : va_S A s.heap s.heap [] := va_S.rf
  have hl := lv_entry ([.ref h0]) (n := 1) (Nat.le_of_ble_eq_true rfl)
  rw [lg_entry_eq]
  generalize (lg_sl ([.ref h0]) ++ List.replicate (1 - (lg_sl ([.ref h0])).length) Slot.unset).toArray = ls at hl ⊢
  have hl : lv_has ls 1 [(0, .ref h0)] := hl
  refine lv_aload_n hx hb dJ0_length_8abf5_0 rfl (lv_at hl 0 rfl) ?_
  obtain ⟨i_1, hi_1, e_1, en_1⟩ := id t_h0
  obtain ⟨q_1, eq_1⟩ : ∃ z, z = g.aV i_1 := ⟨_, rfl⟩
  have t_q_1 : gV g q_1 n_h0 := ⟨i_1, hi_1, eq_1, en_1⟩
  refine vk_getf (v := .ref q_1) hx hb (show va_OF "java/lang/String" "value" "[B" (.ref q_1) h0 A s s.heap by rw [e_1, eq_1]; exact (hE.2.2.2.2.2.2.1.1 i_1 hi_1).2.2.1) hS hown (hts _ kw_1755) (fun _ h9 => h9) dJ0_length_8abf5_1 ?_
  obtain ⟨i_2, hi_2, e1_2, e2_2⟩ := id t_q_1
  have hT_2 : va_T .byte q_1 n_h0 (fun j => .int ((sB.getD i_2 []).getD j 0)) A s s.heap := by rw [e1_2, e2_2]; exact (hE.2.2.2.2.2.2.1.1 i_2 hi_2).2.2.2
  obtain ⟨z_2, ez_2⟩ : ∃ z : Int32, Int32.ofNat n_h0 = z := ⟨_, rfl⟩
  refine va_tlen (v := z_2) hx hb hT_2 hS ez_2 dJ0_length_8abf5_4 ?_
  have s_z_2 : n_h0 < 2147483648 := Nat.lt_of_le_of_lt (gV_le t_q_1) (by decide)
  refine lv_aload_n hx hb dJ0_length_8abf5_5 rfl (lv_at hl 0 rfl) ?_
  have hFc := gfree hD hS hA
  obtain ⟨i_3, hi_3, e_3, en_3⟩ := id t_h0
  refine va_calli (va_runV (As := []) (rest := [.int z_2]) ⟨hx, hb, hml, hown, hts⟩ (m_J0_coder_7d493 l g s.heap.size ws h0 (n_h0) hG t_h0) (cwV 0 hts (gd_V kw_1756 kw_1764 kw_1765 kw_1754 kw_1763) rfl rfl rfl (by decide +kernel) ⟨Nat.le_of_ble_eq_true rfl, Nat.le_of_ble_eq_true rfl⟩) ⟨gblind, (by rw [e_3]; exact vk_recv hE.2.2.2.2.2.2.1 hi_3 hS), fun U hU hW9 => gmk hU hW9 hP hK hD hex hE hS hFc⟩ rfl rfl hl.1 rfl (lv_room (Nat.le_of_ble_eq_true rfl)) dJ0_length_8abf5_6 ⟨Nat.le_of_ble_eq_true rfl, Nat.le_of_ble_eq_true rfl⟩) hS (fun q _ h => hFc q h) hFc (fun r_4 u9 t9 H1 locs ht9 hvm9 hw9 hB9 hz9 hk9 hS => ?_)
  have hP : va_P (gD g) cl0 ws H1 := by rw [← ht9]; exact hB9.1
  have h_r_4 := hw9
  clear hB9 hz9 hk9 hvm9 ht9 hw9
  generalize H1 = H at hP hS ⊢
  refine lv_ishr hx hb dJ0_length_8abf5_9 ?_
  refine lv_topi (fun z_5 ez_5 => ?_)
  refine W.widen (k := 0) (n := 0) (Nat.le_of_ble_eq_true rfl) (Nat.le_of_ble_eq_true rfl) ?_
  exact W.iret (v := z_5) hx hb hr (fun t9 ht9 hW9 => ⟨⟨_, (), rfl, (by have q_z_5 := i_shr0 ez_5 h_r_4; have q_z_2 := i_len ez_2 s_z_2; have q_r_4 := h_r_4; have g_r_4 := i_rg r_4; have g_z_2 := i_rg z_2; have g_z_5 := i_rg z_5; omega), ⟨by rw [ht9]; exact hP, hD⟩⟩, hS.F ht9⟩) hS.2.2 dJ0_length_8abf5_10
set_option maxHeartbeats 1000000 in
set_option maxRecDepth 100000 in
theorem m_J0_charAt_5068e (l : Launch) (g : Gm) (H0 : Heap) (ws : va_W) (h0 : Nat) (n_h0 : Nat) (x1 : Int32) (hG : Good g ws) (t_h0 : gT g h0 n_h0) (pi : 0 ≤ x1.toInt ∧ x1.toInt < (n_h0 : Int)) : Met l yJ0_charAt_5068e (wt yJ0_charAt_5068e cJ0_charAt_5068e 2 (some .char)) ({ frames := 3, cells := PC ws + (0), slots := PS ws + (0), locals := 64 }) (va_Pc [.ref h0, .int x1] (st_H g H0 ws)) (va_Qi (fun (r : Int32) (u9 : va_W) => narrow .char (.int r) = .int r) (gQ2 g [] [] none (va_A ws H0.size) ws H0 (0) (0)) (va_A ws H0.size)) (PC ws + (0)) (PS ws + (0)) (va_A ws H0.size) := by
  refine Met.ofW (cc := cJ0_charAt_5068e) (maxL := 2) (ret := (some .char)) (by decide) rfl ?_
  intro p e s m args below meth c s₁ B hml hv
  obtain ⟨rfl, hH0, hsz, hP, hK, hD0, hex, hE⟩ := hv
  have hx := B.exec
  have hb := B.bytes
  have hr := B.returns
  have hts0 := atoms_spec (ws := wt yJ0_charAt_5068e cJ0_charAt_5068e 2 (some .char)) B.pre
  have hts : ∀ w ∈ tb, w.before _ s = true := fun w h => hts0 w (List.mem_cons_of_mem _ h)
  have hown : s.vm.findClass RJ0 = some m.cls := findClass_of_methodNamed B.named
  subst hH0
  have hD := hD0.self (sz := s.heap.size)
  generalize hAe : va_A ws s.heap.size = A at hD hE ⊢
  have hA : ∀ q : Nat, s.heap.size ≤ q → A q := fun q h => by rw [← hAe]; exact Or.inr h
  have hS : va_S A s.heap s.heap [] := va_S.rf
  have hl := lv_entry ([.ref h0, .int x1]) (n := 2) (Nat.le_of_ble_eq_true rfl)
  rw [lg_entry_eq]
  generalize (lg_sl ([.ref h0, .int x1]) ++ List.replicate (2 - (lg_sl ([.ref h0, .int x1])).length) Slot.unset).toArray = ls at hl ⊢
  have hl : lv_has ls 2 [(0, .ref h0), (1, .int x1)] := hl
  refine lv_aload_n hx hb dJ0_charAt_5068e_0 rfl (lv_at hl 0 rfl) ?_
  have hFc := gfree hD hS hA
  obtain ⟨i_1, hi_1, e_1, en_1⟩ := id t_h0
  refine va_calli (va_runV (As := []) (rest := []) ⟨hx, hb, hml, hown, hts⟩ (m_J0_isLatin1_aae02 l g s.heap.size ws h0 (n_h0) hG t_h0) (cwV 0 hts (gd_V kw_1760 kw_1769 kw_1770 kw_1754 kw_1768) rfl rfl rfl (by decide +kernel) ⟨Nat.le_of_ble_eq_true rfl, Nat.le_of_ble_eq_true rfl⟩) ⟨gblind, (by rw [e_1]; exact vk_recv hE.2.2.2.2.2.2.1 hi_1 hS), fun U hU hW9 => gmk hU hW9 hP hK hD hex hE hS hFc⟩ rfl rfl hl.1 rfl (lv_room (Nat.le_of_ble_eq_true rfl)) dJ0_charAt_5068e_1 ⟨(show 0 + 0 ≤ PC ws + (0) from (by have e0 : (0 : Int32).toInt = 0 := (by decide); omega)), (show 0 + 0 ≤ PS ws + (0) from (by have e0 : (0 : Int32).toInt = 0 := (by decide); omega))⟩) hS (fun q _ h => hFc q h) hFc (fun r_2 u9 t9 H1 locs ht9 hvm9 hw9 hB9 hz9 hk9 hS => ?_)
  have hP : va_P (gD g) cl0 ws H1 := by rw [← ht9]; exact hB9.1
  have h_r_2 := hw9
  clear hB9 hz9 hk9 hvm9 ht9 hw9
  generalize H1 = H at hP hS ⊢
  refine lv_if_eq (tgt := 16) hx hb dJ0_charAt_5068e_4 (by decide) (fun c_3 => ?_) (fun c_3 => ?_)
  · exact False.elim (by have e0 : (0 : Int32).toInt = 0 := (by decide); have q_r_2 := h_r_2; have q_c_3 := i_eq c_3; have g_r_2 := i_rg r_2; omega)
  · refine lv_aload_n hx hb dJ0_charAt_5068e_7 rfl (lv_at hl 0 rfl) ?_
    obtain ⟨i_4, hi_4, e_4, en_4⟩ := id t_h0
    obtain ⟨q_4, eq_4⟩ : ∃ z, z = g.aV i_4 := ⟨_, rfl⟩
    have t_q_4 : gV g q_4 n_h0 := ⟨i_4, hi_4, eq_4, en_4⟩
    refine vk_getf (v := .ref q_4) hx hb (show va_OF "java/lang/String" "value" "[B" (.ref q_4) h0 A s s.heap by rw [e_4, eq_4]; exact (hE.2.2.2.2.2.2.1.1 i_4 hi_4).2.2.1) hS hown (hts _ kw_1755) (fun _ h9 => h9) dJ0_charAt_5068e_8 ?_
    refine lv_iload_n hx hb dJ0_charAt_5068e_11 rfl (lv_at hl 1 rfl) ?_
    have hFc := gfree hD hS hA
    refine va_calli (va_runS (As := [.ref q_4, .int x1]) (rest := []) ⟨hx, hb, hml, hown, hts⟩ (m_J1_charAt_3b067 l g H.size ws q_4 (n_h0) (x1) hG t_q_4 (by have q_t_h0 := gT_le t_h0; have q_pi := pi; have g_x1 := i_rg x1; omega)) (va_cwS 2 hts (gd_S kw_1761 kw_1772 kw_1773 kw_1771) rfl rfl rfl (by decide +kernel) ⟨Nat.le_of_ble_eq_true rfl, Nat.le_of_ble_eq_true rfl⟩) ⟨gblind, fun U hU hW9 => gmk hU hW9 hP hK hD hex hE hS hFc⟩ rfl rfl hl.1 rfl (lv_room (Nat.le_of_ble_eq_true rfl)) dJ0_charAt_5068e_12 ⟨(show 0 + 0 ≤ PC ws + (0) from (by have e0 : (0 : Int32).toInt = 0 := (by decide); omega)), (show 0 + 0 ≤ PS ws + (0) from (by have e0 : (0 : Int32).toInt = 0 := (by decide); omega))⟩) hS (fun q _ h => hFc q h) hFc (fun r_5 u9 t9 H1 locs ht9 hvm9 hw9 hB9 hz9 hk9 hS => ?_)
    have hP : va_P (gD g) cl0 ws H1 := by rw [← ht9]; exact hB9.1
    have h_r_5 := hw9
    clear hB9 hz9 hk9 hvm9 ht9 hw9
    generalize H1 = H at hP hS ⊢
    refine W_led (fun hLd => ?_)
    have hcl : 0 + PC ws ≤ PC ws + (0) := (by have e0 : (0 : Int32).toInt = 0 := (by decide); omega)
    have hsl : 0 + PS ws ≤ PS ws + (0) := (by have e0 : (0 : Int32).toInt = 0 := (by decide); omega)
    refine W.widen (k := PC ws + (0)) (n := PS ws + (0)) (by omega) (by omega) ?_
    exact W.zret (v := r_5) hx hb hr (h_r_5) (fun t9 ht9 hW9 => ⟨⟨_, ws, rfl, h_r_5, ⟨gE.rf, gF.rf, hG, by rw [ht9]; exact hP, hD, _, _, by rw [ht9]; exact hLd, hcl, hsl⟩⟩, hS.F ht9⟩) hS.2.2 dJ0_charAt_5068e_15
set_option maxHeartbeats 1000000 in
set_option maxRecDepth 100000 in
theorem m_X6_errorName (l : Launch) (g : Gm) (sz : Nat) (ws : va_W) (x0 : Int32) (hG : Good g ws)  : Met l yX6_errorName (wt yX6_errorName cX6_errorName 1 (some (.object "java/lang/String"))) ({ frames := 0, cells := 0, slots := 0, locals := 0 }) (va_Pc [.int x0] (st_G g sz ws)) (va_Qq (fun (r : Option Nat) (u9 : Unit) => ∃ b n, r = some b ∧ gT g b n) (gQ0 g (va_A ws sz) ws) (va_A ws sz)) (0) (0) (va_A ws sz) := by
  refine Met.ofW (cc := cX6_errorName) (maxL := 1) (ret := (some (.object "java/lang/String"))) (by decide) rfl ?_
  intro p e s m args below meth c s₁ B hml hv
  obtain ⟨rfl, hsz, hP, hK, hD0, hex, hE⟩ := hv
  have hx := B.exec
  have hb := B.bytes
  have hr := B.returns
  have hts0 := atoms_spec (ws := wt yX6_errorName cX6_errorName 1 (some (.object "java/lang/String"))) B.pre
  have hts : ∀ w ∈ tb, w.before _ s = true := fun w h => hts0 w (List.mem_cons_of_mem _ h)
  have hown : s.vm.findClass RX6 = some m.cls := findClass_of_methodNamed B.named
  subst hsz
  have hD := hD0.self (sz := s.heap.size)
  generalize hAe : va_A ws s.heap.size = A at hD hE ⊢
  have hA : ∀ q : Nat, s.heap.size ≤ q → A q := fun q h => by rw [← hAe]; exact Or.inr h
  have hS : va_S A s.heap s.heap [] := va_S.rf
  have hl := lv_entry ([.int x0]) (n := 1) (Nat.le_of_ble_eq_true rfl)
  rw [lg_entry_eq]
  generalize (lg_sl ([.int x0]) ++ List.replicate (1 - (lg_sl ([.int x0])).length) Slot.unset).toArray = ls at hl ⊢
  have hl : lv_has ls 1 [(0, .int x0)] := hl
  refine lv_iload_n hx hb dX6_errorName_0 rfl (lv_at hl 0 rfl) ?_
  have K_1_37 : W p l e (headSpec (wt yX6_errorName cX6_errorName 1 (some (.object "java/lang/String"))) ({ frames := 0, cells := 0, slots := 0, locals := 0 })).room s m ([.int x0] : List Value).toArray below meth c s.heap [] (0) (0) (MQ below (va_Qq (fun (r : Option Nat) (u9 : Unit) => ∃ b n, r = some b ∧ gT g b n) (gQ0 g A ws) A) ([.int x0] : List Value).toArray s (0) (0) A) (F0 m 37 ls []) := by
    obtain ⟨q_1, eq_1⟩ : ∃ z, z = g.aK 5 := ⟨_, rfl⟩
    obtain ⟨n_2, en_2⟩ : ∃ z, z = sL.getD 5 0 := ⟨_, rfl⟩
    have t_q_1 : gT g q_1 n_2 := ⟨5, by decide, eq_1, en_2⟩
    refine va_ldcS (tx := "SizeError") (q := q_1) hx hb hown (by rw [eq_1]; exact hE.2.2.2.2.2.2.2.2.2.2.2.2.2) dX6_errorName_37 ?_
    refine W.widen (k := 0) (n := 0) (Nat.le_of_ble_eq_true rfl) (Nat.le_of_ble_eq_true rfl) ?_
    exact W.aret (v := .ref q_1) hx hb hr (Or.inl ⟨_, rfl⟩) (Or.inr ⟨_, rfl⟩) (fun t9 ht9 hW9 => ⟨⟨some q_1, (), rfl, ⟨_, _, rfl, t_q_1⟩, ⟨by rw [ht9]; exact hP, hD⟩⟩, hS.F ht9⟩) hS.2.2 dX6_errorName_39
  have K_1_28 : W p l e (headSpec (wt yX6_errorName cX6_errorName 1 (some (.object "java/lang/String"))) ({ frames := 0, cells := 0, slots := 0, locals := 0 })).room s m ([.int x0] : List Value).toArray below meth c s.heap [] (0) (0) (MQ below (va_Qq (fun (r : Option Nat) (u9 : Unit) => ∃ b n, r = some b ∧ gT g b n) (gQ0 g A ws) A) ([.int x0] : List Value).toArray s (0) (0) A) (F0 m 28 ls []) := by
    obtain ⟨q_3, eq_3⟩ : ∃ z, z = g.aK 2 := ⟨_, rfl⟩
    obtain ⟨n_4, en_4⟩ : ∃ z, z = sL.getD 2 0 := ⟨_, rfl⟩
    have t_q_3 : gT g q_3 n_4 := ⟨2, by decide, eq_3, en_4⟩
    refine va_ldcS (tx := "DivideError") (q := q_3) hx hb hown (by rw [eq_3]; exact hE.2.2.2.2.2.2.2.2.2.2.1) dX6_errorName_28 ?_
    refine W.widen (k := 0) (n := 0) (Nat.le_of_ble_eq_true rfl) (Nat.le_of_ble_eq_true rfl) ?_
    exact W.aret (v := .ref q_3) hx hb hr (Or.inl ⟨_, rfl⟩) (Or.inr ⟨_, rfl⟩) (fun t9 ht9 hW9 => ⟨⟨some q_3, (), rfl, ⟨_, _, rfl, t_q_3⟩, ⟨by rw [ht9]; exact hP, hD⟩⟩, hS.F ht9⟩) hS.2.2 dX6_errorName_30
  have K_1_31 : W p l e (headSpec (wt yX6_errorName cX6_errorName 1 (some (.object "java/lang/String"))) ({ frames := 0, cells := 0, slots := 0, locals := 0 })).room s m ([.int x0] : List Value).toArray below meth c s.heap [] (0) (0) (MQ below (va_Qq (fun (r : Option Nat) (u9 : Unit) => ∃ b n, r = some b ∧ gT g b n) (gQ0 g A ws) A) ([.int x0] : List Value).toArray s (0) (0) A) (F0 m 31 ls []) := by
    obtain ⟨q_5, eq_5⟩ : ∃ z, z = g.aK 3 := ⟨_, rfl⟩
    obtain ⟨n_6, en_6⟩ : ∃ z, z = sL.getD 3 0 := ⟨_, rfl⟩
    have t_q_5 : gT g q_5 n_6 := ⟨3, by decide, eq_5, en_6⟩
    refine va_ldcS (tx := "NullError") (q := q_5) hx hb hown (by rw [eq_5]; exact hE.2.2.2.2.2.2.2.2.2.2.2.1) dX6_errorName_31 ?_
    refine W.widen (k := 0) (n := 0) (Nat.le_of_ble_eq_true rfl) (Nat.le_of_ble_eq_true rfl) ?_
    exact W.aret (v := .ref q_5) hx hb hr (Or.inl ⟨_, rfl⟩) (Or.inr ⟨_, rfl⟩) (fun t9 ht9 hW9 => ⟨⟨some q_5, (), rfl, ⟨_, _, rfl, t_q_5⟩, ⟨by rw [ht9]; exact hP, hD⟩⟩, hS.F ht9⟩) hS.2.2 dX6_errorName_33
  have K_1_34 : W p l e (headSpec (wt yX6_errorName cX6_errorName 1 (some (.object "java/lang/String"))) ({ frames := 0, cells := 0, slots := 0, locals := 0 })).room s m ([.int x0] : List Value).toArray below meth c s.heap [] (0) (0) (MQ below (va_Qq (fun (r : Option Nat) (u9 : Unit) => ∃ b n, r = some b ∧ gT g b n) (gQ0 g A ws) A) ([.int x0] : List Value).toArray s (0) (0) A) (F0 m 34 ls []) := by
    obtain ⟨q_7, eq_7⟩ : ∃ z, z = g.aK 4 := ⟨_, rfl⟩
    obtain ⟨n_8, en_8⟩ : ∃ z, z = sL.getD 4 0 := ⟨_, rfl⟩
    have t_q_7 : gT g q_7 n_8 := ⟨4, by decide, eq_7, en_8⟩
    refine va_ldcS (tx := "IndexError") (q := q_7) hx hb hown (by rw [eq_7]; exact hE.2.2.2.2.2.2.2.2.2.2.2.2.1) dX6_errorName_34 ?_
    refine W.widen (k := 0) (n := 0) (Nat.le_of_ble_eq_true rfl) (Nat.le_of_ble_eq_true rfl) ?_
    exact W.aret (v := .ref q_7) hx hb hr (Or.inl ⟨_, rfl⟩) (Or.inr ⟨_, rfl⟩) (fun t9 ht9 hW9 => ⟨⟨some q_7, (), rfl, ⟨_, _, rfl, t_q_7⟩, ⟨by rw [ht9]; exact hP, hD⟩⟩, hS.F ht9⟩) hS.2.2 dX6_errorName_36
  rcases Classical.em ((x0 : Int32).toInt < 0 ∨ 2 < (x0 : Int32).toInt) with c9 | c9
  · exact lv_tableOut (tgt := 37) hx hb dX6_errorName_1 c9 (by decide) K_1_37
  · rcases (show (x0 : Int32).toInt = 0 ∨ (x0 : Int32).toInt = 1 ∨ (x0 : Int32).toInt = 2 by omega) with c9 | c9 | c9
    · exact lv_tableIn (off := 27) (tgt := 28) hx hb dX6_errorName_1 (by rw [c9]; decide) (by rw [c9]; decide) (by rw [c9]; rfl) (by decide) K_1_28
    · exact lv_tableIn (off := 30) (tgt := 31) hx hb dX6_errorName_1 (by rw [c9]; decide) (by rw [c9]; decide) (by rw [c9]; rfl) (by decide) K_1_31
    · exact lv_tableIn (off := 33) (tgt := 34) hx hb dX6_errorName_1 (by rw [c9]; decide) (by rw [c9]; decide) (by rw [c9]; rfl) (by decide) K_1_34
