set_option maxHeartbeats 1000000 in
set_option maxRecDepth 100000 in
theorem m_J13_compare_74951 (l : Launch) (g : Gm) (sz : Nat) (ws : va_W) (y0 : Int64) (y2 : Int64) (hG : Good g ws)  : Met l yJ13_compare_74951 (wt yJ13_compare_74951 cJ13_compare_74951 4 (some .int)) ({ frames := 0, cells := 0, slots := 0, locals := 0 }) (va_Pc [.long y0, .long y2] (st_G g sz ws)) (va_Qi (fun (r : Int32) (u9 : Unit) => True) (gQ0 g (va_A ws sz) ws) (va_A ws sz)) (0) (0) (va_A ws sz) := by
  refine Met.ofW (cc := cJ13_compare_74951) (maxL := 4) (ret := (some .int)) (by decide) rfl ?_
  intro p e s m args below meth c s₁ B hml hv
  obtain ⟨rfl, hsz, hP, hK, hD0, hex, hE⟩ := hv
  have hx := B.exec
  have hb := B.bytes
  have hr := B.returns
  have hts0 := atoms_spec (ws := wt yJ13_compare_74951 cJ13_compare_74951 4 (some .int)) B.pre
  have hts : ∀ w ∈ tb, w.before _ s = true := fun w h => hts0 w (List.mem_cons_of_mem _ h)
  have hown : s.vm.findClass RJ13 = some m.cls := findClass_of_methodNamed B.named
  subst hsz
  have hD := hD0.self (sz := s.heap.size)
  generalize hAe : va_A ws s.heap.size = A at hD hE ⊢
  have hA : ∀ q : Nat, s.heap.size ≤ q → A q := fun q h => by rw [← hAe]; exact Or.inr h
  have hS : va_S A s.heap s.heap [] := va_S.rf
  have hl := lv_entry ([.long y0, .long y2]) (n := 4) (Nat.le_of_ble_eq_true rfl)
  rw [lg_entry_eq]
  generalize (lg_sl ([.long y0, .long y2]) ++ List.replicate (4 - (lg_sl ([.long y0, .long y2])).length) Slot.unset).toArray = ls at hl ⊢
  have hl : lv_has ls 4 [(0, .long y0), (2, .long y2)] := hl
  refine lv_lload_n hx hb dJ13_compare_74951_0 rfl (lv_at hl 0 rfl) ?_
  refine lv_lload_n hx hb dJ13_compare_74951_1 rfl (lv_at hl 1 rfl) ?_
  refine W.lcmp hx hb dJ13_compare_74951_2 ?_
  refine lv_topi (fun z_1 ez_1 => ?_)
  have J_21 : ∀ (t_2 : Int32) (H : Heap) (locs : List Loc) (ls : Array Slot), -1 ≤ t_2.toInt ∧ t_2.toInt ≤ 1 → va_P (gD g) cl0 ws H → va_D A ws → va_S A s.heap H locs → lv_has ls 4 [] → W p l e (headSpec (wt yJ13_compare_74951 cJ13_compare_74951 4 (some .int)) ({ frames := 0, cells := 0, slots := 0, locals := 0 })).room s m ([.long y0, .long y2] : List Value).toArray below meth c H locs (0) (0) (MQ below (va_Qi (fun (r : Int32) (u9 : Unit) => True) (gQ0 g A ws) A) ([.long y0, .long y2] : List Value).toArray s (0) (0) A) (F0 m 21 ls [.int t_2]) := by
    intro t_2 H locs ls iv_3 hP hD hS hl
    refine W.widen (k := 0) (n := 0) (Nat.le_of_ble_eq_true rfl) (Nat.le_of_ble_eq_true rfl) ?_
    exact W.iret (v := t_2) hx hb hr (fun t9 ht9 hW9 => ⟨⟨_, (), rfl, trivial, ⟨by rw [ht9]; exact hP, hD⟩⟩, hS.F ht9⟩) hS.2.2 dJ13_compare_74951_21
  refine lv_if_ge (tgt := 10) hx hb dJ13_compare_74951_3 (by decide) (fun c_6 => ?_) (fun c_6 => ?_)
  · refine lv_lload_n hx hb dJ13_compare_74951_10 rfl (lv_at hl 0 rfl) ?_
    refine lv_lload_n hx hb dJ13_compare_74951_11 rfl (lv_at hl 1 rfl) ?_
    refine W.lcmp hx hb dJ13_compare_74951_12 ?_
    refine lv_topi (fun z_7 ez_7 => ?_)
    refine lv_if_ne (tgt := 20) hx hb dJ13_compare_74951_13 (by decide) (fun c_8 => ?_) (fun c_8 => ?_)
    · refine lv_iconst (v := 1) hx hb dJ13_compare_74951_20 (by decide) ?_
      exact J_21 (1) _ _ ls (by have e1 : (1 : Int32).toInt = 1 := (by decide); omega) hP hD hS (lv_sub hl [] rfl)
    · refine lv_iconst (v := 0) hx hb dJ13_compare_74951_16 (by decide) ?_
      refine lv_goto (tgt := 21) hx hb dJ13_compare_74951_17 (by decide) ?_
      exact J_21 (0) _ _ ls (by have e0 : (0 : Int32).toInt = 0 := (by decide); omega) hP hD hS (lv_sub hl [] rfl)
  · refine lv_iconst (v := (-1)) hx hb dJ13_compare_74951_6 (by decide) ?_
    refine lv_goto (tgt := 21) hx hb dJ13_compare_74951_7 (by decide) ?_
    exact J_21 ((-1)) _ _ ls (by have em1 : ((-1) : Int32).toInt = -1 := (by decide); omega) hP hD hS (lv_sub hl [] rfl)
set_option maxHeartbeats 1000000 in
set_option maxRecDepth 100000 in
theorem m_J7_fill_53178 (l : Launch) (g : Gm) (sz : Nat) (ws : va_W) (b0 : Nat) (n_b0 : Nat) (x1 : Int32) (C0 : List (Nat × Nat)) (hG : Good g ws) (a_b0 : gI ws b0 g.cI n_b0) (s_b0 : n_b0 < 2147483648) (hC0 : hol ws b0 C0) : Met l yJ7_fill_53178 (wt yJ7_fill_53178 cJ7_fill_53178 4 none) ({ frames := 0, cells := 0, slots := 0, locals := 0 }) (va_Pc [.ref b0, .int x1] (st_G g sz ws)) (va_Qv (fun (u9 : va_W) => True) (gQ1 g [] C0 none (va_A ws sz) ws) (va_A ws sz)) (0) (0) (va_A ws sz) := by
  refine Met.ofW (cc := cJ7_fill_53178) (maxL := 4) (ret := none) (by decide) rfl ?_
  intro p e s m args below meth c s₁ B hml hv
  obtain ⟨rfl, hsz, hP, hK, hD0, hex, hE⟩ := hv
  have hx := B.exec
  have hb := B.bytes
  have hr := B.returns
  have hts0 := atoms_spec (ws := wt yJ7_fill_53178 cJ7_fill_53178 4 none) B.pre
  have hts : ∀ w ∈ tb, w.before _ s = true := fun w h => hts0 w (List.mem_cons_of_mem _ h)
  have hown : s.vm.findClass RJ7 = some m.cls := findClass_of_methodNamed B.named
  subst hsz
  have hD := hD0.self (sz := s.heap.size)
  generalize hAe : va_A ws s.heap.size = A at hD hE ⊢
  have hA : ∀ q : Nat, s.heap.size ≤ q → A q := fun q h => by rw [← hAe]; exact Or.inr h
  have hS : va_S A s.heap s.heap [] := va_S.rf
  have hl := lv_entry ([.ref b0, .int x1]) (n := 4) (Nat.le_of_ble_eq_true rfl)
  rw [lg_entry_eq]
  generalize (lg_sl ([.ref b0, .int x1]) ++ List.replicate (4 - (lg_sl ([.ref b0, .int x1])).length) Slot.unset).toArray = ls at hl ⊢
  have hl : lv_has ls 4 [(0, .ref b0), (1, .int x1)] := hl
  refine lv_iconst (v := 0) hx hb dJ7_fill_53178_0 (by decide) ?_
  refine lv_istore_n (lv' := [(2, .int 0), (0, .ref b0), (1, .int x1)]) hx hb dJ7_fill_53178_1 rfl hl (by decide) rfl (fun ls hl => ?_)
  refine lv_aload_n hx hb dJ7_fill_53178_2 rfl (lv_at hl 1 rfl) ?_
  obtain ⟨k_1, f_1, hk_1⟩ := gI_of a_b0
  obtain ⟨z_2, ez_2⟩ : ∃ z : Int32, Int32.ofNat n_b0 = z := ⟨_, rfl⟩
  refine va_alen (v := z_2) hx hb hK hP k_1 1 hk_1 rfl ez_2 dJ7_fill_53178_3 ?_
  refine lv_istore_n (lv' := [(3, .int z_2), (2, .int 0), (0, .ref b0), (1, .int x1)]) hx hb dJ7_fill_53178_4 rfl hl (by decide) rfl (fun ls hl => ?_)
  have J_5 : ∀ (n9 : Nat) (v2_3 : Int32) (ws_5 : va_W) (H : Heap) (locs : List Loc) (ls : Array Slot), (2147483647 - v2_3.toInt).toNat = n9 → 0 ≤ v2_3.toInt → gE ws ws_5 → gF [] C0 none ws ws_5 → Good g ws_5 → hol ws_5 b0 C0 → va_P (gD g) cl0 ws_5 H → va_D A ws_5 → va_S A s.heap H locs → lv_has ls 4 [(0, .ref b0), (1, .int x1), (2, .int v2_3), (3, .int z_2)] → W p l e (headSpec (wt yJ7_fill_53178 cJ7_fill_53178 4 none) ({ frames := 0, cells := 0, slots := 0, locals := 0 })).room s m ([.ref b0, .int x1] : List Value).toArray below meth c H locs (0) (0) (MQ below (va_Qv (fun (u9 : va_W) => True) (gQ1 g [] C0 none A ws) A) ([.ref b0, .int x1] : List Value).toArray s (0) (0) A) (F0 m 5 ls []) := by
    intro n9
    induction n9 using Nat.strongRecOn with
    | ind n9 ih_5 =>
      intro v2_3 ws_5 H locs ls hm9 iv_4 E_6 Fr_7 hG hC0 hP hD hS hl
      subst hm9
      have a_b0 := E_6.1 _ _ a_b0
      refine lv_iload_n hx hb dJ7_fill_53178_5 rfl (lv_at hl 2 rfl) ?_
      refine lv_iload_n hx hb dJ7_fill_53178_6 rfl (lv_at hl 3 rfl) ?_
      refine lv_icmp_ge (tgt := 20) hx hb dJ7_fill_53178_7 (by decide) (fun c_8 => ?_) (fun c_8 => ?_)
      · refine W.widen (k := 0) (n := 0) (Nat.le_of_ble_eq_true rfl) (Nat.le_of_ble_eq_true rfl) ?_
        exact W.vret hx hb hr (fun t9 ht9 hW9 => ⟨⟨ws_5, rfl, trivial, ⟨E_6, Fr_7, hG, by rw [ht9]; exact hP, hD⟩⟩, hS.F ht9⟩) hS.2.2 dJ7_fill_53178_20
      · refine lv_aload_n hx hb dJ7_fill_53178_10 rfl (lv_at hl 0 rfl) ?_
        refine lv_iload_n hx hb dJ7_fill_53178_11 rfl (lv_at hl 2 rfl) ?_
        refine lv_iload_n hx hb dJ7_fill_53178_12 rfl (lv_at hl 1 rfl) ?_
        obtain ⟨k_9, f_9, hk_9⟩ := gI_of a_b0
        have hC9 : hol ws_5 b0 C0 := hC0
        have hS9 : holS ws_5 b0 none := holS_n
        refine va_iast hx hb hK hP hD hS k_9 1 hk_9 rfl (i_in2 (by have q_s_b0 := s_b0; have q_z_2 := i_len ez_2 s_b0; have q_iv_4 := iv_4; have q_c_8 := i_nle c_8; have g_v2_3 := i_rg v2_3; have g_z_2 := i_rg z_2; omega)) dJ7_fill_53178_13 (fun H locs hP hD hS => ?_)
        obtain ⟨ws_10, e_ws_10⟩ : ∃ z, z = ws_5.set k_9 (b0, .inl (g.cI, n_b0, .inl (upd f_9 (v2_3 : Int32).toNatClampNeg x1))) := ⟨_, rfl⟩
        have hP : va_P (gD g) cl0 ws_10 H := by rw [e_ws_10]; exact hP
        have hD : va_D A ws_10 := by rw [e_ws_10]; exact hD
        have E_11 : gE ws_5 ws_10 := gE_ari e_ws_10 hk_9
        have hG : Good g ws_10 := Good_arI e_ws_10 hk_9 hG
        have Fr_12 : gF [] C0 none ws_5 ws_10 := gF_ar e_ws_10 hk_9 rfl hC9 hS9
        have hC0 := hol_ar e_ws_10 hk_9 hC0
        have a_b0 := E_11.1 _ _ a_b0
        obtain ⟨z_13, ez_13⟩ : ∃ z : Int32, v2_3 + Int32.ofInt 1 = z := ⟨_, rfl⟩
        refine lv_iinc (v := z_13) (lv' := [(2, .int z_13), (0, .ref b0), (1, .int x1), (3, .int z_2)]) hx hb dJ7_fill_53178_14 hl (k := 2) rfl ez_13 (by decide) rfl (fun ls hl => ?_)
        refine lv_goto (tgt := 5) hx hb dJ7_fill_53178_17 (by decide) ?_
        exact ih_5 _ (by obtain ⟨u_z_13, q_z_13⟩ := i_iz ez_13 (by decide) (by decide); have q_iv_4 := iv_4; have q_c_8 := i_nle c_8; have g_v2_3 := i_rg v2_3; have g_z_13 := i_rg z_13; have g_z_2 := i_rg z_2; omega) (z_13) ws_10 H locs ls rfl (by obtain ⟨u_z_13, q_z_13⟩ := i_iz ez_13 (by decide) (by decide); have q_iv_4 := iv_4; have q_c_8 := i_nle c_8; have g_v2_3 := i_rg v2_3; have g_z_13 := i_rg z_13; have g_z_2 := i_rg z_2; omega) ((E_6.tr E_11)) ((gF.tr Fr_7 Fr_12)) hG hC0 hP hD hS (lv_sub hl [1, 2, 0, 3] rfl)
  exact J_5 _ (0) ws _ _ ls rfl (by have e0 : (0 : Int32).toInt = 0 := (by decide); omega) (gE.rf) (gF.rf) hG hC0 hP hD hS (lv_sub hl [2, 3, 1, 0] rfl)
set_option maxHeartbeats 1000000 in
set_option maxRecDepth 100000 in
theorem m_J7_fill_d0a16 (l : Launch) (g : Gm) (sz : Nat) (ws : va_W) (b0 : Nat) (n_b0 : Nat) (y1 : Int64) (C0 : List (Nat × Nat)) (hG : Good g ws) (a_b0 : gJ ws b0 g.cL n_b0) (s_b0 : n_b0 < 2147483648) (hC0 : hol ws b0 C0) : Met l yJ7_fill_d0a16 (wt yJ7_fill_d0a16 cJ7_fill_d0a16 5 none) ({ frames := 0, cells := 0, slots := 0, locals := 0 }) (va_Pc [.ref b0, .long y1] (st_G g sz ws)) (va_Qv (fun (u9 : va_W) => True) (gQ1 g [] C0 none (va_A ws sz) ws) (va_A ws sz)) (0) (0) (va_A ws sz) := by
  refine Met.ofW (cc := cJ7_fill_d0a16) (maxL := 5) (ret := none) (by decide) rfl ?_
  intro p e s m args below meth c s₁ B hml hv
  obtain ⟨rfl, hsz, hP, hK, hD0, hex, hE⟩ := hv
  have hx := B.exec
  have hb := B.bytes
  have hr := B.returns
  have hts0 := atoms_spec (ws := wt yJ7_fill_d0a16 cJ7_fill_d0a16 5 none) B.pre
  have hts : ∀ w ∈ tb, w.before _ s = true := fun w h => hts0 w (List.mem_cons_of_mem _ h)
  have hown : s.vm.findClass RJ7 = some m.cls := findClass_of_methodNamed B.named
  subst hsz
  have hD := hD0.self (sz := s.heap.size)
  generalize hAe : va_A ws s.heap.size = A at hD hE ⊢
  have hA : ∀ q : Nat, s.heap.size ≤ q → A q := fun q h => by rw [← hAe]; exact Or.inr h
  have hS : va_S A s.heap s.heap [] := va_S.rf
  have hl := lv_entry ([.ref b0, .long y1]) (n := 5) (Nat.le_of_ble_eq_true rfl)
  rw [lg_entry_eq]
  generalize (lg_sl ([.ref b0, .long y1]) ++ List.replicate (5 - (lg_sl ([.ref b0, .long y1])).length) Slot.unset).toArray = ls at hl ⊢
  have hl : lv_has ls 5 [(0, .ref b0), (1, .long y1)] := hl
  refine lv_iconst (v := 0) hx hb dJ7_fill_d0a16_0 (by decide) ?_
  refine lv_istore_n (lv' := [(3, .int 0), (0, .ref b0), (1, .long y1)]) hx hb dJ7_fill_d0a16_1 rfl hl (by decide) rfl (fun ls hl => ?_)
  refine lv_aload_n hx hb dJ7_fill_d0a16_2 rfl (lv_at hl 1 rfl) ?_
  obtain ⟨k_1, f_1, hk_1⟩ := gJ_of a_b0
  obtain ⟨z_2, ez_2⟩ : ∃ z : Int32, Int32.ofNat n_b0 = z := ⟨_, rfl⟩
  refine va_alen (v := z_2) hx hb hK hP k_1 3 hk_1 rfl ez_2 dJ7_fill_d0a16_3 ?_
  refine lv_istore (lv' := [(4, .int z_2), (3, .int 0), (0, .ref b0), (1, .long y1)]) hx hb dJ7_fill_d0a16_4 hl (by decide) rfl (fun ls hl => ?_)
  have J_6 : ∀ (n9 : Nat) (v3_3 : Int32) (ws_5 : va_W) (H : Heap) (locs : List Loc) (ls : Array Slot), (2147483647 - v3_3.toInt).toNat = n9 → 0 ≤ v3_3.toInt → gE ws ws_5 → gF [] C0 none ws ws_5 → Good g ws_5 → hol ws_5 b0 C0 → va_P (gD g) cl0 ws_5 H → va_D A ws_5 → va_S A s.heap H locs → lv_has ls 5 [(0, .ref b0), (1, .long y1), (3, .int v3_3), (4, .int z_2)] → W p l e (headSpec (wt yJ7_fill_d0a16 cJ7_fill_d0a16 5 none) ({ frames := 0, cells := 0, slots := 0, locals := 0 })).room s m ([.ref b0, .long y1] : List Value).toArray below meth c H locs (0) (0) (MQ below (va_Qv (fun (u9 : va_W) => True) (gQ1 g [] C0 none A ws) A) ([.ref b0, .long y1] : List Value).toArray s (0) (0) A) (F0 m 6 ls []) := by
    intro n9
    induction n9 using Nat.strongRecOn with
    | ind n9 ih_6 =>
      intro v3_3 ws_5 H locs ls hm9 iv_4 E_6 Fr_7 hG hC0 hP hD hS hl
      subst hm9
      have a_b0 := E_6.1 _ _ a_b0
      refine lv_iload_n hx hb dJ7_fill_d0a16_6 rfl (lv_at hl 2 rfl) ?_
      refine lv_iload hx hb dJ7_fill_d0a16_7 (lv_at hl 3 rfl) ?_
      refine lv_icmp_ge (tgt := 22) hx hb dJ7_fill_d0a16_9 (by decide) (fun c_8 => ?_) (fun c_8 => ?_)
      · refine W.widen (k := 0) (n := 0) (Nat.le_of_ble_eq_true rfl) (Nat.le_of_ble_eq_true rfl) ?_
        exact W.vret hx hb hr (fun t9 ht9 hW9 => ⟨⟨ws_5, rfl, trivial, ⟨E_6, Fr_7, hG, by rw [ht9]; exact hP, hD⟩⟩, hS.F ht9⟩) hS.2.2 dJ7_fill_d0a16_22
      · refine lv_aload_n hx hb dJ7_fill_d0a16_12 rfl (lv_at hl 0 rfl) ?_
        refine lv_iload_n hx hb dJ7_fill_d0a16_13 rfl (lv_at hl 2 rfl) ?_
        refine lv_lload_n hx hb dJ7_fill_d0a16_14 rfl (lv_at hl 1 rfl) ?_
        obtain ⟨k_9, f_9, hk_9⟩ := gJ_of a_b0
        have hC9 : hol ws_5 b0 C0 := hC0
        have hS9 : holS ws_5 b0 none := holS_n
        refine va_last hx hb hK hP hD hS k_9 3 hk_9 rfl (i_in2 (by have q_s_b0 := s_b0; have q_z_2 := i_len ez_2 s_b0; have q_iv_4 := iv_4; have q_c_8 := i_nle c_8; have g_v3_3 := i_rg v3_3; have g_z_2 := i_rg z_2; omega)) dJ7_fill_d0a16_15 (fun H locs hP hD hS => ?_)
        obtain ⟨ws_10, e_ws_10⟩ : ∃ z, z = ws_5.set k_9 (b0, .inl (g.cL, n_b0, .inr (.inl (vp_updL f_9 (v3_3 : Int32).toNatClampNeg y1)))) := ⟨_, rfl⟩
        have hP : va_P (gD g) cl0 ws_10 H := by rw [e_ws_10]; exact hP
        have hD : va_D A ws_10 := by rw [e_ws_10]; exact hD
        have E_11 : gE ws_5 ws_10 := gE_arj e_ws_10 hk_9
        have hG : Good g ws_10 := Good_arj e_ws_10 hk_9 hG
        have Fr_12 : gF [] C0 none ws_5 ws_10 := gF_ar e_ws_10 hk_9 rfl hC9 hS9
        have hC0 := hol_ar e_ws_10 hk_9 hC0
        have a_b0 := E_11.1 _ _ a_b0
        obtain ⟨z_13, ez_13⟩ : ∃ z : Int32, v3_3 + Int32.ofInt 1 = z := ⟨_, rfl⟩
        refine lv_iinc (v := z_13) (lv' := [(3, .int z_13), (0, .ref b0), (1, .long y1), (4, .int z_2)]) hx hb dJ7_fill_d0a16_16 hl (k := 2) rfl ez_13 (by decide) rfl (fun ls hl => ?_)
        refine lv_goto (tgt := 6) hx hb dJ7_fill_d0a16_19 (by decide) ?_
        exact ih_6 _ (by obtain ⟨u_z_13, q_z_13⟩ := i_iz ez_13 (by decide) (by decide); have q_iv_4 := iv_4; have q_c_8 := i_nle c_8; have g_v3_3 := i_rg v3_3; have g_z_13 := i_rg z_13; have g_z_2 := i_rg z_2; omega) (z_13) ws_10 H locs ls rfl (by obtain ⟨u_z_13, q_z_13⟩ := i_iz ez_13 (by decide) (by decide); have q_iv_4 := iv_4; have q_c_8 := i_nle c_8; have g_v3_3 := i_rg v3_3; have g_z_13 := i_rg z_13; have g_z_2 := i_rg z_2; omega) ((E_6.tr E_11)) ((gF.tr Fr_7 Fr_12)) hG hC0 hP hD hS (lv_sub hl [1, 2, 0, 3] rfl)
  exact J_6 _ (0) ws _ _ ls rfl (by have e0 : (0 : Int32).toInt = 0 := (by decide); omega) (gE.rf) (gF.rf) hG hC0 hP hD hS (lv_sub hl [2, 3, 1, 0] rfl)
set_option maxHeartbeats 1000000 in
set_option maxRecDepth 100000 in
theorem m_J6_bitCount_0f7a4 (l : Launch) (g : Gm) (sz : Nat) (ws : va_W) (x0 : Int32) (hG : Good g ws)  : Met l yJ6_bitCount_0f7a4 (wt yJ6_bitCount_0f7a4 cJ6_bitCount_0f7a4 1 (some .int)) ({ frames := 0, cells := 0, slots := 0, locals := 0 }) (va_Pc [.int x0] (st_G g sz ws)) (va_Qi (fun (r : Int32) (u9 : Unit) => True) (gQ0 g (va_A ws sz) ws) (va_A ws sz)) (0) (0) (va_A ws sz) := by
  refine Met.ofW (cc := cJ6_bitCount_0f7a4) (maxL := 1) (ret := (some .int)) (by decide) rfl ?_
  intro p e s m args below meth c s₁ B hml hv
  obtain ⟨rfl, hsz, hP, hK, hD0, hex, hE⟩ := hv
  have hx := B.exec
  have hb := B.bytes
  have hr := B.returns
  have hts0 := atoms_spec (ws := wt yJ6_bitCount_0f7a4 cJ6_bitCount_0f7a4 1 (some .int)) B.pre
  have hts : ∀ w ∈ tb, w.before _ s = true := fun w h => hts0 w (List.mem_cons_of_mem _ h)
  have hown : s.vm.findClass RJ6 = some m.cls := findClass_of_methodNamed B.named
  subst hsz
  have hD := hD0.self (sz := s.heap.size)
  generalize hAe : va_A ws s.heap.size = A at hD hE ⊢
  have hA : ∀ q : Nat, s.heap.size ≤ q → A q := fun q h => by rw [← hAe]; exact Or.inr h
  have hS : va_S A s.heap s.heap [] := va_S.rf
  have hl := lv_entry ([.int x0]) (n := 1) (Nat.le_of_ble_eq_true rfl)
  rw [lg_entry_eq]
  generalize (lg_sl ([.int x0]) ++ List.replicate (1 - (lg_sl ([.int x0])).length) Slot.unset).toArray = ls at hl ⊢
  have hl : lv_has ls 1 [(0, .int x0)] := hl
  refine lv_iload_n hx hb dJ6_bitCount_0f7a4_0 rfl (lv_at hl 0 rfl) ?_
  refine lv_iload_n hx hb dJ6_bitCount_0f7a4_1 rfl (lv_at hl 0 rfl) ?_
  refine lv_iconst (v := 1) hx hb dJ6_bitCount_0f7a4_2 (by decide) ?_
  refine lv_iushr hx hb dJ6_bitCount_0f7a4_3 rfl ?_
  refine lv_topi (fun z_1 ez_1 => ?_)
  refine lv_ldcw hx hb hown (hts _ kw_1729) dJ6_bitCount_0f7a4_4 ?_
  refine lv_iand hx hb dJ6_bitCount_0f7a4_7 ?_
  refine lv_topi (fun z_2 ez_2 => ?_)
  refine lv_isub hx hb dJ6_bitCount_0f7a4_8 ?_
  refine lv_topi (fun z_3 ez_3 => ?_)
  refine lv_istore_n (lv' := [(0, .int z_3)]) hx hb dJ6_bitCount_0f7a4_9 rfl hl (by decide) rfl (fun ls hl => ?_)
  refine lv_iload_n hx hb dJ6_bitCount_0f7a4_10 rfl (lv_at hl 0 rfl) ?_
  refine lv_ldcw hx hb hown (hts _ kw_1730) dJ6_bitCount_0f7a4_11 ?_
  refine lv_iand hx hb dJ6_bitCount_0f7a4_14 ?_
  refine lv_topi (fun z_4 ez_4 => ?_)
  refine lv_iload_n hx hb dJ6_bitCount_0f7a4_15 rfl (lv_at hl 0 rfl) ?_
  refine lv_iconst (v := 2) hx hb dJ6_bitCount_0f7a4_16 (by decide) ?_
  refine lv_iushr hx hb dJ6_bitCount_0f7a4_17 rfl ?_
  refine lv_topi (fun z_5 ez_5 => ?_)
  refine lv_ldcw hx hb hown (hts _ kw_1730) dJ6_bitCount_0f7a4_18 ?_
  refine lv_iand hx hb dJ6_bitCount_0f7a4_21 ?_
  refine lv_topi (fun z_6 ez_6 => ?_)
  refine lv_iadd hx hb dJ6_bitCount_0f7a4_22 ?_
  refine lv_topi (fun z_7 ez_7 => ?_)
  refine lv_istore_n (lv' := [(0, .int z_7)]) hx hb dJ6_bitCount_0f7a4_23 rfl hl (by decide) rfl (fun ls hl => ?_)
  refine lv_iload_n hx hb dJ6_bitCount_0f7a4_24 rfl (lv_at hl 0 rfl) ?_
  refine lv_iload_n hx hb dJ6_bitCount_0f7a4_25 rfl (lv_at hl 0 rfl) ?_
  refine lv_iconst (v := 4) hx hb dJ6_bitCount_0f7a4_26 (by decide) ?_
  refine lv_iushr hx hb dJ6_bitCount_0f7a4_27 rfl ?_
  refine lv_topi (fun z_8 ez_8 => ?_)
  refine lv_iadd hx hb dJ6_bitCount_0f7a4_28 ?_
  refine lv_topi (fun z_9 ez_9 => ?_)
  refine lv_ldcw hx hb hown (hts _ kw_1731) dJ6_bitCount_0f7a4_29 ?_
  refine lv_iand hx hb dJ6_bitCount_0f7a4_32 ?_
  refine lv_topi (fun z_10 ez_10 => ?_)
  refine lv_istore_n (lv' := [(0, .int z_10)]) hx hb dJ6_bitCount_0f7a4_33 rfl hl (by decide) rfl (fun ls hl => ?_)
  refine lv_iload_n hx hb dJ6_bitCount_0f7a4_34 rfl (lv_at hl 0 rfl) ?_
  refine lv_iload_n hx hb dJ6_bitCount_0f7a4_35 rfl (lv_at hl 0 rfl) ?_
  refine lv_bipush (v := 8) hx hb dJ6_bitCount_0f7a4_36 (by decide) ?_
  refine lv_iushr hx hb dJ6_bitCount_0f7a4_38 rfl ?_
  refine lv_topi (fun z_11 ez_11 => ?_)
  refine lv_iadd hx hb dJ6_bitCount_0f7a4_39 ?_
  refine lv_topi (fun z_12 ez_12 => ?_)
  refine lv_istore_n (lv' := [(0, .int z_12)]) hx hb dJ6_bitCount_0f7a4_40 rfl hl (by decide) rfl (fun ls hl => ?_)
  refine lv_iload_n hx hb dJ6_bitCount_0f7a4_41 rfl (lv_at hl 0 rfl) ?_
  refine lv_iload_n hx hb dJ6_bitCount_0f7a4_42 rfl (lv_at hl 0 rfl) ?_
  refine lv_bipush (v := 16) hx hb dJ6_bitCount_0f7a4_43 (by decide) ?_
  refine lv_iushr hx hb dJ6_bitCount_0f7a4_45 rfl ?_
  refine lv_topi (fun z_13 ez_13 => ?_)
  refine lv_iadd hx hb dJ6_bitCount_0f7a4_46 ?_
  refine lv_topi (fun z_14 ez_14 => ?_)
  refine lv_istore_n (lv' := [(0, .int z_14)]) hx hb dJ6_bitCount_0f7a4_47 rfl hl (by decide) rfl (fun ls hl => ?_)
  refine lv_iload_n hx hb dJ6_bitCount_0f7a4_48 rfl (lv_at hl 0 rfl) ?_
  refine lv_bipush (v := 63) hx hb dJ6_bitCount_0f7a4_49 (by decide) ?_
  refine lv_iand hx hb dJ6_bitCount_0f7a4_51 ?_
  refine lv_topi (fun z_15 ez_15 => ?_)
  refine W.widen (k := 0) (n := 0) (Nat.le_of_ble_eq_true rfl) (Nat.le_of_ble_eq_true rfl) ?_
  exact W.iret (v := z_15) hx hb hr (fun t9 ht9 hW9 => ⟨⟨_, (), rfl, trivial, ⟨by rw [ht9]; exact hP, hD⟩⟩, hS.F ht9⟩) hS.2.2 dJ6_bitCount_0f7a4_52
set_option maxHeartbeats 1000000 in
set_option maxRecDepth 100000 in
theorem m_J13_bitCount_95d88 (l : Launch) (g : Gm) (sz : Nat) (ws : va_W) (y0 : Int64) (hG : Good g ws)  : Met l yJ13_bitCount_95d88 (wt yJ13_bitCount_95d88 cJ13_bitCount_95d88 2 (some .int)) ({ frames := 0, cells := 0, slots := 0, locals := 0 }) (va_Pc [.long y0] (st_G g sz ws)) (va_Qi (fun (r : Int32) (u9 : Unit) => True) (gQ0 g (va_A ws sz) ws) (va_A ws sz)) (0) (0) (va_A ws sz) := by
  refine Met.ofW (cc := cJ13_bitCount_95d88) (maxL := 2) (ret := (some .int)) (by decide) rfl ?_
  intro p e s m args below meth c s₁ B hml hv
  obtain ⟨rfl, hsz, hP, hK, hD0, hex, hE⟩ := hv
  have hx := B.exec
  have hb := B.bytes
  have hr := B.returns
  have hts0 := atoms_spec (ws := wt yJ13_bitCount_95d88 cJ13_bitCount_95d88 2 (some .int)) B.pre
  have hts : ∀ w ∈ tb, w.before _ s = true := fun w h => hts0 w (List.mem_cons_of_mem _ h)
  have hown : s.vm.findClass RJ13 = some m.cls := findClass_of_methodNamed B.named
  subst hsz
  have hD := hD0.self (sz := s.heap.size)
  generalize hAe : va_A ws s.heap.size = A at hD hE ⊢
  have hA : ∀ q : Nat, s.heap.size ≤ q → A q := fun q h => by rw [← hAe]; exact Or.inr h
  have hS : va_S A s.heap s.heap [] := va_S.rf
  have hl := lv_entry ([.long y0]) (n := 2) (Nat.le_of_ble_eq_true rfl)
  rw [lg_entry_eq]
  generalize (lg_sl ([.long y0]) ++ List.replicate (2 - (lg_sl ([.long y0])).length) Slot.unset).toArray = ls at hl ⊢
  have hl : lv_has ls 2 [(0, .long y0)] := hl
  refine lv_lload_n hx hb dJ13_bitCount_95d88_0 rfl (lv_at hl 0 rfl) ?_
  refine lv_lload_n hx hb dJ13_bitCount_95d88_1 rfl (lv_at hl 0 rfl) ?_
  refine lv_iconst (v := 1) hx hb dJ13_bitCount_95d88_2 (by decide) ?_
  refine lv_lushr hx hb dJ13_bitCount_95d88_3 rfl ?_
  refine lv_topl (fun z_1 ez_1 => ?_)
  refine lv_ldc2 hx hb hown (hts _ kw_1734) dJ13_bitCount_95d88_4 ?_
  refine lv_land hx hb dJ13_bitCount_95d88_7 ?_
  refine lv_topl (fun z_2 ez_2 => ?_)
  refine lv_lsub hx hb dJ13_bitCount_95d88_8 ?_
  refine lv_topl (fun z_3 ez_3 => ?_)
  refine lv_lstore_n (lv' := [(0, .long z_3)]) hx hb dJ13_bitCount_95d88_9 rfl hl (by decide) rfl (fun ls hl => ?_)
  refine lv_lload_n hx hb dJ13_bitCount_95d88_10 rfl (lv_at hl 0 rfl) ?_
  refine lv_ldc2 hx hb hown (hts _ kw_1735) dJ13_bitCount_95d88_11 ?_
  refine lv_land hx hb dJ13_bitCount_95d88_14 ?_
  refine lv_topl (fun z_4 ez_4 => ?_)
  refine lv_lload_n hx hb dJ13_bitCount_95d88_15 rfl (lv_at hl 0 rfl) ?_
  refine lv_iconst (v := 2) hx hb dJ13_bitCount_95d88_16 (by decide) ?_
  refine lv_lushr hx hb dJ13_bitCount_95d88_17 rfl ?_
  refine lv_topl (fun z_5 ez_5 => ?_)
  refine lv_ldc2 hx hb hown (hts _ kw_1735) dJ13_bitCount_95d88_18 ?_
  refine lv_land hx hb dJ13_bitCount_95d88_21 ?_
  refine lv_topl (fun z_6 ez_6 => ?_)
  refine lv_ladd hx hb dJ13_bitCount_95d88_22 ?_
  refine lv_topl (fun z_7 ez_7 => ?_)
  refine lv_lstore_n (lv' := [(0, .long z_7)]) hx hb dJ13_bitCount_95d88_23 rfl hl (by decide) rfl (fun ls hl => ?_)
  refine lv_lload_n hx hb dJ13_bitCount_95d88_24 rfl (lv_at hl 0 rfl) ?_
  refine lv_lload_n hx hb dJ13_bitCount_95d88_25 rfl (lv_at hl 0 rfl) ?_
  refine lv_iconst (v := 4) hx hb dJ13_bitCount_95d88_26 (by decide) ?_
  refine lv_lushr hx hb dJ13_bitCount_95d88_27 rfl ?_
  refine lv_topl (fun z_8 ez_8 => ?_)
  refine lv_ladd hx hb dJ13_bitCount_95d88_28 ?_
  refine lv_topl (fun z_9 ez_9 => ?_)
  refine lv_ldc2 hx hb hown (hts _ kw_1736) dJ13_bitCount_95d88_29 ?_
  refine lv_land hx hb dJ13_bitCount_95d88_32 ?_
  refine lv_topl (fun z_10 ez_10 => ?_)
  refine lv_lstore_n (lv' := [(0, .long z_10)]) hx hb dJ13_bitCount_95d88_33 rfl hl (by decide) rfl (fun ls hl => ?_)
  refine lv_lload_n hx hb dJ13_bitCount_95d88_34 rfl (lv_at hl 0 rfl) ?_
  refine lv_lload_n hx hb dJ13_bitCount_95d88_35 rfl (lv_at hl 0 rfl) ?_
  refine lv_bipush (v := 8) hx hb dJ13_bitCount_95d88_36 (by decide) ?_
  refine lv_lushr hx hb dJ13_bitCount_95d88_38 rfl ?_
  refine lv_topl (fun z_11 ez_11 => ?_)
  refine lv_ladd hx hb dJ13_bitCount_95d88_39 ?_
  refine lv_topl (fun z_12 ez_12 => ?_)
  refine lv_lstore_n (lv' := [(0, .long z_12)]) hx hb dJ13_bitCount_95d88_40 rfl hl (by decide) rfl (fun ls hl => ?_)
  refine lv_lload_n hx hb dJ13_bitCount_95d88_41 rfl (lv_at hl 0 rfl) ?_
  refine lv_lload_n hx hb dJ13_bitCount_95d88_42 rfl (lv_at hl 0 rfl) ?_
  refine lv_bipush (v := 16) hx hb dJ13_bitCount_95d88_43 (by decide) ?_
  refine lv_lushr hx hb dJ13_bitCount_95d88_45 rfl ?_
  refine lv_topl (fun z_13 ez_13 => ?_)
  refine lv_ladd hx hb dJ13_bitCount_95d88_46 ?_
  refine lv_topl (fun z_14 ez_14 => ?_)
  refine lv_lstore_n (lv' := [(0, .long z_14)]) hx hb dJ13_bitCount_95d88_47 rfl hl (by decide) rfl (fun ls hl => ?_)
  refine lv_lload_n hx hb dJ13_bitCount_95d88_48 rfl (lv_at hl 0 rfl) ?_
  refine lv_lload_n hx hb dJ13_bitCount_95d88_49 rfl (lv_at hl 0 rfl) ?_
  refine lv_bipush (v := 32) hx hb dJ13_bitCount_95d88_50 (by decide) ?_
  refine lv_lushr hx hb dJ13_bitCount_95d88_52 rfl ?_
  refine lv_topl (fun z_15 ez_15 => ?_)
  refine lv_ladd hx hb dJ13_bitCount_95d88_53 ?_
  refine lv_topl (fun z_16 ez_16 => ?_)
  refine lv_lstore_n (lv' := [(0, .long z_16)]) hx hb dJ13_bitCount_95d88_54 rfl hl (by decide) rfl (fun ls hl => ?_)
  refine lv_lload_n hx hb dJ13_bitCount_95d88_55 rfl (lv_at hl 0 rfl) ?_
  obtain ⟨z_17, ez_17⟩ : ∃ y : Int32, (z_16 : Int64).toInt32 = y := ⟨_, rfl⟩
  refine lv_l2i (v := z_17) hx hb dJ13_bitCount_95d88_56 ez_17 ?_
  refine lv_bipush (v := 127) hx hb dJ13_bitCount_95d88_57 (by decide) ?_
  refine lv_iand hx hb dJ13_bitCount_95d88_59 ?_
  refine lv_topi (fun z_18 ez_18 => ?_)
  refine W.widen (k := 0) (n := 0) (Nat.le_of_ble_eq_true rfl) (Nat.le_of_ble_eq_true rfl) ?_
  exact W.iret (v := z_18) hx hb hr (fun t9 ht9 hW9 => ⟨⟨_, (), rfl, trivial, ⟨by rw [ht9]; exact hP, hD⟩⟩, hS.F ht9⟩) hS.2.2 dJ13_bitCount_95d88_60
set_option maxHeartbeats 1000000 in
set_option maxRecDepth 100000 in
theorem m_J6_numberOfTrailingZeros_0f7a4 (l : Launch) (g : Gm) (sz : Nat) (ws : va_W) (x0 : Int32) (hG : Good g ws)  : Met l yJ6_numberOfTrailingZeros_0f7a4 (wt yJ6_numberOfTrailingZeros_0f7a4 cJ6_numberOfTrailingZeros_0f7a4 2 (some .int)) ({ frames := 0, cells := 0, slots := 0, locals := 0 }) (va_Pc [.int x0] (st_G g sz ws)) (va_Qi (fun (r : Int32) (u9 : Unit) => True) (gQ0 g (va_A ws sz) ws) (va_A ws sz)) (0) (0) (va_A ws sz) := by
  refine Met.ofW (cc := cJ6_numberOfTrailingZeros_0f7a4) (maxL := 2) (ret := (some .int)) (by decide) rfl ?_
  intro p e s m args below meth c s₁ B hml hv
  obtain ⟨rfl, hsz, hP, hK, hD0, hex, hE⟩ := hv
  have hx := B.exec
  have hb := B.bytes
  have hr := B.returns
  have hts0 := atoms_spec (ws := wt yJ6_numberOfTrailingZeros_0f7a4 cJ6_numberOfTrailingZeros_0f7a4 2 (some .int)) B.pre
  have hts : ∀ w ∈ tb, w.before _ s = true := fun w h => hts0 w (List.mem_cons_of_mem _ h)
  have hown : s.vm.findClass RJ6 = some m.cls := findClass_of_methodNamed B.named
  subst hsz
  have hD := hD0.self (sz := s.heap.size)
  generalize hAe : va_A ws s.heap.size = A at hD hE ⊢
  have hA : ∀ q : Nat, s.heap.size ≤ q → A q := fun q h => by rw [← hAe]; exact Or.inr h
  have hS : va_S A s.heap s.heap [] := va_S.rf
  have hl := lv_entry ([.int x0]) (n := 2) (Nat.le_of_ble_eq_true rfl)
  rw [lg_entry_eq]
  generalize (lg_sl ([.int x0]) ++ List.replicate (2 - (lg_sl ([.int x0])).length) Slot.unset).toArray = ls at hl ⊢
  have hl : lv_has ls 2 [(0, .int x0)] := hl
  refine lv_iload_n hx hb dJ6_numberOfTrailingZeros_0f7a4_0 rfl (lv_at hl 0 rfl) ?_
  refine lv_iconst (v := (-1)) hx hb dJ6_numberOfTrailingZeros_0f7a4_1 (by decide) ?_
  refine lv_ixor hx hb dJ6_numberOfTrailingZeros_0f7a4_2 ?_
  refine lv_topi (fun z_1 ez_1 => ?_)
  refine lv_iload_n hx hb dJ6_numberOfTrailingZeros_0f7a4_3 rfl (lv_at hl 0 rfl) ?_
  refine lv_iconst (v := 1) hx hb dJ6_numberOfTrailingZeros_0f7a4_4 (by decide) ?_
  refine lv_isub hx hb dJ6_numberOfTrailingZeros_0f7a4_5 ?_
  refine lv_topi (fun z_2 ez_2 => ?_)
  refine lv_iand hx hb dJ6_numberOfTrailingZeros_0f7a4_6 ?_
  refine lv_topi (fun z_3 ez_3 => ?_)
  refine lv_istore_n (lv' := [(0, .int z_3)]) hx hb dJ6_numberOfTrailingZeros_0f7a4_7 rfl hl (by decide) rfl (fun ls hl => ?_)
  refine lv_iload_n hx hb dJ6_numberOfTrailingZeros_0f7a4_8 rfl (lv_at hl 0 rfl) ?_
  refine lv_if_gt (tgt := 17) hx hb dJ6_numberOfTrailingZeros_0f7a4_9 (by decide) (fun c_4 => ?_) (fun c_4 => ?_)
  · refine lv_iconst (v := 1) hx hb dJ6_numberOfTrailingZeros_0f7a4_17 (by decide) ?_
    refine lv_istore_n (lv' := [(1, .int 1), (0, .int z_3)]) hx hb dJ6_numberOfTrailingZeros_0f7a4_18 rfl hl (by decide) rfl (fun ls hl => ?_)
    refine lv_iload_n hx hb dJ6_numberOfTrailingZeros_0f7a4_19 rfl (lv_at hl 1 rfl) ?_
    refine lv_ldcw hx hb hown (hts _ kw_1739) dJ6_numberOfTrailingZeros_0f7a4_20 ?_
    have J_34 : ∀ (v0_5 : Int32) (v1_6 : Int32) (H : Heap) (locs : List Loc) (ls : Array Slot), va_P (gD g) cl0 ws H → va_D A ws → va_S A s.heap H locs → lv_has ls 2 [(0, .int v0_5), (1, .int v1_6)] → W p l e (headSpec (wt yJ6_numberOfTrailingZeros_0f7a4 cJ6_numberOfTrailingZeros_0f7a4 2 (some .int)) ({ frames := 0, cells := 0, slots := 0, locals := 0 })).room s m ([.int x0] : List Value).toArray below meth c H locs (0) (0) (MQ below (va_Qi (fun (r : Int32) (u9 : Unit) => True) (gQ0 g A ws) A) ([.int x0] : List Value).toArray s (0) (0) A) (F0 m 34 ls []) := by
      intro v0_5 v1_6 H locs ls  hP hD hS hl
      refine lv_iload_n hx hb dJ6_numberOfTrailingZeros_0f7a4_34 rfl (lv_at hl 0 rfl) ?_
      refine lv_sipush (v := 256) hx hb dJ6_numberOfTrailingZeros_0f7a4_35 (by decide) ?_
      have J_49 : ∀ (v0_9 : Int32) (v1_10 : Int32) (H : Heap) (locs : List Loc) (ls : Array Slot), va_P (gD g) cl0 ws H → va_D A ws → va_S A s.heap H locs → lv_has ls 2 [(0, .int v0_9), (1, .int v1_10)] → W p l e (headSpec (wt yJ6_numberOfTrailingZeros_0f7a4 cJ6_numberOfTrailingZeros_0f7a4 2 (some .int)) ({ frames := 0, cells := 0, slots := 0, locals := 0 })).room s m ([.int x0] : List Value).toArray below meth c H locs (0) (0) (MQ below (va_Qi (fun (r : Int32) (u9 : Unit) => True) (gQ0 g A ws) A) ([.int x0] : List Value).toArray s (0) (0) A) (F0 m 49 ls []) := by
        intro v0_9 v1_10 H locs ls  hP hD hS hl
        refine lv_iload_n hx hb dJ6_numberOfTrailingZeros_0f7a4_49 rfl (lv_at hl 0 rfl) ?_
        refine lv_bipush (v := 16) hx hb dJ6_numberOfTrailingZeros_0f7a4_50 (by decide) ?_
        have J_62 : ∀ (v0_13 : Int32) (v1_14 : Int32) (H : Heap) (locs : List Loc) (ls : Array Slot), va_P (gD g) cl0 ws H → va_D A ws → va_S A s.heap H locs → lv_has ls 2 [(0, .int v0_13), (1, .int v1_14)] → W p l e (headSpec (wt yJ6_numberOfTrailingZeros_0f7a4 cJ6_numberOfTrailingZeros_0f7a4 2 (some .int)) ({ frames := 0, cells := 0, slots := 0, locals := 0 })).room s m ([.int x0] : List Value).toArray below meth c H locs (0) (0) (MQ below (va_Qi (fun (r : Int32) (u9 : Unit) => True) (gQ0 g A ws) A) ([.int x0] : List Value).toArray s (0) (0) A) (F0 m 62 ls []) := by
          intro v0_13 v1_14 H locs ls  hP hD hS hl
          refine lv_iload_n hx hb dJ6_numberOfTrailingZeros_0f7a4_62 rfl (lv_at hl 0 rfl) ?_
          refine lv_iconst (v := 4) hx hb dJ6_numberOfTrailingZeros_0f7a4_63 (by decide) ?_
          have J_74 : ∀ (v0_17 : Int32) (v1_18 : Int32) (H : Heap) (locs : List Loc) (ls : Array Slot), va_P (gD g) cl0 ws H → va_D A ws → va_S A s.heap H locs → lv_has ls 2 [(0, .int v0_17), (1, .int v1_18)] → W p l e (headSpec (wt yJ6_numberOfTrailingZeros_0f7a4 cJ6_numberOfTrailingZeros_0f7a4 2 (some .int)) ({ frames := 0, cells := 0, slots := 0, locals := 0 })).room s m ([.int x0] : List Value).toArray below meth c H locs (0) (0) (MQ below (va_Qi (fun (r : Int32) (u9 : Unit) => True) (gQ0 g A ws) A) ([.int x0] : List Value).toArray s (0) (0) A) (F0 m 74 ls []) := by
            intro v0_17 v1_18 H locs ls  hP hD hS hl
            refine lv_iload_n hx hb dJ6_numberOfTrailingZeros_0f7a4_74 rfl (lv_at hl 1 rfl) ?_
            refine lv_iload_n hx hb dJ6_numberOfTrailingZeros_0f7a4_75 rfl (lv_at hl 0 rfl) ?_
            refine lv_iconst (v := 1) hx hb dJ6_numberOfTrailingZeros_0f7a4_76 (by decide) ?_
            refine lv_iushr hx hb dJ6_numberOfTrailingZeros_0f7a4_77 rfl ?_
            refine lv_topi (fun z_21 ez_21 => ?_)
            refine lv_iadd hx hb dJ6_numberOfTrailingZeros_0f7a4_78 ?_
            refine lv_topi (fun z_22 ez_22 => ?_)
            refine W.widen (k := 0) (n := 0) (Nat.le_of_ble_eq_true rfl) (Nat.le_of_ble_eq_true rfl) ?_
            exact W.iret (v := z_22) hx hb hr (fun t9 ht9 hW9 => ⟨⟨_, (), rfl, trivial, ⟨by rw [ht9]; exact hP, hD⟩⟩, hS.F ht9⟩) hS.2.2 dJ6_numberOfTrailingZeros_0f7a4_79
          refine lv_icmp_le (tgt := 74) hx hb dJ6_numberOfTrailingZeros_0f7a4_64 (by decide) (fun c_23 => ?_) (fun c_23 => ?_)
          · exact J_74 (v0_13) (v1_14) H locs ls  hP hD hS (lv_sub hl [0, 1] rfl)
          · obtain ⟨z_24, ez_24⟩ : ∃ z : Int32, v1_14 + Int32.ofInt 2 = z := ⟨_, rfl⟩
            refine lv_iinc (v := z_24) (lv' := [(1, .int z_24), (0, .int v0_13)]) hx hb dJ6_numberOfTrailingZeros_0f7a4_67 hl (k := 1) rfl ez_24 (by decide) rfl (fun ls hl => ?_)
            refine lv_iload_n hx hb dJ6_numberOfTrailingZeros_0f7a4_70 rfl (lv_at hl 1 rfl) ?_
            refine lv_iconst (v := 2) hx hb dJ6_numberOfTrailingZeros_0f7a4_71 (by decide) ?_
            refine lv_iushr hx hb dJ6_numberOfTrailingZeros_0f7a4_72 rfl ?_
            refine lv_topi (fun z_25 ez_25 => ?_)
            refine lv_istore_n (lv' := [(0, .int z_25), (1, .int z_24)]) hx hb dJ6_numberOfTrailingZeros_0f7a4_73 rfl hl (by decide) rfl (fun ls hl => ?_)
            exact J_74 (z_25) (z_24) H locs ls  hP hD hS (lv_sub hl [0, 1] rfl)
        refine lv_icmp_le (tgt := 62) hx hb dJ6_numberOfTrailingZeros_0f7a4_52 (by decide) (fun c_26 => ?_) (fun c_26 => ?_)
        · exact J_62 (v0_9) (v1_10) H locs ls  hP hD hS (lv_sub hl [0, 1] rfl)
        · obtain ⟨z_27, ez_27⟩ : ∃ z : Int32, v1_10 + Int32.ofInt 4 = z := ⟨_, rfl⟩
          refine lv_iinc (v := z_27) (lv' := [(1, .int z_27), (0, .int v0_9)]) hx hb dJ6_numberOfTrailingZeros_0f7a4_55 hl (k := 1) rfl ez_27 (by decide) rfl (fun ls hl => ?_)
          refine lv_iload_n hx hb dJ6_numberOfTrailingZeros_0f7a4_58 rfl (lv_at hl 1 rfl) ?_
          refine lv_iconst (v := 4) hx hb dJ6_numberOfTrailingZeros_0f7a4_59 (by decide) ?_
          refine lv_iushr hx hb dJ6_numberOfTrailingZeros_0f7a4_60 rfl ?_
          refine lv_topi (fun z_28 ez_28 => ?_)
          refine lv_istore_n (lv' := [(0, .int z_28), (1, .int z_27)]) hx hb dJ6_numberOfTrailingZeros_0f7a4_61 rfl hl (by decide) rfl (fun ls hl => ?_)
          exact J_62 (z_28) (z_27) H locs ls  hP hD hS (lv_sub hl [0, 1] rfl)
      refine lv_icmp_le (tgt := 49) hx hb dJ6_numberOfTrailingZeros_0f7a4_38 (by decide) (fun c_29 => ?_) (fun c_29 => ?_)
      · exact J_49 (v0_5) (v1_6) H locs ls  hP hD hS (lv_sub hl [0, 1] rfl)
      · obtain ⟨z_30, ez_30⟩ : ∃ z : Int32, v1_6 + Int32.ofInt 8 = z := ⟨_, rfl⟩
        refine lv_iinc (v := z_30) (lv' := [(1, .int z_30), (0, .int v0_5)]) hx hb dJ6_numberOfTrailingZeros_0f7a4_41 hl (k := 1) rfl ez_30 (by decide) rfl (fun ls hl => ?_)
        refine lv_iload_n hx hb dJ6_numberOfTrailingZeros_0f7a4_44 rfl (lv_at hl 1 rfl) ?_
        refine lv_bipush (v := 8) hx hb dJ6_numberOfTrailingZeros_0f7a4_45 (by decide) ?_
        refine lv_iushr hx hb dJ6_numberOfTrailingZeros_0f7a4_47 rfl ?_
        refine lv_topi (fun z_31 ez_31 => ?_)
        refine lv_istore_n (lv' := [(0, .int z_31), (1, .int z_30)]) hx hb dJ6_numberOfTrailingZeros_0f7a4_48 rfl hl (by decide) rfl (fun ls hl => ?_)
        exact J_49 (z_31) (z_30) H locs ls  hP hD hS (lv_sub hl [0, 1] rfl)
    refine lv_icmp_le (tgt := 34) hx hb dJ6_numberOfTrailingZeros_0f7a4_23 (by decide) (fun c_32 => ?_) (fun c_32 => ?_)
    · exact J_34 (z_3) (1) _ _ ls  hP hD hS (lv_sub hl [1, 0] rfl)
    · refine lv_iinc (v := 17) (lv' := [(1, .int 17), (0, .int z_3)]) hx hb dJ6_numberOfTrailingZeros_0f7a4_26 hl (k := 0) rfl (by decide) (by decide) rfl (fun ls hl => ?_)
      refine lv_iload_n hx hb dJ6_numberOfTrailingZeros_0f7a4_29 rfl (lv_at hl 1 rfl) ?_
      refine lv_bipush (v := 16) hx hb dJ6_numberOfTrailingZeros_0f7a4_30 (by decide) ?_
      refine lv_iushr hx hb dJ6_numberOfTrailingZeros_0f7a4_32 rfl ?_
      refine lv_topi (fun z_33 ez_33 => ?_)
      refine lv_istore_n (lv' := [(0, .int z_33), (1, .int 17)]) hx hb dJ6_numberOfTrailingZeros_0f7a4_33 rfl hl (by decide) rfl (fun ls hl => ?_)
      exact J_34 (z_33) (17) _ _ ls  hP hD hS (lv_sub hl [0, 1] rfl)
  · refine lv_iload_n hx hb dJ6_numberOfTrailingZeros_0f7a4_12 rfl (lv_at hl 0 rfl) ?_
    refine lv_bipush (v := 32) hx hb dJ6_numberOfTrailingZeros_0f7a4_13 (by decide) ?_
    refine lv_iand hx hb dJ6_numberOfTrailingZeros_0f7a4_15 ?_
    refine lv_topi (fun z_34 ez_34 => ?_)
    refine W.widen (k := 0) (n := 0) (Nat.le_of_ble_eq_true rfl) (Nat.le_of_ble_eq_true rfl) ?_
    exact W.iret (v := z_34) hx hb hr (fun t9 ht9 hW9 => ⟨⟨_, (), rfl, trivial, ⟨by rw [ht9]; exact hP, hD⟩⟩, hS.F ht9⟩) hS.2.2 dJ6_numberOfTrailingZeros_0f7a4_16
set_option maxHeartbeats 1000000 in
set_option maxRecDepth 100000 in
theorem m_X6_isJump (l : Launch) (g : Gm) (sz : Nat) (ws : va_W) (x0 : Int32) (hG : Good g ws)  : Met l yX6_isJump (wt yX6_isJump cX6_isJump 1 (some .boolean)) ({ frames := 0, cells := 0, slots := 0, locals := 0 }) (va_Pc [.int x0] (st_G g sz ws)) (va_Qi (fun (r : Int32) (u9 : Unit) => r = 0 ∨ r = 1) (gQ0 g (va_A ws sz) ws) (va_A ws sz)) (0) (0) (va_A ws sz) := by
  refine Met.ofW (cc := cX6_isJump) (maxL := 1) (ret := (some .boolean)) (by decide) rfl ?_
  intro p e s m args below meth c s₁ B hml hv
  obtain ⟨rfl, hsz, hP, hK, hD0, hex, hE⟩ := hv
  have hx := B.exec
  have hb := B.bytes
  have hr := B.returns
  have hts0 := atoms_spec (ws := wt yX6_isJump cX6_isJump 1 (some .boolean)) B.pre
  have hts : ∀ w ∈ tb, w.before _ s = true := fun w h => hts0 w (List.mem_cons_of_mem _ h)
  have hown : s.vm.findClass RX6 = some m.cls := findClass_of_methodNamed B.named
  subst hsz
  have hD := hD0.self (sz := s.heap.size)
  generalize hAe : va_A ws s.heap.size = A at hD hE ⊢
  have hA : ∀ q : Nat, s.heap.size ≤ q → A q := fun q h => by rw [← hAe]; exact Or.inr h
  have hS : va_S A s.heap s.heap [] := va_S.rf
  have hl := lv_entry ([.int x0]) (n := 1) (Nat.le_of_ble_eq_true rfl)
  rw [lg_entry_eq]
  generalize (lg_sl ([.int x0]) ++ List.replicate (1 - (lg_sl ([.int x0])).length) Slot.unset).toArray = ls at hl ⊢
  have hl : lv_has ls 1 [(0, .int x0)] := hl
  refine lv_iload_n hx hb dX6_isJump_0 rfl (lv_at hl 0 rfl) ?_
  refine lv_sipush (v := 153) hx hb dX6_isJump_1 (by decide) ?_
  have J_33 : ∀ (t_1 : Int32) (H : Heap) (locs : List Loc) (ls : Array Slot), t_1 = 0 ∨ t_1 = 1 → va_P (gD g) cl0 ws H → va_D A ws → va_S A s.heap H locs → lv_has ls 1 [] → W p l e (headSpec (wt yX6_isJump cX6_isJump 1 (some .boolean)) ({ frames := 0, cells := 0, slots := 0, locals := 0 })).room s m ([.int x0] : List Value).toArray below meth c H locs (0) (0) (MQ below (va_Qi (fun (r : Int32) (u9 : Unit) => r = 0 ∨ r = 1) (gQ0 g A ws) A) ([.int x0] : List Value).toArray s (0) (0) A) (F0 m 33 ls [.int t_1]) := by
    intro t_1 H locs ls iv_2 hP hD hS hl
    have hz_t_1 := iv_2
    refine W.widen (k := 0) (n := 0) (Nat.le_of_ble_eq_true rfl) (Nat.le_of_ble_eq_true rfl) ?_
    exact W.zret (v := t_1) hx hb hr (nz hz_t_1) (fun t9 ht9 hW9 => ⟨⟨_, (), rfl, hz_t_1, ⟨by rw [ht9]; exact hP, hD⟩⟩, hS.F ht9⟩) hS.2.2 dX6_isJump_33
  have J_28 : ∀  (H : Heap) (locs : List Loc) (ls : Array Slot), va_P (gD g) cl0 ws H → va_D A ws → va_S A s.heap H locs → lv_has ls 1 [] → W p l e (headSpec (wt yX6_isJump cX6_isJump 1 (some .boolean)) ({ frames := 0, cells := 0, slots := 0, locals := 0 })).room s m ([.int x0] : List Value).toArray below meth c H locs (0) (0) (MQ below (va_Qi (fun (r : Int32) (u9 : Unit) => r = 0 ∨ r = 1) (gQ0 g A ws) A) ([.int x0] : List Value).toArray s (0) (0) A) (F0 m 28 ls []) := by
    intro  H locs ls  hP hD hS hl
    refine lv_iconst (v := 1) hx hb dX6_isJump_28 (by decide) ?_
    refine lv_goto (tgt := 33) hx hb dX6_isJump_29 (by decide) ?_
    exact J_33 (1) H locs ls (Or.inr rfl) hP hD hS (lv_sub hl [] rfl)
  have J_14 : ∀  (H : Heap) (locs : List Loc) (ls : Array Slot), va_P (gD g) cl0 ws H → va_D A ws → va_S A s.heap H locs → lv_has ls 1 [(0, .int x0)] → W p l e (headSpec (wt yX6_isJump cX6_isJump 1 (some .boolean)) ({ frames := 0, cells := 0, slots := 0, locals := 0 })).room s m ([.int x0] : List Value).toArray below meth c H locs (0) (0) (MQ below (va_Qi (fun (r : Int32) (u9 : Unit) => r = 0 ∨ r = 1) (gQ0 g A ws) A) ([.int x0] : List Value).toArray s (0) (0) A) (F0 m 14 ls []) := by
    intro  H locs ls  hP hD hS hl
    refine lv_iload_n hx hb dX6_isJump_14 rfl (lv_at hl 0 rfl) ?_
    refine lv_sipush (v := 198) hx hb dX6_isJump_15 (by decide) ?_
    refine lv_icmp_eq (tgt := 28) hx hb dX6_isJump_18 (by decide) (fun c_9 => ?_) (fun c_9 => ?_)
    · exact J_28  H locs ls  hP hD hS (lv_sub hl [] rfl)
    · refine lv_iload_n hx hb dX6_isJump_21 rfl (lv_at hl 0 rfl) ?_
      refine lv_sipush (v := 199) hx hb dX6_isJump_22 (by decide) ?_
      refine lv_icmp_ne (tgt := 32) hx hb dX6_isJump_25 (by decide) (fun c_10 => ?_) (fun c_10 => ?_)
      · refine lv_iconst (v := 0) hx hb dX6_isJump_32 (by decide) ?_
        exact J_33 (0) H locs ls (Or.inl rfl) hP hD hS (lv_sub hl [] rfl)
      · exact J_28  H locs ls  hP hD hS (lv_sub hl [] rfl)
  refine lv_icmp_lt (tgt := 14) hx hb dX6_isJump_4 (by decide) (fun c_11 => ?_) (fun c_11 => ?_)
  · exact J_14  _ _ ls  hP hD hS (lv_sub hl [0] rfl)
  · refine lv_iload_n hx hb dX6_isJump_7 rfl (lv_at hl 0 rfl) ?_
    refine lv_sipush (v := 167) hx hb dX6_isJump_8 (by decide) ?_
    refine lv_icmp_le (tgt := 28) hx hb dX6_isJump_11 (by decide) (fun c_12 => ?_) (fun c_12 => ?_)
    · exact J_28  _ _ ls  hP hD hS (lv_sub hl [] rfl)
    · exact J_14  _ _ ls  hP hD hS (lv_sub hl [0] rfl)
set_option maxHeartbeats 1000000 in
set_option maxRecDepth 100000 in
theorem m_X6_isSwitch (l : Launch) (g : Gm) (sz : Nat) (ws : va_W) (x0 : Int32) (hG : Good g ws)  : Met l yX6_isSwitch (wt yX6_isSwitch cX6_isSwitch 1 (some .boolean)) ({ frames := 0, cells := 0, slots := 0, locals := 0 }) (va_Pc [.int x0] (st_G g sz ws)) (va_Qi (fun (r : Int32) (u9 : Unit) => r = 0 ∨ r = 1) (gQ0 g (va_A ws sz) ws) (va_A ws sz)) (0) (0) (va_A ws sz) := by
  refine Met.ofW (cc := cX6_isSwitch) (maxL := 1) (ret := (some .boolean)) (by decide) rfl ?_
  intro p e s m args below meth c s₁ B hml hv
  obtain ⟨rfl, hsz, hP, hK, hD0, hex, hE⟩ := hv
  have hx := B.exec
  have hb := B.bytes
  have hr := B.returns
  have hts0 := atoms_spec (ws := wt yX6_isSwitch cX6_isSwitch 1 (some .boolean)) B.pre
  have hts : ∀ w ∈ tb, w.before _ s = true := fun w h => hts0 w (List.mem_cons_of_mem _ h)
  have hown : s.vm.findClass RX6 = some m.cls := findClass_of_methodNamed B.named
  subst hsz
  have hD := hD0.self (sz := s.heap.size)
  generalize hAe : va_A ws s.heap.size = A at hD hE ⊢
  have hA : ∀ q : Nat, s.heap.size ≤ q → A q := fun q h => by rw [← hAe]; exact Or.inr h
  have hS : va_S A s.heap s.heap [] := va_S.rf
  have hl := lv_entry ([.int x0]) (n := 1) (Nat.le_of_ble_eq_true rfl)
  rw [lg_entry_eq]
  generalize (lg_sl ([.int x0]) ++ List.replicate (1 - (lg_sl ([.int x0])).length) Slot.unset).toArray = ls at hl ⊢
  have hl : lv_has ls 1 [(0, .int x0)] := hl
  refine lv_iload_n hx hb dX6_isSwitch_0 rfl (lv_at hl 0 rfl) ?_
  refine lv_sipush (v := 170) hx hb dX6_isSwitch_1 (by decide) ?_
  have J_19 : ∀ (t_1 : Int32) (H : Heap) (locs : List Loc) (ls : Array Slot), t_1 = 0 ∨ t_1 = 1 → va_P (gD g) cl0 ws H → va_D A ws → va_S A s.heap H locs → lv_has ls 1 [] → W p l e (headSpec (wt yX6_isSwitch cX6_isSwitch 1 (some .boolean)) ({ frames := 0, cells := 0, slots := 0, locals := 0 })).room s m ([.int x0] : List Value).toArray below meth c H locs (0) (0) (MQ below (va_Qi (fun (r : Int32) (u9 : Unit) => r = 0 ∨ r = 1) (gQ0 g A ws) A) ([.int x0] : List Value).toArray s (0) (0) A) (F0 m 19 ls [.int t_1]) := by
    intro t_1 H locs ls iv_2 hP hD hS hl
    have hz_t_1 := iv_2
    refine W.widen (k := 0) (n := 0) (Nat.le_of_ble_eq_true rfl) (Nat.le_of_ble_eq_true rfl) ?_
    exact W.zret (v := t_1) hx hb hr (nz hz_t_1) (fun t9 ht9 hW9 => ⟨⟨_, (), rfl, hz_t_1, ⟨by rw [ht9]; exact hP, hD⟩⟩, hS.F ht9⟩) hS.2.2 dX6_isSwitch_19
  have J_14 : ∀  (H : Heap) (locs : List Loc) (ls : Array Slot), va_P (gD g) cl0 ws H → va_D A ws → va_S A s.heap H locs → lv_has ls 1 [] → W p l e (headSpec (wt yX6_isSwitch cX6_isSwitch 1 (some .boolean)) ({ frames := 0, cells := 0, slots := 0, locals := 0 })).room s m ([.int x0] : List Value).toArray below meth c H locs (0) (0) (MQ below (va_Qi (fun (r : Int32) (u9 : Unit) => r = 0 ∨ r = 1) (gQ0 g A ws) A) ([.int x0] : List Value).toArray s (0) (0) A) (F0 m 14 ls []) := by
    intro  H locs ls  hP hD hS hl
    refine lv_iconst (v := 1) hx hb dX6_isSwitch_14 (by decide) ?_
    refine lv_goto (tgt := 19) hx hb dX6_isSwitch_15 (by decide) ?_
    exact J_19 (1) H locs ls (Or.inr rfl) hP hD hS (lv_sub hl [] rfl)
  refine lv_icmp_eq (tgt := 14) hx hb dX6_isSwitch_4 (by decide) (fun c_7 => ?_) (fun c_7 => ?_)
  · exact J_14  _ _ ls  hP hD hS (lv_sub hl [] rfl)
  · refine lv_iload_n hx hb dX6_isSwitch_7 rfl (lv_at hl 0 rfl) ?_
    refine lv_sipush (v := 171) hx hb dX6_isSwitch_8 (by decide) ?_
    refine lv_icmp_ne (tgt := 18) hx hb dX6_isSwitch_11 (by decide) (fun c_8 => ?_) (fun c_8 => ?_)
    · refine lv_iconst (v := 0) hx hb dX6_isSwitch_18 (by decide) ?_
      exact J_19 (0) _ _ ls (Or.inl rfl) hP hD hS (lv_sub hl [] rfl)
    · exact J_14  _ _ ls  hP hD hS (lv_sub hl [] rfl)
set_option maxHeartbeats 1000000 in
set_option maxRecDepth 100000 in
theorem m_X6_goesOn (l : Launch) (g : Gm) (sz : Nat) (ws : va_W) (x0 : Int32) (hG : Good g ws)  : Met l yX6_goesOn (wt yX6_goesOn cX6_goesOn 1 (some .boolean)) ({ frames := 0, cells := 0, slots := 0, locals := 0 }) (va_Pc [.int x0] (st_G g sz ws)) (va_Qi (fun (r : Int32) (u9 : Unit) => r = 0 ∨ r = 1) (gQ0 g (va_A ws sz) ws) (va_A ws sz)) (0) (0) (va_A ws sz) := by
  refine Met.ofW (cc := cX6_goesOn) (maxL := 1) (ret := (some .boolean)) (by decide) rfl ?_
  intro p e s m args below meth c s₁ B hml hv
  obtain ⟨rfl, hsz, hP, hK, hD0, hex, hE⟩ := hv
  have hx := B.exec
  have hb := B.bytes
  have hr := B.returns
  have hts0 := atoms_spec (ws := wt yX6_goesOn cX6_goesOn 1 (some .boolean)) B.pre
  have hts : ∀ w ∈ tb, w.before _ s = true := fun w h => hts0 w (List.mem_cons_of_mem _ h)
  have hown : s.vm.findClass RX6 = some m.cls := findClass_of_methodNamed B.named
  subst hsz
  have hD := hD0.self (sz := s.heap.size)
  generalize hAe : va_A ws s.heap.size = A at hD hE ⊢
  have hA : ∀ q : Nat, s.heap.size ≤ q → A q := fun q h => by rw [← hAe]; exact Or.inr h
  have hS : va_S A s.heap s.heap [] := va_S.rf
  have hl := lv_entry ([.int x0]) (n := 1) (Nat.le_of_ble_eq_true rfl)
  rw [lg_entry_eq]
  generalize (lg_sl ([.int x0]) ++ List.replicate (1 - (lg_sl ([.int x0])).length) Slot.unset).toArray = ls at hl ⊢
  have hl : lv_has ls 1 [(0, .int x0)] := hl
  refine lv_iload_n hx hb dX6_goesOn_0 rfl (lv_at hl 0 rfl) ?_
  refine lv_sipush (v := 167) hx hb dX6_goesOn_1 (by decide) ?_
  have J_33 : ∀ (t_1 : Int32) (H : Heap) (locs : List Loc) (ls : Array Slot), t_1 = 0 ∨ t_1 = 1 → va_P (gD g) cl0 ws H → va_D A ws → va_S A s.heap H locs → lv_has ls 1 [] → W p l e (headSpec (wt yX6_goesOn cX6_goesOn 1 (some .boolean)) ({ frames := 0, cells := 0, slots := 0, locals := 0 })).room s m ([.int x0] : List Value).toArray below meth c H locs (0) (0) (MQ below (va_Qi (fun (r : Int32) (u9 : Unit) => r = 0 ∨ r = 1) (gQ0 g A ws) A) ([.int x0] : List Value).toArray s (0) (0) A) (F0 m 33 ls [.int t_1]) := by
    intro t_1 H locs ls iv_2 hP hD hS hl
    have hz_t_1 := iv_2
    refine W.widen (k := 0) (n := 0) (Nat.le_of_ble_eq_true rfl) (Nat.le_of_ble_eq_true rfl) ?_
    exact W.zret (v := t_1) hx hb hr (nz hz_t_1) (fun t9 ht9 hW9 => ⟨⟨_, (), rfl, hz_t_1, ⟨by rw [ht9]; exact hP, hD⟩⟩, hS.F ht9⟩) hS.2.2 dX6_goesOn_33
  have J_32 : ∀  (H : Heap) (locs : List Loc) (ls : Array Slot), va_P (gD g) cl0 ws H → va_D A ws → va_S A s.heap H locs → lv_has ls 1 [] → W p l e (headSpec (wt yX6_goesOn cX6_goesOn 1 (some .boolean)) ({ frames := 0, cells := 0, slots := 0, locals := 0 })).room s m ([.int x0] : List Value).toArray below meth c H locs (0) (0) (MQ below (va_Qi (fun (r : Int32) (u9 : Unit) => r = 0 ∨ r = 1) (gQ0 g A ws) A) ([.int x0] : List Value).toArray s (0) (0) A) (F0 m 32 ls []) := by
    intro  H locs ls  hP hD hS hl
    refine lv_iconst (v := 0) hx hb dX6_goesOn_32 (by decide) ?_
    exact J_33 (0) H locs ls (Or.inl rfl) hP hD hS (lv_sub hl [] rfl)
  refine lv_icmp_eq (tgt := 32) hx hb dX6_goesOn_4 (by decide) (fun c_7 => ?_) (fun c_7 => ?_)
  · exact J_32  _ _ ls  hP hD hS (lv_sub hl [] rfl)
  · refine lv_iload_n hx hb dX6_goesOn_7 rfl (lv_at hl 0 rfl) ?_
    refine lv_sipush (v := 191) hx hb dX6_goesOn_8 (by decide) ?_
    refine lv_icmp_eq (tgt := 32) hx hb dX6_goesOn_11 (by decide) (fun c_8 => ?_) (fun c_8 => ?_)
    · exact J_32  _ _ ls  hP hD hS (lv_sub hl [] rfl)
    · refine lv_iload_n hx hb dX6_goesOn_14 rfl (lv_at hl 0 rfl) ?_
      refine lv_sipush (v := 170) hx hb dX6_goesOn_15 (by decide) ?_
      have J_28 : ∀  (H : Heap) (locs : List Loc) (ls : Array Slot), va_P (gD g) cl0 ws H → va_D A ws → va_S A s.heap H locs → lv_has ls 1 [] → W p l e (headSpec (wt yX6_goesOn cX6_goesOn 1 (some .boolean)) ({ frames := 0, cells := 0, slots := 0, locals := 0 })).room s m ([.int x0] : List Value).toArray below meth c H locs (0) (0) (MQ below (va_Qi (fun (r : Int32) (u9 : Unit) => r = 0 ∨ r = 1) (gQ0 g A ws) A) ([.int x0] : List Value).toArray s (0) (0) A) (F0 m 28 ls []) := by
        intro  H locs ls  hP hD hS hl
        refine lv_iconst (v := 1) hx hb dX6_goesOn_28 (by decide) ?_
        refine lv_goto (tgt := 33) hx hb dX6_goesOn_29 (by decide) ?_
        exact J_33 (1) H locs ls (Or.inr rfl) hP hD hS (lv_sub hl [] rfl)
      refine lv_icmp_lt (tgt := 28) hx hb dX6_goesOn_18 (by decide) (fun c_11 => ?_) (fun c_11 => ?_)
      · exact J_28  _ _ ls  hP hD hS (lv_sub hl [] rfl)
      · refine lv_iload_n hx hb dX6_goesOn_21 rfl (lv_at hl 0 rfl) ?_
        refine lv_sipush (v := 177) hx hb dX6_goesOn_22 (by decide) ?_
        refine lv_icmp_le (tgt := 32) hx hb dX6_goesOn_25 (by decide) (fun c_12 => ?_) (fun c_12 => ?_)
        · exact J_32  _ _ ls  hP hD hS (lv_sub hl [] rfl)
        · exact J_28  _ _ ls  hP hD hS (lv_sub hl [] rfl)
set_option maxHeartbeats 1000000 in
set_option maxRecDepth 100000 in
theorem m_X6_isLoad (l : Launch) (g : Gm) (sz : Nat) (ws : va_W) (x0 : Int32) (hG : Good g ws)  : Met l yX6_isLoad (wt yX6_isLoad cX6_isLoad 1 (some .boolean)) ({ frames := 0, cells := 0, slots := 0, locals := 0 }) (va_Pc [.int x0] (st_G g sz ws)) (va_Qi (fun (r : Int32) (u9 : Unit) => r = 0 ∨ r = 1) (gQ0 g (va_A ws sz) ws) (va_A ws sz)) (0) (0) (va_A ws sz) := by
  refine Met.ofW (cc := cX6_isLoad) (maxL := 1) (ret := (some .boolean)) (by decide) rfl ?_
  intro p e s m args below meth c s₁ B hml hv
  obtain ⟨rfl, hsz, hP, hK, hD0, hex, hE⟩ := hv
  have hx := B.exec
  have hb := B.bytes
  have hr := B.returns
  have hts0 := atoms_spec (ws := wt yX6_isLoad cX6_isLoad 1 (some .boolean)) B.pre
  have hts : ∀ w ∈ tb, w.before _ s = true := fun w h => hts0 w (List.mem_cons_of_mem _ h)
  have hown : s.vm.findClass RX6 = some m.cls := findClass_of_methodNamed B.named
  subst hsz
  have hD := hD0.self (sz := s.heap.size)
  generalize hAe : va_A ws s.heap.size = A at hD hE ⊢
  have hA : ∀ q : Nat, s.heap.size ≤ q → A q := fun q h => by rw [← hAe]; exact Or.inr h
  have hS : va_S A s.heap s.heap [] := va_S.rf
  have hl := lv_entry ([.int x0]) (n := 1) (Nat.le_of_ble_eq_true rfl)
  rw [lg_entry_eq]
  generalize (lg_sl ([.int x0]) ++ List.replicate (1 - (lg_sl ([.int x0])).length) Slot.unset).toArray = ls at hl ⊢
  have hl : lv_has ls 1 [(0, .int x0)] := hl
  refine lv_iload_n hx hb dX6_isLoad_0 rfl (lv_at hl 0 rfl) ?_
  refine lv_bipush (v := 21) hx hb dX6_isLoad_1 (by decide) ?_
  have J_23 : ∀ (t_1 : Int32) (H : Heap) (locs : List Loc) (ls : Array Slot), t_1 = 0 ∨ t_1 = 1 → va_P (gD g) cl0 ws H → va_D A ws → va_S A s.heap H locs → lv_has ls 1 [] → W p l e (headSpec (wt yX6_isLoad cX6_isLoad 1 (some .boolean)) ({ frames := 0, cells := 0, slots := 0, locals := 0 })).room s m ([.int x0] : List Value).toArray below meth c H locs (0) (0) (MQ below (va_Qi (fun (r : Int32) (u9 : Unit) => r = 0 ∨ r = 1) (gQ0 g A ws) A) ([.int x0] : List Value).toArray s (0) (0) A) (F0 m 23 ls [.int t_1]) := by
    intro t_1 H locs ls iv_2 hP hD hS hl
    have hz_t_1 := iv_2
    refine W.widen (k := 0) (n := 0) (Nat.le_of_ble_eq_true rfl) (Nat.le_of_ble_eq_true rfl) ?_
    exact W.zret (v := t_1) hx hb hr (nz hz_t_1) (fun t9 ht9 hW9 => ⟨⟨_, (), rfl, hz_t_1, ⟨by rw [ht9]; exact hP, hD⟩⟩, hS.F ht9⟩) hS.2.2 dX6_isLoad_23
  have J_18 : ∀  (H : Heap) (locs : List Loc) (ls : Array Slot), va_P (gD g) cl0 ws H → va_D A ws → va_S A s.heap H locs → lv_has ls 1 [] → W p l e (headSpec (wt yX6_isLoad cX6_isLoad 1 (some .boolean)) ({ frames := 0, cells := 0, slots := 0, locals := 0 })).room s m ([.int x0] : List Value).toArray below meth c H locs (0) (0) (MQ below (va_Qi (fun (r : Int32) (u9 : Unit) => r = 0 ∨ r = 1) (gQ0 g A ws) A) ([.int x0] : List Value).toArray s (0) (0) A) (F0 m 18 ls []) := by
    intro  H locs ls  hP hD hS hl
    refine lv_iconst (v := 1) hx hb dX6_isLoad_18 (by decide) ?_
    refine lv_goto (tgt := 23) hx hb dX6_isLoad_19 (by decide) ?_
    exact J_23 (1) H locs ls (Or.inr rfl) hP hD hS (lv_sub hl [] rfl)
  refine lv_icmp_eq (tgt := 18) hx hb dX6_isLoad_3 (by decide) (fun c_7 => ?_) (fun c_7 => ?_)
  · exact J_18  _ _ ls  hP hD hS (lv_sub hl [] rfl)
  · refine lv_iload_n hx hb dX6_isLoad_6 rfl (lv_at hl 0 rfl) ?_
    refine lv_bipush (v := 22) hx hb dX6_isLoad_7 (by decide) ?_
    refine lv_icmp_eq (tgt := 18) hx hb dX6_isLoad_9 (by decide) (fun c_8 => ?_) (fun c_8 => ?_)
    · exact J_18  _ _ ls  hP hD hS (lv_sub hl [] rfl)
    · refine lv_iload_n hx hb dX6_isLoad_12 rfl (lv_at hl 0 rfl) ?_
      refine lv_bipush (v := 25) hx hb dX6_isLoad_13 (by decide) ?_
      refine lv_icmp_ne (tgt := 22) hx hb dX6_isLoad_15 (by decide) (fun c_9 => ?_) (fun c_9 => ?_)
      · refine lv_iconst (v := 0) hx hb dX6_isLoad_22 (by decide) ?_
        exact J_23 (0) _ _ ls (Or.inl rfl) hP hD hS (lv_sub hl [] rfl)
      · exact J_18  _ _ ls  hP hD hS (lv_sub hl [] rfl)
set_option maxHeartbeats 1000000 in
set_option maxRecDepth 100000 in
theorem m_X6_isStore (l : Launch) (g : Gm) (sz : Nat) (ws : va_W) (x0 : Int32) (hG : Good g ws)  : Met l yX6_isStore (wt yX6_isStore cX6_isStore 1 (some .boolean)) ({ frames := 0, cells := 0, slots := 0, locals := 0 }) (va_Pc [.int x0] (st_G g sz ws)) (va_Qi (fun (r : Int32) (u9 : Unit) => r = 0 ∨ r = 1) (gQ0 g (va_A ws sz) ws) (va_A ws sz)) (0) (0) (va_A ws sz) := by
  refine Met.ofW (cc := cX6_isStore) (maxL := 1) (ret := (some .boolean)) (by decide) rfl ?_
  intro p e s m args below meth c s₁ B hml hv
  obtain ⟨rfl, hsz, hP, hK, hD0, hex, hE⟩ := hv
  have hx := B.exec
  have hb := B.bytes
  have hr := B.returns
  have hts0 := atoms_spec (ws := wt yX6_isStore cX6_isStore 1 (some .boolean)) B.pre
  have hts : ∀ w ∈ tb, w.before _ s = true := fun w h => hts0 w (List.mem_cons_of_mem _ h)
  have hown : s.vm.findClass RX6 = some m.cls := findClass_of_methodNamed B.named
  subst hsz
  have hD := hD0.self (sz := s.heap.size)
  generalize hAe : va_A ws s.heap.size = A at hD hE ⊢
  have hA : ∀ q : Nat, s.heap.size ≤ q → A q := fun q h => by rw [← hAe]; exact Or.inr h
  have hS : va_S A s.heap s.heap [] := va_S.rf
  have hl := lv_entry ([.int x0]) (n := 1) (Nat.le_of_ble_eq_true rfl)
  rw [lg_entry_eq]
  generalize (lg_sl ([.int x0]) ++ List.replicate (1 - (lg_sl ([.int x0])).length) Slot.unset).toArray = ls at hl ⊢
  have hl : lv_has ls 1 [(0, .int x0)] := hl
  refine lv_iload_n hx hb dX6_isStore_0 rfl (lv_at hl 0 rfl) ?_
  refine lv_bipush (v := 54) hx hb dX6_isStore_1 (by decide) ?_
  have J_23 : ∀ (t_1 : Int32) (H : Heap) (locs : List Loc) (ls : Array Slot), t_1 = 0 ∨ t_1 = 1 → va_P (gD g) cl0 ws H → va_D A ws → va_S A s.heap H locs → lv_has ls 1 [] → W p l e (headSpec (wt yX6_isStore cX6_isStore 1 (some .boolean)) ({ frames := 0, cells := 0, slots := 0, locals := 0 })).room s m ([.int x0] : List Value).toArray below meth c H locs (0) (0) (MQ below (va_Qi (fun (r : Int32) (u9 : Unit) => r = 0 ∨ r = 1) (gQ0 g A ws) A) ([.int x0] : List Value).toArray s (0) (0) A) (F0 m 23 ls [.int t_1]) := by
    intro t_1 H locs ls iv_2 hP hD hS hl
    have hz_t_1 := iv_2
    refine W.widen (k := 0) (n := 0) (Nat.le_of_ble_eq_true rfl) (Nat.le_of_ble_eq_true rfl) ?_
    exact W.zret (v := t_1) hx hb hr (nz hz_t_1) (fun t9 ht9 hW9 => ⟨⟨_, (), rfl, hz_t_1, ⟨by rw [ht9]; exact hP, hD⟩⟩, hS.F ht9⟩) hS.2.2 dX6_isStore_23
  have J_18 : ∀  (H : Heap) (locs : List Loc) (ls : Array Slot), va_P (gD g) cl0 ws H → va_D A ws → va_S A s.heap H locs → lv_has ls 1 [] → W p l e (headSpec (wt yX6_isStore cX6_isStore 1 (some .boolean)) ({ frames := 0, cells := 0, slots := 0, locals := 0 })).room s m ([.int x0] : List Value).toArray below meth c H locs (0) (0) (MQ below (va_Qi (fun (r : Int32) (u9 : Unit) => r = 0 ∨ r = 1) (gQ0 g A ws) A) ([.int x0] : List Value).toArray s (0) (0) A) (F0 m 18 ls []) := by
    intro  H locs ls  hP hD hS hl
    refine lv_iconst (v := 1) hx hb dX6_isStore_18 (by decide) ?_
    refine lv_goto (tgt := 23) hx hb dX6_isStore_19 (by decide) ?_
    exact J_23 (1) H locs ls (Or.inr rfl) hP hD hS (lv_sub hl [] rfl)
  refine lv_icmp_eq (tgt := 18) hx hb dX6_isStore_3 (by decide) (fun c_7 => ?_) (fun c_7 => ?_)
  · exact J_18  _ _ ls  hP hD hS (lv_sub hl [] rfl)
  · refine lv_iload_n hx hb dX6_isStore_6 rfl (lv_at hl 0 rfl) ?_
    refine lv_bipush (v := 55) hx hb dX6_isStore_7 (by decide) ?_
    refine lv_icmp_eq (tgt := 18) hx hb dX6_isStore_9 (by decide) (fun c_8 => ?_) (fun c_8 => ?_)
    · exact J_18  _ _ ls  hP hD hS (lv_sub hl [] rfl)
    · refine lv_iload_n hx hb dX6_isStore_12 rfl (lv_at hl 0 rfl) ?_
      refine lv_bipush (v := 58) hx hb dX6_isStore_13 (by decide) ?_
      refine lv_icmp_ne (tgt := 22) hx hb dX6_isStore_15 (by decide) (fun c_9 => ?_) (fun c_9 => ?_)
      · refine lv_iconst (v := 0) hx hb dX6_isStore_22 (by decide) ?_
        exact J_23 (0) _ _ ls (Or.inl rfl) hP hD hS (lv_sub hl [] rfl)
      · exact J_18  _ _ ls  hP hD hS (lv_sub hl [] rfl)
set_option maxHeartbeats 1000000 in
set_option maxRecDepth 100000 in
theorem m_X6_usesLocal (l : Launch) (g : Gm) (sz : Nat) (ws : va_W) (x0 : Int32) (hG : Good g ws)  : Met l yX6_usesLocal (wt yX6_usesLocal cX6_usesLocal 1 (some .boolean)) ({ frames := 1, cells := 0, slots := 0, locals := 20 }) (va_Pc [.int x0] (st_G g sz ws)) (va_Qi (fun (r : Int32) (u9 : Unit) => r = 0 ∨ r = 1) (gQ0 g (va_A ws sz) ws) (va_A ws sz)) (0) (0) (va_A ws sz) := by
  refine Met.ofW (cc := cX6_usesLocal) (maxL := 1) (ret := (some .boolean)) (by decide) rfl ?_
  intro p e s m args below meth c s₁ B hml hv
  obtain ⟨rfl, hsz, hP, hK, hD0, hex, hE⟩ := hv
  have hx := B.exec
  have hb := B.bytes
  have hr := B.returns
  have hts0 := atoms_spec (ws := wt yX6_usesLocal cX6_usesLocal 1 (some .boolean)) B.pre
  have hts : ∀ w ∈ tb, w.before _ s = true := fun w h => hts0 w (List.mem_cons_of_mem _ h)
  have hown : s.vm.findClass RX6 = some m.cls := findClass_of_methodNamed B.named
  subst hsz
  have hD := hD0.self (sz := s.heap.size)
  generalize hAe : va_A ws s.heap.size = A at hD hE ⊢
  have hA : ∀ q : Nat, s.heap.size ≤ q → A q := fun q h => by rw [← hAe]; exact Or.inr h
  have hS : va_S A s.heap s.heap [] := va_S.rf
  have hl := lv_entry ([.int x0]) (n := 1) (Nat.le_of_ble_eq_true rfl)
  rw [lg_entry_eq]
  generalize (lg_sl ([.int x0]) ++ List.replicate (1 - (lg_sl ([.int x0])).length) Slot.unset).toArray = ls at hl ⊢
  have hl : lv_has ls 1 [(0, .int x0)] := hl
  refine lv_iload_n hx hb dX6_usesLocal_0 rfl (lv_at hl 0 rfl) ?_
  have hFc := gfree hD hS hA
  refine va_calli (va_runS (As := [.int x0]) (rest := []) ⟨hx, hb, hml, hown, hts⟩ (m_X6_isLoad l g s.heap.size ws (x0) hG ) (va_cwS 1 hts (gd_S kw_1261 kw_1227 kw_1207 kw_1226) rfl rfl rfl (by decide +kernel) ⟨Nat.le_of_ble_eq_true rfl, Nat.le_of_ble_eq_true rfl⟩) ⟨gblind, fun U hU hW9 => gmk hU hW9 hP hK hD hex hE hS hFc⟩ rfl rfl hl.1 rfl (lv_room (Nat.le_of_ble_eq_true rfl)) dX6_usesLocal_1 ⟨Nat.le_of_ble_eq_true rfl, Nat.le_of_ble_eq_true rfl⟩) hS (fun q _ h => hFc q h) hFc (fun r_1 u9 t9 H1 locs ht9 hvm9 hw9 hB9 hz9 hk9 hS => ?_)
  have hP : va_P (gD g) cl0 ws H1 := by rw [← ht9]; exact hB9.1
  have hz_r_1 : r_1 = 0 ∨ r_1 = 1 := hw9
  clear hB9 hz9 hk9 hvm9 ht9 hw9
  generalize H1 = H at hP hS ⊢
  have J_26 : ∀ (t_2 : Int32) (H : Heap) (locs : List Loc) (ls : Array Slot), t_2 = 0 ∨ t_2 = 1 → va_P (gD g) cl0 ws H → va_D A ws → va_S A s.heap H locs → lv_has ls 1 [] → W p l e (headSpec (wt yX6_usesLocal cX6_usesLocal 1 (some .boolean)) ({ frames := 1, cells := 0, slots := 0, locals := 20 })).room s m ([.int x0] : List Value).toArray below meth c H locs (0) (0) (MQ below (va_Qi (fun (r : Int32) (u9 : Unit) => r = 0 ∨ r = 1) (gQ0 g A ws) A) ([.int x0] : List Value).toArray s (0) (0) A) (F0 m 26 ls [.int t_2]) := by
    intro t_2 H locs ls iv_3 hP hD hS hl
    have hz_t_2 := iv_3
    refine W.widen (k := 0) (n := 0) (Nat.le_of_ble_eq_true rfl) (Nat.le_of_ble_eq_true rfl) ?_
    exact W.zret (v := t_2) hx hb hr (nz hz_t_2) (fun t9 ht9 hW9 => ⟨⟨_, (), rfl, hz_t_2, ⟨by rw [ht9]; exact hP, hD⟩⟩, hS.F ht9⟩) hS.2.2 dX6_usesLocal_26
  have J_21 : ∀  (H : Heap) (locs : List Loc) (ls : Array Slot), va_P (gD g) cl0 ws H → va_D A ws → va_S A s.heap H locs → lv_has ls 1 [] → W p l e (headSpec (wt yX6_usesLocal cX6_usesLocal 1 (some .boolean)) ({ frames := 1, cells := 0, slots := 0, locals := 20 })).room s m ([.int x0] : List Value).toArray below meth c H locs (0) (0) (MQ below (va_Qi (fun (r : Int32) (u9 : Unit) => r = 0 ∨ r = 1) (gQ0 g A ws) A) ([.int x0] : List Value).toArray s (0) (0) A) (F0 m 21 ls []) := by
    intro  H locs ls  hP hD hS hl
    refine lv_iconst (v := 1) hx hb dX6_usesLocal_21 (by decide) ?_
    refine lv_goto (tgt := 26) hx hb dX6_usesLocal_22 (by decide) ?_
    exact J_26 (1) H locs ls (Or.inr rfl) hP hD hS (lv_sub hl [] rfl)
  refine lv_if_ne (tgt := 21) hx hb dX6_usesLocal_4 (by decide) (fun c_8 => ?_) (fun c_8 => ?_)
  · exact J_21  H locs ls  hP hD hS (lv_sub hl [] rfl)
  · refine lv_iload_n hx hb dX6_usesLocal_7 rfl (lv_at hl 0 rfl) ?_
    have hFc := gfree hD hS hA
    refine va_calli (va_runS (As := [.int x0]) (rest := []) ⟨hx, hb, hml, hown, hts⟩ (m_X6_isStore l g H.size ws (x0) hG ) (va_cwS 1 hts (gd_S kw_1262 kw_1231 kw_1207 kw_1230) rfl rfl rfl (by decide +kernel) ⟨Nat.le_of_ble_eq_true rfl, Nat.le_of_ble_eq_true rfl⟩) ⟨gblind, fun U hU hW9 => gmk hU hW9 hP hK hD hex hE hS hFc⟩ rfl rfl hl.1 rfl (lv_room (Nat.le_of_ble_eq_true rfl)) dX6_usesLocal_8 ⟨Nat.le_of_ble_eq_true rfl, Nat.le_of_ble_eq_true rfl⟩) hS (fun q _ h => hFc q h) hFc (fun r_9 u9 t9 H1 locs ht9 hvm9 hw9 hB9 hz9 hk9 hS => ?_)
    have hP : va_P (gD g) cl0 ws H1 := by rw [← ht9]; exact hB9.1
    have hz_r_9 : r_9 = 0 ∨ r_9 = 1 := hw9
    clear hB9 hz9 hk9 hvm9 ht9 hw9
    generalize H1 = H at hP hS ⊢
    refine lv_if_ne (tgt := 21) hx hb dX6_usesLocal_11 (by decide) (fun c_10 => ?_) (fun c_10 => ?_)
    · exact J_21  H locs ls  hP hD hS (lv_sub hl [] rfl)
    · refine lv_iload_n hx hb dX6_usesLocal_14 rfl (lv_at hl 0 rfl) ?_
      refine lv_sipush (v := 132) hx hb dX6_usesLocal_15 (by decide) ?_
      refine lv_icmp_ne (tgt := 25) hx hb dX6_usesLocal_18 (by decide) (fun c_11 => ?_) (fun c_11 => ?_)
      · refine lv_iconst (v := 0) hx hb dX6_usesLocal_25 (by decide) ?_
        exact J_26 (0) H locs ls (Or.inl rfl) hP hD hS (lv_sub hl [] rfl)
      · exact J_21  H locs ls  hP hD hS (lv_sub hl [] rfl)
set_option maxHeartbeats 1000000 in
set_option maxRecDepth 100000 in
theorem m_X6_localWidth (l : Launch) (g : Gm) (sz : Nat) (ws : va_W) (x0 : Int32) (hG : Good g ws)  : Met l yX6_localWidth (wt yX6_localWidth cX6_localWidth 1 (some .int)) ({ frames := 0, cells := 0, slots := 0, locals := 0 }) (va_Pc [.int x0] (st_G g sz ws)) (va_Qi (fun (r : Int32) (u9 : Unit) => True) (gQ0 g (va_A ws sz) ws) (va_A ws sz)) (0) (0) (va_A ws sz) := by
  refine Met.ofW (cc := cX6_localWidth) (maxL := 1) (ret := (some .int)) (by decide) rfl ?_
  intro p e s m args below meth c s₁ B hml hv
  obtain ⟨rfl, hsz, hP, hK, hD0, hex, hE⟩ := hv
  have hx := B.exec
  have hb := B.bytes
  have hr := B.returns
  have hts0 := atoms_spec (ws := wt yX6_localWidth cX6_localWidth 1 (some .int)) B.pre
  have hts : ∀ w ∈ tb, w.before _ s = true := fun w h => hts0 w (List.mem_cons_of_mem _ h)
  have hown : s.vm.findClass RX6 = some m.cls := findClass_of_methodNamed B.named
  subst hsz
  have hD := hD0.self (sz := s.heap.size)
  generalize hAe : va_A ws s.heap.size = A at hD hE ⊢
  have hA : ∀ q : Nat, s.heap.size ≤ q → A q := fun q h => by rw [← hAe]; exact Or.inr h
  have hS : va_S A s.heap s.heap [] := va_S.rf
  have hl := lv_entry ([.int x0]) (n := 1) (Nat.le_of_ble_eq_true rfl)
  rw [lg_entry_eq]
  generalize (lg_sl ([.int x0]) ++ List.replicate (1 - (lg_sl ([.int x0])).length) Slot.unset).toArray = ls at hl ⊢
  have hl : lv_has ls 1 [(0, .int x0)] := hl
  refine lv_iload_n hx hb dX6_localWidth_0 rfl (lv_at hl 0 rfl) ?_
  refine lv_bipush (v := 22) hx hb dX6_localWidth_1 (by decide) ?_
  have J_17 : ∀ (t_1 : Int32) (H : Heap) (locs : List Loc) (ls : Array Slot), 1 ≤ t_1.toInt ∧ t_1.toInt ≤ 2 → va_P (gD g) cl0 ws H → va_D A ws → va_S A s.heap H locs → lv_has ls 1 [] → W p l e (headSpec (wt yX6_localWidth cX6_localWidth 1 (some .int)) ({ frames := 0, cells := 0, slots := 0, locals := 0 })).room s m ([.int x0] : List Value).toArray below meth c H locs (0) (0) (MQ below (va_Qi (fun (r : Int32) (u9 : Unit) => True) (gQ0 g A ws) A) ([.int x0] : List Value).toArray s (0) (0) A) (F0 m 17 ls [.int t_1]) := by
    intro t_1 H locs ls iv_2 hP hD hS hl
    refine W.widen (k := 0) (n := 0) (Nat.le_of_ble_eq_true rfl) (Nat.le_of_ble_eq_true rfl) ?_
    exact W.iret (v := t_1) hx hb hr (fun t9 ht9 hW9 => ⟨⟨_, (), rfl, trivial, ⟨by rw [ht9]; exact hP, hD⟩⟩, hS.F ht9⟩) hS.2.2 dX6_localWidth_17
  have J_12 : ∀  (H : Heap) (locs : List Loc) (ls : Array Slot), va_P (gD g) cl0 ws H → va_D A ws → va_S A s.heap H locs → lv_has ls 1 [] → W p l e (headSpec (wt yX6_localWidth cX6_localWidth 1 (some .int)) ({ frames := 0, cells := 0, slots := 0, locals := 0 })).room s m ([.int x0] : List Value).toArray below meth c H locs (0) (0) (MQ below (va_Qi (fun (r : Int32) (u9 : Unit) => True) (gQ0 g A ws) A) ([.int x0] : List Value).toArray s (0) (0) A) (F0 m 12 ls []) := by
    intro  H locs ls  hP hD hS hl
    refine lv_iconst (v := 2) hx hb dX6_localWidth_12 (by decide) ?_
    refine lv_goto (tgt := 17) hx hb dX6_localWidth_13 (by decide) ?_
    exact J_17 (2) H locs ls (by have e2 : (2 : Int32).toInt = 2 := (by decide); have g_x0 := i_rg x0; omega) hP hD hS (lv_sub hl [] rfl)
  refine lv_icmp_eq (tgt := 12) hx hb dX6_localWidth_3 (by decide) (fun c_7 => ?_) (fun c_7 => ?_)
  · exact J_12  _ _ ls  hP hD hS (lv_sub hl [] rfl)
  · refine lv_iload_n hx hb dX6_localWidth_6 rfl (lv_at hl 0 rfl) ?_
    refine lv_bipush (v := 55) hx hb dX6_localWidth_7 (by decide) ?_
    refine lv_icmp_ne (tgt := 16) hx hb dX6_localWidth_9 (by decide) (fun c_8 => ?_) (fun c_8 => ?_)
    · refine lv_iconst (v := 1) hx hb dX6_localWidth_16 (by decide) ?_
      exact J_17 (1) _ _ ls (by have e1 : (1 : Int32).toInt = 1 := (by decide); have e22 : (22 : Int32).toInt = 22 := (by decide); have e55 : (55 : Int32).toInt = 55 := (by decide); have q_c_7 := i_ne c_7; have q_c_8 := i_ne c_8; have g_x0 := i_rg x0; omega) hP hD hS (lv_sub hl [] rfl)
    · exact J_12  _ _ ls  hP hD hS (lv_sub hl [] rfl)
set_option maxHeartbeats 1000000 in
set_option maxRecDepth 100000 in
theorem m_X6_isShift (l : Launch) (g : Gm) (sz : Nat) (ws : va_W) (x0 : Int32) (hG : Good g ws)  : Met l yX6_isShift (wt yX6_isShift cX6_isShift 1 (some .boolean)) ({ frames := 0, cells := 0, slots := 0, locals := 0 }) (va_Pc [.int x0] (st_G g sz ws)) (va_Qi (fun (r : Int32) (u9 : Unit) => r = 0 ∨ r = 1) (gQ0 g (va_A ws sz) ws) (va_A ws sz)) (0) (0) (va_A ws sz) := by
  refine Met.ofW (cc := cX6_isShift) (maxL := 1) (ret := (some .boolean)) (by decide) rfl ?_
  intro p e s m args below meth c s₁ B hml hv
  obtain ⟨rfl, hsz, hP, hK, hD0, hex, hE⟩ := hv
  have hx := B.exec
  have hb := B.bytes
  have hr := B.returns
  have hts0 := atoms_spec (ws := wt yX6_isShift cX6_isShift 1 (some .boolean)) B.pre
  have hts : ∀ w ∈ tb, w.before _ s = true := fun w h => hts0 w (List.mem_cons_of_mem _ h)
  have hown : s.vm.findClass RX6 = some m.cls := findClass_of_methodNamed B.named
  subst hsz
  have hD := hD0.self (sz := s.heap.size)
  generalize hAe : va_A ws s.heap.size = A at hD hE ⊢
  have hA : ∀ q : Nat, s.heap.size ≤ q → A q := fun q h => by rw [← hAe]; exact Or.inr h
  have hS : va_S A s.heap s.heap [] := va_S.rf
  have hl := lv_entry ([.int x0]) (n := 1) (Nat.le_of_ble_eq_true rfl)
  rw [lg_entry_eq]
  generalize (lg_sl ([.int x0]) ++ List.replicate (1 - (lg_sl ([.int x0])).length) Slot.unset).toArray = ls at hl ⊢
  have hl : lv_has ls 1 [(0, .int x0)] := hl
  refine lv_iload_n hx hb dX6_isShift_0 rfl (lv_at hl 0 rfl) ?_
  refine lv_bipush (v := 120) hx hb dX6_isShift_1 (by decide) ?_
  have J_17 : ∀ (t_1 : Int32) (H : Heap) (locs : List Loc) (ls : Array Slot), t_1 = 0 ∨ t_1 = 1 → va_P (gD g) cl0 ws H → va_D A ws → va_S A s.heap H locs → lv_has ls 1 [] → W p l e (headSpec (wt yX6_isShift cX6_isShift 1 (some .boolean)) ({ frames := 0, cells := 0, slots := 0, locals := 0 })).room s m ([.int x0] : List Value).toArray below meth c H locs (0) (0) (MQ below (va_Qi (fun (r : Int32) (u9 : Unit) => r = 0 ∨ r = 1) (gQ0 g A ws) A) ([.int x0] : List Value).toArray s (0) (0) A) (F0 m 17 ls [.int t_1]) := by
    intro t_1 H locs ls iv_2 hP hD hS hl
    have hz_t_1 := iv_2
    refine W.widen (k := 0) (n := 0) (Nat.le_of_ble_eq_true rfl) (Nat.le_of_ble_eq_true rfl) ?_
    exact W.zret (v := t_1) hx hb hr (nz hz_t_1) (fun t9 ht9 hW9 => ⟨⟨_, (), rfl, hz_t_1, ⟨by rw [ht9]; exact hP, hD⟩⟩, hS.F ht9⟩) hS.2.2 dX6_isShift_17
  have J_16 : ∀  (H : Heap) (locs : List Loc) (ls : Array Slot), va_P (gD g) cl0 ws H → va_D A ws → va_S A s.heap H locs → lv_has ls 1 [] → W p l e (headSpec (wt yX6_isShift cX6_isShift 1 (some .boolean)) ({ frames := 0, cells := 0, slots := 0, locals := 0 })).room s m ([.int x0] : List Value).toArray below meth c H locs (0) (0) (MQ below (va_Qi (fun (r : Int32) (u9 : Unit) => r = 0 ∨ r = 1) (gQ0 g A ws) A) ([.int x0] : List Value).toArray s (0) (0) A) (F0 m 16 ls []) := by
    intro  H locs ls  hP hD hS hl
    refine lv_iconst (v := 0) hx hb dX6_isShift_16 (by decide) ?_
    exact J_17 (0) H locs ls (Or.inl rfl) hP hD hS (lv_sub hl [] rfl)
  refine lv_icmp_lt (tgt := 16) hx hb dX6_isShift_3 (by decide) (fun c_7 => ?_) (fun c_7 => ?_)
  · exact J_16  _ _ ls  hP hD hS (lv_sub hl [] rfl)
  · refine lv_iload_n hx hb dX6_isShift_6 rfl (lv_at hl 0 rfl) ?_
    refine lv_bipush (v := 125) hx hb dX6_isShift_7 (by decide) ?_
    refine lv_icmp_gt (tgt := 16) hx hb dX6_isShift_9 (by decide) (fun c_8 => ?_) (fun c_8 => ?_)
    · exact J_16  _ _ ls  hP hD hS (lv_sub hl [] rfl)
    · refine lv_iconst (v := 1) hx hb dX6_isShift_12 (by decide) ?_
      refine lv_goto (tgt := 17) hx hb dX6_isShift_13 (by decide) ?_
      exact J_17 (1) _ _ ls (Or.inr rfl) hP hD hS (lv_sub hl [] rfl)
set_option maxHeartbeats 1000000 in
set_option maxRecDepth 100000 in
theorem m_X6_isDivision (l : Launch) (g : Gm) (sz : Nat) (ws : va_W) (x0 : Int32) (hG : Good g ws)  : Met l yX6_isDivision (wt yX6_isDivision cX6_isDivision 1 (some .boolean)) ({ frames := 0, cells := 0, slots := 0, locals := 0 }) (va_Pc [.int x0] (st_G g sz ws)) (va_Qi (fun (r : Int32) (u9 : Unit) => r = 0 ∨ r = 1) (gQ0 g (va_A ws sz) ws) (va_A ws sz)) (0) (0) (va_A ws sz) := by
  refine Met.ofW (cc := cX6_isDivision) (maxL := 1) (ret := (some .boolean)) (by decide) rfl ?_
  intro p e s m args below meth c s₁ B hml hv
  obtain ⟨rfl, hsz, hP, hK, hD0, hex, hE⟩ := hv
  have hx := B.exec
  have hb := B.bytes
  have hr := B.returns
  have hts0 := atoms_spec (ws := wt yX6_isDivision cX6_isDivision 1 (some .boolean)) B.pre
  have hts : ∀ w ∈ tb, w.before _ s = true := fun w h => hts0 w (List.mem_cons_of_mem _ h)
  have hown : s.vm.findClass RX6 = some m.cls := findClass_of_methodNamed B.named
  subst hsz
  have hD := hD0.self (sz := s.heap.size)
  generalize hAe : va_A ws s.heap.size = A at hD hE ⊢
  have hA : ∀ q : Nat, s.heap.size ≤ q → A q := fun q h => by rw [← hAe]; exact Or.inr h
  have hS : va_S A s.heap s.heap [] := va_S.rf
  have hl := lv_entry ([.int x0]) (n := 1) (Nat.le_of_ble_eq_true rfl)
  rw [lg_entry_eq]
  generalize (lg_sl ([.int x0]) ++ List.replicate (1 - (lg_sl ([.int x0])).length) Slot.unset).toArray = ls at hl ⊢
  have hl : lv_has ls 1 [(0, .int x0)] := hl
  refine lv_iload_n hx hb dX6_isDivision_0 rfl (lv_at hl 0 rfl) ?_
  refine lv_bipush (v := 108) hx hb dX6_isDivision_1 (by decide) ?_
  have J_29 : ∀ (t_1 : Int32) (H : Heap) (locs : List Loc) (ls : Array Slot), t_1 = 0 ∨ t_1 = 1 → va_P (gD g) cl0 ws H → va_D A ws → va_S A s.heap H locs → lv_has ls 1 [] → W p l e (headSpec (wt yX6_isDivision cX6_isDivision 1 (some .boolean)) ({ frames := 0, cells := 0, slots := 0, locals := 0 })).room s m ([.int x0] : List Value).toArray below meth c H locs (0) (0) (MQ below (va_Qi (fun (r : Int32) (u9 : Unit) => r = 0 ∨ r = 1) (gQ0 g A ws) A) ([.int x0] : List Value).toArray s (0) (0) A) (F0 m 29 ls [.int t_1]) := by
    intro t_1 H locs ls iv_2 hP hD hS hl
    have hz_t_1 := iv_2
    refine W.widen (k := 0) (n := 0) (Nat.le_of_ble_eq_true rfl) (Nat.le_of_ble_eq_true rfl) ?_
    exact W.zret (v := t_1) hx hb hr (nz hz_t_1) (fun t9 ht9 hW9 => ⟨⟨_, (), rfl, hz_t_1, ⟨by rw [ht9]; exact hP, hD⟩⟩, hS.F ht9⟩) hS.2.2 dX6_isDivision_29
  have J_24 : ∀  (H : Heap) (locs : List Loc) (ls : Array Slot), va_P (gD g) cl0 ws H → va_D A ws → va_S A s.heap H locs → lv_has ls 1 [] → W p l e (headSpec (wt yX6_isDivision cX6_isDivision 1 (some .boolean)) ({ frames := 0, cells := 0, slots := 0, locals := 0 })).room s m ([.int x0] : List Value).toArray below meth c H locs (0) (0) (MQ below (va_Qi (fun (r : Int32) (u9 : Unit) => r = 0 ∨ r = 1) (gQ0 g A ws) A) ([.int x0] : List Value).toArray s (0) (0) A) (F0 m 24 ls []) := by
    intro  H locs ls  hP hD hS hl
    refine lv_iconst (v := 1) hx hb dX6_isDivision_24 (by decide) ?_
    refine lv_goto (tgt := 29) hx hb dX6_isDivision_25 (by decide) ?_
    exact J_29 (1) H locs ls (Or.inr rfl) hP hD hS (lv_sub hl [] rfl)
  refine lv_icmp_eq (tgt := 24) hx hb dX6_isDivision_3 (by decide) (fun c_7 => ?_) (fun c_7 => ?_)
  · exact J_24  _ _ ls  hP hD hS (lv_sub hl [] rfl)
  · refine lv_iload_n hx hb dX6_isDivision_6 rfl (lv_at hl 0 rfl) ?_
    refine lv_bipush (v := 109) hx hb dX6_isDivision_7 (by decide) ?_
    refine lv_icmp_eq (tgt := 24) hx hb dX6_isDivision_9 (by decide) (fun c_8 => ?_) (fun c_8 => ?_)
    · exact J_24  _ _ ls  hP hD hS (lv_sub hl [] rfl)
    · refine lv_iload_n hx hb dX6_isDivision_12 rfl (lv_at hl 0 rfl) ?_
      refine lv_bipush (v := 112) hx hb dX6_isDivision_13 (by decide) ?_
      refine lv_icmp_eq (tgt := 24) hx hb dX6_isDivision_15 (by decide) (fun c_9 => ?_) (fun c_9 => ?_)
      · exact J_24  _ _ ls  hP hD hS (lv_sub hl [] rfl)
      · refine lv_iload_n hx hb dX6_isDivision_18 rfl (lv_at hl 0 rfl) ?_
        refine lv_bipush (v := 113) hx hb dX6_isDivision_19 (by decide) ?_
        refine lv_icmp_ne (tgt := 28) hx hb dX6_isDivision_21 (by decide) (fun c_10 => ?_) (fun c_10 => ?_)
        · refine lv_iconst (v := 0) hx hb dX6_isDivision_28 (by decide) ?_
          exact J_29 (0) _ _ ls (Or.inl rfl) hP hD hS (lv_sub hl [] rfl)
        · exact J_24  _ _ ls  hP hD hS (lv_sub hl [] rfl)
set_option maxHeartbeats 1000000 in
set_option maxRecDepth 100000 in
theorem m_X6_isBinary (l : Launch) (g : Gm) (sz : Nat) (ws : va_W) (x0 : Int32) (hG : Good g ws)  : Met l yX6_isBinary (wt yX6_isBinary cX6_isBinary 1 (some .boolean)) ({ frames := 0, cells := 0, slots := 0, locals := 0 }) (va_Pc [.int x0] (st_G g sz ws)) (va_Qi (fun (r : Int32) (u9 : Unit) => r = 0 ∨ r = 1) (gQ0 g (va_A ws sz) ws) (va_A ws sz)) (0) (0) (va_A ws sz) := by
  refine Met.ofW (cc := cX6_isBinary) (maxL := 1) (ret := (some .boolean)) (by decide) rfl ?_
  intro p e s m args below meth c s₁ B hml hv
  obtain ⟨rfl, hsz, hP, hK, hD0, hex, hE⟩ := hv
  have hx := B.exec
  have hb := B.bytes
  have hr := B.returns
  have hts0 := atoms_spec (ws := wt yX6_isBinary cX6_isBinary 1 (some .boolean)) B.pre
  have hts : ∀ w ∈ tb, w.before _ s = true := fun w h => hts0 w (List.mem_cons_of_mem _ h)
  have hown : s.vm.findClass RX6 = some m.cls := findClass_of_methodNamed B.named
  subst hsz
  have hD := hD0.self (sz := s.heap.size)
  generalize hAe : va_A ws s.heap.size = A at hD hE ⊢
  have hA : ∀ q : Nat, s.heap.size ≤ q → A q := fun q h => by rw [← hAe]; exact Or.inr h
  have hS : va_S A s.heap s.heap [] := va_S.rf
  have hl := lv_entry ([.int x0]) (n := 1) (Nat.le_of_ble_eq_true rfl)
  rw [lg_entry_eq]
  generalize (lg_sl ([.int x0]) ++ List.replicate (1 - (lg_sl ([.int x0])).length) Slot.unset).toArray = ls at hl ⊢
  have hl : lv_has ls 1 [(0, .int x0)] := hl
  refine lv_iload_n hx hb dX6_isBinary_0 rfl (lv_at hl 0 rfl) ?_
  refine lv_bipush (v := 96) hx hb dX6_isBinary_1 (by decide) ?_
  have J_43 : ∀ (t_1 : Int32) (H : Heap) (locs : List Loc) (ls : Array Slot), t_1 = 0 ∨ t_1 = 1 → va_P (gD g) cl0 ws H → va_D A ws → va_S A s.heap H locs → lv_has ls 1 [] → W p l e (headSpec (wt yX6_isBinary cX6_isBinary 1 (some .boolean)) ({ frames := 0, cells := 0, slots := 0, locals := 0 })).room s m ([.int x0] : List Value).toArray below meth c H locs (0) (0) (MQ below (va_Qi (fun (r : Int32) (u9 : Unit) => r = 0 ∨ r = 1) (gQ0 g A ws) A) ([.int x0] : List Value).toArray s (0) (0) A) (F0 m 43 ls [.int t_1]) := by
    intro t_1 H locs ls iv_2 hP hD hS hl
    have hz_t_1 := iv_2
    refine W.widen (k := 0) (n := 0) (Nat.le_of_ble_eq_true rfl) (Nat.le_of_ble_eq_true rfl) ?_
    exact W.zret (v := t_1) hx hb hr (nz hz_t_1) (fun t9 ht9 hW9 => ⟨⟨_, (), rfl, hz_t_1, ⟨by rw [ht9]; exact hP, hD⟩⟩, hS.F ht9⟩) hS.2.2 dX6_isBinary_43
  have J_38 : ∀  (H : Heap) (locs : List Loc) (ls : Array Slot), va_P (gD g) cl0 ws H → va_D A ws → va_S A s.heap H locs → lv_has ls 1 [] → W p l e (headSpec (wt yX6_isBinary cX6_isBinary 1 (some .boolean)) ({ frames := 0, cells := 0, slots := 0, locals := 0 })).room s m ([.int x0] : List Value).toArray below meth c H locs (0) (0) (MQ below (va_Qi (fun (r : Int32) (u9 : Unit) => r = 0 ∨ r = 1) (gQ0 g A ws) A) ([.int x0] : List Value).toArray s (0) (0) A) (F0 m 38 ls []) := by
    intro  H locs ls  hP hD hS hl
    refine lv_iconst (v := 1) hx hb dX6_isBinary_38 (by decide) ?_
    refine lv_goto (tgt := 43) hx hb dX6_isBinary_39 (by decide) ?_
    exact J_43 (1) H locs ls (Or.inr rfl) hP hD hS (lv_sub hl [] rfl)
  have J_18 : ∀  (H : Heap) (locs : List Loc) (ls : Array Slot), va_P (gD g) cl0 ws H → va_D A ws → va_S A s.heap H locs → lv_has ls 1 [(0, .int x0)] → W p l e (headSpec (wt yX6_isBinary cX6_isBinary 1 (some .boolean)) ({ frames := 0, cells := 0, slots := 0, locals := 0 })).room s m ([.int x0] : List Value).toArray below meth c H locs (0) (0) (MQ below (va_Qi (fun (r : Int32) (u9 : Unit) => r = 0 ∨ r = 1) (gQ0 g A ws) A) ([.int x0] : List Value).toArray s (0) (0) A) (F0 m 18 ls []) := by
    intro  H locs ls  hP hD hS hl
    refine lv_iload_n hx hb dX6_isBinary_18 rfl (lv_at hl 0 rfl) ?_
    refine lv_bipush (v := 120) hx hb dX6_isBinary_19 (by decide) ?_
    have J_31 : ∀  (H : Heap) (locs : List Loc) (ls : Array Slot), va_P (gD g) cl0 ws H → va_D A ws → va_S A s.heap H locs → lv_has ls 1 [(0, .int x0)] → W p l e (headSpec (wt yX6_isBinary cX6_isBinary 1 (some .boolean)) ({ frames := 0, cells := 0, slots := 0, locals := 0 })).room s m ([.int x0] : List Value).toArray below meth c H locs (0) (0) (MQ below (va_Qi (fun (r : Int32) (u9 : Unit) => r = 0 ∨ r = 1) (gQ0 g A ws) A) ([.int x0] : List Value).toArray s (0) (0) A) (F0 m 31 ls []) := by
      intro  H locs ls  hP hD hS hl
      refine lv_iload_n hx hb dX6_isBinary_31 rfl (lv_at hl 0 rfl) ?_
      refine lv_sipush (v := 148) hx hb dX6_isBinary_32 (by decide) ?_
      refine lv_icmp_ne (tgt := 42) hx hb dX6_isBinary_35 (by decide) (fun c_11 => ?_) (fun c_11 => ?_)
      · refine lv_iconst (v := 0) hx hb dX6_isBinary_42 (by decide) ?_
        exact J_43 (0) H locs ls (Or.inl rfl) hP hD hS (lv_sub hl [] rfl)
      · exact J_38  H locs ls  hP hD hS (lv_sub hl [] rfl)
    refine lv_icmp_lt (tgt := 31) hx hb dX6_isBinary_21 (by decide) (fun c_12 => ?_) (fun c_12 => ?_)
    · exact J_31  H locs ls  hP hD hS (lv_sub hl [0] rfl)
    · refine lv_iload_n hx hb dX6_isBinary_24 rfl (lv_at hl 0 rfl) ?_
      refine lv_sipush (v := 131) hx hb dX6_isBinary_25 (by decide) ?_
      refine lv_icmp_le (tgt := 38) hx hb dX6_isBinary_28 (by decide) (fun c_13 => ?_) (fun c_13 => ?_)
      · exact J_38  H locs ls  hP hD hS (lv_sub hl [] rfl)
      · exact J_31  H locs ls  hP hD hS (lv_sub hl [0] rfl)
  refine lv_icmp_lt (tgt := 18) hx hb dX6_isBinary_3 (by decide) (fun c_14 => ?_) (fun c_14 => ?_)
  · exact J_18  _ _ ls  hP hD hS (lv_sub hl [0] rfl)
  · refine lv_iload_n hx hb dX6_isBinary_6 rfl (lv_at hl 0 rfl) ?_
    refine lv_bipush (v := 113) hx hb dX6_isBinary_7 (by decide) ?_
    refine lv_icmp_gt (tgt := 18) hx hb dX6_isBinary_9 (by decide) (fun c_15 => ?_) (fun c_15 => ?_)
    · exact J_18  _ _ ls  hP hD hS (lv_sub hl [0] rfl)
    · refine lv_iload_n hx hb dX6_isBinary_12 rfl (lv_at hl 0 rfl) ?_
      refine lv_iconst (v := 2) hx hb dX6_isBinary_13 (by decide) ?_
      refine lv_iand hx hb dX6_isBinary_14 ?_
      refine lv_topi (fun z_16 ez_16 => ?_)
      refine lv_if_eq (tgt := 38) hx hb dX6_isBinary_15 (by decide) (fun c_17 => ?_) (fun c_17 => ?_)
      · exact J_38  _ _ ls  hP hD hS (lv_sub hl [] rfl)
      · exact J_18  _ _ ls  hP hD hS (lv_sub hl [0] rfl)
set_option maxHeartbeats 1000000 in
set_option maxRecDepth 100000 in
theorem m_X6_isUnary (l : Launch) (g : Gm) (sz : Nat) (ws : va_W) (x0 : Int32) (hG : Good g ws)  : Met l yX6_isUnary (wt yX6_isUnary cX6_isUnary 1 (some .boolean)) ({ frames := 0, cells := 0, slots := 0, locals := 0 }) (va_Pc [.int x0] (st_G g sz ws)) (va_Qi (fun (r : Int32) (u9 : Unit) => r = 0 ∨ r = 1) (gQ0 g (va_A ws sz) ws) (va_A ws sz)) (0) (0) (va_A ws sz) := by
  refine Met.ofW (cc := cX6_isUnary) (maxL := 1) (ret := (some .boolean)) (by decide) rfl ?_
  intro p e s m args below meth c s₁ B hml hv
  obtain ⟨rfl, hsz, hP, hK, hD0, hex, hE⟩ := hv
  have hx := B.exec
  have hb := B.bytes
  have hr := B.returns
  have hts0 := atoms_spec (ws := wt yX6_isUnary cX6_isUnary 1 (some .boolean)) B.pre
  have hts : ∀ w ∈ tb, w.before _ s = true := fun w h => hts0 w (List.mem_cons_of_mem _ h)
  have hown : s.vm.findClass RX6 = some m.cls := findClass_of_methodNamed B.named
  subst hsz
  have hD := hD0.self (sz := s.heap.size)
  generalize hAe : va_A ws s.heap.size = A at hD hE ⊢
  have hA : ∀ q : Nat, s.heap.size ≤ q → A q := fun q h => by rw [← hAe]; exact Or.inr h
  have hS : va_S A s.heap s.heap [] := va_S.rf
  have hl := lv_entry ([.int x0]) (n := 1) (Nat.le_of_ble_eq_true rfl)
  rw [lg_entry_eq]
  generalize (lg_sl ([.int x0]) ++ List.replicate (1 - (lg_sl ([.int x0])).length) Slot.unset).toArray = ls at hl ⊢
  have hl : lv_has ls 1 [(0, .int x0)] := hl
  refine lv_iload_n hx hb dX6_isUnary_0 rfl (lv_at hl 0 rfl) ?_
  refine lv_bipush (v := 116) hx hb dX6_isUnary_1 (by decide) ?_
  have J_45 : ∀ (t_1 : Int32) (H : Heap) (locs : List Loc) (ls : Array Slot), t_1 = 0 ∨ t_1 = 1 → va_P (gD g) cl0 ws H → va_D A ws → va_S A s.heap H locs → lv_has ls 1 [] → W p l e (headSpec (wt yX6_isUnary cX6_isUnary 1 (some .boolean)) ({ frames := 0, cells := 0, slots := 0, locals := 0 })).room s m ([.int x0] : List Value).toArray below meth c H locs (0) (0) (MQ below (va_Qi (fun (r : Int32) (u9 : Unit) => r = 0 ∨ r = 1) (gQ0 g A ws) A) ([.int x0] : List Value).toArray s (0) (0) A) (F0 m 45 ls [.int t_1]) := by
    intro t_1 H locs ls iv_2 hP hD hS hl
    have hz_t_1 := iv_2
    refine W.widen (k := 0) (n := 0) (Nat.le_of_ble_eq_true rfl) (Nat.le_of_ble_eq_true rfl) ?_
    exact W.zret (v := t_1) hx hb hr (nz hz_t_1) (fun t9 ht9 hW9 => ⟨⟨_, (), rfl, hz_t_1, ⟨by rw [ht9]; exact hP, hD⟩⟩, hS.F ht9⟩) hS.2.2 dX6_isUnary_45
  have J_40 : ∀  (H : Heap) (locs : List Loc) (ls : Array Slot), va_P (gD g) cl0 ws H → va_D A ws → va_S A s.heap H locs → lv_has ls 1 [] → W p l e (headSpec (wt yX6_isUnary cX6_isUnary 1 (some .boolean)) ({ frames := 0, cells := 0, slots := 0, locals := 0 })).room s m ([.int x0] : List Value).toArray below meth c H locs (0) (0) (MQ below (va_Qi (fun (r : Int32) (u9 : Unit) => r = 0 ∨ r = 1) (gQ0 g A ws) A) ([.int x0] : List Value).toArray s (0) (0) A) (F0 m 40 ls []) := by
    intro  H locs ls  hP hD hS hl
    refine lv_iconst (v := 1) hx hb dX6_isUnary_40 (by decide) ?_
    refine lv_goto (tgt := 45) hx hb dX6_isUnary_41 (by decide) ?_
    exact J_45 (1) H locs ls (Or.inr rfl) hP hD hS (lv_sub hl [] rfl)
  refine lv_icmp_eq (tgt := 40) hx hb dX6_isUnary_3 (by decide) (fun c_7 => ?_) (fun c_7 => ?_)
  · exact J_40  _ _ ls  hP hD hS (lv_sub hl [] rfl)
  · refine lv_iload_n hx hb dX6_isUnary_6 rfl (lv_at hl 0 rfl) ?_
    refine lv_bipush (v := 117) hx hb dX6_isUnary_7 (by decide) ?_
    refine lv_icmp_eq (tgt := 40) hx hb dX6_isUnary_9 (by decide) (fun c_8 => ?_) (fun c_8 => ?_)
    · exact J_40  _ _ ls  hP hD hS (lv_sub hl [] rfl)
    · refine lv_iload_n hx hb dX6_isUnary_12 rfl (lv_at hl 0 rfl) ?_
      refine lv_sipush (v := 133) hx hb dX6_isUnary_13 (by decide) ?_
      refine lv_icmp_eq (tgt := 40) hx hb dX6_isUnary_16 (by decide) (fun c_9 => ?_) (fun c_9 => ?_)
      · exact J_40  _ _ ls  hP hD hS (lv_sub hl [] rfl)
      · refine lv_iload_n hx hb dX6_isUnary_19 rfl (lv_at hl 0 rfl) ?_
        refine lv_sipush (v := 136) hx hb dX6_isUnary_20 (by decide) ?_
        refine lv_icmp_eq (tgt := 40) hx hb dX6_isUnary_23 (by decide) (fun c_10 => ?_) (fun c_10 => ?_)
        · exact J_40  _ _ ls  hP hD hS (lv_sub hl [] rfl)
        · refine lv_iload_n hx hb dX6_isUnary_26 rfl (lv_at hl 0 rfl) ?_
          refine lv_sipush (v := 145) hx hb dX6_isUnary_27 (by decide) ?_
          have J_44 : ∀  (H : Heap) (locs : List Loc) (ls : Array Slot), va_P (gD g) cl0 ws H → va_D A ws → va_S A s.heap H locs → lv_has ls 1 [] → W p l e (headSpec (wt yX6_isUnary cX6_isUnary 1 (some .boolean)) ({ frames := 0, cells := 0, slots := 0, locals := 0 })).room s m ([.int x0] : List Value).toArray below meth c H locs (0) (0) (MQ below (va_Qi (fun (r : Int32) (u9 : Unit) => r = 0 ∨ r = 1) (gQ0 g A ws) A) ([.int x0] : List Value).toArray s (0) (0) A) (F0 m 44 ls []) := by
            intro  H locs ls  hP hD hS hl
            refine lv_iconst (v := 0) hx hb dX6_isUnary_44 (by decide) ?_
            exact J_45 (0) H locs ls (Or.inl rfl) hP hD hS (lv_sub hl [] rfl)
          refine lv_icmp_lt (tgt := 44) hx hb dX6_isUnary_30 (by decide) (fun c_13 => ?_) (fun c_13 => ?_)
          · exact J_44  _ _ ls  hP hD hS (lv_sub hl [] rfl)
          · refine lv_iload_n hx hb dX6_isUnary_33 rfl (lv_at hl 0 rfl) ?_
            refine lv_sipush (v := 147) hx hb dX6_isUnary_34 (by decide) ?_
            refine lv_icmp_gt (tgt := 44) hx hb dX6_isUnary_37 (by decide) (fun c_14 => ?_) (fun c_14 => ?_)
            · exact J_44  _ _ ls  hP hD hS (lv_sub hl [] rfl)
            · exact J_40  _ _ ls  hP hD hS (lv_sub hl [] rfl)
set_option maxHeartbeats 1000000 in
set_option maxRecDepth 100000 in
theorem m_X6_lengthOf (l : Launch) (g : Gm) (sz : Nat) (ws : va_W) (x0 : Int32) (hG : Good g ws)  : Met l yX6_lengthOf (wt yX6_lengthOf cX6_lengthOf 1 (some .int)) ({ frames := 0, cells := 0, slots := 0, locals := 0 }) (va_Pc [.int x0] (st_G g sz ws)) (va_Qi (fun (r : Int32) (u9 : Unit) => 0 ≤ r.toInt ∧ r.toInt ≤ 6) (gQ0 g (va_A ws sz) ws) (va_A ws sz)) (0) (0) (va_A ws sz) := by
  refine Met.ofW (cc := cX6_lengthOf) (maxL := 1) (ret := (some .int)) (by decide) rfl ?_
  intro p e s m args below meth c s₁ B hml hv
  obtain ⟨rfl, hsz, hP, hK, hD0, hex, hE⟩ := hv
  have hx := B.exec
  have hb := B.bytes
  have hr := B.returns
  have hts0 := atoms_spec (ws := wt yX6_lengthOf cX6_lengthOf 1 (some .int)) B.pre
  have hts : ∀ w ∈ tb, w.before _ s = true := fun w h => hts0 w (List.mem_cons_of_mem _ h)
  have hown : s.vm.findClass RX6 = some m.cls := findClass_of_methodNamed B.named
  subst hsz
  have hD := hD0.self (sz := s.heap.size)
  generalize hAe : va_A ws s.heap.size = A at hD hE ⊢
  have hA : ∀ q : Nat, s.heap.size ≤ q → A q := fun q h => by rw [← hAe]; exact Or.inr h
  have hS : va_S A s.heap s.heap [] := va_S.rf
  have hl := lv_entry ([.int x0]) (n := 1) (Nat.le_of_ble_eq_true rfl)
  rw [lg_entry_eq]
  generalize (lg_sl ([.int x0]) ++ List.replicate (1 - (lg_sl ([.int x0])).length) Slot.unset).toArray = ls at hl ⊢
  have hl : lv_has ls 1 [(0, .int x0)] := hl
  refine lv_iload_n hx hb dX6_lengthOf_0 rfl (lv_at hl 0 rfl) ?_
  have J_21 : ∀ (t_1 : Int32) (H : Heap) (locs : List Loc) (ls : Array Slot), 0 ≤ t_1.toInt ∧ t_1.toInt ≤ 6 → va_P (gD g) cl0 ws H → va_D A ws → va_S A s.heap H locs → lv_has ls 1 [] → W p l e (headSpec (wt yX6_lengthOf cX6_lengthOf 1 (some .int)) ({ frames := 0, cells := 0, slots := 0, locals := 0 })).room s m ([.int x0] : List Value).toArray below meth c H locs (0) (0) (MQ below (va_Qi (fun (r : Int32) (u9 : Unit) => 0 ≤ r.toInt ∧ r.toInt ≤ 6) (gQ0 g A ws) A) ([.int x0] : List Value).toArray s (0) (0) A) (F0 m 21 ls [.int t_1]) := by
    intro t_1 H locs ls iv_2 hP hD hS hl
    refine W.widen (k := 0) (n := 0) (Nat.le_of_ble_eq_true rfl) (Nat.le_of_ble_eq_true rfl) ?_
    exact W.iret (v := t_1) hx hb hr (fun t9 ht9 hW9 => ⟨⟨_, (), rfl, (by have q_iv_2 := iv_2; have g_t_1 := i_rg t_1; have g_x0 := i_rg x0; omega), ⟨by rw [ht9]; exact hP, hD⟩⟩, hS.F ht9⟩) hS.2.2 dX6_lengthOf_21
  have J_12 : ∀  (H : Heap) (locs : List Loc) (ls : Array Slot), va_P (gD g) cl0 ws H → va_D A ws → va_S A s.heap H locs → lv_has ls 1 [] → W p l e (headSpec (wt yX6_lengthOf cX6_lengthOf 1 (some .int)) ({ frames := 0, cells := 0, slots := 0, locals := 0 })).room s m ([.int x0] : List Value).toArray below meth c H locs (0) (0) (MQ below (va_Qi (fun (r : Int32) (u9 : Unit) => 0 ≤ r.toInt ∧ r.toInt ≤ 6) (gQ0 g A ws) A) ([.int x0] : List Value).toArray s (0) (0) A) (F0 m 12 ls []) := by
    intro  H locs ls  hP hD hS hl
    refine lv_iconst (v := 0) hx hb dX6_lengthOf_12 (by decide) ?_
    refine lv_goto (tgt := 21) hx hb dX6_lengthOf_13 (by decide) ?_
    exact J_21 (0) H locs ls (by have e0 : (0 : Int32).toInt = 0 := (by decide); have g_x0 := i_rg x0; omega) hP hD hS (lv_sub hl [] rfl)
  refine lv_if_lt (tgt := 12) hx hb dX6_lengthOf_1 (by decide) (fun c_7 => ?_) (fun c_7 => ?_)
  · exact J_12  _ _ ls  hP hD hS (lv_sub hl [] rfl)
  · refine lv_iload_n hx hb dX6_lengthOf_4 rfl (lv_at hl 0 rfl) ?_
    obtain ⟨t_8, hZ_8, hT_8, hB_8⟩ := hE.2.1
    refine va_gets (C := RX6) (n := "LENGTH_OF") (d := "[I") hx hb hZ_8 hS hown (hts _ kw_1245) (fun _ h9 => h9) dX6_lengthOf_5 ?_
    refine va_tlen (v := 202) hx hb hT_8 hS rfl dX6_lengthOf_8 ?_
    refine lv_icmp_lt (tgt := 16) hx hb dX6_lengthOf_9 (by decide) (fun c_9 => ?_) (fun c_9 => ?_)
    · obtain ⟨t_10, hZ_10, hT_10, hB_10⟩ := hE.2.1
      refine va_gets (C := RX6) (n := "LENGTH_OF") (d := "[I") hx hb hZ_10 hS hown (hts _ kw_1245) (fun _ h9 => h9) dX6_lengthOf_16 ?_
      refine lv_iload_n hx hb dX6_lengthOf_19 rfl (lv_at hl 0 rfl) ?_
      refine va_ti hx hb hT_10 hS (i_in2 (by have e0 : (0 : Int32).toInt = 0 := (by decide); have e202 : (202 : Int32).toInt = 202 := (by decide); have q_c_7 := i_nlt c_7; have q_c_9 := i_lt c_9; have g_x0 := i_rg x0; omega)) rfl dX6_lengthOf_20 ?_
      refine lv_topi (fun z_11 ez_11 => ?_)
      have hb_z_11 := hB_10 (x0 : Int32).toNatClampNeg
      rw [← ez_11] at hb_z_11
      exact J_21 (z_11) _ _ ls (by have e0 : (0 : Int32).toInt = 0 := (by decide); have e202 : (202 : Int32).toInt = 202 := (by decide); have q_c_7 := i_nlt c_7; have q_c_9 := i_lt c_9; have q_z_11 := hb_z_11; have g_x0 := i_rg x0; have g_z_11 := i_rg z_11; omega) hP hD hS (lv_sub hl [] rfl)
    · exact J_12  _ _ ls  hP hD hS (lv_sub hl [] rfl)
set_option maxHeartbeats 1000000 in
set_option maxRecDepth 100000 in
theorem m_X6_takes (l : Launch) (g : Gm) (sz : Nat) (ws : va_W) (x0 : Int32) (hG : Good g ws)  : Met l yX6_takes (wt yX6_takes cX6_takes 1 (some .int)) ({ frames := 0, cells := 0, slots := 0, locals := 0 }) (va_Pc [.int x0] (st_G g sz ws)) (va_Qi (fun (r : Int32) (u9 : Unit) => True) (gQ0 g (va_A ws sz) ws) (va_A ws sz)) (0) (0) (va_A ws sz) := by
  refine Met.ofW (cc := cX6_takes) (maxL := 1) (ret := (some .int)) (by decide) rfl ?_
  intro p e s m args below meth c s₁ B hml hv
  obtain ⟨rfl, hsz, hP, hK, hD0, hex, hE⟩ := hv
  have hx := B.exec
  have hb := B.bytes
  have hr := B.returns
  have hts0 := atoms_spec (ws := wt yX6_takes cX6_takes 1 (some .int)) B.pre
  have hts : ∀ w ∈ tb, w.before _ s = true := fun w h => hts0 w (List.mem_cons_of_mem _ h)
  have hown : s.vm.findClass RX6 = some m.cls := findClass_of_methodNamed B.named
  subst hsz
  have hD := hD0.self (sz := s.heap.size)
  generalize hAe : va_A ws s.heap.size = A at hD hE ⊢
  have hA : ∀ q : Nat, s.heap.size ≤ q → A q := fun q h => by rw [← hAe]; exact Or.inr h
  have hS : va_S A s.heap s.heap [] := va_S.rf
  have hl := lv_entry ([.int x0]) (n := 1) (Nat.le_of_ble_eq_true rfl)
  rw [lg_entry_eq]
  generalize (lg_sl ([.int x0]) ++ List.replicate (1 - (lg_sl ([.int x0])).length) Slot.unset).toArray = ls at hl ⊢
  have hl : lv_has ls 1 [(0, .int x0)] := hl
  refine lv_iload_n hx hb dX6_takes_0 rfl (lv_at hl 0 rfl) ?_
  have J_21 : ∀ (t_1 : Int32) (H : Heap) (locs : List Loc) (ls : Array Slot), va_P (gD g) cl0 ws H → va_D A ws → va_S A s.heap H locs → lv_has ls 1 [] → W p l e (headSpec (wt yX6_takes cX6_takes 1 (some .int)) ({ frames := 0, cells := 0, slots := 0, locals := 0 })).room s m ([.int x0] : List Value).toArray below meth c H locs (0) (0) (MQ below (va_Qi (fun (r : Int32) (u9 : Unit) => True) (gQ0 g A ws) A) ([.int x0] : List Value).toArray s (0) (0) A) (F0 m 21 ls [.int t_1]) := by
    intro t_1 H locs ls  hP hD hS hl
    refine W.widen (k := 0) (n := 0) (Nat.le_of_ble_eq_true rfl) (Nat.le_of_ble_eq_true rfl) ?_
    exact W.iret (v := t_1) hx hb hr (fun t9 ht9 hW9 => ⟨⟨_, (), rfl, trivial, ⟨by rw [ht9]; exact hP, hD⟩⟩, hS.F ht9⟩) hS.2.2 dX6_takes_21
  have J_12 : ∀  (H : Heap) (locs : List Loc) (ls : Array Slot), va_P (gD g) cl0 ws H → va_D A ws → va_S A s.heap H locs → lv_has ls 1 [] → W p l e (headSpec (wt yX6_takes cX6_takes 1 (some .int)) ({ frames := 0, cells := 0, slots := 0, locals := 0 })).room s m ([.int x0] : List Value).toArray below meth c H locs (0) (0) (MQ below (va_Qi (fun (r : Int32) (u9 : Unit) => True) (gQ0 g A ws) A) ([.int x0] : List Value).toArray s (0) (0) A) (F0 m 12 ls []) := by
    intro  H locs ls  hP hD hS hl
    refine lv_iconst (v := 0) hx hb dX6_takes_12 (by decide) ?_
    refine lv_goto (tgt := 21) hx hb dX6_takes_13 (by decide) ?_
    exact J_21 (0) H locs ls  hP hD hS (lv_sub hl [] rfl)
  refine lv_if_lt (tgt := 12) hx hb dX6_takes_1 (by decide) (fun c_6 => ?_) (fun c_6 => ?_)
  · exact J_12  _ _ ls  hP hD hS (lv_sub hl [] rfl)
  · refine lv_iload_n hx hb dX6_takes_4 rfl (lv_at hl 0 rfl) ?_
    obtain ⟨t_7, hZ_7, hT_7, hB_7⟩ := hE.2.2.1
    refine va_gets (C := RX6) (n := "TAKES_OF") (d := "[I") hx hb hZ_7 hS hown (hts _ kw_1256) (fun _ h9 => h9) dX6_takes_5 ?_
    refine va_tlen (v := 202) hx hb hT_7 hS rfl dX6_takes_8 ?_
    refine lv_icmp_lt (tgt := 16) hx hb dX6_takes_9 (by decide) (fun c_8 => ?_) (fun c_8 => ?_)
    · obtain ⟨t_9, hZ_9, hT_9, hB_9⟩ := hE.2.2.1
      refine va_gets (C := RX6) (n := "TAKES_OF") (d := "[I") hx hb hZ_9 hS hown (hts _ kw_1256) (fun _ h9 => h9) dX6_takes_16 ?_
      refine lv_iload_n hx hb dX6_takes_19 rfl (lv_at hl 0 rfl) ?_
      refine va_ti hx hb hT_9 hS (i_in2 (by have e0 : (0 : Int32).toInt = 0 := (by decide); have e202 : (202 : Int32).toInt = 202 := (by decide); have q_c_6 := i_nlt c_6; have q_c_8 := i_lt c_8; have g_x0 := i_rg x0; omega)) rfl dX6_takes_20 ?_
      refine lv_topi (fun z_10 ez_10 => ?_)
      have hb_z_10 := hB_9 (x0 : Int32).toNatClampNeg
      rw [← ez_10] at hb_z_10
      exact J_21 (z_10) _ _ ls  hP hD hS (lv_sub hl [] rfl)
    · exact J_12  _ _ ls  hP hD hS (lv_sub hl [] rfl)
set_option maxHeartbeats 1000000 in
set_option maxRecDepth 100000 in
theorem m_X6_gives (l : Launch) (g : Gm) (sz : Nat) (ws : va_W) (x0 : Int32) (hG : Good g ws)  : Met l yX6_gives (wt yX6_gives cX6_gives 1 (some .int)) ({ frames := 0, cells := 0, slots := 0, locals := 0 }) (va_Pc [.int x0] (st_G g sz ws)) (va_Qi (fun (r : Int32) (u9 : Unit) => True) (gQ0 g (va_A ws sz) ws) (va_A ws sz)) (0) (0) (va_A ws sz) := by
  refine Met.ofW (cc := cX6_gives) (maxL := 1) (ret := (some .int)) (by decide) rfl ?_
  intro p e s m args below meth c s₁ B hml hv
  obtain ⟨rfl, hsz, hP, hK, hD0, hex, hE⟩ := hv
  have hx := B.exec
  have hb := B.bytes
  have hr := B.returns
  have hts0 := atoms_spec (ws := wt yX6_gives cX6_gives 1 (some .int)) B.pre
  have hts : ∀ w ∈ tb, w.before _ s = true := fun w h => hts0 w (List.mem_cons_of_mem _ h)
  have hown : s.vm.findClass RX6 = some m.cls := findClass_of_methodNamed B.named
  subst hsz
  have hD := hD0.self (sz := s.heap.size)
  generalize hAe : va_A ws s.heap.size = A at hD hE ⊢
  have hA : ∀ q : Nat, s.heap.size ≤ q → A q := fun q h => by rw [← hAe]; exact Or.inr h
  have hS : va_S A s.heap s.heap [] := va_S.rf
  have hl := lv_entry ([.int x0]) (n := 1) (Nat.le_of_ble_eq_true rfl)
  rw [lg_entry_eq]
  generalize (lg_sl ([.int x0]) ++ List.replicate (1 - (lg_sl ([.int x0])).length) Slot.unset).toArray = ls at hl ⊢
  have hl : lv_has ls 1 [(0, .int x0)] := hl
  refine lv_iload_n hx hb dX6_gives_0 rfl (lv_at hl 0 rfl) ?_
  have J_21 : ∀ (t_1 : Int32) (H : Heap) (locs : List Loc) (ls : Array Slot), va_P (gD g) cl0 ws H → va_D A ws → va_S A s.heap H locs → lv_has ls 1 [] → W p l e (headSpec (wt yX6_gives cX6_gives 1 (some .int)) ({ frames := 0, cells := 0, slots := 0, locals := 0 })).room s m ([.int x0] : List Value).toArray below meth c H locs (0) (0) (MQ below (va_Qi (fun (r : Int32) (u9 : Unit) => True) (gQ0 g A ws) A) ([.int x0] : List Value).toArray s (0) (0) A) (F0 m 21 ls [.int t_1]) := by
    intro t_1 H locs ls  hP hD hS hl
    refine W.widen (k := 0) (n := 0) (Nat.le_of_ble_eq_true rfl) (Nat.le_of_ble_eq_true rfl) ?_
    exact W.iret (v := t_1) hx hb hr (fun t9 ht9 hW9 => ⟨⟨_, (), rfl, trivial, ⟨by rw [ht9]; exact hP, hD⟩⟩, hS.F ht9⟩) hS.2.2 dX6_gives_21
  have J_12 : ∀  (H : Heap) (locs : List Loc) (ls : Array Slot), va_P (gD g) cl0 ws H → va_D A ws → va_S A s.heap H locs → lv_has ls 1 [] → W p l e (headSpec (wt yX6_gives cX6_gives 1 (some .int)) ({ frames := 0, cells := 0, slots := 0, locals := 0 })).room s m ([.int x0] : List Value).toArray below meth c H locs (0) (0) (MQ below (va_Qi (fun (r : Int32) (u9 : Unit) => True) (gQ0 g A ws) A) ([.int x0] : List Value).toArray s (0) (0) A) (F0 m 12 ls []) := by
    intro  H locs ls  hP hD hS hl
    refine lv_iconst (v := 0) hx hb dX6_gives_12 (by decide) ?_
    refine lv_goto (tgt := 21) hx hb dX6_gives_13 (by decide) ?_
    exact J_21 (0) H locs ls  hP hD hS (lv_sub hl [] rfl)
  refine lv_if_lt (tgt := 12) hx hb dX6_gives_1 (by decide) (fun c_6 => ?_) (fun c_6 => ?_)
  · exact J_12  _ _ ls  hP hD hS (lv_sub hl [] rfl)
  · refine lv_iload_n hx hb dX6_gives_4 rfl (lv_at hl 0 rfl) ?_
    obtain ⟨t_7, hZ_7, hT_7, hB_7⟩ := hE.2.2.2.1
    refine va_gets (C := RX6) (n := "GIVES_OF") (d := "[I") hx hb hZ_7 hS hown (hts _ kw_1217) (fun _ h9 => h9) dX6_gives_5 ?_
    refine va_tlen (v := 202) hx hb hT_7 hS rfl dX6_gives_8 ?_
    refine lv_icmp_lt (tgt := 16) hx hb dX6_gives_9 (by decide) (fun c_8 => ?_) (fun c_8 => ?_)
    · obtain ⟨t_9, hZ_9, hT_9, hB_9⟩ := hE.2.2.2.1
      refine va_gets (C := RX6) (n := "GIVES_OF") (d := "[I") hx hb hZ_9 hS hown (hts _ kw_1217) (fun _ h9 => h9) dX6_gives_16 ?_
      refine lv_iload_n hx hb dX6_gives_19 rfl (lv_at hl 0 rfl) ?_
      refine va_ti hx hb hT_9 hS (i_in2 (by have e0 : (0 : Int32).toInt = 0 := (by decide); have e202 : (202 : Int32).toInt = 202 := (by decide); have q_c_6 := i_nlt c_6; have q_c_8 := i_lt c_8; have g_x0 := i_rg x0; omega)) rfl dX6_gives_20 ?_
      refine lv_topi (fun z_10 ez_10 => ?_)
      have hb_z_10 := hB_9 (x0 : Int32).toNatClampNeg
      rw [← ez_10] at hb_z_10
      exact J_21 (z_10) _ _ ls  hP hD hS (lv_sub hl [] rfl)
    · exact J_12  _ _ ls  hP hD hS (lv_sub hl [] rfl)
set_option maxHeartbeats 1000000 in
set_option maxRecDepth 100000 in
theorem m_X6_placesOf (l : Launch) (g : Gm) (sz : Nat) (ws : va_W) (x0 : Int32) (hG : Good g ws)  : Met l yX6_placesOf (wt yX6_placesOf cX6_placesOf 3 (some .int)) ({ frames := 0, cells := 0, slots := 0, locals := 0 }) (va_Pc [.int x0] (st_G g sz ws)) (va_Qi (fun (r : Int32) (u9 : Unit) => 0 ≤ r.toInt ∧ r.toInt ≤ 16) (gQ0 g (va_A ws sz) ws) (va_A ws sz)) (0) (0) (va_A ws sz) := by
  refine Met.ofW (cc := cX6_placesOf) (maxL := 3) (ret := (some .int)) (by decide) rfl ?_
  intro p e s m args below meth c s₁ B hml hv
  obtain ⟨rfl, hsz, hP, hK, hD0, hex, hE⟩ := hv
  have hx := B.exec
  have hb := B.bytes
  have hr := B.returns
  have hts0 := atoms_spec (ws := wt yX6_placesOf cX6_placesOf 3 (some .int)) B.pre
  have hts : ∀ w ∈ tb, w.before _ s = true := fun w h => hts0 w (List.mem_cons_of_mem _ h)
  have hown : s.vm.findClass RX6 = some m.cls := findClass_of_methodNamed B.named
  subst hsz
  have hD := hD0.self (sz := s.heap.size)
  generalize hAe : va_A ws s.heap.size = A at hD hE ⊢
  have hA : ∀ q : Nat, s.heap.size ≤ q → A q := fun q h => by rw [← hAe]; exact Or.inr h
  have hS : va_S A s.heap s.heap [] := va_S.rf
  have hl := lv_entry ([.int x0]) (n := 3) (Nat.le_of_ble_eq_true rfl)
  rw [lg_entry_eq]
  generalize (lg_sl ([.int x0]) ++ List.replicate (3 - (lg_sl ([.int x0])).length) Slot.unset).toArray = ls at hl ⊢
  have hl : lv_has ls 3 [(0, .int x0)] := hl
  refine lv_iconst (v := 0) hx hb dX6_placesOf_0 (by decide) ?_
  refine lv_istore_n (lv' := [(1, .int 0), (0, .int x0)]) hx hb dX6_placesOf_1 rfl hl (by decide) rfl (fun ls hl => ?_)
  refine lv_iload_n hx hb dX6_placesOf_2 rfl (lv_at hl 1 rfl) ?_
  refine lv_istore_n (lv' := [(2, .int x0), (1, .int 0), (0, .int x0)]) hx hb dX6_placesOf_3 rfl hl (by decide) rfl (fun ls hl => ?_)
  have J_4 : ∀ (n9 : Nat) (v1_1 : Int32) (v2_2 : Int32) (H : Heap) (locs : List Loc) (ls : Array Slot), v2_2.toInt.toNat = n9 → (v2_2.toInt < 2147483648 ∧ 0 ≤ v1_1.toInt ∧ v1_1.toInt ≤ 0) ∨ (v2_2.toInt < 134217728 ∧ 0 ≤ v1_1.toInt ∧ v1_1.toInt ≤ 2) ∨ (v2_2.toInt < 8388608 ∧ 0 ≤ v1_1.toInt ∧ v1_1.toInt ≤ 4) ∨ (v2_2.toInt < 524288 ∧ 0 ≤ v1_1.toInt ∧ v1_1.toInt ≤ 6) ∨ (v2_2.toInt < 32768 ∧ 0 ≤ v1_1.toInt ∧ v1_1.toInt ≤ 8) ∨ (v2_2.toInt < 2048 ∧ 0 ≤ v1_1.toInt ∧ v1_1.toInt ≤ 10) ∨ (v2_2.toInt < 128 ∧ 0 ≤ v1_1.toInt ∧ v1_1.toInt ≤ 12) ∨ (v2_2.toInt < 8 ∧ 0 ≤ v1_1.toInt ∧ v1_1.toInt ≤ 14) ∨ (v2_2.toInt < 1 ∧ 0 ≤ v1_1.toInt ∧ v1_1.toInt ≤ 16) → va_P (gD g) cl0 ws H → va_D A ws → va_S A s.heap H locs → lv_has ls 3 [(1, .int v1_1), (2, .int v2_2)] → W p l e (headSpec (wt yX6_placesOf cX6_placesOf 3 (some .int)) ({ frames := 0, cells := 0, slots := 0, locals := 0 })).room s m ([.int x0] : List Value).toArray below meth c H locs (0) (0) (MQ below (va_Qi (fun (r : Int32) (u9 : Unit) => 0 ≤ r.toInt ∧ r.toInt ≤ 16) (gQ0 g A ws) A) ([.int x0] : List Value).toArray s (0) (0) A) (F0 m 4 ls []) := by
    intro n9
    induction n9 using Nat.strongRecOn with
    | ind n9 ih_4 =>
      intro v1_1 v2_2 H locs ls hm9 iv_3 hP hD hS hl
      subst hm9
      refine lv_iload_n hx hb dX6_placesOf_4 rfl (lv_at hl 1 rfl) ?_
      refine lv_if_le (tgt := 31) hx hb dX6_placesOf_5 (by decide) (fun c_6 => ?_) (fun c_6 => ?_)
      · refine lv_iload_n hx hb dX6_placesOf_31 rfl (lv_at hl 0 rfl) ?_
        refine W.widen (k := 0) (n := 0) (Nat.le_of_ble_eq_true rfl) (Nat.le_of_ble_eq_true rfl) ?_
        exact W.iret (v := v1_1) hx hb hr (fun t9 ht9 hW9 => ⟨⟨_, (), rfl, (by have e0 : (0 : Int32).toInt = 0 := (by decide); have q_iv_3 := iv_3; have q_c_6 := i_le c_6; have g_v1_1 := i_rg v1_1; have g_v2_2 := i_rg v2_2; have g_x0 := i_rg x0; omega), ⟨by rw [ht9]; exact hP, hD⟩⟩, hS.F ht9⟩) hS.2.2 dX6_placesOf_32
      · refine lv_iload_n hx hb dX6_placesOf_8 rfl (lv_at hl 0 rfl) ?_
        refine lv_iload_n hx hb dX6_placesOf_9 rfl (lv_at hl 1 rfl) ?_
        refine lv_bipush (v := 15) hx hb dX6_placesOf_10 (by decide) ?_
        refine lv_iand hx hb dX6_placesOf_12 ?_
        refine lv_topi (fun z_7 ez_7 => ?_)
        refine lv_iconst (v := 2) hx hb dX6_placesOf_13 (by decide) ?_
        have J_22 : ∀ (t_8 : Int32) (H : Heap) (locs : List Loc) (ls : Array Slot), 1 ≤ t_8.toInt ∧ t_8.toInt ≤ 2 → va_P (gD g) cl0 ws H → va_D A ws → va_S A s.heap H locs → lv_has ls 3 [(2, .int v2_2)] → W p l e (headSpec (wt yX6_placesOf cX6_placesOf 3 (some .int)) ({ frames := 0, cells := 0, slots := 0, locals := 0 })).room s m ([.int x0] : List Value).toArray below meth c H locs (0) (0) (MQ below (va_Qi (fun (r : Int32) (u9 : Unit) => 0 ≤ r.toInt ∧ r.toInt ≤ 16) (gQ0 g A ws) A) ([.int x0] : List Value).toArray s (0) (0) A) (F0 m 22 ls [.int t_8, .int v1_1]) := by
          intro t_8 H locs ls iv_9 hP hD hS hl
          refine lv_iadd hx hb dX6_placesOf_22 ?_
          refine lv_topi (fun z_12 ez_12 => ?_)
          refine lv_istore_n (lv' := [(1, .int z_12), (2, .int v2_2)]) hx hb dX6_placesOf_23 rfl hl (by decide) rfl (fun ls hl => ?_)
          refine lv_iload_n hx hb dX6_placesOf_24 rfl (lv_at hl 1 rfl) ?_
          refine lv_iconst (v := 4) hx hb dX6_placesOf_25 (by decide) ?_
          refine lv_ishr hx hb dX6_placesOf_26 ?_
          refine lv_topi (fun z_13 ez_13 => ?_)
          refine lv_istore_n (lv' := [(2, .int z_13), (1, .int z_12)]) hx hb dX6_placesOf_27 rfl hl (by decide) rfl (fun ls hl => ?_)
          refine lv_goto (tgt := 4) hx hb dX6_placesOf_28 (by decide) ?_
          exact ih_4 _ (by have e0 : (0 : Int32).toInt = 0 := (by decide); have q_z_13 := i_shr (k := 4) (b := 16) ez_13 (by decide) (by decide); have q_iv_3 := iv_3; have q_c_6 := i_nle c_6; have q_z_7 := i_and (k := 4) (b := 16) ez_7 (by decide) (by decide) (by decide); have g_v1_1 := i_rg v1_1; have g_v2_2 := i_rg v2_2; have g_z_13 := i_rg z_13; have g_z_7 := i_rg z_7; omega) (z_12) (z_13) H locs ls rfl (by have e0 : (0 : Int32).toInt = 0 := (by decide); obtain ⟨u_z_12, q_z_12⟩ := i_add ez_12; have q_z_13 := i_shr (k := 4) (b := 16) ez_13 (by decide) (by decide); have q_iv_3 := iv_3; have q_c_6 := i_nle c_6; have q_z_7 := i_and (k := 4) (b := 16) ez_7 (by decide) (by decide) (by decide); have q_iv_9 := iv_9; have g_t_8 := i_rg t_8; have g_v1_1 := i_rg v1_1; have g_v2_2 := i_rg v2_2; have g_z_12 := i_rg z_12; have g_z_13 := i_rg z_13; have g_z_7 := i_rg z_7; omega) hP hD hS (lv_sub hl [1, 0] rfl)
        refine lv_icmp_ne (tgt := 21) hx hb dX6_placesOf_14 (by decide) (fun c_14 => ?_) (fun c_14 => ?_)
        · refine lv_iconst (v := 1) hx hb dX6_placesOf_21 (by decide) ?_
          exact J_22 (1) H locs ls (by have e1 : (1 : Int32).toInt = 1 := (by decide); have g_x0 := i_rg x0; omega) hP hD hS (lv_sub hl [1] rfl)
        · refine lv_iconst (v := 2) hx hb dX6_placesOf_17 (by decide) ?_
          refine lv_goto (tgt := 22) hx hb dX6_placesOf_18 (by decide) ?_
          exact J_22 (2) H locs ls (by have e2 : (2 : Int32).toInt = 2 := (by decide); have g_x0 := i_rg x0; omega) hP hD hS (lv_sub hl [1] rfl)
  exact J_4 _ (0) (x0) _ _ ls rfl (by have e0 : (0 : Int32).toInt = 0 := (by decide); have g_x0 := i_rg x0; omega) hP hD hS (lv_sub hl [1, 0] rfl)
set_option maxHeartbeats 1000000 in
set_option maxRecDepth 100000 in
theorem m_X6_kindCount (l : Launch) (g : Gm) (sz : Nat) (ws : va_W) (x0 : Int32) (hG : Good g ws)  : Met l yX6_kindCount (wt yX6_kindCount cX6_kindCount 3 (some .int)) ({ frames := 0, cells := 0, slots := 0, locals := 0 }) (va_Pc [.int x0] (st_G g sz ws)) (va_Qi (fun (r : Int32) (u9 : Unit) => 0 ≤ r.toInt ∧ r.toInt ≤ 8) (gQ0 g (va_A ws sz) ws) (va_A ws sz)) (0) (0) (va_A ws sz) := by
  refine Met.ofW (cc := cX6_kindCount) (maxL := 3) (ret := (some .int)) (by decide) rfl ?_
  intro p e s m args below meth c s₁ B hml hv
  obtain ⟨rfl, hsz, hP, hK, hD0, hex, hE⟩ := hv
  have hx := B.exec
  have hb := B.bytes
  have hr := B.returns
  have hts0 := atoms_spec (ws := wt yX6_kindCount cX6_kindCount 3 (some .int)) B.pre
  have hts : ∀ w ∈ tb, w.before _ s = true := fun w h => hts0 w (List.mem_cons_of_mem _ h)
  have hown : s.vm.findClass RX6 = some m.cls := findClass_of_methodNamed B.named
  subst hsz
  have hD := hD0.self (sz := s.heap.size)
  generalize hAe : va_A ws s.heap.size = A at hD hE ⊢
  have hA : ∀ q : Nat, s.heap.size ≤ q → A q := fun q h => by rw [← hAe]; exact Or.inr h
  have hS : va_S A s.heap s.heap [] := va_S.rf
  have hl := lv_entry ([.int x0]) (n := 3) (Nat.le_of_ble_eq_true rfl)
  rw [lg_entry_eq]
  generalize (lg_sl ([.int x0]) ++ List.replicate (3 - (lg_sl ([.int x0])).length) Slot.unset).toArray = ls at hl ⊢
  have hl : lv_has ls 3 [(0, .int x0)] := hl
  refine lv_iconst (v := 0) hx hb dX6_kindCount_0 (by decide) ?_
  refine lv_istore_n (lv' := [(1, .int 0), (0, .int x0)]) hx hb dX6_kindCount_1 rfl hl (by decide) rfl (fun ls hl => ?_)
  refine lv_iload_n hx hb dX6_kindCount_2 rfl (lv_at hl 1 rfl) ?_
  refine lv_istore_n (lv' := [(2, .int x0), (1, .int 0), (0, .int x0)]) hx hb dX6_kindCount_3 rfl hl (by decide) rfl (fun ls hl => ?_)
  have J_4 : ∀ (n9 : Nat) (v1_1 : Int32) (v2_2 : Int32) (H : Heap) (locs : List Loc) (ls : Array Slot), v2_2.toInt.toNat = n9 → (v2_2.toInt < 2147483648 ∧ 0 ≤ v1_1.toInt ∧ v1_1.toInt ≤ 0) ∨ (v2_2.toInt < 134217728 ∧ 0 ≤ v1_1.toInt ∧ v1_1.toInt ≤ 1) ∨ (v2_2.toInt < 8388608 ∧ 0 ≤ v1_1.toInt ∧ v1_1.toInt ≤ 2) ∨ (v2_2.toInt < 524288 ∧ 0 ≤ v1_1.toInt ∧ v1_1.toInt ≤ 3) ∨ (v2_2.toInt < 32768 ∧ 0 ≤ v1_1.toInt ∧ v1_1.toInt ≤ 4) ∨ (v2_2.toInt < 2048 ∧ 0 ≤ v1_1.toInt ∧ v1_1.toInt ≤ 5) ∨ (v2_2.toInt < 128 ∧ 0 ≤ v1_1.toInt ∧ v1_1.toInt ≤ 6) ∨ (v2_2.toInt < 8 ∧ 0 ≤ v1_1.toInt ∧ v1_1.toInt ≤ 7) ∨ (v2_2.toInt < 1 ∧ 0 ≤ v1_1.toInt ∧ v1_1.toInt ≤ 8) → va_P (gD g) cl0 ws H → va_D A ws → va_S A s.heap H locs → lv_has ls 3 [(1, .int v1_1), (2, .int v2_2)] → W p l e (headSpec (wt yX6_kindCount cX6_kindCount 3 (some .int)) ({ frames := 0, cells := 0, slots := 0, locals := 0 })).room s m ([.int x0] : List Value).toArray below meth c H locs (0) (0) (MQ below (va_Qi (fun (r : Int32) (u9 : Unit) => 0 ≤ r.toInt ∧ r.toInt ≤ 8) (gQ0 g A ws) A) ([.int x0] : List Value).toArray s (0) (0) A) (F0 m 4 ls []) := by
    intro n9
    induction n9 using Nat.strongRecOn with
    | ind n9 ih_4 =>
      intro v1_1 v2_2 H locs ls hm9 iv_3 hP hD hS hl
      subst hm9
      refine lv_iload_n hx hb dX6_kindCount_4 rfl (lv_at hl 1 rfl) ?_
      refine lv_if_le (tgt := 18) hx hb dX6_kindCount_5 (by decide) (fun c_6 => ?_) (fun c_6 => ?_)
      · refine lv_iload_n hx hb dX6_kindCount_18 rfl (lv_at hl 0 rfl) ?_
        refine W.widen (k := 0) (n := 0) (Nat.le_of_ble_eq_true rfl) (Nat.le_of_ble_eq_true rfl) ?_
        exact W.iret (v := v1_1) hx hb hr (fun t9 ht9 hW9 => ⟨⟨_, (), rfl, (by have e0 : (0 : Int32).toInt = 0 := (by decide); have q_iv_3 := iv_3; have q_c_6 := i_le c_6; have g_v1_1 := i_rg v1_1; have g_v2_2 := i_rg v2_2; have g_x0 := i_rg x0; omega), ⟨by rw [ht9]; exact hP, hD⟩⟩, hS.F ht9⟩) hS.2.2 dX6_kindCount_19
      · obtain ⟨z_7, ez_7⟩ : ∃ z : Int32, v1_1 + Int32.ofInt 1 = z := ⟨_, rfl⟩
        refine lv_iinc (v := z_7) (lv' := [(1, .int z_7), (2, .int v2_2)]) hx hb dX6_kindCount_8 hl (k := 0) rfl ez_7 (by decide) rfl (fun ls hl => ?_)
        refine lv_iload_n hx hb dX6_kindCount_11 rfl (lv_at hl 1 rfl) ?_
        refine lv_iconst (v := 4) hx hb dX6_kindCount_12 (by decide) ?_
        refine lv_ishr hx hb dX6_kindCount_13 ?_
        refine lv_topi (fun z_8 ez_8 => ?_)
        refine lv_istore_n (lv' := [(2, .int z_8), (1, .int z_7)]) hx hb dX6_kindCount_14 rfl hl (by decide) rfl (fun ls hl => ?_)
        refine lv_goto (tgt := 4) hx hb dX6_kindCount_15 (by decide) ?_
        exact ih_4 _ (by have e0 : (0 : Int32).toInt = 0 := (by decide); have q_z_8 := i_shr (k := 4) (b := 16) ez_8 (by decide) (by decide); have q_iv_3 := iv_3; have q_c_6 := i_nle c_6; have g_v1_1 := i_rg v1_1; have g_v2_2 := i_rg v2_2; have g_z_8 := i_rg z_8; omega) (z_7) (z_8) H locs ls rfl (by have e0 : (0 : Int32).toInt = 0 := (by decide); obtain ⟨u_z_7, q_z_7⟩ := i_iz ez_7 (by decide) (by decide); have q_z_8 := i_shr (k := 4) (b := 16) ez_8 (by decide) (by decide); have q_iv_3 := iv_3; have q_c_6 := i_nle c_6; have g_v1_1 := i_rg v1_1; have g_v2_2 := i_rg v2_2; have g_z_7 := i_rg z_7; have g_z_8 := i_rg z_8; omega) hP hD hS (lv_sub hl [1, 0] rfl)
  exact J_4 _ (0) (x0) _ _ ls rfl (by have e0 : (0 : Int32).toInt = 0 := (by decide); have g_x0 := i_rg x0; omega) hP hD hS (lv_sub hl [1, 0] rfl)
set_option maxHeartbeats 1000000 in
set_option maxRecDepth 100000 in
theorem m_X6_ofLongs (l : Launch) (g : Gm) (sz : Nat) (ws : va_W) (x0 : Int32) (y1 : Int64) (y3 : Int64) (hG : Good g ws)  : Met l yX6_ofLongs (wt yX6_ofLongs cX6_ofLongs 5 (some .long)) ({ frames := 0, cells := 0, slots := 0, locals := 0 }) (va_Pc [.int x0, .long y1, .long y3] (st_G g sz ws)) (va_Ql (fun (r : Int64) (u9 : Unit) => True) (gQ0 g (va_A ws sz) ws) (va_A ws sz)) (0) (0) (va_A ws sz) := by
  refine Met.ofW (cc := cX6_ofLongs) (maxL := 5) (ret := (some .long)) (by decide) rfl ?_
  intro p e s m args below meth c s₁ B hml hv
  obtain ⟨rfl, hsz, hP, hK, hD0, hex, hE⟩ := hv
  have hx := B.exec
  have hb := B.bytes
  have hr := B.returns
  have hts0 := atoms_spec (ws := wt yX6_ofLongs cX6_ofLongs 5 (some .long)) B.pre
  have hts : ∀ w ∈ tb, w.before _ s = true := fun w h => hts0 w (List.mem_cons_of_mem _ h)
  have hown : s.vm.findClass RX6 = some m.cls := findClass_of_methodNamed B.named
  subst hsz
  have hD := hD0.self (sz := s.heap.size)
  generalize hAe : va_A ws s.heap.size = A at hD hE ⊢
  have hA : ∀ q : Nat, s.heap.size ≤ q → A q := fun q h => by rw [← hAe]; exact Or.inr h
  have hS : va_S A s.heap s.heap [] := va_S.rf
  have hl := lv_entry ([.int x0, .long y1, .long y3]) (n := 5) (Nat.le_of_ble_eq_true rfl)
  rw [lg_entry_eq]
  generalize (lg_sl ([.int x0, .long y1, .long y3]) ++ List.replicate (5 - (lg_sl ([.int x0, .long y1, .long y3])).length) Slot.unset).toArray = ls at hl ⊢
  have hl : lv_has ls 5 [(0, .int x0), (1, .long y1), (3, .long y3)] := hl
  refine lv_iload_n hx hb dX6_ofLongs_0 rfl (lv_at hl 0 rfl) ?_
  have K_1_211 : W p l e (headSpec (wt yX6_ofLongs cX6_ofLongs 5 (some .long)) ({ frames := 0, cells := 0, slots := 0, locals := 0 })).room s m ([.int x0, .long y1, .long y3] : List Value).toArray below meth c s.heap [] (0) (0) (MQ below (va_Ql (fun (r : Int64) (u9 : Unit) => True) (gQ0 g A ws) A) ([.int x0, .long y1, .long y3] : List Value).toArray s (0) (0) A) (F0 m 211 ls []) := by
    refine lv_lload_n hx hb dX6_ofLongs_211 rfl (lv_at hl 1 rfl) ?_
    refine lv_lload_n hx hb dX6_ofLongs_212 rfl (lv_at hl 2 rfl) ?_
    refine lv_lxor hx hb dX6_ofLongs_213 ?_
    refine lv_topl (fun z_1 ez_1 => ?_)
    refine W.widen (k := 0) (n := 0) (Nat.le_of_ble_eq_true rfl) (Nat.le_of_ble_eq_true rfl) ?_
    exact W.lret (v := z_1) hx hb hr (fun t9 ht9 hW9 => ⟨⟨_, (), rfl, trivial, ⟨by rw [ht9]; exact hP, hD⟩⟩, hS.F ht9⟩) hS.2.2 dX6_ofLongs_214
  have K_1_148 : W p l e (headSpec (wt yX6_ofLongs cX6_ofLongs 5 (some .long)) ({ frames := 0, cells := 0, slots := 0, locals := 0 })).room s m ([.int x0, .long y1, .long y3] : List Value).toArray below meth c s.heap [] (0) (0) (MQ below (va_Ql (fun (r : Int64) (u9 : Unit) => True) (gQ0 g A ws) A) ([.int x0, .long y1, .long y3] : List Value).toArray s (0) (0) A) (F0 m 148 ls []) := by
    refine lv_lload_n hx hb dX6_ofLongs_148 rfl (lv_at hl 1 rfl) ?_
    refine lv_lload_n hx hb dX6_ofLongs_149 rfl (lv_at hl 2 rfl) ?_
    refine lv_ladd hx hb dX6_ofLongs_150 ?_
    refine lv_topl (fun z_2 ez_2 => ?_)
    refine W.widen (k := 0) (n := 0) (Nat.le_of_ble_eq_true rfl) (Nat.le_of_ble_eq_true rfl) ?_
    exact W.lret (v := z_2) hx hb hr (fun t9 ht9 hW9 => ⟨⟨_, (), rfl, trivial, ⟨by rw [ht9]; exact hP, hD⟩⟩, hS.F ht9⟩) hS.2.2 dX6_ofLongs_151
  have K_1_152 : W p l e (headSpec (wt yX6_ofLongs cX6_ofLongs 5 (some .long)) ({ frames := 0, cells := 0, slots := 0, locals := 0 })).room s m ([.int x0, .long y1, .long y3] : List Value).toArray below meth c s.heap [] (0) (0) (MQ below (va_Ql (fun (r : Int64) (u9 : Unit) => True) (gQ0 g A ws) A) ([.int x0, .long y1, .long y3] : List Value).toArray s (0) (0) A) (F0 m 152 ls []) := by
    refine lv_lload_n hx hb dX6_ofLongs_152 rfl (lv_at hl 1 rfl) ?_
    refine lv_lload_n hx hb dX6_ofLongs_153 rfl (lv_at hl 2 rfl) ?_
    refine lv_lsub hx hb dX6_ofLongs_154 ?_
    refine lv_topl (fun z_3 ez_3 => ?_)
    refine W.widen (k := 0) (n := 0) (Nat.le_of_ble_eq_true rfl) (Nat.le_of_ble_eq_true rfl) ?_
    exact W.lret (v := z_3) hx hb hr (fun t9 ht9 hW9 => ⟨⟨_, (), rfl, trivial, ⟨by rw [ht9]; exact hP, hD⟩⟩, hS.F ht9⟩) hS.2.2 dX6_ofLongs_155
  have K_1_156 : W p l e (headSpec (wt yX6_ofLongs cX6_ofLongs 5 (some .long)) ({ frames := 0, cells := 0, slots := 0, locals := 0 })).room s m ([.int x0, .long y1, .long y3] : List Value).toArray below meth c s.heap [] (0) (0) (MQ below (va_Ql (fun (r : Int64) (u9 : Unit) => True) (gQ0 g A ws) A) ([.int x0, .long y1, .long y3] : List Value).toArray s (0) (0) A) (F0 m 156 ls []) := by
    refine lv_lload_n hx hb dX6_ofLongs_156 rfl (lv_at hl 1 rfl) ?_
    refine lv_lload_n hx hb dX6_ofLongs_157 rfl (lv_at hl 2 rfl) ?_
    refine lv_lmul hx hb dX6_ofLongs_158 ?_
    refine lv_topl (fun z_4 ez_4 => ?_)
    refine W.widen (k := 0) (n := 0) (Nat.le_of_ble_eq_true rfl) (Nat.le_of_ble_eq_true rfl) ?_
    exact W.lret (v := z_4) hx hb hr (fun t9 ht9 hW9 => ⟨⟨_, (), rfl, trivial, ⟨by rw [ht9]; exact hP, hD⟩⟩, hS.F ht9⟩) hS.2.2 dX6_ofLongs_159
  have K_1_160 : W p l e (headSpec (wt yX6_ofLongs cX6_ofLongs 5 (some .long)) ({ frames := 0, cells := 0, slots := 0, locals := 0 })).room s m ([.int x0, .long y1, .long y3] : List Value).toArray below meth c s.heap [] (0) (0) (MQ below (va_Ql (fun (r : Int64) (u9 : Unit) => True) (gQ0 g A ws) A) ([.int x0, .long y1, .long y3] : List Value).toArray s (0) (0) A) (F0 m 160 ls []) := by
    refine lv_lload_n hx hb dX6_ofLongs_160 rfl (lv_at hl 2 rfl) ?_
    refine lv_lconst (v := 0) hx hb dX6_ofLongs_161 (by decide) ?_
    refine W.lcmp hx hb dX6_ofLongs_162 ?_
    refine lv_topi (fun z_5 ez_5 => ?_)
    have J_173 : ∀ (t_6 : Int64) (H : Heap) (locs : List Loc) (ls : Array Slot), va_P (gD g) cl0 ws H → va_D A ws → va_S A s.heap H locs → lv_has ls 5 [] → W p l e (headSpec (wt yX6_ofLongs cX6_ofLongs 5 (some .long)) ({ frames := 0, cells := 0, slots := 0, locals := 0 })).room s m ([.int x0, .long y1, .long y3] : List Value).toArray below meth c H locs (0) (0) (MQ below (va_Ql (fun (r : Int64) (u9 : Unit) => True) (gQ0 g A ws) A) ([.int x0, .long y1, .long y3] : List Value).toArray s (0) (0) A) (F0 m 173 ls [.long t_6]) := by
      intro t_6 H locs ls  hP hD hS hl
      refine W.widen (k := 0) (n := 0) (Nat.le_of_ble_eq_true rfl) (Nat.le_of_ble_eq_true rfl) ?_
      exact W.lret (v := t_6) hx hb hr (fun t9 ht9 hW9 => ⟨⟨_, (), rfl, trivial, ⟨by rw [ht9]; exact hP, hD⟩⟩, hS.F ht9⟩) hS.2.2 dX6_ofLongs_173
    refine lv_if_ne (tgt := 170) hx hb dX6_ofLongs_163 (by decide) (fun c_9 => ?_) (fun c_9 => ?_)
    · refine lv_lload_n hx hb dX6_ofLongs_170 rfl (lv_at hl 1 rfl) ?_
      refine lv_lload_n hx hb dX6_ofLongs_171 rfl (lv_at hl 2 rfl) ?_
      refine lv_ldiv hx hb dX6_ofLongs_172 (l_ne ez_5 c_9) ?_
      refine lv_topl (fun z_10 ez_10 => ?_)
      exact J_173 (z_10) _ _ ls  hP hD hS (lv_sub hl [] rfl)
    · refine lv_lconst (v := 0) hx hb dX6_ofLongs_166 (by decide) ?_
      refine lv_goto (tgt := 173) hx hb dX6_ofLongs_167 (by decide) ?_
      exact J_173 (0) _ _ ls  hP hD hS (lv_sub hl [] rfl)
  have K_1_174 : W p l e (headSpec (wt yX6_ofLongs cX6_ofLongs 5 (some .long)) ({ frames := 0, cells := 0, slots := 0, locals := 0 })).room s m ([.int x0, .long y1, .long y3] : List Value).toArray below meth c s.heap [] (0) (0) (MQ below (va_Ql (fun (r : Int64) (u9 : Unit) => True) (gQ0 g A ws) A) ([.int x0, .long y1, .long y3] : List Value).toArray s (0) (0) A) (F0 m 174 ls []) := by
    refine lv_lload_n hx hb dX6_ofLongs_174 rfl (lv_at hl 2 rfl) ?_
    refine lv_lconst (v := 0) hx hb dX6_ofLongs_175 (by decide) ?_
    refine W.lcmp hx hb dX6_ofLongs_176 ?_
    refine lv_topi (fun z_11 ez_11 => ?_)
    have J_187 : ∀ (t_12 : Int64) (H : Heap) (locs : List Loc) (ls : Array Slot), va_P (gD g) cl0 ws H → va_D A ws → va_S A s.heap H locs → lv_has ls 5 [] → W p l e (headSpec (wt yX6_ofLongs cX6_ofLongs 5 (some .long)) ({ frames := 0, cells := 0, slots := 0, locals := 0 })).room s m ([.int x0, .long y1, .long y3] : List Value).toArray below meth c H locs (0) (0) (MQ below (va_Ql (fun (r : Int64) (u9 : Unit) => True) (gQ0 g A ws) A) ([.int x0, .long y1, .long y3] : List Value).toArray s (0) (0) A) (F0 m 187 ls [.long t_12]) := by
      intro t_12 H locs ls  hP hD hS hl
      refine W.widen (k := 0) (n := 0) (Nat.le_of_ble_eq_true rfl) (Nat.le_of_ble_eq_true rfl) ?_
      exact W.lret (v := t_12) hx hb hr (fun t9 ht9 hW9 => ⟨⟨_, (), rfl, trivial, ⟨by rw [ht9]; exact hP, hD⟩⟩, hS.F ht9⟩) hS.2.2 dX6_ofLongs_187
    refine lv_if_ne (tgt := 184) hx hb dX6_ofLongs_177 (by decide) (fun c_15 => ?_) (fun c_15 => ?_)
    · refine lv_lload_n hx hb dX6_ofLongs_184 rfl (lv_at hl 1 rfl) ?_
      refine lv_lload_n hx hb dX6_ofLongs_185 rfl (lv_at hl 2 rfl) ?_
      refine lv_lrem hx hb dX6_ofLongs_186 (l_ne ez_11 c_15) ?_
      refine lv_topl (fun z_16 ez_16 => ?_)
      exact J_187 (z_16) _ _ ls  hP hD hS (lv_sub hl [] rfl)
    · refine lv_lconst (v := 0) hx hb dX6_ofLongs_180 (by decide) ?_
      refine lv_goto (tgt := 187) hx hb dX6_ofLongs_181 (by decide) ?_
      exact J_187 (0) _ _ ls  hP hD hS (lv_sub hl [] rfl)
  have K_1_188 : W p l e (headSpec (wt yX6_ofLongs cX6_ofLongs 5 (some .long)) ({ frames := 0, cells := 0, slots := 0, locals := 0 })).room s m ([.int x0, .long y1, .long y3] : List Value).toArray below meth c s.heap [] (0) (0) (MQ below (va_Ql (fun (r : Int64) (u9 : Unit) => True) (gQ0 g A ws) A) ([.int x0, .long y1, .long y3] : List Value).toArray s (0) (0) A) (F0 m 188 ls []) := by
    refine lv_lload_n hx hb dX6_ofLongs_188 rfl (lv_at hl 1 rfl) ?_
    refine lv_lload_n hx hb dX6_ofLongs_189 rfl (lv_at hl 2 rfl) ?_
    obtain ⟨z_17, ez_17⟩ : ∃ y : Int32, (y3 : Int64).toInt32 = y := ⟨_, rfl⟩
    refine lv_l2i (v := z_17) hx hb dX6_ofLongs_190 ez_17 ?_
    refine lv_lshl hx hb dX6_ofLongs_191 rfl ?_
    refine lv_topl (fun z_18 ez_18 => ?_)
    refine W.widen (k := 0) (n := 0) (Nat.le_of_ble_eq_true rfl) (Nat.le_of_ble_eq_true rfl) ?_
    exact W.lret (v := z_18) hx hb hr (fun t9 ht9 hW9 => ⟨⟨_, (), rfl, trivial, ⟨by rw [ht9]; exact hP, hD⟩⟩, hS.F ht9⟩) hS.2.2 dX6_ofLongs_192
  have K_1_193 : W p l e (headSpec (wt yX6_ofLongs cX6_ofLongs 5 (some .long)) ({ frames := 0, cells := 0, slots := 0, locals := 0 })).room s m ([.int x0, .long y1, .long y3] : List Value).toArray below meth c s.heap [] (0) (0) (MQ below (va_Ql (fun (r : Int64) (u9 : Unit) => True) (gQ0 g A ws) A) ([.int x0, .long y1, .long y3] : List Value).toArray s (0) (0) A) (F0 m 193 ls []) := by
    refine lv_lload_n hx hb dX6_ofLongs_193 rfl (lv_at hl 1 rfl) ?_
    refine lv_lload_n hx hb dX6_ofLongs_194 rfl (lv_at hl 2 rfl) ?_
    obtain ⟨z_19, ez_19⟩ : ∃ y : Int32, (y3 : Int64).toInt32 = y := ⟨_, rfl⟩
    refine lv_l2i (v := z_19) hx hb dX6_ofLongs_195 ez_19 ?_
    refine lv_lshr hx hb dX6_ofLongs_196 rfl ?_
    refine lv_topl (fun z_20 ez_20 => ?_)
    refine W.widen (k := 0) (n := 0) (Nat.le_of_ble_eq_true rfl) (Nat.le_of_ble_eq_true rfl) ?_
    exact W.lret (v := z_20) hx hb hr (fun t9 ht9 hW9 => ⟨⟨_, (), rfl, trivial, ⟨by rw [ht9]; exact hP, hD⟩⟩, hS.F ht9⟩) hS.2.2 dX6_ofLongs_197
  have K_1_198 : W p l e (headSpec (wt yX6_ofLongs cX6_ofLongs 5 (some .long)) ({ frames := 0, cells := 0, slots := 0, locals := 0 })).room s m ([.int x0, .long y1, .long y3] : List Value).toArray below meth c s.heap [] (0) (0) (MQ below (va_Ql (fun (r : Int64) (u9 : Unit) => True) (gQ0 g A ws) A) ([.int x0, .long y1, .long y3] : List Value).toArray s (0) (0) A) (F0 m 198 ls []) := by
    refine lv_lload_n hx hb dX6_ofLongs_198 rfl (lv_at hl 1 rfl) ?_
    refine lv_lload_n hx hb dX6_ofLongs_199 rfl (lv_at hl 2 rfl) ?_
    obtain ⟨z_21, ez_21⟩ : ∃ y : Int32, (y3 : Int64).toInt32 = y := ⟨_, rfl⟩
    refine lv_l2i (v := z_21) hx hb dX6_ofLongs_200 ez_21 ?_
    refine lv_lushr hx hb dX6_ofLongs_201 rfl ?_
    refine lv_topl (fun z_22 ez_22 => ?_)
    refine W.widen (k := 0) (n := 0) (Nat.le_of_ble_eq_true rfl) (Nat.le_of_ble_eq_true rfl) ?_
    exact W.lret (v := z_22) hx hb hr (fun t9 ht9 hW9 => ⟨⟨_, (), rfl, trivial, ⟨by rw [ht9]; exact hP, hD⟩⟩, hS.F ht9⟩) hS.2.2 dX6_ofLongs_202
  have K_1_203 : W p l e (headSpec (wt yX6_ofLongs cX6_ofLongs 5 (some .long)) ({ frames := 0, cells := 0, slots := 0, locals := 0 })).room s m ([.int x0, .long y1, .long y3] : List Value).toArray below meth c s.heap [] (0) (0) (MQ below (va_Ql (fun (r : Int64) (u9 : Unit) => True) (gQ0 g A ws) A) ([.int x0, .long y1, .long y3] : List Value).toArray s (0) (0) A) (F0 m 203 ls []) := by
    refine lv_lload_n hx hb dX6_ofLongs_203 rfl (lv_at hl 1 rfl) ?_
    refine lv_lload_n hx hb dX6_ofLongs_204 rfl (lv_at hl 2 rfl) ?_
    refine lv_land hx hb dX6_ofLongs_205 ?_
    refine lv_topl (fun z_23 ez_23 => ?_)
    refine W.widen (k := 0) (n := 0) (Nat.le_of_ble_eq_true rfl) (Nat.le_of_ble_eq_true rfl) ?_
    exact W.lret (v := z_23) hx hb hr (fun t9 ht9 hW9 => ⟨⟨_, (), rfl, trivial, ⟨by rw [ht9]; exact hP, hD⟩⟩, hS.F ht9⟩) hS.2.2 dX6_ofLongs_206
  have K_1_207 : W p l e (headSpec (wt yX6_ofLongs cX6_ofLongs 5 (some .long)) ({ frames := 0, cells := 0, slots := 0, locals := 0 })).room s m ([.int x0, .long y1, .long y3] : List Value).toArray below meth c s.heap [] (0) (0) (MQ below (va_Ql (fun (r : Int64) (u9 : Unit) => True) (gQ0 g A ws) A) ([.int x0, .long y1, .long y3] : List Value).toArray s (0) (0) A) (F0 m 207 ls []) := by
    refine lv_lload_n hx hb dX6_ofLongs_207 rfl (lv_at hl 1 rfl) ?_
    refine lv_lload_n hx hb dX6_ofLongs_208 rfl (lv_at hl 2 rfl) ?_
    refine lv_lor hx hb dX6_ofLongs_209 ?_
    refine lv_topl (fun z_24 ez_24 => ?_)
    refine W.widen (k := 0) (n := 0) (Nat.le_of_ble_eq_true rfl) (Nat.le_of_ble_eq_true rfl) ?_
    exact W.lret (v := z_24) hx hb hr (fun t9 ht9 hW9 => ⟨⟨_, (), rfl, trivial, ⟨by rw [ht9]; exact hP, hD⟩⟩, hS.F ht9⟩) hS.2.2 dX6_ofLongs_210
  rcases Classical.em ((x0 : Int32).toInt < 97 ∨ 129 < (x0 : Int32).toInt) with c9 | c9
  · exact lv_tableOut (tgt := 211) hx hb dX6_ofLongs_1 c9 (by decide) K_1_211
  · rcases (show (x0 : Int32).toInt = 97 ∨ (x0 : Int32).toInt = 98 ∨ (x0 : Int32).toInt = 99 ∨ (x0 : Int32).toInt = 100 ∨ (x0 : Int32).toInt = 101 ∨ (x0 : Int32).toInt = 102 ∨ (x0 : Int32).toInt = 103 ∨ (x0 : Int32).toInt = 104 ∨ (x0 : Int32).toInt = 105 ∨ (x0 : Int32).toInt = 106 ∨ (x0 : Int32).toInt = 107 ∨ (x0 : Int32).toInt = 108 ∨ (x0 : Int32).toInt = 109 ∨ (x0 : Int32).toInt = 110 ∨ (x0 : Int32).toInt = 111 ∨ (x0 : Int32).toInt = 112 ∨ (x0 : Int32).toInt = 113 ∨ (x0 : Int32).toInt = 114 ∨ (x0 : Int32).toInt = 115 ∨ (x0 : Int32).toInt = 116 ∨ (x0 : Int32).toInt = 117 ∨ (x0 : Int32).toInt = 118 ∨ (x0 : Int32).toInt = 119 ∨ (x0 : Int32).toInt = 120 ∨ (x0 : Int32).toInt = 121 ∨ (x0 : Int32).toInt = 122 ∨ (x0 : Int32).toInt = 123 ∨ (x0 : Int32).toInt = 124 ∨ (x0 : Int32).toInt = 125 ∨ (x0 : Int32).toInt = 126 ∨ (x0 : Int32).toInt = 127 ∨ (x0 : Int32).toInt = 128 ∨ (x0 : Int32).toInt = 129 by omega) with c9 | c9 | c9 | c9 | c9 | c9 | c9 | c9 | c9 | c9 | c9 | c9 | c9 | c9 | c9 | c9 | c9 | c9 | c9 | c9 | c9 | c9 | c9 | c9 | c9 | c9 | c9 | c9 | c9 | c9 | c9 | c9 | c9
    · exact lv_tableIn (off := 147) (tgt := 148) hx hb dX6_ofLongs_1 (by rw [c9]; decide) (by rw [c9]; decide) (by rw [c9]; rfl) (by decide) K_1_148
    · exact lv_tableIn (off := 210) (tgt := 211) hx hb dX6_ofLongs_1 (by rw [c9]; decide) (by rw [c9]; decide) (by rw [c9]; rfl) (by decide) K_1_211
    · exact lv_tableIn (off := 210) (tgt := 211) hx hb dX6_ofLongs_1 (by rw [c9]; decide) (by rw [c9]; decide) (by rw [c9]; rfl) (by decide) K_1_211
    · exact lv_tableIn (off := 210) (tgt := 211) hx hb dX6_ofLongs_1 (by rw [c9]; decide) (by rw [c9]; decide) (by rw [c9]; rfl) (by decide) K_1_211
    · exact lv_tableIn (off := 151) (tgt := 152) hx hb dX6_ofLongs_1 (by rw [c9]; decide) (by rw [c9]; decide) (by rw [c9]; rfl) (by decide) K_1_152
    · exact lv_tableIn (off := 210) (tgt := 211) hx hb dX6_ofLongs_1 (by rw [c9]; decide) (by rw [c9]; decide) (by rw [c9]; rfl) (by decide) K_1_211
    · exact lv_tableIn (off := 210) (tgt := 211) hx hb dX6_ofLongs_1 (by rw [c9]; decide) (by rw [c9]; decide) (by rw [c9]; rfl) (by decide) K_1_211
    · exact lv_tableIn (off := 210) (tgt := 211) hx hb dX6_ofLongs_1 (by rw [c9]; decide) (by rw [c9]; decide) (by rw [c9]; rfl) (by decide) K_1_211
    · exact lv_tableIn (off := 155) (tgt := 156) hx hb dX6_ofLongs_1 (by rw [c9]; decide) (by rw [c9]; decide) (by rw [c9]; rfl) (by decide) K_1_156
    · exact lv_tableIn (off := 210) (tgt := 211) hx hb dX6_ofLongs_1 (by rw [c9]; decide) (by rw [c9]; decide) (by rw [c9]; rfl) (by decide) K_1_211
    · exact lv_tableIn (off := 210) (tgt := 211) hx hb dX6_ofLongs_1 (by rw [c9]; decide) (by rw [c9]; decide) (by rw [c9]; rfl) (by decide) K_1_211
    · exact lv_tableIn (off := 210) (tgt := 211) hx hb dX6_ofLongs_1 (by rw [c9]; decide) (by rw [c9]; decide) (by rw [c9]; rfl) (by decide) K_1_211
    · exact lv_tableIn (off := 159) (tgt := 160) hx hb dX6_ofLongs_1 (by rw [c9]; decide) (by rw [c9]; decide) (by rw [c9]; rfl) (by decide) K_1_160
    · exact lv_tableIn (off := 210) (tgt := 211) hx hb dX6_ofLongs_1 (by rw [c9]; decide) (by rw [c9]; decide) (by rw [c9]; rfl) (by decide) K_1_211
    · exact lv_tableIn (off := 210) (tgt := 211) hx hb dX6_ofLongs_1 (by rw [c9]; decide) (by rw [c9]; decide) (by rw [c9]; rfl) (by decide) K_1_211
    · exact lv_tableIn (off := 210) (tgt := 211) hx hb dX6_ofLongs_1 (by rw [c9]; decide) (by rw [c9]; decide) (by rw [c9]; rfl) (by decide) K_1_211
    · exact lv_tableIn (off := 173) (tgt := 174) hx hb dX6_ofLongs_1 (by rw [c9]; decide) (by rw [c9]; decide) (by rw [c9]; rfl) (by decide) K_1_174
    · exact lv_tableIn (off := 210) (tgt := 211) hx hb dX6_ofLongs_1 (by rw [c9]; decide) (by rw [c9]; decide) (by rw [c9]; rfl) (by decide) K_1_211
    · exact lv_tableIn (off := 210) (tgt := 211) hx hb dX6_ofLongs_1 (by rw [c9]; decide) (by rw [c9]; decide) (by rw [c9]; rfl) (by decide) K_1_211
    · exact lv_tableIn (off := 210) (tgt := 211) hx hb dX6_ofLongs_1 (by rw [c9]; decide) (by rw [c9]; decide) (by rw [c9]; rfl) (by decide) K_1_211
    · exact lv_tableIn (off := 210) (tgt := 211) hx hb dX6_ofLongs_1 (by rw [c9]; decide) (by rw [c9]; decide) (by rw [c9]; rfl) (by decide) K_1_211
    · exact lv_tableIn (off := 210) (tgt := 211) hx hb dX6_ofLongs_1 (by rw [c9]; decide) (by rw [c9]; decide) (by rw [c9]; rfl) (by decide) K_1_211
    · exact lv_tableIn (off := 210) (tgt := 211) hx hb dX6_ofLongs_1 (by rw [c9]; decide) (by rw [c9]; decide) (by rw [c9]; rfl) (by decide) K_1_211
    · exact lv_tableIn (off := 210) (tgt := 211) hx hb dX6_ofLongs_1 (by rw [c9]; decide) (by rw [c9]; decide) (by rw [c9]; rfl) (by decide) K_1_211
    · exact lv_tableIn (off := 187) (tgt := 188) hx hb dX6_ofLongs_1 (by rw [c9]; decide) (by rw [c9]; decide) (by rw [c9]; rfl) (by decide) K_1_188
    · exact lv_tableIn (off := 210) (tgt := 211) hx hb dX6_ofLongs_1 (by rw [c9]; decide) (by rw [c9]; decide) (by rw [c9]; rfl) (by decide) K_1_211
    · exact lv_tableIn (off := 192) (tgt := 193) hx hb dX6_ofLongs_1 (by rw [c9]; decide) (by rw [c9]; decide) (by rw [c9]; rfl) (by decide) K_1_193
    · exact lv_tableIn (off := 210) (tgt := 211) hx hb dX6_ofLongs_1 (by rw [c9]; decide) (by rw [c9]; decide) (by rw [c9]; rfl) (by decide) K_1_211
    · exact lv_tableIn (off := 197) (tgt := 198) hx hb dX6_ofLongs_1 (by rw [c9]; decide) (by rw [c9]; decide) (by rw [c9]; rfl) (by decide) K_1_198
    · exact lv_tableIn (off := 210) (tgt := 211) hx hb dX6_ofLongs_1 (by rw [c9]; decide) (by rw [c9]; decide) (by rw [c9]; rfl) (by decide) K_1_211
    · exact lv_tableIn (off := 202) (tgt := 203) hx hb dX6_ofLongs_1 (by rw [c9]; decide) (by rw [c9]; decide) (by rw [c9]; rfl) (by decide) K_1_203
    · exact lv_tableIn (off := 210) (tgt := 211) hx hb dX6_ofLongs_1 (by rw [c9]; decide) (by rw [c9]; decide) (by rw [c9]; rfl) (by decide) K_1_211
    · exact lv_tableIn (off := 206) (tgt := 207) hx hb dX6_ofLongs_1 (by rw [c9]; decide) (by rw [c9]; decide) (by rw [c9]; rfl) (by decide) K_1_207
set_option maxHeartbeats 1000000 in
set_option maxRecDepth 100000 in
theorem m_X6_kindAt (l : Launch) (g : Gm) (sz : Nat) (ws : va_W) (x0 : Int32) (x1 : Int32) (hG : Good g ws)  : Met l yX6_kindAt (wt yX6_kindAt cX6_kindAt 2 (some .int)) ({ frames := 1, cells := 0, slots := 0, locals := 22 }) (va_Pc [.int x0, .int x1] (st_G g sz ws)) (va_Qi (fun (r : Int32) (u9 : Unit) => True) (gQ0 g (va_A ws sz) ws) (va_A ws sz)) (0) (0) (va_A ws sz) := by
  refine Met.ofW (cc := cX6_kindAt) (maxL := 2) (ret := (some .int)) (by decide) rfl ?_
  intro p e s m args below meth c s₁ B hml hv
  obtain ⟨rfl, hsz, hP, hK, hD0, hex, hE⟩ := hv
  have hx := B.exec
  have hb := B.bytes
  have hr := B.returns
  have hts0 := atoms_spec (ws := wt yX6_kindAt cX6_kindAt 2 (some .int)) B.pre
  have hts : ∀ w ∈ tb, w.before _ s = true := fun w h => hts0 w (List.mem_cons_of_mem _ h)
  have hown : s.vm.findClass RX6 = some m.cls := findClass_of_methodNamed B.named
  subst hsz
  have hD := hD0.self (sz := s.heap.size)
  generalize hAe : va_A ws s.heap.size = A at hD hE ⊢
  have hA : ∀ q : Nat, s.heap.size ≤ q → A q := fun q h => by rw [← hAe]; exact Or.inr h
  have hS : va_S A s.heap s.heap [] := va_S.rf
  have hl := lv_entry ([.int x0, .int x1]) (n := 2) (Nat.le_of_ble_eq_true rfl)
  rw [lg_entry_eq]
  generalize (lg_sl ([.int x0, .int x1]) ++ List.replicate (2 - (lg_sl ([.int x0, .int x1])).length) Slot.unset).toArray = ls at hl ⊢
  have hl : lv_has ls 2 [(0, .int x0), (1, .int x1)] := hl
  refine lv_iload_n hx hb dX6_kindAt_0 rfl (lv_at hl 0 rfl) ?_
  refine lv_iconst (v := 4) hx hb dX6_kindAt_1 (by decide) ?_
  refine lv_iload_n hx hb dX6_kindAt_2 rfl (lv_at hl 0 rfl) ?_
  have hFc := gfree hD hS hA
  refine va_calli (va_runS (As := [.int x0]) (rest := [.int 4, .int x0]) ⟨hx, hb, hml, hown, hts⟩ (m_X6_kindCount l g s.heap.size ws (x0) hG ) (va_cwS 1 hts (gd_S kw_1240 kw_1242 kw_1207 kw_1241) rfl rfl rfl (by decide +kernel) ⟨Nat.le_of_ble_eq_true rfl, Nat.le_of_ble_eq_true rfl⟩) ⟨gblind, fun U hU hW9 => gmk hU hW9 hP hK hD hex hE hS hFc⟩ rfl rfl hl.1 rfl (lv_room (Nat.le_of_ble_eq_true rfl)) dX6_kindAt_3 ⟨Nat.le_of_ble_eq_true rfl, Nat.le_of_ble_eq_true rfl⟩) hS (fun q _ h => hFc q h) hFc (fun r_1 u9 t9 H1 locs ht9 hvm9 hw9 hB9 hz9 hk9 hS => ?_)
  have hP : va_P (gD g) cl0 ws H1 := by rw [← ht9]; exact hB9.1
  have h_r_1 := hw9
  clear hB9 hz9 hk9 hvm9 ht9 hw9
  generalize H1 = H at hP hS ⊢
  refine lv_iconst (v := 1) hx hb dX6_kindAt_6 (by decide) ?_
  refine lv_isub hx hb dX6_kindAt_7 ?_
  refine lv_topi (fun z_2 ez_2 => ?_)
  refine lv_iload_n hx hb dX6_kindAt_8 rfl (lv_at hl 1 rfl) ?_
  refine lv_isub hx hb dX6_kindAt_9 ?_
  refine lv_topi (fun z_3 ez_3 => ?_)
  refine lv_imul hx hb dX6_kindAt_10 ?_
  refine lv_topi (fun z_4 ez_4 => ?_)
  refine lv_ishr hx hb dX6_kindAt_11 ?_
  refine lv_topi (fun z_5 ez_5 => ?_)
  refine lv_bipush (v := 15) hx hb dX6_kindAt_12 (by decide) ?_
  refine lv_iand hx hb dX6_kindAt_14 ?_
  refine lv_topi (fun z_6 ez_6 => ?_)
  refine W.widen (k := 0) (n := 0) (Nat.le_of_ble_eq_true rfl) (Nat.le_of_ble_eq_true rfl) ?_
  exact W.iret (v := z_6) hx hb hr (fun t9 ht9 hW9 => ⟨⟨_, (), rfl, trivial, ⟨by rw [ht9]; exact hP, hD⟩⟩, hS.F ht9⟩) hS.2.2 dX6_kindAt_15
set_option maxHeartbeats 1000000 in
set_option maxRecDepth 100000 in
theorem m_X6_ofInts (l : Launch) (g : Gm) (sz : Nat) (ws : va_W) (x0 : Int32) (x1 : Int32) (x2 : Int32) (hG : Good g ws)  : Met l yX6_ofInts (wt yX6_ofInts cX6_ofInts 3 (some .int)) ({ frames := 0, cells := 0, slots := 0, locals := 0 }) (va_Pc [.int x0, .int x1, .int x2] (st_G g sz ws)) (va_Qi (fun (r : Int32) (u9 : Unit) => True) (gQ0 g (va_A ws sz) ws) (va_A ws sz)) (0) (0) (va_A ws sz) := by
  refine Met.ofW (cc := cX6_ofInts) (maxL := 3) (ret := (some .int)) (by decide) rfl ?_
  intro p e s m args below meth c s₁ B hml hv
  obtain ⟨rfl, hsz, hP, hK, hD0, hex, hE⟩ := hv
  have hx := B.exec
  have hb := B.bytes
  have hr := B.returns
  have hts0 := atoms_spec (ws := wt yX6_ofInts cX6_ofInts 3 (some .int)) B.pre
  have hts : ∀ w ∈ tb, w.before _ s = true := fun w h => hts0 w (List.mem_cons_of_mem _ h)
  have hown : s.vm.findClass RX6 = some m.cls := findClass_of_methodNamed B.named
  subst hsz
  have hD := hD0.self (sz := s.heap.size)
  generalize hAe : va_A ws s.heap.size = A at hD hE ⊢
  have hA : ∀ q : Nat, s.heap.size ≤ q → A q := fun q h => by rw [← hAe]; exact Or.inr h
  have hS : va_S A s.heap s.heap [] := va_S.rf
  have hl := lv_entry ([.int x0, .int x1, .int x2]) (n := 3) (Nat.le_of_ble_eq_true rfl)
  rw [lg_entry_eq]
  generalize (lg_sl ([.int x0, .int x1, .int x2]) ++ List.replicate (3 - (lg_sl ([.int x0, .int x1, .int x2])).length) Slot.unset).toArray = ls at hl ⊢
  have hl : lv_has ls 3 [(0, .int x0), (1, .int x1), (2, .int x2)] := hl
  refine lv_iload_n hx hb dX6_ofInts_0 rfl (lv_at hl 0 rfl) ?_
  have K_1_204 : W p l e (headSpec (wt yX6_ofInts cX6_ofInts 3 (some .int)) ({ frames := 0, cells := 0, slots := 0, locals := 0 })).room s m ([.int x0, .int x1, .int x2] : List Value).toArray below meth c s.heap [] (0) (0) (MQ below (va_Qi (fun (r : Int32) (u9 : Unit) => True) (gQ0 g A ws) A) ([.int x0, .int x1, .int x2] : List Value).toArray s (0) (0) A) (F0 m 204 ls []) := by
    refine lv_iload_n hx hb dX6_ofInts_204 rfl (lv_at hl 1 rfl) ?_
    refine lv_iload_n hx hb dX6_ofInts_205 rfl (lv_at hl 2 rfl) ?_
    refine lv_ixor hx hb dX6_ofInts_206 ?_
    refine lv_topi (fun z_1 ez_1 => ?_)
    refine W.widen (k := 0) (n := 0) (Nat.le_of_ble_eq_true rfl) (Nat.le_of_ble_eq_true rfl) ?_
    exact W.iret (v := z_1) hx hb hr (fun t9 ht9 hW9 => ⟨⟨_, (), rfl, trivial, ⟨by rw [ht9]; exact hP, hD⟩⟩, hS.F ht9⟩) hS.2.2 dX6_ofInts_207
  have K_1_148 : W p l e (headSpec (wt yX6_ofInts cX6_ofInts 3 (some .int)) ({ frames := 0, cells := 0, slots := 0, locals := 0 })).room s m ([.int x0, .int x1, .int x2] : List Value).toArray below meth c s.heap [] (0) (0) (MQ below (va_Qi (fun (r : Int32) (u9 : Unit) => True) (gQ0 g A ws) A) ([.int x0, .int x1, .int x2] : List Value).toArray s (0) (0) A) (F0 m 148 ls []) := by
    refine lv_iload_n hx hb dX6_ofInts_148 rfl (lv_at hl 1 rfl) ?_
    refine lv_iload_n hx hb dX6_ofInts_149 rfl (lv_at hl 2 rfl) ?_
    refine lv_iadd hx hb dX6_ofInts_150 ?_
    refine lv_topi (fun z_2 ez_2 => ?_)
    refine W.widen (k := 0) (n := 0) (Nat.le_of_ble_eq_true rfl) (Nat.le_of_ble_eq_true rfl) ?_
    exact W.iret (v := z_2) hx hb hr (fun t9 ht9 hW9 => ⟨⟨_, (), rfl, trivial, ⟨by rw [ht9]; exact hP, hD⟩⟩, hS.F ht9⟩) hS.2.2 dX6_ofInts_151
  have K_1_152 : W p l e (headSpec (wt yX6_ofInts cX6_ofInts 3 (some .int)) ({ frames := 0, cells := 0, slots := 0, locals := 0 })).room s m ([.int x0, .int x1, .int x2] : List Value).toArray below meth c s.heap [] (0) (0) (MQ below (va_Qi (fun (r : Int32) (u9 : Unit) => True) (gQ0 g A ws) A) ([.int x0, .int x1, .int x2] : List Value).toArray s (0) (0) A) (F0 m 152 ls []) := by
    refine lv_iload_n hx hb dX6_ofInts_152 rfl (lv_at hl 1 rfl) ?_
    refine lv_iload_n hx hb dX6_ofInts_153 rfl (lv_at hl 2 rfl) ?_
    refine lv_isub hx hb dX6_ofInts_154 ?_
    refine lv_topi (fun z_3 ez_3 => ?_)
    refine W.widen (k := 0) (n := 0) (Nat.le_of_ble_eq_true rfl) (Nat.le_of_ble_eq_true rfl) ?_
    exact W.iret (v := z_3) hx hb hr (fun t9 ht9 hW9 => ⟨⟨_, (), rfl, trivial, ⟨by rw [ht9]; exact hP, hD⟩⟩, hS.F ht9⟩) hS.2.2 dX6_ofInts_155
  have K_1_156 : W p l e (headSpec (wt yX6_ofInts cX6_ofInts 3 (some .int)) ({ frames := 0, cells := 0, slots := 0, locals := 0 })).room s m ([.int x0, .int x1, .int x2] : List Value).toArray below meth c s.heap [] (0) (0) (MQ below (va_Qi (fun (r : Int32) (u9 : Unit) => True) (gQ0 g A ws) A) ([.int x0, .int x1, .int x2] : List Value).toArray s (0) (0) A) (F0 m 156 ls []) := by
    refine lv_iload_n hx hb dX6_ofInts_156 rfl (lv_at hl 1 rfl) ?_
    refine lv_iload_n hx hb dX6_ofInts_157 rfl (lv_at hl 2 rfl) ?_
    refine lv_imul hx hb dX6_ofInts_158 ?_
    refine lv_topi (fun z_4 ez_4 => ?_)
    refine W.widen (k := 0) (n := 0) (Nat.le_of_ble_eq_true rfl) (Nat.le_of_ble_eq_true rfl) ?_
    exact W.iret (v := z_4) hx hb hr (fun t9 ht9 hW9 => ⟨⟨_, (), rfl, trivial, ⟨by rw [ht9]; exact hP, hD⟩⟩, hS.F ht9⟩) hS.2.2 dX6_ofInts_159
  have K_1_160 : W p l e (headSpec (wt yX6_ofInts cX6_ofInts 3 (some .int)) ({ frames := 0, cells := 0, slots := 0, locals := 0 })).room s m ([.int x0, .int x1, .int x2] : List Value).toArray below meth c s.heap [] (0) (0) (MQ below (va_Qi (fun (r : Int32) (u9 : Unit) => True) (gQ0 g A ws) A) ([.int x0, .int x1, .int x2] : List Value).toArray s (0) (0) A) (F0 m 160 ls []) := by
    refine lv_iload_n hx hb dX6_ofInts_160 rfl (lv_at hl 2 rfl) ?_
    have J_171 : ∀ (t_5 : Int32) (H : Heap) (locs : List Loc) (ls : Array Slot), va_P (gD g) cl0 ws H → va_D A ws → va_S A s.heap H locs → lv_has ls 3 [] → W p l e (headSpec (wt yX6_ofInts cX6_ofInts 3 (some .int)) ({ frames := 0, cells := 0, slots := 0, locals := 0 })).room s m ([.int x0, .int x1, .int x2] : List Value).toArray below meth c H locs (0) (0) (MQ below (va_Qi (fun (r : Int32) (u9 : Unit) => True) (gQ0 g A ws) A) ([.int x0, .int x1, .int x2] : List Value).toArray s (0) (0) A) (F0 m 171 ls [.int t_5]) := by
      intro t_5 H locs ls  hP hD hS hl
      refine W.widen (k := 0) (n := 0) (Nat.le_of_ble_eq_true rfl) (Nat.le_of_ble_eq_true rfl) ?_
      exact W.iret (v := t_5) hx hb hr (fun t9 ht9 hW9 => ⟨⟨_, (), rfl, trivial, ⟨by rw [ht9]; exact hP, hD⟩⟩, hS.F ht9⟩) hS.2.2 dX6_ofInts_171
    refine lv_if_ne (tgt := 168) hx hb dX6_ofInts_161 (by decide) (fun c_8 => ?_) (fun c_8 => ?_)
    · refine lv_iload_n hx hb dX6_ofInts_168 rfl (lv_at hl 1 rfl) ?_
      refine lv_iload_n hx hb dX6_ofInts_169 rfl (lv_at hl 2 rfl) ?_
      refine lv_idiv hx hb dX6_ofInts_170 (by have e0 : (0 : Int32).toInt = 0 := (by decide); have q_c_8 := i_ne c_8; have g_x2 := i_rg x2; intro h9; have q9 := i_eq h9; have e0 : (0 : Int32).toInt = 0 := rfl; omega) ?_
      refine lv_topi (fun z_9 ez_9 => ?_)
      exact J_171 (z_9) _ _ ls  hP hD hS (lv_sub hl [] rfl)
    · refine lv_iconst (v := 0) hx hb dX6_ofInts_164 (by decide) ?_
      refine lv_goto (tgt := 171) hx hb dX6_ofInts_165 (by decide) ?_
      exact J_171 (0) _ _ ls  hP hD hS (lv_sub hl [] rfl)
  have K_1_172 : W p l e (headSpec (wt yX6_ofInts cX6_ofInts 3 (some .int)) ({ frames := 0, cells := 0, slots := 0, locals := 0 })).room s m ([.int x0, .int x1, .int x2] : List Value).toArray below meth c s.heap [] (0) (0) (MQ below (va_Qi (fun (r : Int32) (u9 : Unit) => True) (gQ0 g A ws) A) ([.int x0, .int x1, .int x2] : List Value).toArray s (0) (0) A) (F0 m 172 ls []) := by
    refine lv_iload_n hx hb dX6_ofInts_172 rfl (lv_at hl 2 rfl) ?_
    have J_183 : ∀ (t_10 : Int32) (H : Heap) (locs : List Loc) (ls : Array Slot), va_P (gD g) cl0 ws H → va_D A ws → va_S A s.heap H locs → lv_has ls 3 [] → W p l e (headSpec (wt yX6_ofInts cX6_ofInts 3 (some .int)) ({ frames := 0, cells := 0, slots := 0, locals := 0 })).room s m ([.int x0, .int x1, .int x2] : List Value).toArray below meth c H locs (0) (0) (MQ below (va_Qi (fun (r : Int32) (u9 : Unit) => True) (gQ0 g A ws) A) ([.int x0, .int x1, .int x2] : List Value).toArray s (0) (0) A) (F0 m 183 ls [.int t_10]) := by
      intro t_10 H locs ls  hP hD hS hl
      refine W.widen (k := 0) (n := 0) (Nat.le_of_ble_eq_true rfl) (Nat.le_of_ble_eq_true rfl) ?_
      exact W.iret (v := t_10) hx hb hr (fun t9 ht9 hW9 => ⟨⟨_, (), rfl, trivial, ⟨by rw [ht9]; exact hP, hD⟩⟩, hS.F ht9⟩) hS.2.2 dX6_ofInts_183
    refine lv_if_ne (tgt := 180) hx hb dX6_ofInts_173 (by decide) (fun c_13 => ?_) (fun c_13 => ?_)
    · refine lv_iload_n hx hb dX6_ofInts_180 rfl (lv_at hl 1 rfl) ?_
      refine lv_iload_n hx hb dX6_ofInts_181 rfl (lv_at hl 2 rfl) ?_
      refine lv_irem hx hb dX6_ofInts_182 (by have e0 : (0 : Int32).toInt = 0 := (by decide); have q_c_13 := i_ne c_13; have g_x2 := i_rg x2; intro h9; have q9 := i_eq h9; have e0 : (0 : Int32).toInt = 0 := rfl; omega) ?_
      refine lv_topi (fun z_14 ez_14 => ?_)
      exact J_183 (z_14) _ _ ls  hP hD hS (lv_sub hl [] rfl)
    · refine lv_iconst (v := 0) hx hb dX6_ofInts_176 (by decide) ?_
      refine lv_goto (tgt := 183) hx hb dX6_ofInts_177 (by decide) ?_
      exact J_183 (0) _ _ ls  hP hD hS (lv_sub hl [] rfl)
  have K_1_184 : W p l e (headSpec (wt yX6_ofInts cX6_ofInts 3 (some .int)) ({ frames := 0, cells := 0, slots := 0, locals := 0 })).room s m ([.int x0, .int x1, .int x2] : List Value).toArray below meth c s.heap [] (0) (0) (MQ below (va_Qi (fun (r : Int32) (u9 : Unit) => True) (gQ0 g A ws) A) ([.int x0, .int x1, .int x2] : List Value).toArray s (0) (0) A) (F0 m 184 ls []) := by
    refine lv_iload_n hx hb dX6_ofInts_184 rfl (lv_at hl 1 rfl) ?_
    refine lv_iload_n hx hb dX6_ofInts_185 rfl (lv_at hl 2 rfl) ?_
    refine lv_ishl hx hb dX6_ofInts_186 ?_
    refine lv_topi (fun z_15 ez_15 => ?_)
    refine W.widen (k := 0) (n := 0) (Nat.le_of_ble_eq_true rfl) (Nat.le_of_ble_eq_true rfl) ?_
    exact W.iret (v := z_15) hx hb hr (fun t9 ht9 hW9 => ⟨⟨_, (), rfl, trivial, ⟨by rw [ht9]; exact hP, hD⟩⟩, hS.F ht9⟩) hS.2.2 dX6_ofInts_187
  have K_1_188 : W p l e (headSpec (wt yX6_ofInts cX6_ofInts 3 (some .int)) ({ frames := 0, cells := 0, slots := 0, locals := 0 })).room s m ([.int x0, .int x1, .int x2] : List Value).toArray below meth c s.heap [] (0) (0) (MQ below (va_Qi (fun (r : Int32) (u9 : Unit) => True) (gQ0 g A ws) A) ([.int x0, .int x1, .int x2] : List Value).toArray s (0) (0) A) (F0 m 188 ls []) := by
    refine lv_iload_n hx hb dX6_ofInts_188 rfl (lv_at hl 1 rfl) ?_
    refine lv_iload_n hx hb dX6_ofInts_189 rfl (lv_at hl 2 rfl) ?_
    refine lv_ishr hx hb dX6_ofInts_190 ?_
    refine lv_topi (fun z_16 ez_16 => ?_)
    refine W.widen (k := 0) (n := 0) (Nat.le_of_ble_eq_true rfl) (Nat.le_of_ble_eq_true rfl) ?_
    exact W.iret (v := z_16) hx hb hr (fun t9 ht9 hW9 => ⟨⟨_, (), rfl, trivial, ⟨by rw [ht9]; exact hP, hD⟩⟩, hS.F ht9⟩) hS.2.2 dX6_ofInts_191
  have K_1_192 : W p l e (headSpec (wt yX6_ofInts cX6_ofInts 3 (some .int)) ({ frames := 0, cells := 0, slots := 0, locals := 0 })).room s m ([.int x0, .int x1, .int x2] : List Value).toArray below meth c s.heap [] (0) (0) (MQ below (va_Qi (fun (r : Int32) (u9 : Unit) => True) (gQ0 g A ws) A) ([.int x0, .int x1, .int x2] : List Value).toArray s (0) (0) A) (F0 m 192 ls []) := by
    refine lv_iload_n hx hb dX6_ofInts_192 rfl (lv_at hl 1 rfl) ?_
    refine lv_iload_n hx hb dX6_ofInts_193 rfl (lv_at hl 2 rfl) ?_
    refine lv_iushr hx hb dX6_ofInts_194 rfl ?_
    refine lv_topi (fun z_17 ez_17 => ?_)
    refine W.widen (k := 0) (n := 0) (Nat.le_of_ble_eq_true rfl) (Nat.le_of_ble_eq_true rfl) ?_
    exact W.iret (v := z_17) hx hb hr (fun t9 ht9 hW9 => ⟨⟨_, (), rfl, trivial, ⟨by rw [ht9]; exact hP, hD⟩⟩, hS.F ht9⟩) hS.2.2 dX6_ofInts_195
  have K_1_196 : W p l e (headSpec (wt yX6_ofInts cX6_ofInts 3 (some .int)) ({ frames := 0, cells := 0, slots := 0, locals := 0 })).room s m ([.int x0, .int x1, .int x2] : List Value).toArray below meth c s.heap [] (0) (0) (MQ below (va_Qi (fun (r : Int32) (u9 : Unit) => True) (gQ0 g A ws) A) ([.int x0, .int x1, .int x2] : List Value).toArray s (0) (0) A) (F0 m 196 ls []) := by
    refine lv_iload_n hx hb dX6_ofInts_196 rfl (lv_at hl 1 rfl) ?_
    refine lv_iload_n hx hb dX6_ofInts_197 rfl (lv_at hl 2 rfl) ?_
    refine lv_iand hx hb dX6_ofInts_198 ?_
    refine lv_topi (fun z_18 ez_18 => ?_)
    refine W.widen (k := 0) (n := 0) (Nat.le_of_ble_eq_true rfl) (Nat.le_of_ble_eq_true rfl) ?_
    exact W.iret (v := z_18) hx hb hr (fun t9 ht9 hW9 => ⟨⟨_, (), rfl, trivial, ⟨by rw [ht9]; exact hP, hD⟩⟩, hS.F ht9⟩) hS.2.2 dX6_ofInts_199
  have K_1_200 : W p l e (headSpec (wt yX6_ofInts cX6_ofInts 3 (some .int)) ({ frames := 0, cells := 0, slots := 0, locals := 0 })).room s m ([.int x0, .int x1, .int x2] : List Value).toArray below meth c s.heap [] (0) (0) (MQ below (va_Qi (fun (r : Int32) (u9 : Unit) => True) (gQ0 g A ws) A) ([.int x0, .int x1, .int x2] : List Value).toArray s (0) (0) A) (F0 m 200 ls []) := by
    refine lv_iload_n hx hb dX6_ofInts_200 rfl (lv_at hl 1 rfl) ?_
    refine lv_iload_n hx hb dX6_ofInts_201 rfl (lv_at hl 2 rfl) ?_
    refine lv_ior hx hb dX6_ofInts_202 ?_
    refine lv_topi (fun z_19 ez_19 => ?_)
    refine W.widen (k := 0) (n := 0) (Nat.le_of_ble_eq_true rfl) (Nat.le_of_ble_eq_true rfl) ?_
    exact W.iret (v := z_19) hx hb hr (fun t9 ht9 hW9 => ⟨⟨_, (), rfl, trivial, ⟨by rw [ht9]; exact hP, hD⟩⟩, hS.F ht9⟩) hS.2.2 dX6_ofInts_203
  rcases Classical.em ((x0 : Int32).toInt < 96 ∨ 128 < (x0 : Int32).toInt) with c9 | c9
  · exact lv_tableOut (tgt := 204) hx hb dX6_ofInts_1 c9 (by decide) K_1_204
  · rcases (show (x0 : Int32).toInt = 96 ∨ (x0 : Int32).toInt = 97 ∨ (x0 : Int32).toInt = 98 ∨ (x0 : Int32).toInt = 99 ∨ (x0 : Int32).toInt = 100 ∨ (x0 : Int32).toInt = 101 ∨ (x0 : Int32).toInt = 102 ∨ (x0 : Int32).toInt = 103 ∨ (x0 : Int32).toInt = 104 ∨ (x0 : Int32).toInt = 105 ∨ (x0 : Int32).toInt = 106 ∨ (x0 : Int32).toInt = 107 ∨ (x0 : Int32).toInt = 108 ∨ (x0 : Int32).toInt = 109 ∨ (x0 : Int32).toInt = 110 ∨ (x0 : Int32).toInt = 111 ∨ (x0 : Int32).toInt = 112 ∨ (x0 : Int32).toInt = 113 ∨ (x0 : Int32).toInt = 114 ∨ (x0 : Int32).toInt = 115 ∨ (x0 : Int32).toInt = 116 ∨ (x0 : Int32).toInt = 117 ∨ (x0 : Int32).toInt = 118 ∨ (x0 : Int32).toInt = 119 ∨ (x0 : Int32).toInt = 120 ∨ (x0 : Int32).toInt = 121 ∨ (x0 : Int32).toInt = 122 ∨ (x0 : Int32).toInt = 123 ∨ (x0 : Int32).toInt = 124 ∨ (x0 : Int32).toInt = 125 ∨ (x0 : Int32).toInt = 126 ∨ (x0 : Int32).toInt = 127 ∨ (x0 : Int32).toInt = 128 by omega) with c9 | c9 | c9 | c9 | c9 | c9 | c9 | c9 | c9 | c9 | c9 | c9 | c9 | c9 | c9 | c9 | c9 | c9 | c9 | c9 | c9 | c9 | c9 | c9 | c9 | c9 | c9 | c9 | c9 | c9 | c9 | c9 | c9
    · exact lv_tableIn (off := 147) (tgt := 148) hx hb dX6_ofInts_1 (by rw [c9]; decide) (by rw [c9]; decide) (by rw [c9]; rfl) (by decide) K_1_148
    · exact lv_tableIn (off := 203) (tgt := 204) hx hb dX6_ofInts_1 (by rw [c9]; decide) (by rw [c9]; decide) (by rw [c9]; rfl) (by decide) K_1_204
    · exact lv_tableIn (off := 203) (tgt := 204) hx hb dX6_ofInts_1 (by rw [c9]; decide) (by rw [c9]; decide) (by rw [c9]; rfl) (by decide) K_1_204
    · exact lv_tableIn (off := 203) (tgt := 204) hx hb dX6_ofInts_1 (by rw [c9]; decide) (by rw [c9]; decide) (by rw [c9]; rfl) (by decide) K_1_204
    · exact lv_tableIn (off := 151) (tgt := 152) hx hb dX6_ofInts_1 (by rw [c9]; decide) (by rw [c9]; decide) (by rw [c9]; rfl) (by decide) K_1_152
    · exact lv_tableIn (off := 203) (tgt := 204) hx hb dX6_ofInts_1 (by rw [c9]; decide) (by rw [c9]; decide) (by rw [c9]; rfl) (by decide) K_1_204
    · exact lv_tableIn (off := 203) (tgt := 204) hx hb dX6_ofInts_1 (by rw [c9]; decide) (by rw [c9]; decide) (by rw [c9]; rfl) (by decide) K_1_204
    · exact lv_tableIn (off := 203) (tgt := 204) hx hb dX6_ofInts_1 (by rw [c9]; decide) (by rw [c9]; decide) (by rw [c9]; rfl) (by decide) K_1_204
    · exact lv_tableIn (off := 155) (tgt := 156) hx hb dX6_ofInts_1 (by rw [c9]; decide) (by rw [c9]; decide) (by rw [c9]; rfl) (by decide) K_1_156
    · exact lv_tableIn (off := 203) (tgt := 204) hx hb dX6_ofInts_1 (by rw [c9]; decide) (by rw [c9]; decide) (by rw [c9]; rfl) (by decide) K_1_204
    · exact lv_tableIn (off := 203) (tgt := 204) hx hb dX6_ofInts_1 (by rw [c9]; decide) (by rw [c9]; decide) (by rw [c9]; rfl) (by decide) K_1_204
    · exact lv_tableIn (off := 203) (tgt := 204) hx hb dX6_ofInts_1 (by rw [c9]; decide) (by rw [c9]; decide) (by rw [c9]; rfl) (by decide) K_1_204
    · exact lv_tableIn (off := 159) (tgt := 160) hx hb dX6_ofInts_1 (by rw [c9]; decide) (by rw [c9]; decide) (by rw [c9]; rfl) (by decide) K_1_160
    · exact lv_tableIn (off := 203) (tgt := 204) hx hb dX6_ofInts_1 (by rw [c9]; decide) (by rw [c9]; decide) (by rw [c9]; rfl) (by decide) K_1_204
    · exact lv_tableIn (off := 203) (tgt := 204) hx hb dX6_ofInts_1 (by rw [c9]; decide) (by rw [c9]; decide) (by rw [c9]; rfl) (by decide) K_1_204
    · exact lv_tableIn (off := 203) (tgt := 204) hx hb dX6_ofInts_1 (by rw [c9]; decide) (by rw [c9]; decide) (by rw [c9]; rfl) (by decide) K_1_204
    · exact lv_tableIn (off := 171) (tgt := 172) hx hb dX6_ofInts_1 (by rw [c9]; decide) (by rw [c9]; decide) (by rw [c9]; rfl) (by decide) K_1_172
    · exact lv_tableIn (off := 203) (tgt := 204) hx hb dX6_ofInts_1 (by rw [c9]; decide) (by rw [c9]; decide) (by rw [c9]; rfl) (by decide) K_1_204
    · exact lv_tableIn (off := 203) (tgt := 204) hx hb dX6_ofInts_1 (by rw [c9]; decide) (by rw [c9]; decide) (by rw [c9]; rfl) (by decide) K_1_204
    · exact lv_tableIn (off := 203) (tgt := 204) hx hb dX6_ofInts_1 (by rw [c9]; decide) (by rw [c9]; decide) (by rw [c9]; rfl) (by decide) K_1_204
    · exact lv_tableIn (off := 203) (tgt := 204) hx hb dX6_ofInts_1 (by rw [c9]; decide) (by rw [c9]; decide) (by rw [c9]; rfl) (by decide) K_1_204
    · exact lv_tableIn (off := 203) (tgt := 204) hx hb dX6_ofInts_1 (by rw [c9]; decide) (by rw [c9]; decide) (by rw [c9]; rfl) (by decide) K_1_204
    · exact lv_tableIn (off := 203) (tgt := 204) hx hb dX6_ofInts_1 (by rw [c9]; decide) (by rw [c9]; decide) (by rw [c9]; rfl) (by decide) K_1_204
    · exact lv_tableIn (off := 203) (tgt := 204) hx hb dX6_ofInts_1 (by rw [c9]; decide) (by rw [c9]; decide) (by rw [c9]; rfl) (by decide) K_1_204
    · exact lv_tableIn (off := 183) (tgt := 184) hx hb dX6_ofInts_1 (by rw [c9]; decide) (by rw [c9]; decide) (by rw [c9]; rfl) (by decide) K_1_184
    · exact lv_tableIn (off := 203) (tgt := 204) hx hb dX6_ofInts_1 (by rw [c9]; decide) (by rw [c9]; decide) (by rw [c9]; rfl) (by decide) K_1_204
    · exact lv_tableIn (off := 187) (tgt := 188) hx hb dX6_ofInts_1 (by rw [c9]; decide) (by rw [c9]; decide) (by rw [c9]; rfl) (by decide) K_1_188
    · exact lv_tableIn (off := 203) (tgt := 204) hx hb dX6_ofInts_1 (by rw [c9]; decide) (by rw [c9]; decide) (by rw [c9]; rfl) (by decide) K_1_204
    · exact lv_tableIn (off := 191) (tgt := 192) hx hb dX6_ofInts_1 (by rw [c9]; decide) (by rw [c9]; decide) (by rw [c9]; rfl) (by decide) K_1_192
    · exact lv_tableIn (off := 203) (tgt := 204) hx hb dX6_ofInts_1 (by rw [c9]; decide) (by rw [c9]; decide) (by rw [c9]; rfl) (by decide) K_1_204
    · exact lv_tableIn (off := 195) (tgt := 196) hx hb dX6_ofInts_1 (by rw [c9]; decide) (by rw [c9]; decide) (by rw [c9]; rfl) (by decide) K_1_196
    · exact lv_tableIn (off := 203) (tgt := 204) hx hb dX6_ofInts_1 (by rw [c9]; decide) (by rw [c9]; decide) (by rw [c9]; rfl) (by decide) K_1_204
    · exact lv_tableIn (off := 199) (tgt := 200) hx hb dX6_ofInts_1 (by rw [c9]; decide) (by rw [c9]; decide) (by rw [c9]; rfl) (by decide) K_1_200
set_option maxHeartbeats 1000000 in
set_option maxRecDepth 100000 in
theorem m_X6_binary (l : Launch) (g : Gm) (sz : Nat) (ws : va_W) (x0 : Int32) (y1 : Int64) (y3 : Int64) (hG : Good g ws)  : Met l yX6_binary (wt yX6_binary cX6_binary 5 (some .long)) ({ frames := 1, cells := 0, slots := 0, locals := 24 }) (va_Pc [.int x0, .long y1, .long y3] (st_G g sz ws)) (va_Ql (fun (r : Int64) (u9 : Unit) => True) (gQ0 g (va_A ws sz) ws) (va_A ws sz)) (0) (0) (va_A ws sz) := by
  refine Met.ofW (cc := cX6_binary) (maxL := 5) (ret := (some .long)) (by decide) rfl ?_
  intro p e s m args below meth c s₁ B hml hv
  obtain ⟨rfl, hsz, hP, hK, hD0, hex, hE⟩ := hv
  have hx := B.exec
  have hb := B.bytes
  have hr := B.returns
  have hts0 := atoms_spec (ws := wt yX6_binary cX6_binary 5 (some .long)) B.pre
  have hts : ∀ w ∈ tb, w.before _ s = true := fun w h => hts0 w (List.mem_cons_of_mem _ h)
  have hown : s.vm.findClass RX6 = some m.cls := findClass_of_methodNamed B.named
  subst hsz
  have hD := hD0.self (sz := s.heap.size)
  generalize hAe : va_A ws s.heap.size = A at hD hE ⊢
  have hA : ∀ q : Nat, s.heap.size ≤ q → A q := fun q h => by rw [← hAe]; exact Or.inr h
  have hS : va_S A s.heap s.heap [] := va_S.rf
  have hl := lv_entry ([.int x0, .long y1, .long y3]) (n := 5) (Nat.le_of_ble_eq_true rfl)
  rw [lg_entry_eq]
  generalize (lg_sl ([.int x0, .long y1, .long y3]) ++ List.replicate (5 - (lg_sl ([.int x0, .long y1, .long y3])).length) Slot.unset).toArray = ls at hl ⊢
  have hl : lv_has ls 5 [(0, .int x0), (1, .long y1), (3, .long y3)] := hl
  refine lv_iload_n hx hb dX6_binary_0 rfl (lv_at hl 0 rfl) ?_
  refine lv_sipush (v := 148) hx hb dX6_binary_1 (by decide) ?_
  refine lv_icmp_ne (tgt := 14) hx hb dX6_binary_4 (by decide) (fun c_1 => ?_) (fun c_1 => ?_)
  · refine lv_iload_n hx hb dX6_binary_14 rfl (lv_at hl 0 rfl) ?_
    have hFc := gfree hD hS hA
    refine va_calli (va_runS (As := [.int x0]) (rest := []) ⟨hx, hb, hml, hown, hts⟩ (m_X6_takes l g s.heap.size ws (x0) hG ) (va_cwS 1 hts (gd_S kw_1209 kw_1255 kw_1207 kw_1254) rfl rfl rfl (by decide +kernel) ⟨Nat.le_of_ble_eq_true rfl, Nat.le_of_ble_eq_true rfl⟩) ⟨gblind, fun U hU hW9 => gmk hU hW9 hP hK hD hex hE hS hFc⟩ rfl rfl hl.1 rfl (lv_room (Nat.le_of_ble_eq_true rfl)) dX6_binary_15 ⟨Nat.le_of_ble_eq_true rfl, Nat.le_of_ble_eq_true rfl⟩) hS (fun q _ h => hFc q h) hFc (fun r_2 u9 t9 H1 locs ht9 hvm9 hw9 hB9 hz9 hk9 hS => ?_)
    have hP : va_P (gD g) cl0 ws H1 := by rw [← ht9]; exact hB9.1
    clear hB9 hz9 hk9 hvm9 ht9 hw9
    generalize H1 = H at hP hS ⊢
    have K_18_65 : W p l e (headSpec (wt yX6_binary cX6_binary 5 (some .long)) ({ frames := 1, cells := 0, slots := 0, locals := 24 })).room s m ([.int x0, .long y1, .long y3] : List Value).toArray below meth c H locs (0) (0) (MQ below (va_Ql (fun (r : Int64) (u9 : Unit) => True) (gQ0 g A ws) A) ([.int x0, .long y1, .long y3] : List Value).toArray s (0) (0) A) (F0 m 65 ls []) := by
      refine lv_iload_n hx hb dX6_binary_65 rfl (lv_at hl 0 rfl) ?_
      refine lv_lload_n hx hb dX6_binary_66 rfl (lv_at hl 1 rfl) ?_
      refine lv_lload_n hx hb dX6_binary_67 rfl (lv_at hl 2 rfl) ?_
      have hFc := gfree hD hS hA
      refine va_calll (va_runS (As := [.int x0, .long y1, .long y3]) (rest := []) ⟨hx, hb, hml, hown, hts⟩ (m_X6_ofLongs l g H.size ws (x0) (y1) (y3) hG ) (va_cwS 3 hts (gd_S kw_1212 kw_1251 kw_1207 kw_1250) rfl rfl rfl (by decide +kernel) ⟨Nat.le_of_ble_eq_true rfl, Nat.le_of_ble_eq_true rfl⟩) ⟨gblind, fun U hU hW9 => gmk hU hW9 hP hK hD hex hE hS hFc⟩ rfl rfl hl.1 rfl (lv_room (Nat.le_of_ble_eq_true rfl)) dX6_binary_68 ⟨Nat.le_of_ble_eq_true rfl, Nat.le_of_ble_eq_true rfl⟩) hS (fun q _ h => hFc q h) hFc (fun r_3 u9 t9 H1 locs ht9 hvm9 hw9 hB9 hz9 hk9 hS => ?_)
      have hP : va_P (gD g) cl0 ws H1 := by rw [← ht9]; exact hB9.1
      clear hB9 hz9 hk9 hvm9 ht9 hw9
      generalize H1 = H at hP hS ⊢
      refine W.widen (k := 0) (n := 0) (Nat.le_of_ble_eq_true rfl) (Nat.le_of_ble_eq_true rfl) ?_
      exact W.lret (v := r_3) hx hb hr (fun t9 ht9 hW9 => ⟨⟨_, (), rfl, trivial, ⟨by rw [ht9]; exact hP, hD⟩⟩, hS.F ht9⟩) hS.2.2 dX6_binary_71
    have K_18_44 : W p l e (headSpec (wt yX6_binary cX6_binary 5 (some .long)) ({ frames := 1, cells := 0, slots := 0, locals := 24 })).room s m ([.int x0, .long y1, .long y3] : List Value).toArray below meth c H locs (0) (0) (MQ below (va_Ql (fun (r : Int64) (u9 : Unit) => True) (gQ0 g A ws) A) ([.int x0, .long y1, .long y3] : List Value).toArray s (0) (0) A) (F0 m 44 ls []) := by
      refine lv_iload_n hx hb dX6_binary_44 rfl (lv_at hl 0 rfl) ?_
      refine lv_lload_n hx hb dX6_binary_45 rfl (lv_at hl 1 rfl) ?_
      obtain ⟨z_4, ez_4⟩ : ∃ y : Int32, (y1 : Int64).toInt32 = y := ⟨_, rfl⟩
      refine lv_l2i (v := z_4) hx hb dX6_binary_46 ez_4 ?_
      refine lv_lload_n hx hb dX6_binary_47 rfl (lv_at hl 2 rfl) ?_
      obtain ⟨z_5, ez_5⟩ : ∃ y : Int32, (y3 : Int64).toInt32 = y := ⟨_, rfl⟩
      refine lv_l2i (v := z_5) hx hb dX6_binary_48 ez_5 ?_
      have hFc := gfree hD hS hA
      refine va_calli (va_runS (As := [.int x0, .int z_4, .int z_5]) (rest := []) ⟨hx, hb, hml, hown, hts⟩ (m_X6_ofInts l g H.size ws (x0) (z_4) (z_5) hG ) (va_cwS 3 hts (gd_S kw_1210 kw_1249 kw_1207 kw_1248) rfl rfl rfl (by decide +kernel) ⟨Nat.le_of_ble_eq_true rfl, Nat.le_of_ble_eq_true rfl⟩) ⟨gblind, fun U hU hW9 => gmk hU hW9 hP hK hD hex hE hS hFc⟩ rfl rfl hl.1 rfl (lv_room (Nat.le_of_ble_eq_true rfl)) dX6_binary_49 ⟨Nat.le_of_ble_eq_true rfl, Nat.le_of_ble_eq_true rfl⟩) hS (fun q _ h => hFc q h) hFc (fun r_6 u9 t9 H1 locs ht9 hvm9 hw9 hB9 hz9 hk9 hS => ?_)
      have hP : va_P (gD g) cl0 ws H1 := by rw [← ht9]; exact hB9.1
      clear hB9 hz9 hk9 hvm9 ht9 hw9
      generalize H1 = H at hP hS ⊢
      obtain ⟨z_7, ez_7⟩ : ∃ y : Int64, (r_6 : Int32).toInt64 = y := ⟨_, rfl⟩
      refine lv_i2l (v := z_7) hx hb dX6_binary_52 ez_7 ?_
      refine W.widen (k := 0) (n := 0) (Nat.le_of_ble_eq_true rfl) (Nat.le_of_ble_eq_true rfl) ?_
      exact W.lret (v := z_7) hx hb hr (fun t9 ht9 hW9 => ⟨⟨_, (), rfl, trivial, ⟨by rw [ht9]; exact hP, hD⟩⟩, hS.F ht9⟩) hS.2.2 dX6_binary_53
    have K_18_54 : W p l e (headSpec (wt yX6_binary cX6_binary 5 (some .long)) ({ frames := 1, cells := 0, slots := 0, locals := 24 })).room s m ([.int x0, .long y1, .long y3] : List Value).toArray below meth c H locs (0) (0) (MQ below (va_Ql (fun (r : Int64) (u9 : Unit) => True) (gQ0 g A ws) A) ([.int x0, .long y1, .long y3] : List Value).toArray s (0) (0) A) (F0 m 54 ls []) := by
      refine lv_iload_n hx hb dX6_binary_54 rfl (lv_at hl 0 rfl) ?_
      refine lv_lload_n hx hb dX6_binary_55 rfl (lv_at hl 1 rfl) ?_
      refine lv_lload_n hx hb dX6_binary_56 rfl (lv_at hl 2 rfl) ?_
      refine lv_ldc2 hx hb hown (hts _ kw_1211) dX6_binary_57 ?_
      refine lv_land hx hb dX6_binary_60 ?_
      refine lv_topl (fun z_8 ez_8 => ?_)
      have hFc := gfree hD hS hA
      refine va_calll (va_runS (As := [.int x0, .long y1, .long z_8]) (rest := []) ⟨hx, hb, hml, hown, hts⟩ (m_X6_ofLongs l g H.size ws (x0) (y1) (z_8) hG ) (va_cwS 3 hts (gd_S kw_1212 kw_1251 kw_1207 kw_1250) rfl rfl rfl (by decide +kernel) ⟨Nat.le_of_ble_eq_true rfl, Nat.le_of_ble_eq_true rfl⟩) ⟨gblind, fun U hU hW9 => gmk hU hW9 hP hK hD hex hE hS hFc⟩ rfl rfl hl.1 rfl (lv_room (Nat.le_of_ble_eq_true rfl)) dX6_binary_61 ⟨Nat.le_of_ble_eq_true rfl, Nat.le_of_ble_eq_true rfl⟩) hS (fun q _ h => hFc q h) hFc (fun r_9 u9 t9 H1 locs ht9 hvm9 hw9 hB9 hz9 hk9 hS => ?_)
      have hP : va_P (gD g) cl0 ws H1 := by rw [← ht9]; exact hB9.1
      clear hB9 hz9 hk9 hvm9 ht9 hw9
      generalize H1 = H at hP hS ⊢
      refine W.widen (k := 0) (n := 0) (Nat.le_of_ble_eq_true rfl) (Nat.le_of_ble_eq_true rfl) ?_
      exact W.lret (v := r_9) hx hb hr (fun t9 ht9 hW9 => ⟨⟨_, (), rfl, trivial, ⟨by rw [ht9]; exact hP, hD⟩⟩, hS.F ht9⟩) hS.2.2 dX6_binary_64
    by_cases c9_17 : (r_2 : Int32).toInt = 17
    · exact lv_lookup (off := 26) (tgt := 44) hx hb dX6_binary_18 (by decide) (by rw [c9_17]; decide) (by decide) K_18_44
    by_cases c9_33 : (r_2 : Int32).toInt = 33
    · exact lv_lookup (off := 36) (tgt := 54) hx hb dX6_binary_18 (by decide) (by rw [c9_33]; decide) (by decide) K_18_54
    exact lv_lookup (off := 47) (tgt := 65) hx hb dX6_binary_18 (by decide) (lk_cons c9_17 (lk_cons c9_33 lk_nil)) (by decide) K_18_65
  · refine lv_lload_n hx hb dX6_binary_7 rfl (lv_at hl 1 rfl) ?_
    refine lv_lload_n hx hb dX6_binary_8 rfl (lv_at hl 2 rfl) ?_
    have hFc := gfree hD hS hA
    refine va_calli (va_runS (As := [.long y1, .long y3]) (rest := []) ⟨hx, hb, hml, hown, hts⟩ (m_J13_compare_74951 l g s.heap.size ws (y1) (y3) hG ) (va_cwS 2 hts (gd_S kw_1208 kw_1719 kw_1720 kw_1718) rfl rfl rfl (by decide +kernel) ⟨Nat.le_of_ble_eq_true rfl, Nat.le_of_ble_eq_true rfl⟩) ⟨gblind, fun U hU hW9 => gmk hU hW9 hP hK hD hex hE hS hFc⟩ rfl rfl hl.1 rfl (lv_room (Nat.le_of_ble_eq_true rfl)) dX6_binary_9 ⟨Nat.le_of_ble_eq_true rfl, Nat.le_of_ble_eq_true rfl⟩) hS (fun q _ h => hFc q h) hFc (fun r_10 u9 t9 H1 locs ht9 hvm9 hw9 hB9 hz9 hk9 hS => ?_)
    have hP : va_P (gD g) cl0 ws H1 := by rw [← ht9]; exact hB9.1
    clear hB9 hz9 hk9 hvm9 ht9 hw9
    generalize H1 = H at hP hS ⊢
    obtain ⟨z_11, ez_11⟩ : ∃ y : Int64, (r_10 : Int32).toInt64 = y := ⟨_, rfl⟩
    refine lv_i2l (v := z_11) hx hb dX6_binary_12 ez_11 ?_
    refine W.widen (k := 0) (n := 0) (Nat.le_of_ble_eq_true rfl) (Nat.le_of_ble_eq_true rfl) ?_
    exact W.lret (v := z_11) hx hb hr (fun t9 ht9 hW9 => ⟨⟨_, (), rfl, trivial, ⟨by rw [ht9]; exact hP, hD⟩⟩, hS.F ht9⟩) hS.2.2 dX6_binary_13
set_option maxHeartbeats 1000000 in
set_option maxRecDepth 100000 in
theorem m_X6_unary (l : Launch) (g : Gm) (sz : Nat) (ws : va_W) (x0 : Int32) (y1 : Int64) (hG : Good g ws)  : Met l yX6_unary (wt yX6_unary cX6_unary 3 (some .long)) ({ frames := 0, cells := 0, slots := 0, locals := 0 }) (va_Pc [.int x0, .long y1] (st_G g sz ws)) (va_Ql (fun (r : Int64) (u9 : Unit) => True) (gQ0 g (va_A ws sz) ws) (va_A ws sz)) (0) (0) (va_A ws sz) := by
  refine Met.ofW (cc := cX6_unary) (maxL := 3) (ret := (some .long)) (by decide) rfl ?_
  intro p e s m args below meth c s₁ B hml hv
  obtain ⟨rfl, hsz, hP, hK, hD0, hex, hE⟩ := hv
  have hx := B.exec
  have hb := B.bytes
  have hr := B.returns
  have hts0 := atoms_spec (ws := wt yX6_unary cX6_unary 3 (some .long)) B.pre
  have hts : ∀ w ∈ tb, w.before _ s = true := fun w h => hts0 w (List.mem_cons_of_mem _ h)
  have hown : s.vm.findClass RX6 = some m.cls := findClass_of_methodNamed B.named
  subst hsz
  have hD := hD0.self (sz := s.heap.size)
  generalize hAe : va_A ws s.heap.size = A at hD hE ⊢
  have hA : ∀ q : Nat, s.heap.size ≤ q → A q := fun q h => by rw [← hAe]; exact Or.inr h
  have hS : va_S A s.heap s.heap [] := va_S.rf
  have hl := lv_entry ([.int x0, .long y1]) (n := 3) (Nat.le_of_ble_eq_true rfl)
  rw [lg_entry_eq]
  generalize (lg_sl ([.int x0, .long y1]) ++ List.replicate (3 - (lg_sl ([.int x0, .long y1])).length) Slot.unset).toArray = ls at hl ⊢
  have hl : lv_has ls 3 [(0, .int x0), (1, .long y1)] := hl
  refine lv_iload_n hx hb dX6_unary_0 rfl (lv_at hl 0 rfl) ?_
  have K_1_87 : W p l e (headSpec (wt yX6_unary cX6_unary 3 (some .long)) ({ frames := 0, cells := 0, slots := 0, locals := 0 })).room s m ([.int x0, .long y1] : List Value).toArray below meth c s.heap [] (0) (0) (MQ below (va_Ql (fun (r : Int64) (u9 : Unit) => True) (gQ0 g A ws) A) ([.int x0, .long y1] : List Value).toArray s (0) (0) A) (F0 m 87 ls []) := by
    refine lv_lload_n hx hb dX6_unary_87 rfl (lv_at hl 1 rfl) ?_
    refine W.widen (k := 0) (n := 0) (Nat.le_of_ble_eq_true rfl) (Nat.le_of_ble_eq_true rfl) ?_
    exact W.lret (v := y1) hx hb hr (fun t9 ht9 hW9 => ⟨⟨_, (), rfl, trivial, ⟨by rw [ht9]; exact hP, hD⟩⟩, hS.F ht9⟩) hS.2.2 dX6_unary_88
  have K_1_60 : W p l e (headSpec (wt yX6_unary cX6_unary 3 (some .long)) ({ frames := 0, cells := 0, slots := 0, locals := 0 })).room s m ([.int x0, .long y1] : List Value).toArray below meth c s.heap [] (0) (0) (MQ below (va_Ql (fun (r : Int64) (u9 : Unit) => True) (gQ0 g A ws) A) ([.int x0, .long y1] : List Value).toArray s (0) (0) A) (F0 m 60 ls []) := by
    refine lv_lload_n hx hb dX6_unary_60 rfl (lv_at hl 1 rfl) ?_
    obtain ⟨z_1, ez_1⟩ : ∃ y : Int32, (y1 : Int64).toInt32 = y := ⟨_, rfl⟩
    refine lv_l2i (v := z_1) hx hb dX6_unary_61 ez_1 ?_
    refine lv_ineg hx hb dX6_unary_62 ?_
    refine lv_topi (fun z_2 ez_2 => ?_)
    obtain ⟨z_3, ez_3⟩ : ∃ y : Int64, (z_2 : Int32).toInt64 = y := ⟨_, rfl⟩
    refine lv_i2l (v := z_3) hx hb dX6_unary_63 ez_3 ?_
    refine W.widen (k := 0) (n := 0) (Nat.le_of_ble_eq_true rfl) (Nat.le_of_ble_eq_true rfl) ?_
    exact W.lret (v := z_3) hx hb hr (fun t9 ht9 hW9 => ⟨⟨_, (), rfl, trivial, ⟨by rw [ht9]; exact hP, hD⟩⟩, hS.F ht9⟩) hS.2.2 dX6_unary_64
  have K_1_65 : W p l e (headSpec (wt yX6_unary cX6_unary 3 (some .long)) ({ frames := 0, cells := 0, slots := 0, locals := 0 })).room s m ([.int x0, .long y1] : List Value).toArray below meth c s.heap [] (0) (0) (MQ below (va_Ql (fun (r : Int64) (u9 : Unit) => True) (gQ0 g A ws) A) ([.int x0, .long y1] : List Value).toArray s (0) (0) A) (F0 m 65 ls []) := by
    refine lv_lload_n hx hb dX6_unary_65 rfl (lv_at hl 1 rfl) ?_
    refine lv_lneg hx hb dX6_unary_66 ?_
    refine lv_topl (fun z_4 ez_4 => ?_)
    refine W.widen (k := 0) (n := 0) (Nat.le_of_ble_eq_true rfl) (Nat.le_of_ble_eq_true rfl) ?_
    exact W.lret (v := z_4) hx hb hr (fun t9 ht9 hW9 => ⟨⟨_, (), rfl, trivial, ⟨by rw [ht9]; exact hP, hD⟩⟩, hS.F ht9⟩) hS.2.2 dX6_unary_67
  have K_1_68 : W p l e (headSpec (wt yX6_unary cX6_unary 3 (some .long)) ({ frames := 0, cells := 0, slots := 0, locals := 0 })).room s m ([.int x0, .long y1] : List Value).toArray below meth c s.heap [] (0) (0) (MQ below (va_Ql (fun (r : Int64) (u9 : Unit) => True) (gQ0 g A ws) A) ([.int x0, .long y1] : List Value).toArray s (0) (0) A) (F0 m 68 ls []) := by
    refine lv_lload_n hx hb dX6_unary_68 rfl (lv_at hl 1 rfl) ?_
    obtain ⟨z_5, ez_5⟩ : ∃ y : Int32, (y1 : Int64).toInt32 = y := ⟨_, rfl⟩
    refine lv_l2i (v := z_5) hx hb dX6_unary_69 ez_5 ?_
    obtain ⟨z_6, ez_6⟩ : ∃ y : Int64, (z_5 : Int32).toInt64 = y := ⟨_, rfl⟩
    refine lv_i2l (v := z_6) hx hb dX6_unary_70 ez_6 ?_
    refine W.widen (k := 0) (n := 0) (Nat.le_of_ble_eq_true rfl) (Nat.le_of_ble_eq_true rfl) ?_
    exact W.lret (v := z_6) hx hb hr (fun t9 ht9 hW9 => ⟨⟨_, (), rfl, trivial, ⟨by rw [ht9]; exact hP, hD⟩⟩, hS.F ht9⟩) hS.2.2 dX6_unary_71
  have K_1_72 : W p l e (headSpec (wt yX6_unary cX6_unary 3 (some .long)) ({ frames := 0, cells := 0, slots := 0, locals := 0 })).room s m ([.int x0, .long y1] : List Value).toArray below meth c s.heap [] (0) (0) (MQ below (va_Ql (fun (r : Int64) (u9 : Unit) => True) (gQ0 g A ws) A) ([.int x0, .long y1] : List Value).toArray s (0) (0) A) (F0 m 72 ls []) := by
    refine lv_lload_n hx hb dX6_unary_72 rfl (lv_at hl 1 rfl) ?_
    obtain ⟨z_7, ez_7⟩ : ∃ y : Int32, (y1 : Int64).toInt32 = y := ⟨_, rfl⟩
    refine lv_l2i (v := z_7) hx hb dX6_unary_73 ez_7 ?_
    obtain ⟨z_8, ez_8⟩ : ∃ y : Int32, (z_7 : Int32).toInt8.toInt32 = y := ⟨_, rfl⟩
    refine lv_i2b (v := z_8) hx hb dX6_unary_74 ez_8 ?_
    obtain ⟨z_9, ez_9⟩ : ∃ y : Int64, (z_8 : Int32).toInt64 = y := ⟨_, rfl⟩
    refine lv_i2l (v := z_9) hx hb dX6_unary_75 ez_9 ?_
    refine W.widen (k := 0) (n := 0) (Nat.le_of_ble_eq_true rfl) (Nat.le_of_ble_eq_true rfl) ?_
    exact W.lret (v := z_9) hx hb hr (fun t9 ht9 hW9 => ⟨⟨_, (), rfl, trivial, ⟨by rw [ht9]; exact hP, hD⟩⟩, hS.F ht9⟩) hS.2.2 dX6_unary_76
  have K_1_77 : W p l e (headSpec (wt yX6_unary cX6_unary 3 (some .long)) ({ frames := 0, cells := 0, slots := 0, locals := 0 })).room s m ([.int x0, .long y1] : List Value).toArray below meth c s.heap [] (0) (0) (MQ below (va_Ql (fun (r : Int64) (u9 : Unit) => True) (gQ0 g A ws) A) ([.int x0, .long y1] : List Value).toArray s (0) (0) A) (F0 m 77 ls []) := by
    refine lv_lload_n hx hb dX6_unary_77 rfl (lv_at hl 1 rfl) ?_
    obtain ⟨z_10, ez_10⟩ : ∃ y : Int32, (y1 : Int64).toInt32 = y := ⟨_, rfl⟩
    refine lv_l2i (v := z_10) hx hb dX6_unary_78 ez_10 ?_
    obtain ⟨z_11, ez_11⟩ : ∃ y : Int32, ((z_10 : Int32).toUInt32 % 65536).toInt32 = y := ⟨_, rfl⟩
    refine lv_i2c (v := z_11) hx hb dX6_unary_79 ez_11 ?_
    obtain ⟨z_12, ez_12⟩ : ∃ y : Int64, (z_11 : Int32).toInt64 = y := ⟨_, rfl⟩
    refine lv_i2l (v := z_12) hx hb dX6_unary_80 ez_12 ?_
    refine W.widen (k := 0) (n := 0) (Nat.le_of_ble_eq_true rfl) (Nat.le_of_ble_eq_true rfl) ?_
    exact W.lret (v := z_12) hx hb hr (fun t9 ht9 hW9 => ⟨⟨_, (), rfl, trivial, ⟨by rw [ht9]; exact hP, hD⟩⟩, hS.F ht9⟩) hS.2.2 dX6_unary_81
  have K_1_82 : W p l e (headSpec (wt yX6_unary cX6_unary 3 (some .long)) ({ frames := 0, cells := 0, slots := 0, locals := 0 })).room s m ([.int x0, .long y1] : List Value).toArray below meth c s.heap [] (0) (0) (MQ below (va_Ql (fun (r : Int64) (u9 : Unit) => True) (gQ0 g A ws) A) ([.int x0, .long y1] : List Value).toArray s (0) (0) A) (F0 m 82 ls []) := by
    refine lv_lload_n hx hb dX6_unary_82 rfl (lv_at hl 1 rfl) ?_
    obtain ⟨z_13, ez_13⟩ : ∃ y : Int32, (y1 : Int64).toInt32 = y := ⟨_, rfl⟩
    refine lv_l2i (v := z_13) hx hb dX6_unary_83 ez_13 ?_
    obtain ⟨z_14, ez_14⟩ : ∃ y : Int32, (z_13 : Int32).toInt16.toInt32 = y := ⟨_, rfl⟩
    refine lv_i2s (v := z_14) hx hb dX6_unary_84 ez_14 ?_
    obtain ⟨z_15, ez_15⟩ : ∃ y : Int64, (z_14 : Int32).toInt64 = y := ⟨_, rfl⟩
    refine lv_i2l (v := z_15) hx hb dX6_unary_85 ez_15 ?_
    refine W.widen (k := 0) (n := 0) (Nat.le_of_ble_eq_true rfl) (Nat.le_of_ble_eq_true rfl) ?_
    exact W.lret (v := z_15) hx hb hr (fun t9 ht9 hW9 => ⟨⟨_, (), rfl, trivial, ⟨by rw [ht9]; exact hP, hD⟩⟩, hS.F ht9⟩) hS.2.2 dX6_unary_86
  by_cases c9_116 : (x0 : Int32).toInt = 116
  · exact lv_lookup (off := 59) (tgt := 60) hx hb dX6_unary_1 (by decide) (by rw [c9_116]; decide) (by decide) K_1_60
  by_cases c9_117 : (x0 : Int32).toInt = 117
  · exact lv_lookup (off := 64) (tgt := 65) hx hb dX6_unary_1 (by decide) (by rw [c9_117]; decide) (by decide) K_1_65
  by_cases c9_136 : (x0 : Int32).toInt = 136
  · exact lv_lookup (off := 67) (tgt := 68) hx hb dX6_unary_1 (by decide) (by rw [c9_136]; decide) (by decide) K_1_68
  by_cases c9_145 : (x0 : Int32).toInt = 145
  · exact lv_lookup (off := 71) (tgt := 72) hx hb dX6_unary_1 (by decide) (by rw [c9_145]; decide) (by decide) K_1_72
  by_cases c9_146 : (x0 : Int32).toInt = 146
  · exact lv_lookup (off := 76) (tgt := 77) hx hb dX6_unary_1 (by decide) (by rw [c9_146]; decide) (by decide) K_1_77
  by_cases c9_147 : (x0 : Int32).toInt = 147
  · exact lv_lookup (off := 81) (tgt := 82) hx hb dX6_unary_1 (by decide) (by rw [c9_147]; decide) (by decide) K_1_82
  exact lv_lookup (off := 86) (tgt := 87) hx hb dX6_unary_1 (by decide) (lk_cons c9_116 (lk_cons c9_117 (lk_cons c9_136 (lk_cons c9_145 (lk_cons c9_146 (lk_cons c9_147 lk_nil)))))) (by decide) K_1_87
set_option maxHeartbeats 1000000 in
set_option maxRecDepth 100000 in
theorem m_X6_isTaken (l : Launch) (g : Gm) (sz : Nat) (ws : va_W) (x0 : Int32) (x1 : Int32) (x2 : Int32) (hG : Good g ws)  : Met l yX6_isTaken (wt yX6_isTaken cX6_isTaken 3 (some .boolean)) ({ frames := 0, cells := 0, slots := 0, locals := 0 }) (va_Pc [.int x0, .int x1, .int x2] (st_G g sz ws)) (va_Qi (fun (r : Int32) (u9 : Unit) => r = 0 ∨ r = 1) (gQ0 g (va_A ws sz) ws) (va_A ws sz)) (0) (0) (va_A ws sz) := by
  refine Met.ofW (cc := cX6_isTaken) (maxL := 3) (ret := (some .boolean)) (by decide) rfl ?_
  intro p e s m args below meth c s₁ B hml hv
  obtain ⟨rfl, hsz, hP, hK, hD0, hex, hE⟩ := hv
  have hx := B.exec
  have hb := B.bytes
  have hr := B.returns
  have hts0 := atoms_spec (ws := wt yX6_isTaken cX6_isTaken 3 (some .boolean)) B.pre
  have hts : ∀ w ∈ tb, w.before _ s = true := fun w h => hts0 w (List.mem_cons_of_mem _ h)
  have hown : s.vm.findClass RX6 = some m.cls := findClass_of_methodNamed B.named
  subst hsz
  have hD := hD0.self (sz := s.heap.size)
  generalize hAe : va_A ws s.heap.size = A at hD hE ⊢
  have hA : ∀ q : Nat, s.heap.size ≤ q → A q := fun q h => by rw [← hAe]; exact Or.inr h
  have hS : va_S A s.heap s.heap [] := va_S.rf
  have hl := lv_entry ([.int x0, .int x1, .int x2]) (n := 3) (Nat.le_of_ble_eq_true rfl)
  rw [lg_entry_eq]
  generalize (lg_sl ([.int x0, .int x1, .int x2]) ++ List.replicate (3 - (lg_sl ([.int x0, .int x1, .int x2])).length) Slot.unset).toArray = ls at hl ⊢
  have hl : lv_has ls 3 [(0, .int x0), (1, .int x1), (2, .int x2)] := hl
  refine lv_iload_n hx hb dX6_isTaken_0 rfl (lv_at hl 0 rfl) ?_
  refine lv_sipush (v := 159) hx hb dX6_isTaken_1 (by decide) ?_
  have J_20 : ∀ (t_1 : Int32) (H : Heap) (locs : List Loc) (ls : Array Slot), va_P (gD g) cl0 ws H → va_D A ws → va_S A s.heap H locs → lv_has ls 3 [(1, .int x1), (2, .int x2)] → W p l e (headSpec (wt yX6_isTaken cX6_isTaken 3 (some .boolean)) ({ frames := 0, cells := 0, slots := 0, locals := 0 })).room s m ([.int x0, .int x1, .int x2] : List Value).toArray below meth c H locs (0) (0) (MQ below (va_Qi (fun (r : Int32) (u9 : Unit) => r = 0 ∨ r = 1) (gQ0 g A ws) A) ([.int x0, .int x1, .int x2] : List Value).toArray s (0) (0) A) (F0 m 20 ls [.int t_1]) := by
    intro t_1 H locs ls  hP hD hS hl
    have K_20_111 : W p l e (headSpec (wt yX6_isTaken cX6_isTaken 3 (some .boolean)) ({ frames := 0, cells := 0, slots := 0, locals := 0 })).room s m ([.int x0, .int x1, .int x2] : List Value).toArray below meth c H locs (0) (0) (MQ below (va_Qi (fun (r : Int32) (u9 : Unit) => r = 0 ∨ r = 1) (gQ0 g A ws) A) ([.int x0, .int x1, .int x2] : List Value).toArray s (0) (0) A) (F0 m 111 ls []) := by
      refine lv_iload_n hx hb dX6_isTaken_111 rfl (lv_at hl 0 rfl) ?_
      refine lv_iload_n hx hb dX6_isTaken_112 rfl (lv_at hl 1 rfl) ?_
      have J_121 : ∀ (t_4 : Int32) (H : Heap) (locs : List Loc) (ls : Array Slot), t_4 = 0 ∨ t_4 = 1 → va_P (gD g) cl0 ws H → va_D A ws → va_S A s.heap H locs → lv_has ls 3 [] → W p l e (headSpec (wt yX6_isTaken cX6_isTaken 3 (some .boolean)) ({ frames := 0, cells := 0, slots := 0, locals := 0 })).room s m ([.int x0, .int x1, .int x2] : List Value).toArray below meth c H locs (0) (0) (MQ below (va_Qi (fun (r : Int32) (u9 : Unit) => r = 0 ∨ r = 1) (gQ0 g A ws) A) ([.int x0, .int x1, .int x2] : List Value).toArray s (0) (0) A) (F0 m 121 ls [.int t_4]) := by
        intro t_4 H locs ls iv_5 hP hD hS hl
        have hz_t_4 := iv_5
        refine W.widen (k := 0) (n := 0) (Nat.le_of_ble_eq_true rfl) (Nat.le_of_ble_eq_true rfl) ?_
        exact W.zret (v := t_4) hx hb hr (nz hz_t_4) (fun t9 ht9 hW9 => ⟨⟨_, (), rfl, hz_t_4, ⟨by rw [ht9]; exact hP, hD⟩⟩, hS.F ht9⟩) hS.2.2 dX6_isTaken_121
      refine lv_icmp_gt (tgt := 120) hx hb dX6_isTaken_113 (by decide) (fun c_8 => ?_) (fun c_8 => ?_)
      · refine lv_iconst (v := 0) hx hb dX6_isTaken_120 (by decide) ?_
        exact J_121 (0) H locs ls (Or.inl rfl) hP hD hS (lv_sub hl [] rfl)
      · refine lv_iconst (v := 1) hx hb dX6_isTaken_116 (by decide) ?_
        refine lv_goto (tgt := 121) hx hb dX6_isTaken_117 (by decide) ?_
        exact J_121 (1) H locs ls (Or.inr rfl) hP hD hS (lv_sub hl [] rfl)
    have K_20_56 : W p l e (headSpec (wt yX6_isTaken cX6_isTaken 3 (some .boolean)) ({ frames := 0, cells := 0, slots := 0, locals := 0 })).room s m ([.int x0, .int x1, .int x2] : List Value).toArray below meth c H locs (0) (0) (MQ below (va_Qi (fun (r : Int32) (u9 : Unit) => r = 0 ∨ r = 1) (gQ0 g A ws) A) ([.int x0, .int x1, .int x2] : List Value).toArray s (0) (0) A) (F0 m 56 ls []) := by
      refine lv_iload_n hx hb dX6_isTaken_56 rfl (lv_at hl 0 rfl) ?_
      refine lv_iload_n hx hb dX6_isTaken_57 rfl (lv_at hl 1 rfl) ?_
      have J_66 : ∀ (t_9 : Int32) (H : Heap) (locs : List Loc) (ls : Array Slot), t_9 = 0 ∨ t_9 = 1 → va_P (gD g) cl0 ws H → va_D A ws → va_S A s.heap H locs → lv_has ls 3 [] → W p l e (headSpec (wt yX6_isTaken cX6_isTaken 3 (some .boolean)) ({ frames := 0, cells := 0, slots := 0, locals := 0 })).room s m ([.int x0, .int x1, .int x2] : List Value).toArray below meth c H locs (0) (0) (MQ below (va_Qi (fun (r : Int32) (u9 : Unit) => r = 0 ∨ r = 1) (gQ0 g A ws) A) ([.int x0, .int x1, .int x2] : List Value).toArray s (0) (0) A) (F0 m 66 ls [.int t_9]) := by
        intro t_9 H locs ls iv_10 hP hD hS hl
        have hz_t_9 := iv_10
        refine W.widen (k := 0) (n := 0) (Nat.le_of_ble_eq_true rfl) (Nat.le_of_ble_eq_true rfl) ?_
        exact W.zret (v := t_9) hx hb hr (nz hz_t_9) (fun t9 ht9 hW9 => ⟨⟨_, (), rfl, hz_t_9, ⟨by rw [ht9]; exact hP, hD⟩⟩, hS.F ht9⟩) hS.2.2 dX6_isTaken_66
      refine lv_icmp_ne (tgt := 65) hx hb dX6_isTaken_58 (by decide) (fun c_13 => ?_) (fun c_13 => ?_)
      · refine lv_iconst (v := 0) hx hb dX6_isTaken_65 (by decide) ?_
        exact J_66 (0) H locs ls (Or.inl rfl) hP hD hS (lv_sub hl [] rfl)
      · refine lv_iconst (v := 1) hx hb dX6_isTaken_61 (by decide) ?_
        refine lv_goto (tgt := 66) hx hb dX6_isTaken_62 (by decide) ?_
        exact J_66 (1) H locs ls (Or.inr rfl) hP hD hS (lv_sub hl [] rfl)
    have K_20_67 : W p l e (headSpec (wt yX6_isTaken cX6_isTaken 3 (some .boolean)) ({ frames := 0, cells := 0, slots := 0, locals := 0 })).room s m ([.int x0, .int x1, .int x2] : List Value).toArray below meth c H locs (0) (0) (MQ below (va_Qi (fun (r : Int32) (u9 : Unit) => r = 0 ∨ r = 1) (gQ0 g A ws) A) ([.int x0, .int x1, .int x2] : List Value).toArray s (0) (0) A) (F0 m 67 ls []) := by
      refine lv_iload_n hx hb dX6_isTaken_67 rfl (lv_at hl 0 rfl) ?_
      refine lv_iload_n hx hb dX6_isTaken_68 rfl (lv_at hl 1 rfl) ?_
      have J_77 : ∀ (t_14 : Int32) (H : Heap) (locs : List Loc) (ls : Array Slot), t_14 = 0 ∨ t_14 = 1 → va_P (gD g) cl0 ws H → va_D A ws → va_S A s.heap H locs → lv_has ls 3 [] → W p l e (headSpec (wt yX6_isTaken cX6_isTaken 3 (some .boolean)) ({ frames := 0, cells := 0, slots := 0, locals := 0 })).room s m ([.int x0, .int x1, .int x2] : List Value).toArray below meth c H locs (0) (0) (MQ below (va_Qi (fun (r : Int32) (u9 : Unit) => r = 0 ∨ r = 1) (gQ0 g A ws) A) ([.int x0, .int x1, .int x2] : List Value).toArray s (0) (0) A) (F0 m 77 ls [.int t_14]) := by
        intro t_14 H locs ls iv_15 hP hD hS hl
        have hz_t_14 := iv_15
        refine W.widen (k := 0) (n := 0) (Nat.le_of_ble_eq_true rfl) (Nat.le_of_ble_eq_true rfl) ?_
        exact W.zret (v := t_14) hx hb hr (nz hz_t_14) (fun t9 ht9 hW9 => ⟨⟨_, (), rfl, hz_t_14, ⟨by rw [ht9]; exact hP, hD⟩⟩, hS.F ht9⟩) hS.2.2 dX6_isTaken_77
      refine lv_icmp_eq (tgt := 76) hx hb dX6_isTaken_69 (by decide) (fun c_18 => ?_) (fun c_18 => ?_)
      · refine lv_iconst (v := 0) hx hb dX6_isTaken_76 (by decide) ?_
        exact J_77 (0) H locs ls (Or.inl rfl) hP hD hS (lv_sub hl [] rfl)
      · refine lv_iconst (v := 1) hx hb dX6_isTaken_72 (by decide) ?_
        refine lv_goto (tgt := 77) hx hb dX6_isTaken_73 (by decide) ?_
        exact J_77 (1) H locs ls (Or.inr rfl) hP hD hS (lv_sub hl [] rfl)
    have K_20_78 : W p l e (headSpec (wt yX6_isTaken cX6_isTaken 3 (some .boolean)) ({ frames := 0, cells := 0, slots := 0, locals := 0 })).room s m ([.int x0, .int x1, .int x2] : List Value).toArray below meth c H locs (0) (0) (MQ below (va_Qi (fun (r : Int32) (u9 : Unit) => r = 0 ∨ r = 1) (gQ0 g A ws) A) ([.int x0, .int x1, .int x2] : List Value).toArray s (0) (0) A) (F0 m 78 ls []) := by
      refine lv_iload_n hx hb dX6_isTaken_78 rfl (lv_at hl 0 rfl) ?_
      refine lv_iload_n hx hb dX6_isTaken_79 rfl (lv_at hl 1 rfl) ?_
      have J_88 : ∀ (t_19 : Int32) (H : Heap) (locs : List Loc) (ls : Array Slot), t_19 = 0 ∨ t_19 = 1 → va_P (gD g) cl0 ws H → va_D A ws → va_S A s.heap H locs → lv_has ls 3 [] → W p l e (headSpec (wt yX6_isTaken cX6_isTaken 3 (some .boolean)) ({ frames := 0, cells := 0, slots := 0, locals := 0 })).room s m ([.int x0, .int x1, .int x2] : List Value).toArray below meth c H locs (0) (0) (MQ below (va_Qi (fun (r : Int32) (u9 : Unit) => r = 0 ∨ r = 1) (gQ0 g A ws) A) ([.int x0, .int x1, .int x2] : List Value).toArray s (0) (0) A) (F0 m 88 ls [.int t_19]) := by
        intro t_19 H locs ls iv_20 hP hD hS hl
        have hz_t_19 := iv_20
        refine W.widen (k := 0) (n := 0) (Nat.le_of_ble_eq_true rfl) (Nat.le_of_ble_eq_true rfl) ?_
        exact W.zret (v := t_19) hx hb hr (nz hz_t_19) (fun t9 ht9 hW9 => ⟨⟨_, (), rfl, hz_t_19, ⟨by rw [ht9]; exact hP, hD⟩⟩, hS.F ht9⟩) hS.2.2 dX6_isTaken_88
      refine lv_icmp_ge (tgt := 87) hx hb dX6_isTaken_80 (by decide) (fun c_23 => ?_) (fun c_23 => ?_)
      · refine lv_iconst (v := 0) hx hb dX6_isTaken_87 (by decide) ?_
        exact J_88 (0) H locs ls (Or.inl rfl) hP hD hS (lv_sub hl [] rfl)
      · refine lv_iconst (v := 1) hx hb dX6_isTaken_83 (by decide) ?_
        refine lv_goto (tgt := 88) hx hb dX6_isTaken_84 (by decide) ?_
        exact J_88 (1) H locs ls (Or.inr rfl) hP hD hS (lv_sub hl [] rfl)
    have K_20_89 : W p l e (headSpec (wt yX6_isTaken cX6_isTaken 3 (some .boolean)) ({ frames := 0, cells := 0, slots := 0, locals := 0 })).room s m ([.int x0, .int x1, .int x2] : List Value).toArray below meth c H locs (0) (0) (MQ below (va_Qi (fun (r : Int32) (u9 : Unit) => r = 0 ∨ r = 1) (gQ0 g A ws) A) ([.int x0, .int x1, .int x2] : List Value).toArray s (0) (0) A) (F0 m 89 ls []) := by
      refine lv_iload_n hx hb dX6_isTaken_89 rfl (lv_at hl 0 rfl) ?_
      refine lv_iload_n hx hb dX6_isTaken_90 rfl (lv_at hl 1 rfl) ?_
      have J_99 : ∀ (t_24 : Int32) (H : Heap) (locs : List Loc) (ls : Array Slot), t_24 = 0 ∨ t_24 = 1 → va_P (gD g) cl0 ws H → va_D A ws → va_S A s.heap H locs → lv_has ls 3 [] → W p l e (headSpec (wt yX6_isTaken cX6_isTaken 3 (some .boolean)) ({ frames := 0, cells := 0, slots := 0, locals := 0 })).room s m ([.int x0, .int x1, .int x2] : List Value).toArray below meth c H locs (0) (0) (MQ below (va_Qi (fun (r : Int32) (u9 : Unit) => r = 0 ∨ r = 1) (gQ0 g A ws) A) ([.int x0, .int x1, .int x2] : List Value).toArray s (0) (0) A) (F0 m 99 ls [.int t_24]) := by
        intro t_24 H locs ls iv_25 hP hD hS hl
        have hz_t_24 := iv_25
        refine W.widen (k := 0) (n := 0) (Nat.le_of_ble_eq_true rfl) (Nat.le_of_ble_eq_true rfl) ?_
        exact W.zret (v := t_24) hx hb hr (nz hz_t_24) (fun t9 ht9 hW9 => ⟨⟨_, (), rfl, hz_t_24, ⟨by rw [ht9]; exact hP, hD⟩⟩, hS.F ht9⟩) hS.2.2 dX6_isTaken_99
      refine lv_icmp_lt (tgt := 98) hx hb dX6_isTaken_91 (by decide) (fun c_28 => ?_) (fun c_28 => ?_)
      · refine lv_iconst (v := 0) hx hb dX6_isTaken_98 (by decide) ?_
        exact J_99 (0) H locs ls (Or.inl rfl) hP hD hS (lv_sub hl [] rfl)
      · refine lv_iconst (v := 1) hx hb dX6_isTaken_94 (by decide) ?_
        refine lv_goto (tgt := 99) hx hb dX6_isTaken_95 (by decide) ?_
        exact J_99 (1) H locs ls (Or.inr rfl) hP hD hS (lv_sub hl [] rfl)
    have K_20_100 : W p l e (headSpec (wt yX6_isTaken cX6_isTaken 3 (some .boolean)) ({ frames := 0, cells := 0, slots := 0, locals := 0 })).room s m ([.int x0, .int x1, .int x2] : List Value).toArray below meth c H locs (0) (0) (MQ below (va_Qi (fun (r : Int32) (u9 : Unit) => r = 0 ∨ r = 1) (gQ0 g A ws) A) ([.int x0, .int x1, .int x2] : List Value).toArray s (0) (0) A) (F0 m 100 ls []) := by
      refine lv_iload_n hx hb dX6_isTaken_100 rfl (lv_at hl 0 rfl) ?_
      refine lv_iload_n hx hb dX6_isTaken_101 rfl (lv_at hl 1 rfl) ?_
      have J_110 : ∀ (t_29 : Int32) (H : Heap) (locs : List Loc) (ls : Array Slot), t_29 = 0 ∨ t_29 = 1 → va_P (gD g) cl0 ws H → va_D A ws → va_S A s.heap H locs → lv_has ls 3 [] → W p l e (headSpec (wt yX6_isTaken cX6_isTaken 3 (some .boolean)) ({ frames := 0, cells := 0, slots := 0, locals := 0 })).room s m ([.int x0, .int x1, .int x2] : List Value).toArray below meth c H locs (0) (0) (MQ below (va_Qi (fun (r : Int32) (u9 : Unit) => r = 0 ∨ r = 1) (gQ0 g A ws) A) ([.int x0, .int x1, .int x2] : List Value).toArray s (0) (0) A) (F0 m 110 ls [.int t_29]) := by
        intro t_29 H locs ls iv_30 hP hD hS hl
        have hz_t_29 := iv_30
        refine W.widen (k := 0) (n := 0) (Nat.le_of_ble_eq_true rfl) (Nat.le_of_ble_eq_true rfl) ?_
        exact W.zret (v := t_29) hx hb hr (nz hz_t_29) (fun t9 ht9 hW9 => ⟨⟨_, (), rfl, hz_t_29, ⟨by rw [ht9]; exact hP, hD⟩⟩, hS.F ht9⟩) hS.2.2 dX6_isTaken_110
      refine lv_icmp_le (tgt := 109) hx hb dX6_isTaken_102 (by decide) (fun c_33 => ?_) (fun c_33 => ?_)
      · refine lv_iconst (v := 0) hx hb dX6_isTaken_109 (by decide) ?_
        exact J_110 (0) H locs ls (Or.inl rfl) hP hD hS (lv_sub hl [] rfl)
      · refine lv_iconst (v := 1) hx hb dX6_isTaken_105 (by decide) ?_
        refine lv_goto (tgt := 110) hx hb dX6_isTaken_106 (by decide) ?_
        exact J_110 (1) H locs ls (Or.inr rfl) hP hD hS (lv_sub hl [] rfl)
    rcases Classical.em ((t_1 : Int32).toInt < 0 ∨ 4 < (t_1 : Int32).toInt) with c9 | c9
    · exact lv_tableOut (tgt := 111) hx hb dX6_isTaken_20 c9 (by decide) K_20_111
    · rcases (show (t_1 : Int32).toInt = 0 ∨ (t_1 : Int32).toInt = 1 ∨ (t_1 : Int32).toInt = 2 ∨ (t_1 : Int32).toInt = 3 ∨ (t_1 : Int32).toInt = 4 by omega) with c9 | c9 | c9 | c9 | c9
      · exact lv_tableIn (off := 36) (tgt := 56) hx hb dX6_isTaken_20 (by rw [c9]; decide) (by rw [c9]; decide) (by rw [c9]; rfl) (by decide) K_20_56
      · exact lv_tableIn (off := 47) (tgt := 67) hx hb dX6_isTaken_20 (by rw [c9]; decide) (by rw [c9]; decide) (by rw [c9]; rfl) (by decide) K_20_67
      · exact lv_tableIn (off := 58) (tgt := 78) hx hb dX6_isTaken_20 (by rw [c9]; decide) (by rw [c9]; decide) (by rw [c9]; rfl) (by decide) K_20_78
      · exact lv_tableIn (off := 69) (tgt := 89) hx hb dX6_isTaken_20 (by rw [c9]; decide) (by rw [c9]; decide) (by rw [c9]; rfl) (by decide) K_20_89
      · exact lv_tableIn (off := 80) (tgt := 100) hx hb dX6_isTaken_20 (by rw [c9]; decide) (by rw [c9]; decide) (by rw [c9]; rfl) (by decide) K_20_100
  refine lv_icmp_ge (tgt := 15) hx hb dX6_isTaken_4 (by decide) (fun c_34 => ?_) (fun c_34 => ?_)
  · refine lv_iload_n hx hb dX6_isTaken_15 rfl (lv_at hl 0 rfl) ?_
    refine lv_sipush (v := 159) hx hb dX6_isTaken_16 (by decide) ?_
    refine lv_isub hx hb dX6_isTaken_19 ?_
    refine lv_topi (fun z_35 ez_35 => ?_)
    exact J_20 (z_35) _ _ ls  hP hD hS (lv_sub hl [1, 2] rfl)
  · refine lv_iload_n hx hb dX6_isTaken_7 rfl (lv_at hl 0 rfl) ?_
    refine lv_sipush (v := 153) hx hb dX6_isTaken_8 (by decide) ?_
    refine lv_isub hx hb dX6_isTaken_11 ?_
    refine lv_topi (fun z_36 ez_36 => ?_)
    refine lv_goto (tgt := 20) hx hb dX6_isTaken_12 (by decide) ?_
    exact J_20 (z_36) _ _ ls  hP hD hS (lv_sub hl [1, 2] rfl)
