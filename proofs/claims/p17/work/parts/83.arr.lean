set_option maxHeartbeats 1000000 in
set_option maxRecDepth 100000 in
theorem m_J7_fill_53178_x (l : Launch) (g : Gm) (sz : Nat) (ws : va_W) (b0 : Nat) (n_b0 : Nat) (x1 : Int32) (C0 : List (Nat × Nat)) (hG : Good g ws) (a_b0 : gI ws b0 g.cI n_b0) (s_b0 : n_b0 < 2147483648) (hC0 : hol ws b0 C0) : Met l yJ7_fill_53178 (wt yJ7_fill_53178 cJ7_fill_53178 4 none) ({ frames := 0, cells := 0, slots := 0, locals := 0 }) (va_Pc [.ref b0, .int x1] (st_G g sz ws)) (va_Qv (fun (u9 : va_W) => (True) ∧ (flA u9 b0 x1)) (gQ1 g [] C0 none (va_A ws sz) ws) (va_A ws sz)) (0) (0) (va_A ws sz) := by
  refine Met.ofW (cc := cJ7_fill_53178) (maxL := 4) (ret := none) (by decide) rfl ?_
  intro p e s m args below meth c s₁ B hml hv
  obtain ⟨rfl, hsz, hP, hK, hD0, hex, hE⟩ := hv
  have hx := B.exec
  have hb := B.bytes
  have hr := B.returns
  have hts0 := atoms_spec (ws := wt yJ7_fill_53178 cJ7_fill_53178 4 none) B.pre
  have hts : ∀ w ∈ tb, w.before _ s = true := fun w h => hts0 w (List.mem_cons_of_mem _ h)
  have hown : s.vm.findClass RJ7 = some m.cls := findClass_of_methodNamed B.named
  subst hsz
  have hD := hD0.self (sz := s.heap.size)
  generalize hAe : va_A ws s.heap.size = A at hD hE ⊢
  have hA : ∀ q : Nat, s.heap.size ≤ q → A q := fun q h => by rw [← hAe]; exact Or.inr h
  have hS : va_S A s.heap s.heap [] := va_S.rf
  have hl := lv_entry ([.ref b0, .int x1]) (n := 4) (Nat.le_of_ble_eq_true rfl)
  rw [lg_entry_eq]
  generalize (lg_sl ([.ref b0, .int x1]) ++ List.replicate (4 - (lg_sl ([.ref b0, .int x1])).length) Slot.unset).toArray = ls at hl ⊢
  have hl : lv_has ls 4 [(0, .ref b0), (1, .int x1)] := hl
  refine lv_iconst (v := 0) hx hb dJ7_fill_53178_0 (by decide) ?_
  refine lv_istore_n (lv' := [(2, .int 0), (0, .ref b0), (1, .int x1)]) hx hb dJ7_fill_53178_1 rfl hl (by decide) rfl (fun ls hl => ?_)
  refine lv_aload_n hx hb dJ7_fill_53178_2 rfl (lv_at hl 1 rfl) ?_
  obtain ⟨k_1, f_1, hk_1⟩ := gI_of a_b0
  obtain ⟨z_2, ez_2⟩ : ∃ z : Int32, Int32.ofNat n_b0 = z := ⟨_, rfl⟩
  refine va_alen (v := z_2) hx hb hK hP k_1 1 hk_1 rfl ez_2 dJ7_fill_53178_3 ?_
  have tq_3 : flQ ws b0 x1 (0 : Int32) := flQ_0 hk_1 (by decide)
  refine lv_istore_n (lv' := [(3, .int z_2), (2, .int 0), (0, .ref b0), (1, .int x1)]) hx hb dJ7_fill_53178_4 rfl hl (by decide) rfl (fun ls hl => ?_)
  have J_5 : ∀ (n9 : Nat) (v2_4 : Int32) (ws_6 : va_W) (H : Heap) (locs : List Loc) (ls : Array Slot), (2147483647 - v2_4.toInt).toNat = n9 → 0 ≤ v2_4.toInt → gE ws ws_6 → gF [] C0 none ws ws_6 → Good g ws_6 → hol ws_6 b0 C0 → flQ ws_6 b0 x1 v2_4 → va_P (gD g) cl0 ws_6 H → va_D A ws_6 → va_S A s.heap H locs → lv_has ls 4 [(0, .ref b0), (1, .int x1), (2, .int v2_4), (3, .int z_2)] → W p l e (headSpec (wt yJ7_fill_53178 cJ7_fill_53178 4 none) ({ frames := 0, cells := 0, slots := 0, locals := 0 })).room s m ([.ref b0, .int x1] : List Value).toArray below meth c H locs (0) (0) (MQ below (va_Qv (fun (u9 : va_W) => (True) ∧ (flA u9 b0 x1)) (gQ1 g [] C0 none A ws) A) ([.ref b0, .int x1] : List Value).toArray s (0) (0) A) (F0 m 5 ls []) := by
    intro n9
    induction n9 using Nat.strongRecOn with
    | ind n9 ih_5 =>
      intro v2_4 ws_6 H locs ls hm9 iv_5 E_7 Fr_8 hG hC0 jx_5_0 hP hD hS hl
      subst hm9
      have a_b0 := E_7.1 _ _ a_b0
      refine lv_iload_n hx hb dJ7_fill_53178_5 rfl (lv_at hl 2 rfl) ?_
      refine lv_iload_n hx hb dJ7_fill_53178_6 rfl (lv_at hl 3 rfl) ?_
      refine lv_icmp_ge (tgt := 20) hx hb dJ7_fill_53178_7 (by decide) (fun c_9 => ?_) (fun c_9 => ?_)
      · obtain ⟨k_10, f_10, hk_10⟩ := gI_of a_b0
        have tq_11 : flA ws_6 b0 x1 := flA_Q hD hk_10 (by have q_s_b0 := s_b0; have q_z_2 := i_len ez_2 s_b0; have q_iv_5 := iv_5; have q_c_9 := i_le c_9; have g_v2_4 := i_rg v2_4; have g_z_2 := i_rg z_2; omega) jx_5_0
        refine W.widen (k := 0) (n := 0) (Nat.le_of_ble_eq_true rfl) (Nat.le_of_ble_eq_true rfl) ?_
        exact W.vret hx hb hr (fun t9 ht9 hW9 => ⟨⟨ws_6, rfl, ⟨trivial, tq_11⟩, ⟨E_7, Fr_8, hG, by rw [ht9]; exact hP, hD⟩⟩, hS.F ht9⟩) hS.2.2 dJ7_fill_53178_20
      · refine lv_aload_n hx hb dJ7_fill_53178_10 rfl (lv_at hl 0 rfl) ?_
        refine lv_iload_n hx hb dJ7_fill_53178_11 rfl (lv_at hl 2 rfl) ?_
        refine lv_iload_n hx hb dJ7_fill_53178_12 rfl (lv_at hl 1 rfl) ?_
        obtain ⟨k_12, f_12, hk_12⟩ := gI_of a_b0
        have hfS := hk_12
        have hDS := hD
        have hC9 : hol ws_6 b0 C0 := hC0
        have hS9 : holS ws_6 b0 none := holS_n
        refine va_iast hx hb hK hP hD hS k_12 1 hk_12 rfl (i_in2 (by have q_s_b0 := s_b0; have q_z_2 := i_len ez_2 s_b0; have q_iv_5 := iv_5; have q_c_9 := i_nle c_9; have g_v2_4 := i_rg v2_4; have g_z_2 := i_rg z_2; omega)) dJ7_fill_53178_13 (fun H locs hP hD hS => ?_)
        obtain ⟨ws_13, e_ws_13⟩ : ∃ z, z = ws_6.set k_12 (b0, .inl (g.cI, n_b0, .inl (upd f_12 (v2_4 : Int32).toNatClampNeg x1))) := ⟨_, rfl⟩
        have hP : va_P (gD g) cl0 ws_13 H := by rw [e_ws_13]; exact hP
        have hD : va_D A ws_13 := by rw [e_ws_13]; exact hD
        have E_14 : gE ws_6 ws_13 := gE_ari e_ws_13 hk_12
        have hG : Good g ws_13 := Good_arI e_ws_13 hk_12 hG
        have Fr_15 : gF [] C0 none ws_6 ws_13 := gF_ar e_ws_13 hk_12 rfl hC9 hS9
        have hC0 := hol_ar e_ws_13 hk_12 hC0
        have a_b0 := E_14.1 _ _ a_b0
        obtain ⟨z_16, ez_16⟩ : ∃ z : Int32, v2_4 + Int32.ofInt 1 = z := ⟨_, rfl⟩
        refine lv_iinc (v := z_16) (lv' := [(2, .int z_16), (0, .ref b0), (1, .int x1), (3, .int z_2)]) hx hb dJ7_fill_53178_14 hl (k := 2) rfl ez_16 (by decide) rfl (fun ls hl => ?_)
        have tq_17 : flQ ws_13 b0 x1 z_16 := flQ_s e_ws_13 hDS hfS (by have q_iv_5 := iv_5; have q_c_9 := i_nle c_9; obtain ⟨u_z_16, q_z_16⟩ := i_iz ez_16 (by decide) (by decide); have q_z_2 := i_len ez_2 s_b0; have q_s_b0 := s_b0; have g_v2_4 := i_rg v2_4; have g_z_16 := i_rg z_16; have g_z_2 := i_rg z_2; omega) (by have q_iv_5 := iv_5; have q_c_9 := i_nle c_9; obtain ⟨u_z_16, q_z_16⟩ := i_iz ez_16 (by decide) (by decide); have q_z_2 := i_len ez_2 s_b0; have q_s_b0 := s_b0; have g_v2_4 := i_rg v2_4; have g_z_16 := i_rg z_16; have g_z_2 := i_rg z_2; omega) jx_5_0
        refine lv_goto (tgt := 5) hx hb dJ7_fill_53178_17 (by decide) ?_
        exact ih_5 _ (by obtain ⟨u_z_16, q_z_16⟩ := i_iz ez_16 (by decide) (by decide); have q_iv_5 := iv_5; have q_c_9 := i_nle c_9; have q_z_2 := i_len ez_2 s_b0; have g_v2_4 := i_rg v2_4; have g_z_16 := i_rg z_16; have g_z_2 := i_rg z_2; omega) (z_16) ws_13 H locs ls rfl (by obtain ⟨u_z_16, q_z_16⟩ := i_iz ez_16 (by decide) (by decide); have q_iv_5 := iv_5; have q_c_9 := i_nle c_9; have q_z_2 := i_len ez_2 s_b0; have g_v2_4 := i_rg v2_4; have g_z_16 := i_rg z_16; have g_z_2 := i_rg z_2; omega) ((E_7.tr E_14)) ((gF.tr Fr_8 Fr_15)) hG hC0 tq_17 hP hD hS (lv_sub hl [1, 2, 0, 3] rfl)
  exact J_5 _ (0) ws _ _ ls rfl (by have e0 : (0 : Int32).toInt = 0 := (by decide); omega) (gE.rf) (gF.rf) hG hC0 tq_3 hP hD hS (lv_sub hl [2, 3, 1, 0] rfl)
set_option maxHeartbeats 1000000 in
set_option maxRecDepth 100000 in
theorem m_J7_copyOf_59c91_x (l : Launch) (g : Gm) (H0 : Heap) (ws : va_W) (b0 : Nat) (n_b0 : Nat) (x1 : Int32) (S0 : Option Nat) (hG : Good g ws) (a_b0 : gI ws b0 g.cI n_b0) (s_b0 : n_b0 < 2147483648) (p0 : 0 ≤ x1.toInt) (p1 : x1.toInt ≤ 524288) (pn : x1.toInt ≠ (n_b0 : Int)) : Met l yJ7_copyOf_59c91 (wt yJ7_copyOf_59c91 cJ7_copyOf_59c91 3 (some (.array .int))) ({ frames := 1, cells := (1), slots := (x1.toInt.toNat), locals := 40 }) (va_Pc [.ref b0, .int x1] (st_H g H0 ws)) (va_Qq (fun (r : Option Nat) (u9 : va_W) => ∃ b n : Nat, r = some b ∧ gI u9 b g.cI n ∧ n < 2147483648 ∧ frs u9 b ∧ ((n : Int) = x1.toInt) ∧ (cpP ws u9 b0 b)) (gQ2 g [] [] S0 (va_A ws H0.size) ws H0 (1) (x1.toInt.toNat)) (va_A ws H0.size)) ((1)) ((x1.toInt.toNat)) (va_A ws H0.size) := by
  refine Met.ofW (cc := cJ7_copyOf_59c91) (maxL := 3) (ret := (some (.array .int))) (by decide) rfl ?_
  intro p e s m args below meth c s₁ B hml hv
  obtain ⟨rfl, hH0, hsz, hP, hK, hD0, hex, hE⟩ := hv
  have hx := B.exec
  have hb := B.bytes
  have hr := B.returns
  have hts0 := atoms_spec (ws := wt yJ7_copyOf_59c91 cJ7_copyOf_59c91 3 (some (.array .int))) B.pre
  have hts : ∀ w ∈ tb, w.before _ s = true := fun w h => hts0 w (List.mem_cons_of_mem _ h)
  have hown : s.vm.findClass RJ7 = some m.cls := findClass_of_methodNamed B.named
  subst hH0
  have hD := hD0.self (sz := s.heap.size)
  generalize hAe : va_A ws s.heap.size = A at hD hE ⊢
  have hA : ∀ q : Nat, s.heap.size ≤ q → A q := fun q h => by rw [← hAe]; exact Or.inr h
  have hS : va_S A s.heap s.heap [] := va_S.rf
  have hl := lv_entry ([.ref b0, .int x1]) (n := 3) (Nat.le_of_ble_eq_true rfl)
  rw [lg_entry_eq]
  generalize (lg_sl ([.ref b0, .int x1]) ++ List.replicate (3 - (lg_sl ([.ref b0, .int x1])).length) Slot.unset).toArray = ls at hl ⊢
  have hl : lv_has ls 3 [(0, .ref b0), (1, .int x1)] := hl
  refine lv_iload_n hx hb dJ7_copyOf_59c91_0 rfl (lv_at hl 1 rfl) ?_
  refine lv_aload_n hx hb dJ7_copyOf_59c91_1 rfl (lv_at hl 0 rfl) ?_
  obtain ⟨k_1, f_1, hk_1⟩ := gI_of a_b0
  obtain ⟨z_2, ez_2⟩ : ∃ z : Int32, Int32.ofNat n_b0 = z := ⟨_, rfl⟩
  refine va_alen (v := z_2) hx hb hK hP k_1 1 hk_1 rfl ez_2 dJ7_copyOf_59c91_2 ?_
  refine lv_icmp_ne (tgt := 14) hx hb dJ7_copyOf_59c91_3 (by decide) (fun c_3 => ?_) (fun c_3 => ?_)
  · refine lv_iload_n hx hb dJ7_copyOf_59c91_14 rfl (lv_at hl 1 rfl) ?_
    obtain ⟨n_5, en_5⟩ : ∃ y : Nat, (x1 : Int32).toNatClampNeg = y := ⟨_, rfl⟩
    have bn_5 : n_5 ≤ 524288 := i_cl en_5 (by have q_p0 := p0; have q_p1 := p1; have q_pn := pn; have q_c_3 := i_ne c_3; have q_s_b0 := s_b0; have q_z_2 := i_len ez_2 s_b0; have g_x1 := i_rg x1; have g_z_2 := i_rg z_2; omega)
    have zn_5 : 0 ≤ (x1 : Int32).toInt := (by have q_p0 := p0; have q_p1 := p1; have q_pn := pn; have q_c_3 := i_ne c_3; have q_s_b0 := s_b0; have q_z_2 := i_len ez_2 s_b0; have g_x1 := i_rg x1; have g_z_2 := i_rg z_2; omega)
    have q_n_5 := i_nn en_5 zn_5
    refine va_newa (atype := .int) (ty := .int) (a0 := (n_5, .inl (fun _ => 0))) (N' := n_5) hx hb (hts (.arrayClass .int) kw_51) rfl hK hP hD hS hA (fun _ => rfl) (i_nl0 zn_5) en_5 (i_by bn_5 (by decide)) (show 0 + 1 ≤ (1) from (by have e0 : (0 : Int32).toInt = 0 := (by decide); have q_p0 := p0; have q_p1 := p1; have q_pn := pn; have q_c_3 := i_ne c_3; have q_s_b0 := s_b0; have q_z_2 := i_len ez_2 s_b0; have g_x1 := i_rg x1; have g_z_2 := i_rg z_2; omega)) (show 0 + n_5 ≤ (x1.toInt.toNat) from (by have e0 : (0 : Int32).toInt = 0 := (by decide); have q_p0 := p0; have q_p1 := p1; have q_pn := pn; have q_c_3 := i_ne c_3; have q_s_b0 := s_b0; have q_z_2 := i_len ez_2 s_b0; have g_x1 := i_rg x1; have g_z_2 := i_rg z_2; omega)) dJ7_copyOf_59c91_15 (fun q_4 cA9 H hK9 hP hD hS => ?_)
    obtain rfl := cls_new hK hK9 (k := 1) rfl (fun _ h => by cases h)
    clear hK9
    have hD9 := hD
    obtain ⟨ws_6, e_ws_6⟩ : ∃ z, z = ws ++ [(q_4, .inl (g.cI, n_5, .inl (fun _ => 0)))] := ⟨_, rfl⟩
    have hP : va_P (gD g) cl0 ws_6 H := by rw [e_ws_6]; exact hP
    have hD : va_D A ws_6 := by rw [e_ws_6]; exact hD
    have E_7 : gE ws ws_6 := by rw [e_ws_6]; exact gE_push
    have Fr_8 : gF [] [] S0 ws ws_6 := by rw [e_ws_6]; exact gF_push
    have fr_q_4 : frs ws_6 q_4 := by rw [e_ws_6]; exact frs_new hD9 hG.u
    have hG : Good g ws_6 := by rw [e_ws_6]; exact Good_pushI hD9 hG
    have a_q_4 : gI ws_6 q_4 g.cI n_5 := by rw [e_ws_6]; exact gS_new
    have s_q_4 : n_5 < 2147483648 := Nat.lt_of_le_of_lt bn_5 (by decide)
    have pp_9 := Fr_8.pp
    have hk_1 := get_oldE e_ws_6 hk_1
    have a_b0 := E_7.1 _ _ a_b0
    refine lv_astore_n (lv' := [(2, .ref q_4), (0, .ref b0), (1, .int x1)]) hx hb dJ7_copyOf_59c91_17 rfl hl (by decide) rfl (fun ls hl => ?_)
    refine lv_aload_n hx hb dJ7_copyOf_59c91_18 rfl (lv_at hl 1 rfl) ?_
    refine lv_iconst (v := 0) hx hb dJ7_copyOf_59c91_19 (by decide) ?_
    refine lv_aload_n hx hb dJ7_copyOf_59c91_20 rfl (lv_at hl 0 rfl) ?_
    refine lv_iconst (v := 0) hx hb dJ7_copyOf_59c91_21 (by decide) ?_
    refine lv_aload_n hx hb dJ7_copyOf_59c91_22 rfl (lv_at hl 1 rfl) ?_
    obtain ⟨z_10, ez_10⟩ : ∃ z : Int32, Int32.ofNat n_b0 = z := ⟨_, rfl⟩
    refine va_alen (v := z_10) hx hb hK hP k_1 1 hk_1 rfl ez_10 dJ7_copyOf_59c91_23 ?_
    refine lv_iload_n hx hb dJ7_copyOf_59c91_24 rfl (lv_at hl 2 rfl) ?_
    refine va_mmin hx hb (by rw [hml]; exact hl.1.symm) hown (hts _ kw_1742) (hts _ kw_1750) (hts _ kw_1748) (hts _ kw_1749) (Nat.le_of_ble_eq_true rfl) (Nat.le_of_ble_eq_true rfl) (show 0 + 1 ≤ (1) from (by have q_p0 := p0; have q_p1 := p1; have q_pn := pn; have q_c_3 := i_ne c_3; have q_n_5 := i_nn en_5 zn_5; have q2_n_5 := bn_5; have q_s_b0 := s_b0; have q_z_2 := i_len ez_2 s_b0; have q_z_10 := i_len ez_10 s_b0; have g_x1 := i_rg x1; have g_z_10 := i_rg z_10; have g_z_2 := i_rg z_2; omega)) (show 0 + n_5 ≤ (x1.toInt.toNat) from (by have q_p0 := p0; have q_p1 := p1; have q_pn := pn; have q_c_3 := i_ne c_3; have q_n_5 := i_nn en_5 zn_5; have q2_n_5 := bn_5; have q_s_b0 := s_b0; have q_z_2 := i_len ez_2 s_b0; have q_z_10 := i_len ez_10 s_b0; have g_x1 := i_rg x1; have g_z_10 := i_rg z_10; have g_z_2 := i_rg z_2; omega)) dJ7_copyOf_59c91_25 ?_
    refine lv_topi (fun z_11 ez_11 => ?_)
    obtain ⟨k_12, f_12, hk_12⟩ := gI_of a_q_4
    have hfS := hk_1
    have hfD := hk_12
    have hDS := hD
    have hC9 : hol ws_6 q_4 [] := (hol_f fr_q_4)
    have hS9 : holS ws_6 q_4 S0 := holS_f fr_q_4
    refine va_copyi hx hb (by rw [hml]; exact hl.1.symm) hown (hts _ kw_1743) (hts _ kw_28) (hts _ kw_29) (hts _ kw_30) hK hP hD hS k_1 k_12 1 1 hk_1 hk_12 rfl rfl rfl (by decide) (by decide) (i_nl0 (by have q_z_11 := i_min ez_11; have q_p0 := p0; have q_p1 := p1; have q_pn := pn; have q_c_3 := i_ne c_3; have q_n_5 := i_nn en_5 zn_5; have q_z_10 := i_len ez_10 s_b0; have q_s_b0 := s_b0; have q_z_2 := i_len ez_2 s_b0; have q2_n_5 := bn_5; have g_x1 := i_rg x1; have g_z_10 := i_rg z_10; have g_z_11 := i_rg z_11; have g_z_2 := i_rg z_2; omega)) (i_cp (by have e0 : (0 : Int32).toInt = 0 := (by decide); have q_s_b0 := s_b0; have q_pn := pn; have q_z_2 := i_len ez_2 s_b0; have q_z_10 := i_len ez_10 s_b0; have q_z_11 := i_min ez_11; have q_p0 := p0; have q_p1 := p1; have q_c_3 := i_ne c_3; have q_n_5 := i_nn en_5 zn_5; have q2_n_5 := bn_5; have g_x1 := i_rg x1; have g_z_10 := i_rg z_10; have g_z_11 := i_rg z_11; have g_z_2 := i_rg z_2; omega)) (i_cp (by have e0 : (0 : Int32).toInt = 0 := (by decide); have q_n_5 := i_nn en_5 zn_5; have q2_n_5 := bn_5; have q_z_11 := i_min ez_11; have q_p0 := p0; have q_p1 := p1; have q_pn := pn; have q_c_3 := i_ne c_3; have q_z_10 := i_len ez_10 s_b0; have q_s_b0 := s_b0; have q_z_2 := i_len ez_2 s_b0; have g_x1 := i_rg x1; have g_z_10 := i_rg z_10; have g_z_11 := i_rg z_11; have g_z_2 := i_rg z_2; omega)) (fun _ _ => rfl) (Nat.le_of_ble_eq_true rfl) (Nat.le_of_ble_eq_true rfl) dJ7_copyOf_59c91_28 (fun H locs hP hD hS => ?_)
    obtain ⟨ws_13, e_ws_13⟩ : ∃ z, z = ws_6.set k_12 (q_4, .inl (g.cI, n_5, .inl (va_cpy f_1 f_12 (0 : Int32).toNatClampNeg (0 : Int32).toNatClampNeg (z_11 : Int32).toNatClampNeg))) := ⟨_, rfl⟩
    have hP : va_P (gD g) cl0 ws_13 H := by rw [e_ws_13]; exact hP
    have hD : va_D A ws_13 := by rw [e_ws_13]; exact hD
    have E_14 : gE ws_6 ws_13 := gE_ari e_ws_13 hk_12
    have hG : Good g ws_13 := Good_arI e_ws_13 hk_12 hG
    have Fr_15 : gF [] [] S0 ws_6 ws_13 := gF_ar e_ws_13 hk_12 rfl hC9 hS9
    have fr_q_4 := frs_ar e_ws_13 hk_12 fr_q_4
    have pp_16 := Fr_15.pp
    have a_b0 := E_14.1 _ _ a_b0
    have a_q_4 := E_14.1 _ _ a_q_4
    refine lv_aload_n hx hb dJ7_copyOf_59c91_31 rfl (lv_at hl 0 rfl) ?_
    refine W_led (fun hLd => ?_)
    have hcl : 0 + 1 + PC ws_13 ≤ PC ws + (1) := (by have q_p0 := p0; have q_p1 := p1; have q_pn := pn; have q_c_3 := i_ne c_3; have q_n_5 := i_nn en_5 zn_5; have q2_n_5 := bn_5; have q_z_11 := i_min ez_11; have q_s_b0 := s_b0; have q_z_2 := i_len ez_2 s_b0; have q_z_10 := i_len ez_10 s_b0; have g_x1 := i_rg x1; have g_z_10 := i_rg z_10; have g_z_11 := i_rg z_11; have g_z_2 := i_rg z_2; omega)
    have hsl : 0 + n_5 + PS ws_13 ≤ PS ws + (x1.toInt.toNat) := (by have q_p0 := p0; have q_p1 := p1; have q_pn := pn; have q_c_3 := i_ne c_3; have q_n_5 := i_nn en_5 zn_5; have q2_n_5 := bn_5; have q_z_11 := i_min ez_11; have q_s_b0 := s_b0; have q_z_2 := i_len ez_2 s_b0; have q_z_10 := i_len ez_10 s_b0; have g_x1 := i_rg x1; have g_z_10 := i_rg z_10; have g_z_11 := i_rg z_11; have g_z_2 := i_rg z_2; omega)
    refine W.widen (k := (1)) (n := (x1.toInt.toNat)) (by omega) (by omega) ?_
    exact W.aret (v := .ref q_4) hx hb hr (Or.inr ⟨_, rfl⟩) (Or.inr ⟨_, rfl⟩) (fun t9 ht9 hW9 => ⟨⟨some q_4, ws_13, rfl, ⟨_, _, rfl, a_q_4, s_q_4, fr_q_4, ⟨(by have q_p0 := p0; have q_p1 := p1; have q_pn := pn; have q_c_3 := i_ne c_3; have q_n_5 := i_nn en_5 zn_5; have q2_n_5 := bn_5; have q_z_11 := i_min ez_11; have q_s_b0 := s_b0; have q_z_2 := i_len ez_2 s_b0; have q_z_10 := i_len ez_10 s_b0; have g_x1 := i_rg x1; have g_z_10 := i_rg z_10; have g_z_11 := i_rg z_11; have g_z_2 := i_rg z_2; omega), cpP_of hDS (fun _ _ _ _ q9 => get_oldE e_ws_6 q9) hfS hfD e_ws_13 (by decide) (by decide) (by have q_s_b0 := s_b0; have q_pn := pn; have q_z_2 := i_len ez_2 s_b0; have q_n_5 := i_nn en_5 zn_5; have q2_n_5 := bn_5; have q_z_10 := i_len ez_10 s_b0; have q_z_11 := i_min ez_11; have q_p0 := p0; have q_p1 := p1; have q_c_3 := i_ne c_3; have g_x1 := i_rg x1; have g_z_10 := i_rg z_10; have g_z_11 := i_rg z_11; have g_z_2 := i_rg z_2; have q9 : (((z_11 : Int32).toNatClampNeg : Nat) : Int) = (z_11 : Int32).toInt := i_nn rfl (by omega); omega)⟩⟩, ⟨(E_7.tr E_14), (gF.tr Fr_8 Fr_15), hG, by rw [ht9]; exact hP, hD, _, _, by rw [ht9]; exact hLd, hcl, hsl⟩⟩, hS.F ht9⟩) hS.2.2 dJ7_copyOf_59c91_32
  · exact False.elim (by have q_p0 := p0; have q_p1 := p1; have q_pn := pn; have q_z_2 := i_len ez_2 s_b0; have q_c_3 := i_eq c_3; have q_s_b0 := s_b0; have g_x1 := i_rg x1; have g_z_2 := i_rg z_2; omega)
set_option maxHeartbeats 1000000 in
set_option maxRecDepth 100000 in
theorem m_X3_begin_x (l : Launch) (g : Gm) (sz : Nat) (ws : va_W) (h0 : Nat) (x1 : Int32) (hG : Good g ws) (o_h0 : gC ws h0 3) (nn_h0_0 : gN ws h0 0) (f2_b : ∀ (k k2 b : Nat) (fs gs : List Value), ows ws k h0 3 fs → fs[0]? = some (.ref b) → ows ws k2 b 7 gs → ∀ c : Int32, gs[2]? = some (.int c) → ∀ (rn n : Nat), fs[3]? = some (.ref rn) → gI ws rn g.cI n → c.toInt ≤ n ∧ 1 ≤ c.toInt) : Met l yX3_begin (wt yX3_begin cX3_begin 2 none) ({ frames := 0, cells := 0, slots := 0, locals := 0 }) (va_Pc [.ref h0, .int x1] (st_G g sz ws)) (va_Qv (fun (u9 : va_W) => (True) ∧ ((x1.toInt = 0 → aC3 u9 h0 NZ) ∧ (aC3 ws h0 NZ → aC3 u9 h0 NZ))) (gQ1 g [] [(3, 3)] none (va_A ws sz) ws) (va_A ws sz)) (0) (0) (va_A ws sz) := by
  refine Met.ofW (cc := cX3_begin) (maxL := 2) (ret := none) (by decide) rfl ?_
  intro p e s m args below meth c s₁ B hml hv
  obtain ⟨rfl, hsz, hP, hK, hD0, hex, hE⟩ := hv
  have hx := B.exec
  have hb := B.bytes
  have hr := B.returns
  have hts0 := atoms_spec (ws := wt yX3_begin cX3_begin 2 none) B.pre
  have hts : ∀ w ∈ tb, w.before _ s = true := fun w h => hts0 w (List.mem_cons_of_mem _ h)
  have hown : s.vm.findClass RX3 = some m.cls := findClass_of_methodNamed B.named
  subst hsz
  have hD := hD0.self (sz := s.heap.size)
  generalize hAe : va_A ws s.heap.size = A at hD hE ⊢
  have hA : ∀ q : Nat, s.heap.size ≤ q → A q := fun q h => by rw [← hAe]; exact Or.inr h
  have hS : va_S A s.heap s.heap [] := va_S.rf
  have hl := lv_entry ([.ref h0, .int x1]) (n := 2) (Nat.le_of_ble_eq_true rfl)
  rw [lg_entry_eq]
  generalize (lg_sl ([.ref h0, .int x1]) ++ List.replicate (2 - (lg_sl ([.ref h0, .int x1])).length) Slot.unset).toArray = ls at hl ⊢
  have hl : lv_has ls 2 [(0, .ref h0), (1, .int x1)] := hl
  obtain ⟨k_1, fs9, hk_1⟩ := gC_of o_h0
  obtain ⟨v0_1, c1_1, r2_1, n2_1, r3_1, n3_1, r4_1, n4_1, r5_1, n5_1, r6_1, n6_1, r7_1, n7_1, r8_1, n8_1, r9_1, n9_1, c10_1, r11_1, n11_1, r12_1, n12_1, r13_1, n13_1, r14_1, n14_1, r15_1, n15_1, rfl, o_v0_1, a_r2_1, f2_1, a_r3_1, f4_1, a_r4_1, f6_1, a_r5_1, f8_1, a_r6_1, f10_1, a_r7_1, f12_1, a_r8_1, f14_1, a_r9_1, f16_1, a_r11_1, f18_1, a_r12_1, f20_1, a_r13_1, f22_1, a_r14_1, f24_1, a_r15_1, f26_1, f27_1, f28_1, f29_1, f30_1, f31_1, f32_1, f33_1, f34_1, f35_1, f36_1, f37_1, f38_1, f39_1, f40_1, -⟩ := (hG.1 _ _ _ _ hk_1).hX3 rfl
  obtain ⟨b_2, hn9⟩ := nn_h0_0 _ _ _ hk_1
  have hn9 := fe_qr hn9
  subst hn9
  have o_b_2 := o_v0_1 _ rfl
  obtain ⟨k_3, fs9, hk_3⟩ := gC_of o_b_2
  obtain ⟨r0_3, n0_3, r1_3, n1_3, c2_3, r3_3, n3_3, c4_3, r5_3, n5_3, r6_3, n6_3, r7_3, n7_3, r8_3, n8_3, c9_3, c10_3, c11_3, v12_3, v13_3, v14_3, rfl, a_r0_3, f1_3, a_r1_3, f3_3, a_r3_3, f5_3, a_r5_3, f7_3, a_r6_3, f9_3, a_r7_3, f11_3, a_r8_3, f13_3, o_v12_3, o_v13_3, o_v14_3, f17_3, f18_3, f19_3, f20_3, f21_3, f22_3, f23_3, f24_3, f25_3, f26_3, f27_3, f28_3, f29_3, -⟩ := (hG.1 _ _ _ _ hk_3).hX8 rfl
  have fq2_b := f2_b _ _ _ _ _ hk_1 rfl hk_3 _ rfl _ _ rfl a_r3_1
  refine lv_iload_n hx hb dX3_begin_0 rfl (lv_at hl 1 rfl) ?_
  refine lv_if_lt (tgt := 22) hx hb dX3_begin_1 (by decide) (fun c_4 => ?_) (fun c_4 => ?_)
  · refine W.widen (k := 0) (n := 0) (Nat.le_of_ble_eq_true rfl) (Nat.le_of_ble_eq_true rfl) ?_
    exact W.vret hx hb hr (fun t9 ht9 hW9 => ⟨⟨ws, rfl, ⟨trivial, ⟨fun h9 => False.elim (by have e0 : (0 : Int32).toInt = 0 := (by decide); have q_f19_3 := f19_3; have q_f20_3 := f20_3; have q_fq2_b := fq2_b; have q_c_4 := i_lt c_4; have q_f4_1 := f4_1; have q_f27_1 := f27_1; have q_f36_1 := f36_1; have q_f1_3 := f1_3; have q_f17_3 := f17_3; have q_f18_3 := f18_3; have q_f2_1 := f2_1; have q_f3_3 := f3_3; have g_c2_3 := i_rg c2_3; have g_x1 := i_rg x1; have z9 := h9; omega), fun q9 => q9⟩⟩, ⟨gE.rf, gF.rf, hG, by rw [ht9]; exact hP, hD⟩⟩, hS.F ht9⟩) hS.2.2 dX3_begin_22
  · refine lv_iload_n hx hb dX3_begin_4 rfl (lv_at hl 1 rfl) ?_
    refine lv_aload_n hx hb dX3_begin_5 rfl (lv_at hl 0 rfl) ?_
    refine va_get (D := gD g) (ci := 3) (v := .ref b_2) (C := RX3) (T := TX3) (N := 16) hx hb hts inX3 hown hK hP k_1 hk_1 rfl 0 (by decide) (hts _ kw_836) (fun _ h9 => h9) rfl dX3_begin_6 ?_
    refine va_get (D := gD g) (ci := 7) (v := .int c2_3) (C := RX8) (T := TX8) (N := 15) hx hb hts inX8 hown hK hP k_3 hk_3 rfl 2 (by decide) (hts _ kw_837) (fun _ h9 => h9) rfl dX3_begin_9 ?_
    refine lv_icmp_ge (tgt := 22) hx hb dX3_begin_12 (by decide) (fun c_5 => ?_) (fun c_5 => ?_)
    · refine W.widen (k := 0) (n := 0) (Nat.le_of_ble_eq_true rfl) (Nat.le_of_ble_eq_true rfl) ?_
      exact W.vret hx hb hr (fun t9 ht9 hW9 => ⟨⟨ws, rfl, ⟨trivial, ⟨fun h9 => False.elim (by have e0 : (0 : Int32).toInt = 0 := (by decide); have q_f19_3 := f19_3; have q_f20_3 := f20_3; have q_fq2_b := fq2_b; have q_c_4 := i_nlt c_4; have q_c_5 := i_le c_5; have q_f4_1 := f4_1; have q_f27_1 := f27_1; have q_f36_1 := f36_1; have q_f1_3 := f1_3; have q_f17_3 := f17_3; have q_f18_3 := f18_3; have q_f2_1 := f2_1; have q_f3_3 := f3_3; have g_c2_3 := i_rg c2_3; have g_x1 := i_rg x1; have z9 := h9; omega), fun q9 => q9⟩⟩, ⟨gE.rf, gF.rf, hG, by rw [ht9]; exact hP, hD⟩⟩, hS.F ht9⟩) hS.2.2 dX3_begin_22
    · refine lv_aload_n hx hb dX3_begin_15 rfl (lv_at hl 0 rfl) ?_
      refine va_get (D := gD g) (ci := 3) (v := .ref r3_1) (C := RX3) (T := TX3) (N := 16) hx hb hts inX3 hown hK hP k_1 hk_1 rfl 3 (by decide) (hts _ kw_839) (fun _ h9 => h9) rfl dX3_begin_16 ?_
      refine lv_iload_n hx hb dX3_begin_19 rfl (lv_at hl 1 rfl) ?_
      refine lv_iconst (v := 1) hx hb dX3_begin_20 (by decide) ?_
      obtain ⟨k_6, f_6, hk_6⟩ := gI_of a_r3_1
      have hfS := hk_6
      have hkS := hk_1
      have hDS := hD
      have hC9 : hol ws r3_1 [(3, 3)] := (hol_u hG.u hk_1 (j := 3) rfl a_r3_1 (by decide))
      have hS9 : holS ws r3_1 none := holS_n
      refine va_iast hx hb hK hP hD hS k_6 1 hk_6 rfl (i_in2 (by have e0 : (0 : Int32).toInt = 0 := (by decide); have q_f4_1 := f4_1; have q_f27_1 := f27_1; have q_f36_1 := f36_1; have q_fq2_b := fq2_b; have q_c_4 := i_nlt c_4; have q_c_5 := i_nle c_5; have q_f2_1 := f2_1; have q_f19_3 := f19_3; have q_f20_3 := f20_3; have q_f1_3 := f1_3; have q_f17_3 := f17_3; have q_f18_3 := f18_3; have g_c2_3 := i_rg c2_3; have g_x1 := i_rg x1; omega)) dX3_begin_21 (fun H locs hP hD hS => ?_)
      obtain ⟨ws_7, e_ws_7⟩ : ∃ z, z = ws.set k_6 (r3_1, .inl (g.cI, n3_1, .inl (upd f_6 (x1 : Int32).toNatClampNeg 1))) := ⟨_, rfl⟩
      have hP : va_P (gD g) cl0 ws_7 H := by rw [e_ws_7]; exact hP
      have hD : va_D A ws_7 := by rw [e_ws_7]; exact hD
      have E_8 : gE ws ws_7 := gE_ari e_ws_7 hk_6
      have hG : Good g ws_7 := Good_arI e_ws_7 hk_6 hG
      have Fr_9 : gF [] [(3, 3)] none ws ws_7 := gF_ar e_ws_7 hk_6 rfl hC9 hS9
      have hk_1 := gset_arO e_ws_7 hk_6 hk_1
      have hk_3 := gset_arO e_ws_7 hk_6 hk_3
      have o_h0 := E_8.1 _ _ o_h0
      have a_r2_1 := E_8.1 _ _ a_r2_1
      have a_r3_1 := E_8.1 _ _ a_r3_1
      have a_r4_1 := E_8.1 _ _ a_r4_1
      have a_r5_1 := E_8.1 _ _ a_r5_1
      have a_r6_1 := E_8.1 _ _ a_r6_1
      have a_r7_1 := E_8.1 _ _ a_r7_1
      have a_r8_1 := E_8.1 _ _ a_r8_1
      have a_r9_1 := E_8.1 _ _ a_r9_1
      have a_r11_1 := E_8.1 _ _ a_r11_1
      have a_r12_1 := E_8.1 _ _ a_r12_1
      have a_r13_1 := E_8.1 _ _ a_r13_1
      have a_r14_1 := E_8.1 _ _ a_r14_1
      have a_r15_1 := E_8.1 _ _ a_r15_1
      have o_b_2 := E_8.1 _ _ o_b_2
      have a_r0_3 := E_8.1 _ _ a_r0_3
      have a_r1_3 := E_8.1 _ _ a_r1_3
      have a_r3_3 := E_8.1 _ _ a_r3_3
      have a_r5_3 := E_8.1 _ _ a_r5_3
      have a_r6_3 := E_8.1 _ _ a_r6_3
      have a_r7_3 := E_8.1 _ _ a_r7_3
      have a_r8_3 := E_8.1 _ _ a_r8_3
      have o_v12_3 : ∀ b, v12_3 = some b → ∃ n, gI ws_7 b g.cB n ∧ n < 2147483648 := fun b h => (o_v12_3 b h).imp (fun n h => ⟨E_8.1 _ _ h.1, h.2⟩)
      have o_v13_3 : ∀ b, v13_3 = some b → ∃ n, gJ ws_7 b g.cL n ∧ n < 2147483648 := fun b h => (o_v13_3 b h).imp (fun n h => ⟨E_8.1 _ _ h.1, h.2⟩)
      have o_v14_3 : ∀ b, v14_3 = some b → ∃ n, gJ ws_7 b g.cL n ∧ n < 2147483648 := fun b h => (o_v14_3 b h).imp (fun n h => ⟨E_8.1 _ _ h.1, h.2⟩)
      refine W.widen (k := 0) (n := 0) (Nat.le_of_ble_eq_true rfl) (Nat.le_of_ble_eq_true rfl) ?_
      exact W.vret hx hb hr (fun t9 ht9 hW9 => ⟨⟨ws_7, rfl, ⟨trivial, ⟨fun h9 => aC_st e_ws_7 hkS rfl rfl hfS (nz_0 (by rw [cN, h9]; rfl)), fun q9 => aC_st e_ws_7 hkS rfl rfl hfS (nz_st (aC_at hDS hkS rfl rfl hfS q9))⟩⟩, ⟨E_8, Fr_9, hG, by rw [ht9]; exact hP, hD⟩⟩, hS.F ht9⟩) hS.2.2 dX3_begin_22
set_option maxHeartbeats 1000000 in
set_option maxRecDepth 100000 in
theorem m_X3_lastOf_x (l : Launch) (g : Gm) (sz : Nat) (ws : va_W) (h0 : Nat) (x1 : Int32) (rc : Int32) (hG : Good g ws) (o_h0 : gC ws h0 3) (nn_h0_0 : gN ws h0 0) (fp_b : gP ws h0 (fun fs => ∀ c : Int32, fs[1]? = some (.int c) → 0 ≤ x1.toInt ∧ x1.toInt < c.toInt ∧ c.toInt ≤ 1296)) (f2_grc : ∀ (k k2 b : Nat) (fs gs : List Value), ows ws k h0 3 fs → fs[0]? = some (.ref b) → ows ws k2 b 7 gs → ∀ c : Int32, gs[2]? = some (.int c) → c.toInt = rc.toInt) (tk0 : aC2 ws h0 (S2 rc.toInt)) : Met l yX3_lastOf (wt yX3_lastOf cX3_lastOf 2 (some .int)) ({ frames := 0, cells := 0, slots := 0, locals := 0 }) (va_Pc [.ref h0, .int x1] (st_G g sz ws)) (va_Qi (fun (r : Int32) (u9 : Unit) => (True) ∧ (aC2 ws h0 (LA x1.toInt rc.toInt r.toInt))) (gQ0 g (va_A ws sz) ws) (va_A ws sz)) (0) (0) (va_A ws sz) := by
  refine Met.ofW (cc := cX3_lastOf) (maxL := 2) (ret := (some .int)) (by decide) rfl ?_
  intro p e s m args below meth c s₁ B hml hv
  obtain ⟨rfl, hsz, hP, hK, hD0, hex, hE⟩ := hv
  have hx := B.exec
  have hb := B.bytes
  have hr := B.returns
  have hts0 := atoms_spec (ws := wt yX3_lastOf cX3_lastOf 2 (some .int)) B.pre
  have hts : ∀ w ∈ tb, w.before _ s = true := fun w h => hts0 w (List.mem_cons_of_mem _ h)
  have hown : s.vm.findClass RX3 = some m.cls := findClass_of_methodNamed B.named
  subst hsz
  have hD := hD0.self (sz := s.heap.size)
  generalize hAe : va_A ws s.heap.size = A at hD hE ⊢
  have hA : ∀ q : Nat, s.heap.size ≤ q → A q := fun q h => by rw [← hAe]; exact Or.inr h
  have hS : va_S A s.heap s.heap [] := va_S.rf
  have hl := lv_entry ([.ref h0, .int x1]) (n := 2) (Nat.le_of_ble_eq_true rfl)
  rw [lg_entry_eq]
  generalize (lg_sl ([.ref h0, .int x1]) ++ List.replicate (2 - (lg_sl ([.ref h0, .int x1])).length) Slot.unset).toArray = ls at hl ⊢
  have hl : lv_has ls 2 [(0, .ref h0), (1, .int x1)] := hl
  obtain ⟨k_1, fs9, hk_1⟩ := gC_of o_h0
  obtain ⟨v0_1, c1_1, r2_1, n2_1, r3_1, n3_1, r4_1, n4_1, r5_1, n5_1, r6_1, n6_1, r7_1, n7_1, r8_1, n8_1, r9_1, n9_1, c10_1, r11_1, n11_1, r12_1, n12_1, r13_1, n13_1, r14_1, n14_1, r15_1, n15_1, rfl, o_v0_1, a_r2_1, f2_1, a_r3_1, f4_1, a_r4_1, f6_1, a_r5_1, f8_1, a_r6_1, f10_1, a_r7_1, f12_1, a_r8_1, f14_1, a_r9_1, f16_1, a_r11_1, f18_1, a_r12_1, f20_1, a_r13_1, f22_1, a_r14_1, f24_1, a_r15_1, f26_1, f27_1, f28_1, f29_1, f30_1, f31_1, f32_1, f33_1, f34_1, f35_1, f36_1, f37_1, f38_1, f39_1, f40_1, -⟩ := (hG.1 _ _ _ _ hk_1).hX3 rfl
  have fq_b := fp_b _ _ _ hk_1 _ rfl
  obtain ⟨b_2, hn9⟩ := nn_h0_0 _ _ _ hk_1
  have hn9 := fe_qr hn9
  subst hn9
  have o_b_2 := o_v0_1 _ rfl
  obtain ⟨k_3, fs9, hk_3⟩ := gC_of o_b_2
  obtain ⟨r0_3, n0_3, r1_3, n1_3, c2_3, r3_3, n3_3, c4_3, r5_3, n5_3, r6_3, n6_3, r7_3, n7_3, r8_3, n8_3, c9_3, c10_3, c11_3, v12_3, v13_3, v14_3, rfl, a_r0_3, f1_3, a_r1_3, f3_3, a_r3_3, f5_3, a_r5_3, f7_3, a_r6_3, f9_3, a_r7_3, f11_3, a_r8_3, f13_3, o_v12_3, o_v13_3, o_v14_3, f17_3, f18_3, f19_3, f20_3, f21_3, f22_3, f23_3, f24_3, f25_3, f26_3, f27_3, f28_3, f29_3, -⟩ := (hG.1 _ _ _ _ hk_3).hX8 rfl
  have fq2_grc := f2_grc _ _ _ _ _ hk_1 rfl hk_3 _ rfl
  obtain ⟨k_4, f_4, hk_4⟩ := gI_of a_r2_1
  have aq_5 := S2_n (aC_at hD hk_1 rfl rfl hk_4 tk0)
  refine lv_iload_n hx hb dX3_lastOf_0 rfl (lv_at hl 1 rfl) ?_
  refine lv_iconst (v := 1) hx hb dX3_lastOf_1 (by decide) ?_
  refine lv_iadd hx hb dX3_lastOf_2 ?_
  refine lv_topi (fun z_6 ez_6 => ?_)
  refine lv_aload_n hx hb dX3_lastOf_3 rfl (lv_at hl 0 rfl) ?_
  refine va_get (D := gD g) (ci := 3) (v := .int c1_1) (C := RX3) (T := TX3) (N := 16) hx hb hts inX3 hown hK hP k_1 hk_1 rfl 1 (by decide) (hts _ kw_851) (fun _ h9 => h9) rfl dX3_lastOf_4 ?_
  refine lv_icmp_ge (tgt := 21) hx hb dX3_lastOf_7 (by decide) (fun c_7 => ?_) (fun c_7 => ?_)
  · refine lv_aload_n hx hb dX3_lastOf_21 rfl (lv_at hl 0 rfl) ?_
    refine va_get (D := gD g) (ci := 3) (v := .ref b_2) (C := RX3) (T := TX3) (N := 16) hx hb hts inX3 hown hK hP k_1 hk_1 rfl 0 (by decide) (hts _ kw_836) (fun _ h9 => h9) rfl dX3_lastOf_22 ?_
    refine va_get (D := gD g) (ci := 7) (v := .int c2_3) (C := RX8) (T := TX8) (N := 15) hx hb hts inX8 hown hK hP k_3 hk_3 rfl 2 (by decide) (hts _ kw_837) (fun _ h9 => h9) rfl dX3_lastOf_25 ?_
    refine lv_iconst (v := 1) hx hb dX3_lastOf_28 (by decide) ?_
    refine lv_isub hx hb dX3_lastOf_29 ?_
    refine lv_topi (fun z_8 ez_8 => ?_)
    refine W.widen (k := 0) (n := 0) (Nat.le_of_ble_eq_true rfl) (Nat.le_of_ble_eq_true rfl) ?_
    exact W.iret (v := z_8) hx hb hr (fun t9 ht9 hW9 => ⟨⟨_, (), rfl, ⟨trivial, aC_of hk_1 rfl rfl hk_4 (LA_2 (by have e1 : (1 : Int32).toInt = 1 := (by decide); have q_f19_3 := f19_3; have q_f20_3 := f20_3; have q_fq2_grc := fq2_grc; have q_aq_5 := aq_5; obtain ⟨u_z_8, q_z_8⟩ := i_sub ez_8; have q_f2_1 := f2_1; have q_f27_1 := f27_1; have q_fq_b := fq_b; have q_f1_3 := f1_3; have q_f17_3 := f17_3; have q_f18_3 := f18_3; have q_c_7 := i_le c_7; have q_f4_1 := f4_1; have q_f36_1 := f36_1; have q_f3_3 := f3_3; obtain ⟨u_z_6, q_z_6⟩ := i_add ez_6; have g_c1_1 := i_rg c1_1; have g_c2_3 := i_rg c2_3; have g_rc := i_rg rc; have g_x1 := i_rg x1; have g_z_6 := i_rg z_6; have g_z_8 := i_rg z_8; omega) (by have e1 : (1 : Int32).toInt = 1 := (by decide); have q_fq_b := fq_b; have q_aq_5 := aq_5; obtain ⟨u_z_6, q_z_6⟩ := i_add ez_6; have q_c_7 := i_le c_7; have q_f2_1 := f2_1; have q_f27_1 := f27_1; have q_f4_1 := f4_1; have q_f36_1 := f36_1; have g_c1_1 := i_rg c1_1; have g_rc := i_rg rc; have g_x1 := i_rg x1; have g_z_6 := i_rg z_6; omega))⟩, ⟨by rw [ht9]; exact hP, hD⟩⟩, hS.F ht9⟩) hS.2.2 dX3_lastOf_30
  · refine lv_aload_n hx hb dX3_lastOf_10 rfl (lv_at hl 0 rfl) ?_
    refine va_get (D := gD g) (ci := 3) (v := .ref r2_1) (C := RX3) (T := TX3) (N := 16) hx hb hts inX3 hown hK hP k_1 hk_1 rfl 2 (by decide) (hts _ kw_862) (fun _ h9 => h9) rfl dX3_lastOf_11 ?_
    refine lv_iload_n hx hb dX3_lastOf_14 rfl (lv_at hl 1 rfl) ?_
    refine lv_iconst (v := 1) hx hb dX3_lastOf_15 (by decide) ?_
    refine lv_iadd hx hb dX3_lastOf_16 ?_
    refine lv_topi (fun z_9 ez_9 => ?_)
    have aq_10 := S2_n (aC_at hD hk_1 rfl rfl hk_4 tk0)
    refine va_iald hx hb hK hP k_4 1 hk_4 rfl (i_in2 (by have e1 : (1 : Int32).toInt = 1 := (by decide); have q_f2_1 := f2_1; have q_f27_1 := f27_1; have q_aq_5 := aq_5; obtain ⟨u_z_9, q_z_9⟩ := i_add ez_9; have q_aq_10 := aq_10; have q_f4_1 := f4_1; have q_f36_1 := f36_1; have q_fq_b := fq_b; obtain ⟨u_z_6, q_z_6⟩ := i_add ez_6; have q_c_7 := i_nle c_7; have g_c1_1 := i_rg c1_1; have g_rc := i_rg rc; have g_x1 := i_rg x1; have g_z_6 := i_rg z_6; have g_z_9 := i_rg z_9; omega)) dX3_lastOf_17 ?_
    refine lv_topi (fun z_11 ez_11 => ?_)
    have aq_12 := S2_in (aC_at hD hk_1 rfl rfl hk_4 tk0) (i := z_9) ez_11 (by have e1 : (1 : Int32).toInt = 1 := (by decide); have q_fq_b := fq_b; have q_aq_5 := aq_5; have q_c_7 := i_nle c_7; obtain ⟨u_z_9, q_z_9⟩ := i_add ez_9; have q_aq_10 := aq_10; have q_f2_1 := f2_1; have q_f27_1 := f27_1; obtain ⟨u_z_6, q_z_6⟩ := i_add ez_6; have q_f4_1 := f4_1; have q_f36_1 := f36_1; have g_c1_1 := i_rg c1_1; have g_rc := i_rg rc; have g_x1 := i_rg x1; have g_z_6 := i_rg z_6; have g_z_9 := i_rg z_9; omega)
    refine lv_goto (tgt := 28) hx hb dX3_lastOf_18 (by decide) ?_
    refine lv_iconst (v := 1) hx hb dX3_lastOf_28 (by decide) ?_
    refine lv_isub hx hb dX3_lastOf_29 ?_
    refine lv_topi (fun z_13 ez_13 => ?_)
    refine W.widen (k := 0) (n := 0) (Nat.le_of_ble_eq_true rfl) (Nat.le_of_ble_eq_true rfl) ?_
    exact W.iret (v := z_13) hx hb hr (fun t9 ht9 hW9 => ⟨⟨_, (), rfl, ⟨trivial, aC_of hk_1 rfl rfl hk_4 (LA_1 ez_11 (by have e1 : (1 : Int32).toInt = 1 := (by decide); have q_fq_b := fq_b; obtain ⟨u_z_6, q_z_6⟩ := i_add ez_6; obtain ⟨u_z_9, q_z_9⟩ := i_add ez_9; have q_aq_5 := aq_5; have q_c_7 := i_nle c_7; have q_aq_10 := aq_10; have q_aq_12 := aq_12; have q_f2_1 := f2_1; have q_f27_1 := f27_1; obtain ⟨u_z_13, q_z_13⟩ := i_sub ez_13; have g_c1_1 := i_rg c1_1; have g_rc := i_rg rc; have g_x1 := i_rg x1; have g_z_11 := i_rg z_11; have g_z_13 := i_rg z_13; have g_z_6 := i_rg z_6; have g_z_9 := i_rg z_9; omega) (by have e1 : (1 : Int32).toInt = 1 := (by decide); have q_aq_12 := aq_12; obtain ⟨u_z_13, q_z_13⟩ := i_sub ez_13; have q_fq_b := fq_b; have q_aq_5 := aq_5; have q_c_7 := i_nle c_7; have q_aq_10 := aq_10; have q_f2_1 := f2_1; have q_f27_1 := f27_1; obtain ⟨u_z_6, q_z_6⟩ := i_add ez_6; obtain ⟨u_z_9, q_z_9⟩ := i_add ez_9; have g_c1_1 := i_rg c1_1; have g_rc := i_rg rc; have g_x1 := i_rg x1; have g_z_11 := i_rg z_11; have g_z_13 := i_rg z_13; have g_z_6 := i_rg z_6; have g_z_9 := i_rg z_9; omega) (by have e1 : (1 : Int32).toInt = 1 := (by decide); have q_fq_b := fq_b; have q_aq_5 := aq_5; obtain ⟨u_z_6, q_z_6⟩ := i_add ez_6; have q_c_7 := i_nle c_7; obtain ⟨u_z_9, q_z_9⟩ := i_add ez_9; have q_aq_10 := aq_10; have q_aq_12 := aq_12; have q_f2_1 := f2_1; have q_f27_1 := f27_1; obtain ⟨u_z_13, q_z_13⟩ := i_sub ez_13; have q_f4_1 := f4_1; have q_f36_1 := f36_1; have g_c1_1 := i_rg c1_1; have g_rc := i_rg rc; have g_x1 := i_rg x1; have g_z_11 := i_rg z_11; have g_z_13 := i_rg z_13; have g_z_6 := i_rg z_6; have g_z_9 := i_rg z_9; omega))⟩, ⟨by rw [ht9]; exact hP, hD⟩⟩, hS.F ht9⟩) hS.2.2 dX3_lastOf_30
set_option maxHeartbeats 1000000 in
set_option maxRecDepth 100000 in
theorem m_X8_targetCount_y (l : Launch) (g : Gm) (sz : Nat) (ws : va_W) (h0 : Nat) (x1 : Int32) (hG : Good g ws) (o_h0 : gC ws h0 7) : Met l yX8_targetCount (wt yX8_targetCount cX8_targetCount 3 (some .int)) ({ frames := 1, cells := 0, slots := 0, locals := 21 }) (va_Pc [.ref h0, .int x1] (st_G g sz ws)) (va_Qi (fun (r : Int32) (u9 : Unit) => (True) ∧ (rowC ws h0 (TCx x1.toInt r.toInt))) (gQ0 g (va_A ws sz) ws) (va_A ws sz)) (0) (0) (va_A ws sz) := by
  refine Met.ofW (cc := cX8_targetCount) (maxL := 3) (ret := (some .int)) (by decide) rfl ?_
  intro p e s m args below meth c s₁ B hml hv
  obtain ⟨rfl, hsz, hP, hK, hD0, hex, hE⟩ := hv
  have hx := B.exec
  have hb := B.bytes
  have hr := B.returns
  have hts0 := atoms_spec (ws := wt yX8_targetCount cX8_targetCount 3 (some .int)) B.pre
  have hts : ∀ w ∈ tb, w.before _ s = true := fun w h => hts0 w (List.mem_cons_of_mem _ h)
  have hown : s.vm.findClass RX8 = some m.cls := findClass_of_methodNamed B.named
  subst hsz
  have hD := hD0.self (sz := s.heap.size)
  generalize hAe : va_A ws s.heap.size = A at hD hE ⊢
  have hA : ∀ q : Nat, s.heap.size ≤ q → A q := fun q h => by rw [← hAe]; exact Or.inr h
  have hS : va_S A s.heap s.heap [] := va_S.rf
  have hl := lv_entry ([.ref h0, .int x1]) (n := 3) (Nat.le_of_ble_eq_true rfl)
  rw [lg_entry_eq]
  generalize (lg_sl ([.ref h0, .int x1]) ++ List.replicate (3 - (lg_sl ([.ref h0, .int x1])).length) Slot.unset).toArray = ls at hl ⊢
  have hl : lv_has ls 3 [(0, .ref h0), (1, .int x1)] := hl
  refine lv_aload_n hx hb dX8_targetCount_0 rfl (lv_at hl 0 rfl) ?_
  refine lv_iload_n hx hb dX8_targetCount_1 rfl (lv_at hl 1 rfl) ?_
  have hFc := gfree hD hS hA
  obtain ⟨k_1, fs_1, hk_1⟩ := gC_of o_h0
  refine va_calli (va_runV (As := [.int x1]) (rest := []) ⟨hx, hb, hml, hown, hts⟩ (m_X8_opAt_x l g s.heap.size ws h0 (x1) hG o_h0) (cwV 1 hts (gd_V kw_1528 kw_1513 kw_1514 kw_782 kw_1512) rfl rfl rfl (by decide +kernel) ⟨Nat.le_of_ble_eq_true rfl, Nat.le_of_ble_eq_true rfl⟩) ⟨gblind, va_recv hK hP (ci := 7) (q0 := k_1) rfl hk_1, fun U hU hW9 => gmk hU hW9 hP hK hD hex hE hS hFc⟩ rfl rfl hl.1 rfl (lv_room (Nat.le_of_ble_eq_true rfl)) dX8_targetCount_2 ⟨Nat.le_of_ble_eq_true rfl, Nat.le_of_ble_eq_true rfl⟩) hS (fun q _ h => hFc q h) hFc (fun r_2 u9 t9 H1 locs ht9 hvm9 hw9 hB9 hz9 hk9 hS => ?_)
  have hP : va_P (gD g) cl0 ws H1 := by rw [← ht9]; exact hB9.1
  obtain ⟨hw9, xp_3⟩ := hw9
  clear hB9 hz9 hk9 hvm9 ht9 hw9
  generalize H1 = H at hP hS ⊢
  refine lv_istore_n (lv' := [(2, .int r_2), (0, .ref h0), (1, .int x1)]) hx hb dX8_targetCount_5 rfl hl (by decide) rfl (fun ls hl => ?_)
  refine lv_iload_n hx hb dX8_targetCount_6 rfl (lv_at hl 0 rfl) ?_
  have hFc := gfree hD hS hA
  refine va_calli (va_runS (As := [.int r_2]) (rest := []) ⟨hx, hb, hml, hown, hts⟩ (m_X6_isJump_y l g H.size ws (r_2) hG ) (va_cwS 1 hts (gd_S kw_1529 kw_1225 kw_1207 kw_1224) rfl rfl rfl (by decide +kernel) ⟨Nat.le_of_ble_eq_true rfl, Nat.le_of_ble_eq_true rfl⟩) ⟨gblind, fun U hU hW9 => gmk hU hW9 hP hK hD hex hE hS hFc⟩ rfl rfl hl.1 rfl (lv_room (Nat.le_of_ble_eq_true rfl)) dX8_targetCount_7 ⟨Nat.le_of_ble_eq_true rfl, Nat.le_of_ble_eq_true rfl⟩) hS (fun q _ h => hFc q h) hFc (fun r_4 u9 t9 H1 locs ht9 hvm9 hw9 hB9 hz9 hk9 hS => ?_)
  have hP : va_P (gD g) cl0 ws H1 := by rw [← ht9]; exact hB9.1
  obtain ⟨hw9, xp_5⟩ := hw9
  have hz_r_4 : r_4 = 0 ∨ r_4 = 1 := hw9
  clear hB9 hz9 hk9 hvm9 ht9 hw9
  generalize H1 = H at hP hS ⊢
  refine lv_if_eq (tgt := 15) hx hb dX8_targetCount_10 (by decide) (fun c_6 => ?_) (fun c_6 => ?_)
  · refine lv_iload_n hx hb dX8_targetCount_15 rfl (lv_at hl 0 rfl) ?_
    have hFc := gfree hD hS hA
    refine va_calli (va_runS (As := [.int r_2]) (rest := []) ⟨hx, hb, hml, hown, hts⟩ (m_X6_isSwitch_y l g H.size ws (r_2) hG ) (va_cwS 1 hts (gd_S kw_1543 kw_1233 kw_1207 kw_1232) rfl rfl rfl (by decide +kernel) ⟨Nat.le_of_ble_eq_true rfl, Nat.le_of_ble_eq_true rfl⟩) ⟨gblind, fun U hU hW9 => gmk hU hW9 hP hK hD hex hE hS hFc⟩ rfl rfl hl.1 rfl (lv_room (Nat.le_of_ble_eq_true rfl)) dX8_targetCount_16 ⟨Nat.le_of_ble_eq_true rfl, Nat.le_of_ble_eq_true rfl⟩) hS (fun q _ h => hFc q h) hFc (fun r_7 u9 t9 H1 locs ht9 hvm9 hw9 hB9 hz9 hk9 hS => ?_)
    have hP : va_P (gD g) cl0 ws H1 := by rw [← ht9]; exact hB9.1
    obtain ⟨hw9, xp_8⟩ := hw9
    have hz_r_7 : r_7 = 0 ∨ r_7 = 1 := hw9
    clear hB9 hz9 hk9 hvm9 ht9 hw9
    generalize H1 = H at hP hS ⊢
    refine lv_if_eq (tgt := 35) hx hb dX8_targetCount_19 (by decide) (fun c_9 => ?_) (fun c_9 => ?_)
    · refine lv_iconst (v := 0) hx hb dX8_targetCount_35 (by decide) ?_
      refine W.widen (k := 0) (n := 0) (Nat.le_of_ble_eq_true rfl) (Nat.le_of_ble_eq_true rfl) ?_
      obtain ⟨k_10, fs9, hk_10⟩ := gC_of o_h0
      obtain ⟨r0_10, n0_10, r1_10, n1_10, c2_10, r3_10, n3_10, c4_10, r5_10, n5_10, r6_10, n6_10, r7_10, n7_10, r8_10, n8_10, c9_10, c10_10, c11_10, v12_10, v13_10, v14_10, rfl, a_r0_10, f1_10, a_r1_10, f3_10, a_r3_10, f5_10, a_r5_10, f7_10, a_r6_10, f9_10, a_r7_10, f11_10, a_r8_10, f13_10, o_v12_10, o_v13_10, o_v14_10, f17_10, f18_10, f19_10, f20_10, f21_10, f22_10, f23_10, f24_10, f25_10, f26_10, f27_10, f28_10, f29_10, -⟩ := (hG.1 _ _ _ _ hk_10).hX8 rfl
      obtain ⟨k_11, f_11, hk_11⟩ := gI_of a_r0_10
      obtain ⟨k_12, f_12, hk_12⟩ := gJ_of a_r1_10
      obtain ⟨k_13, f_13, hk_13⟩ := gI_of a_r3_10
      exact W.iret (v := 0) hx hb hr (fun t9 ht9 hW9 => ⟨⟨_, (), rfl, ⟨trivial, rowC_of hk_10 rfl rfl rfl rfl rfl hk_11 hk_12 hk_13 (Or.inl (by decide))⟩, ⟨by rw [ht9]; exact hP, hD⟩⟩, hS.F ht9⟩) hS.2.2 dX8_targetCount_36
    · refine lv_aload_n hx hb dX8_targetCount_22 rfl (lv_at hl 1 rfl) ?_
      refine lv_aload_n hx hb dX8_targetCount_23 rfl (lv_at hl 1 rfl) ?_
      refine lv_iload_n hx hb dX8_targetCount_24 rfl (lv_at hl 2 rfl) ?_
      have hFc := gfree hD hS hA
      obtain ⟨k_14, fs_14, hk_14⟩ := gC_of o_h0
      refine va_calll (va_runV (As := [.int x1]) (rest := [.ref h0]) ⟨hx, hb, hml, hown, hts⟩ (m_X8_argAt_x l g H.size ws h0 (x1) hG o_h0) (cwV 1 hts (gd_V kw_1511 kw_1476 kw_1477 kw_782 kw_1475) rfl rfl rfl (by decide +kernel) ⟨Nat.le_of_ble_eq_true rfl, Nat.le_of_ble_eq_true rfl⟩) ⟨gblind, va_recv hK hP (ci := 7) (q0 := k_14) rfl hk_14, fun U hU hW9 => gmk hU hW9 hP hK hD hex hE hS hFc⟩ rfl rfl hl.1 rfl (lv_room (Nat.le_of_ble_eq_true rfl)) dX8_targetCount_25 ⟨Nat.le_of_ble_eq_true rfl, Nat.le_of_ble_eq_true rfl⟩) hS (fun q _ h => hFc q h) hFc (fun r_15 u9 t9 H1 locs ht9 hvm9 hw9 hB9 hz9 hk9 hS => ?_)
      have hP : va_P (gD g) cl0 ws H1 := by rw [← ht9]; exact hB9.1
      obtain ⟨hw9, xp_16⟩ := hw9
      clear hB9 hz9 hk9 hvm9 ht9 hw9
      generalize H1 = H at hP hS ⊢
      obtain ⟨z_17, ez_17⟩ : ∃ y : Int32, (r_15 : Int64).toInt32 = y := ⟨_, rfl⟩
      refine lv_l2i (v := z_17) hx hb dX8_targetCount_28 ez_17 ?_
      have hFc := gfree hD hS hA
      obtain ⟨k_18, fs_18, hk_18⟩ := gC_of o_h0
      refine va_calli (va_runV (As := [.int z_17]) (rest := []) ⟨hx, hb, hml, hown, hts⟩ (m_X8_tableAt_x l g H.size ws h0 (z_17) hG o_h0) (cwV 1 hts (gd_V kw_1539 kw_1534 kw_1535 kw_782 kw_1533) rfl rfl rfl (by decide +kernel) ⟨Nat.le_of_ble_eq_true rfl, Nat.le_of_ble_eq_true rfl⟩) ⟨gblind, va_recv hK hP (ci := 7) (q0 := k_18) rfl hk_18, fun U hU hW9 => gmk hU hW9 hP hK hD hex hE hS hFc⟩ rfl rfl hl.1 rfl (lv_room (Nat.le_of_ble_eq_true rfl)) dX8_targetCount_29 ⟨Nat.le_of_ble_eq_true rfl, Nat.le_of_ble_eq_true rfl⟩) hS (fun q _ h => hFc q h) hFc (fun r_19 u9 t9 H1 locs ht9 hvm9 hw9 hB9 hz9 hk9 hS => ?_)
      have hP : va_P (gD g) cl0 ws H1 := by rw [← ht9]; exact hB9.1
      obtain ⟨hw9, xp_20⟩ := hw9
      clear hB9 hz9 hk9 hvm9 ht9 hw9
      generalize H1 = H at hP hS ⊢
      refine lv_goto (tgt := 36) hx hb dX8_targetCount_32 (by decide) ?_
      refine W.widen (k := 0) (n := 0) (Nat.le_of_ble_eq_true rfl) (Nat.le_of_ble_eq_true rfl) ?_
      obtain ⟨k_21, fs9, hk_21⟩ := gC_of o_h0
      obtain ⟨r0_21, n0_21, r1_21, n1_21, c2_21, r3_21, n3_21, c4_21, r5_21, n5_21, r6_21, n6_21, r7_21, n7_21, r8_21, n8_21, c9_21, c10_21, c11_21, v12_21, v13_21, v14_21, rfl, a_r0_21, f1_21, a_r1_21, f3_21, a_r3_21, f5_21, a_r5_21, f7_21, a_r6_21, f9_21, a_r7_21, f11_21, a_r8_21, f13_21, o_v12_21, o_v13_21, o_v14_21, f17_21, f18_21, f19_21, f20_21, f21_21, f22_21, f23_21, f24_21, f25_21, f26_21, f27_21, f28_21, f29_21, -⟩ := (hG.1 _ _ _ _ hk_21).hX8 rfl
      obtain ⟨k_22, f_22, hk_22⟩ := gI_of a_r0_21
      obtain ⟨k_23, f_23, hk_23⟩ := gJ_of a_r1_21
      obtain ⟨k_24, f_24, hk_24⟩ := gI_of a_r3_21
      exact W.iret (v := r_19) hx hb hr (fun t9 ht9 hW9 => ⟨⟨_, (), rfl, ⟨trivial, tc_x2 hk_21 rfl rfl rfl rfl rfl hk_22 hk_23 hk_24 xp_3 (xp_8.mp (by have e0 : (0 : Int32).toInt = 0 := (by decide); have q_c_9 := i_ne c_9; have g_r_7 := i_rg r_7; have b_r_7 := i_bit hz_r_7; omega)) xp_16 ez_17 xp_20⟩, ⟨by rw [ht9]; exact hP, hD⟩⟩, hS.F ht9⟩) hS.2.2 dX8_targetCount_36
  · refine lv_iconst (v := 1) hx hb dX8_targetCount_13 (by decide) ?_
    refine W.widen (k := 0) (n := 0) (Nat.le_of_ble_eq_true rfl) (Nat.le_of_ble_eq_true rfl) ?_
    obtain ⟨k_25, fs9, hk_25⟩ := gC_of o_h0
    obtain ⟨r0_25, n0_25, r1_25, n1_25, c2_25, r3_25, n3_25, c4_25, r5_25, n5_25, r6_25, n6_25, r7_25, n7_25, r8_25, n8_25, c9_25, c10_25, c11_25, v12_25, v13_25, v14_25, rfl, a_r0_25, f1_25, a_r1_25, f3_25, a_r3_25, f5_25, a_r5_25, f7_25, a_r6_25, f9_25, a_r7_25, f11_25, a_r8_25, f13_25, o_v12_25, o_v13_25, o_v14_25, f17_25, f18_25, f19_25, f20_25, f21_25, f22_25, f23_25, f24_25, f25_25, f26_25, f27_25, f28_25, f29_25, -⟩ := (hG.1 _ _ _ _ hk_25).hX8 rfl
    obtain ⟨k_26, f_26, hk_26⟩ := gI_of a_r0_25
    obtain ⟨k_27, f_27, hk_27⟩ := gJ_of a_r1_25
    obtain ⟨k_28, f_28, hk_28⟩ := gI_of a_r3_25
    exact W.iret (v := 1) hx hb hr (fun t9 ht9 hW9 => ⟨⟨_, (), rfl, ⟨trivial, rowC_of hk_25 rfl rfl rfl rfl rfl hk_26 hk_27 hk_28 (Or.inl (by decide))⟩, ⟨by rw [ht9]; exact hP, hD⟩⟩, hS.F ht9⟩) hS.2.2 dX8_targetCount_14
