set_option maxHeartbeats 1000000 in
set_option maxRecDepth 100000 in
theorem m_J7_copyOf_9075b_x (l : Launch) (g : Gm) (H0 : Heap) (ws : va_W) (b0 : Nat) (n_b0 : Nat) (x1 : Int32) (S0 : Option Nat) (hG : Good g ws) (a_b0 : gI ws b0 g.cB n_b0) (s_b0 : n_b0 < 2147483648) (p0 : 0 ≤ x1.toInt) (p1 : x1.toInt ≤ 524288) : Met l yJ7_copyOf_9075b (wt yJ7_copyOf_9075b cJ7_copyOf_9075b 3 (some (.array .byte))) ({ frames := 1, cells := (1), slots := (x1.toInt.toNat), locals := 40 }) (va_Pc [.ref b0, .int x1] (st_H g H0 ws)) (va_Qq (fun (r : Option Nat) (u9 : va_W) => ∃ b n : Nat, r = some b ∧ gI u9 b g.cB n ∧ n < 2147483648 ∧ frs u9 b ∧ ((n : Int) = x1.toInt)) (gQ2 g [] [] S0 (va_A ws H0.size) ws H0 (1) (x1.toInt.toNat)) (va_A ws H0.size)) ((1)) ((x1.toInt.toNat)) (va_A ws H0.size) := by
  refine Met.ofW (cc := cJ7_copyOf_9075b) (maxL := 3) (ret := (some (.array .byte))) (by decide) rfl ?_
  intro p e s m args below meth c s₁ B hml hv
  obtain ⟨rfl, hH0, hsz, hP, hK, hD0, hex, hE⟩ := hv
  have hx := B.exec
  have hb := B.bytes
  have hr := B.returns
  have hts0 := atoms_spec (ws := wt yJ7_copyOf_9075b cJ7_copyOf_9075b 3 (some (.array .byte))) B.pre
  have hts : ∀ w ∈ tb, w.before _ s = true := fun w h => hts0 w (List.mem_cons_of_mem _ h)
  have hown : s.vm.findClass RJ7 = some m.cls := findClass_of_methodNamed B.named
  subst hH0
  have hD := hD0.self (sz := s.heap.size)
  generalize hAe : va_A ws s.heap.size = A at hD hE ⊢
  have hA : ∀ q : Nat, s.heap.size ≤ q → A q := fun q h => by rw [← hAe]; exact Or.inr h
  have hS : va_S A s.heap s.heap [] := va_S.rf
  have hl := lv_entry ([.ref b0, .int x1]) (n := 3) (Nat.le_of_ble_eq_true rfl)
  rw [lg_entry_eq]
  generalize (lg_sl ([.ref b0, .int x1]) ++ List.replicate (3 - (lg_sl ([.ref b0, .int x1])).length) Slot.unset).toArray = ls at hl ⊢
  have hl : lv_has ls 3 [(0, .ref b0), (1, .int x1)] := hl
  refine lv_iload_n hx hb dJ7_copyOf_9075b_0 rfl (lv_at hl 1 rfl) ?_
  refine lv_aload_n hx hb dJ7_copyOf_9075b_1 rfl (lv_at hl 0 rfl) ?_
  obtain ⟨k_1, f_1, hk_1⟩ := gI_of a_b0
  obtain ⟨z_2, ez_2⟩ : ∃ z : Int32, Int32.ofNat n_b0 = z := ⟨_, rfl⟩
  refine va_alen (v := z_2) hx hb hK hP k_1 0 hk_1 rfl ez_2 dJ7_copyOf_9075b_2 ?_
  refine lv_icmp_ne (tgt := 14) hx hb dJ7_copyOf_9075b_3 (by decide) (fun c_3 => ?_) (fun c_3 => ?_)
  · refine lv_iload_n hx hb dJ7_copyOf_9075b_14 rfl (lv_at hl 1 rfl) ?_
    obtain ⟨n_5, en_5⟩ : ∃ y : Nat, (x1 : Int32).toNatClampNeg = y := ⟨_, rfl⟩
    have bn_5 : n_5 ≤ 524288 := i_cl en_5 (by have q_p0 := p0; have q_p1 := p1; have q_c_3 := i_ne c_3; have q_z_2 := i_len ez_2 s_b0; have q_s_b0 := s_b0; have g_x1 := i_rg x1; have g_z_2 := i_rg z_2; omega)
    have zn_5 : 0 ≤ (x1 : Int32).toInt := (by have q_p0 := p0; have q_p1 := p1; have q_c_3 := i_ne c_3; have q_z_2 := i_len ez_2 s_b0; have q_s_b0 := s_b0; have g_x1 := i_rg x1; have g_z_2 := i_rg z_2; omega)
    have q_n_5 := i_nn en_5 zn_5
    refine va_newa (atype := .byte) (ty := .byte) (a0 := (n_5, .inl (fun _ => 0))) (N' := n_5) hx hb (hts (.arrayClass .byte) kw_11) rfl hK hP hD hS hA (fun _ => rfl) (i_nl0 zn_5) en_5 (i_by bn_5 (by decide)) (show 0 + 1 ≤ (1) from (by have e0 : (0 : Int32).toInt = 0 := (by decide); have q_p0 := p0; have q_p1 := p1; have q_c_3 := i_ne c_3; have q_z_2 := i_len ez_2 s_b0; have q_s_b0 := s_b0; have g_x1 := i_rg x1; have g_z_2 := i_rg z_2; omega)) (show 0 + n_5 ≤ (x1.toInt.toNat) from (by have e0 : (0 : Int32).toInt = 0 := (by decide); have q_p0 := p0; have q_p1 := p1; have q_c_3 := i_ne c_3; have q_z_2 := i_len ez_2 s_b0; have q_s_b0 := s_b0; have g_x1 := i_rg x1; have g_z_2 := i_rg z_2; omega)) dJ7_copyOf_9075b_15 (fun q_4 cA9 H hK9 hP hD hS => ?_)
    obtain rfl := cls_new hK hK9 (k := 0) rfl (fun _ h => by cases h)
    clear hK9
    have hD9 := hD
    obtain ⟨ws_6, e_ws_6⟩ : ∃ z, z = ws ++ [(q_4, .inl (g.cB, n_5, .inl (fun _ => 0)))] := ⟨_, rfl⟩
    have hP : va_P (gD g) cl0 ws_6 H := by rw [e_ws_6]; exact hP
    have hD : va_D A ws_6 := by rw [e_ws_6]; exact hD
    have E_7 : gE ws ws_6 := by rw [e_ws_6]; exact gE_push
    have Fr_8 : gF [] [] S0 ws ws_6 := by rw [e_ws_6]; exact gF_push
    have fr_q_4 : frs ws_6 q_4 := by rw [e_ws_6]; exact frs_new hD9 hG.u
    have hG : Good g ws_6 := by rw [e_ws_6]; exact Good_pushI hD9 hG
    have a_q_4 : gI ws_6 q_4 g.cB n_5 := by rw [e_ws_6]; exact gS_new
    have s_q_4 : n_5 < 2147483648 := Nat.lt_of_le_of_lt bn_5 (by decide)
    have pp_9 := Fr_8.pp
    have hk_1 := get_oldE e_ws_6 hk_1
    have a_b0 := E_7.1 _ _ a_b0
    refine lv_astore_n (lv' := [(2, .ref q_4), (0, .ref b0), (1, .int x1)]) hx hb dJ7_copyOf_9075b_17 rfl hl (by decide) rfl (fun ls hl => ?_)
    refine lv_aload_n hx hb dJ7_copyOf_9075b_18 rfl (lv_at hl 1 rfl) ?_
    refine lv_iconst (v := 0) hx hb dJ7_copyOf_9075b_19 (by decide) ?_
    refine lv_aload_n hx hb dJ7_copyOf_9075b_20 rfl (lv_at hl 0 rfl) ?_
    refine lv_iconst (v := 0) hx hb dJ7_copyOf_9075b_21 (by decide) ?_
    refine lv_aload_n hx hb dJ7_copyOf_9075b_22 rfl (lv_at hl 1 rfl) ?_
    obtain ⟨z_10, ez_10⟩ : ∃ z : Int32, Int32.ofNat n_b0 = z := ⟨_, rfl⟩
    refine va_alen (v := z_10) hx hb hK hP k_1 0 hk_1 rfl ez_10 dJ7_copyOf_9075b_23 ?_
    refine lv_iload_n hx hb dJ7_copyOf_9075b_24 rfl (lv_at hl 2 rfl) ?_
    refine va_mmin hx hb (by rw [hml]; exact hl.1.symm) hown (hts _ kw_1742) (hts _ kw_1750) (hts _ kw_1748) (hts _ kw_1749) (Nat.le_of_ble_eq_true rfl) (Nat.le_of_ble_eq_true rfl) (show 0 + 1 ≤ (1) from (by have q_p0 := p0; have q_p1 := p1; have q_c_3 := i_ne c_3; have q_n_5 := i_nn en_5 zn_5; have q2_n_5 := bn_5; have q_z_2 := i_len ez_2 s_b0; have q_s_b0 := s_b0; have q_z_10 := i_len ez_10 s_b0; have g_x1 := i_rg x1; have g_z_10 := i_rg z_10; have g_z_2 := i_rg z_2; omega)) (show 0 + n_5 ≤ (x1.toInt.toNat) from (by have q_p0 := p0; have q_p1 := p1; have q_c_3 := i_ne c_3; have q_n_5 := i_nn en_5 zn_5; have q2_n_5 := bn_5; have q_z_2 := i_len ez_2 s_b0; have q_s_b0 := s_b0; have q_z_10 := i_len ez_10 s_b0; have g_x1 := i_rg x1; have g_z_10 := i_rg z_10; have g_z_2 := i_rg z_2; omega)) dJ7_copyOf_9075b_25 ?_
    refine lv_topi (fun z_11 ez_11 => ?_)
    obtain ⟨k_12, f_12, hk_12⟩ := gI_of a_q_4
    have hC9 : hol ws_6 q_4 [] := (hol_f fr_q_4)
    have hS9 : holS ws_6 q_4 S0 := holS_f fr_q_4
    refine va_copyi hx hb (by rw [hml]; exact hl.1.symm) hown (hts _ kw_1743) (hts _ kw_28) (hts _ kw_29) (hts _ kw_30) hK hP hD hS k_1 k_12 0 0 hk_1 hk_12 rfl rfl rfl (by decide) (by decide) (i_nl0 (by have q_z_11 := i_min ez_11; have q_p0 := p0; have q_p1 := p1; have q_c_3 := i_ne c_3; have q_n_5 := i_nn en_5 zn_5; have q_z_10 := i_len ez_10 s_b0; have q_s_b0 := s_b0; have q_z_2 := i_len ez_2 s_b0; have q2_n_5 := bn_5; have g_x1 := i_rg x1; have g_z_10 := i_rg z_10; have g_z_11 := i_rg z_11; have g_z_2 := i_rg z_2; omega)) (i_cp (by have e0 : (0 : Int32).toInt = 0 := (by decide); have q_s_b0 := s_b0; have q_z_2 := i_len ez_2 s_b0; have q_z_10 := i_len ez_10 s_b0; have q_z_11 := i_min ez_11; have q_p0 := p0; have q_p1 := p1; have q_c_3 := i_ne c_3; have q_n_5 := i_nn en_5 zn_5; have q2_n_5 := bn_5; have g_x1 := i_rg x1; have g_z_10 := i_rg z_10; have g_z_11 := i_rg z_11; have g_z_2 := i_rg z_2; omega)) (i_cp (by have e0 : (0 : Int32).toInt = 0 := (by decide); have q_n_5 := i_nn en_5 zn_5; have q2_n_5 := bn_5; have q_z_11 := i_min ez_11; have q_p0 := p0; have q_p1 := p1; have q_c_3 := i_ne c_3; have q_z_10 := i_len ez_10 s_b0; have q_s_b0 := s_b0; have q_z_2 := i_len ez_2 s_b0; have g_x1 := i_rg x1; have g_z_10 := i_rg z_10; have g_z_11 := i_rg z_11; have g_z_2 := i_rg z_2; omega)) (fun i _ => hG.2.2.1 _ _ _ _ hk_1 _) (Nat.le_of_ble_eq_true rfl) (Nat.le_of_ble_eq_true rfl) dJ7_copyOf_9075b_28 (fun H locs hP hD hS => ?_)
    obtain ⟨ws_13, e_ws_13⟩ : ∃ z, z = ws_6.set k_12 (q_4, .inl (g.cB, n_5, .inl (va_cpy f_1 f_12 (0 : Int32).toNatClampNeg (0 : Int32).toNatClampNeg (z_11 : Int32).toNatClampNeg))) := ⟨_, rfl⟩
    have hP : va_P (gD g) cl0 ws_13 H := by rw [e_ws_13]; exact hP
    have hD : va_D A ws_13 := by rw [e_ws_13]; exact hD
    have E_14 : gE ws_6 ws_13 := gE_ari e_ws_13 hk_12
    have hG : Good g ws_13 := Good_arC e_ws_13 hk_12 hG hk_1
    have Fr_15 : gF [] [] S0 ws_6 ws_13 := gF_ar e_ws_13 hk_12 rfl hC9 hS9
    have fr_q_4 := frs_ar e_ws_13 hk_12 fr_q_4
    have pp_16 := Fr_15.pp
    have a_b0 := E_14.1 _ _ a_b0
    have a_q_4 := E_14.1 _ _ a_q_4
    refine lv_aload_n hx hb dJ7_copyOf_9075b_31 rfl (lv_at hl 0 rfl) ?_
    refine W_led (fun hLd => ?_)
    have hcl : 0 + 1 + PC ws_13 ≤ PC ws + (1) := (by have q_p0 := p0; have q_p1 := p1; have q_c_3 := i_ne c_3; have q_n_5 := i_nn en_5 zn_5; have q2_n_5 := bn_5; have q_z_11 := i_min ez_11; have q_z_2 := i_len ez_2 s_b0; have q_z_10 := i_len ez_10 s_b0; have q_s_b0 := s_b0; have g_x1 := i_rg x1; have g_z_10 := i_rg z_10; have g_z_11 := i_rg z_11; have g_z_2 := i_rg z_2; omega)
    have hsl : 0 + n_5 + PS ws_13 ≤ PS ws + (x1.toInt.toNat) := (by have q_p0 := p0; have q_p1 := p1; have q_c_3 := i_ne c_3; have q_n_5 := i_nn en_5 zn_5; have q2_n_5 := bn_5; have q_z_11 := i_min ez_11; have q_z_2 := i_len ez_2 s_b0; have q_z_10 := i_len ez_10 s_b0; have q_s_b0 := s_b0; have g_x1 := i_rg x1; have g_z_10 := i_rg z_10; have g_z_11 := i_rg z_11; have g_z_2 := i_rg z_2; omega)
    refine W.widen (k := (1)) (n := (x1.toInt.toNat)) (by omega) (by omega) ?_
    exact W.aret (v := .ref q_4) hx hb hr (Or.inr ⟨_, rfl⟩) (Or.inr ⟨_, rfl⟩) (fun t9 ht9 hW9 => ⟨⟨some q_4, ws_13, rfl, ⟨_, _, rfl, a_q_4, s_q_4, fr_q_4, (by have q_p0 := p0; have q_p1 := p1; have q_c_3 := i_ne c_3; have q_n_5 := i_nn en_5 zn_5; have q2_n_5 := bn_5; have q_z_11 := i_min ez_11; have q_z_2 := i_len ez_2 s_b0; have q_z_10 := i_len ez_10 s_b0; have q_s_b0 := s_b0; have g_x1 := i_rg x1; have g_z_10 := i_rg z_10; have g_z_11 := i_rg z_11; have g_z_2 := i_rg z_2; omega)⟩, ⟨(E_7.tr E_14), (gF.tr Fr_8 Fr_15), hG, by rw [ht9]; exact hP, hD, _, _, by rw [ht9]; exact hLd, hcl, hsl⟩⟩, hS.F ht9⟩) hS.2.2 dJ7_copyOf_9075b_32
  · refine lv_aload_n hx hb dJ7_copyOf_9075b_6 rfl (lv_at hl 0 rfl) ?_
    refine va_clone hx hb (by rw [hml]; exact hl.1.symm) hown (hts _ kw_1782) (hts _ kw_1783) (hts _ kw_1784) (hts _ kw_1785) (hts _ kw_1786) (nw_of nn_castB hex) hK hP hD hS hA k_1 0 hk_1 rfl (va_nm_byte (hK.2 0 _ rfl).2) (va_fit (fun i _ => hG.2.2.1 _ _ _ _ hk_1 i)) (Nat.le_of_ble_eq_true rfl) (Nat.le_of_ble_eq_true rfl) (show 0 + 1 ≤ (1) from (by have e0 : (0 : Int32).toInt = 0 := (by decide); omega)) (show 0 + n_b0 ≤ (x1.toInt.toNat) from (by have e0 : (0 : Int32).toInt = 0 := (by decide); have q_s_b0 := s_b0; have q_p0 := p0; have q_p1 := p1; have q_z_2 := i_len ez_2 s_b0; have q_c_3 := i_eq c_3; have g_x1 := i_rg x1; have g_z_2 := i_rg z_2; omega)) dJ7_copyOf_9075b_7 (fun q_17 H hK9 hP hD hS => ?_)
    clear hK9
    have qn9 : n_b0 ≤ (x1 : Int32).toInt.toNat := (by have q_s_b0 := s_b0; have q_p0 := p0; have q_p1 := p1; have q_z_2 := i_len ez_2 s_b0; have q_c_3 := i_eq c_3; have g_x1 := i_rg x1; have g_z_2 := i_rg z_2; omega)
    have hD9 := hD
    obtain ⟨ws_18, e_ws_18⟩ : ∃ z, z = ws ++ [(q_17, .inl (g.cB, n_b0, .inl f_1))] := ⟨_, rfl⟩
    have hP : va_P (gD g) cl0 ws_18 H := by rw [e_ws_18]; exact hP
    have hD : va_D A ws_18 := by rw [e_ws_18]; exact hD
    have E_19 : gE ws ws_18 := by rw [e_ws_18]; exact gE_push
    have Fr_20 : gF [] [] S0 ws ws_18 := by rw [e_ws_18]; exact gF_push
    have fr_q_17 : frs ws_18 q_17 := by rw [e_ws_18]; exact frs_new hD9 hG.u
    have hf9 := hG.2.2.1 _ _ _ _ hk_1
    have hG : Good g ws_18 := by rw [e_ws_18]; exact Good_push hD9 hG (fun _ _ _ h => by cases h) (fun _ _ h => by cases h; exact hf9)
    have a_q_17 : gI ws_18 q_17 g.cB n_b0 := by rw [e_ws_18]; exact gS_new
    have s_q_17 := s_b0
    have hk_q_17 : iws ws_18 ws.length q_17 g.cB n_b0 f_1 := by rw [e_ws_18]; exact get_new
    have pp_21 := Fr_20.pp
    have hk_1 := get_oldE e_ws_18 hk_1
    have a_b0 := E_19.1 _ _ a_b0
    refine va_castA hx hb hown (hts _ kw_1787) hP ws.length hk_q_17 (va_nm_byte (hK.2 0 _ rfl).2) dJ7_copyOf_9075b_10 ?_
    refine W_led (fun hLd => ?_)
    have hcl : 0 + 1 + PC ws_18 ≤ PC ws + (1) := (by have q_s_b0 := s_b0; have q_z_2 := i_len ez_2 s_b0; have q_c_3 := i_eq c_3; have q_p0 := p0; have q_p1 := p1; have g_x1 := i_rg x1; have g_z_2 := i_rg z_2; omega)
    have hsl : 0 + n_b0 + PS ws_18 ≤ PS ws + (x1.toInt.toNat) := (by have q_s_b0 := s_b0; have q_z_2 := i_len ez_2 s_b0; have q_c_3 := i_eq c_3; have q_p0 := p0; have q_p1 := p1; have g_x1 := i_rg x1; have g_z_2 := i_rg z_2; omega)
    refine W.widen (k := (1)) (n := (x1.toInt.toNat)) (by omega) (by omega) ?_
    exact W.aret (v := .ref q_17) hx hb hr (Or.inr ⟨_, rfl⟩) (Or.inr ⟨_, rfl⟩) (fun t9 ht9 hW9 => ⟨⟨some q_17, ws_18, rfl, ⟨_, _, rfl, a_q_17, s_q_17, fr_q_17, (by have q_s_b0 := s_b0; have q_p0 := p0; have q_p1 := p1; have q_z_2 := i_len ez_2 s_b0; have q_c_3 := i_eq c_3; have g_x1 := i_rg x1; have g_z_2 := i_rg z_2; omega)⟩, ⟨E_19, Fr_20, hG, by rw [ht9]; exact hP, hD, _, _, by rw [ht9]; exact hLd, hcl, hsl⟩⟩, hS.F ht9⟩) hS.2.2 dJ7_copyOf_9075b_13
set_option maxHeartbeats 1000000 in
set_option maxRecDepth 100000 in
theorem m_X2_build (l : Launch) (g : Gm) (H0 : Heap) (ws : va_W) (h0 : Nat) (e9 : Int32) (hG : Good g ws) (o_h0 : gC ws h0 2) (f2_f : ∀ (k k2 b : Nat) (fs gs : List Value), ows ws k h0 2 fs → fs[0]? = some (.ref b) → ows ws k2 b 6 gs → ∀ c : Int32, gs[7]? = some (.int c) → ∀ d : Int32, gs[8]? = some (.int d) → ∀ e : Int32, gs[1]? = some (.int e) → 0 ≤ c.toInt ∧ c.toInt ≤ 24 ∧ 0 ≤ d.toInt ∧ d.toInt ≤ 24 ∧ e.toInt ≤ 131072) (f2_ge9 : ∀ (k k2 b : Nat) (fs gs : List Value), ows ws k h0 2 fs → fs[0]? = some (.ref b) → ows ws k2 b 6 gs → ∀ c : Int32, gs[1]? = some (.int c) → c.toInt = e9.toInt) : Met l yX2_build (wt yX2_build cX2_build 4 (some (.object "CodeFoundry$Unit"))) ({ frames := 4, cells := PC ws + (10), slots := PS ws + (210 + e9.toInt.toNat), locals := 89 }) (va_Pc [.ref h0] (st_H g H0 ws)) (va_Qq (fun (r : Option Nat) (u9 : va_W) => ∃ b, r = some b ∧ gC u9 b 9) (gQ2 g [(6, 12), (6, 13), (6, 14), (9, 0), (9, 1), (9, 2), (9, 3), (9, 4), (9, 5), (9, 6), (9, 7), (9, 8), (9, 9), (9, 10), (9, 11), (9, 12), (9, 13), (9, 16), (9, 17)] [(9, 5), (9, 6), (9, 7), (9, 9), (9, 10), (9, 11), (9, 12)] none (va_A ws H0.size) ws H0 (10) (210 + e9.toInt.toNat)) (va_A ws H0.size)) (PC ws + (10)) (PS ws + (210 + e9.toInt.toNat)) (va_A ws H0.size) := by
  refine Met.ofW (cc := cX2_build) (maxL := 4) (ret := (some (.object "CodeFoundry$Unit"))) (by decide) rfl ?_
  intro p e s m args below meth c s₁ B hml hv
  obtain ⟨rfl, hH0, hsz, hP, hK, hD0, hex, hE⟩ := hv
  have hx := B.exec
  have hb := B.bytes
  have hr := B.returns
  have hts0 := atoms_spec (ws := wt yX2_build cX2_build 4 (some (.object "CodeFoundry$Unit"))) B.pre
  have hts : ∀ w ∈ tb, w.before _ s = true := fun w h => hts0 w (List.mem_cons_of_mem _ h)
  have hown : s.vm.findClass RX2 = some m.cls := findClass_of_methodNamed B.named
  subst hH0
  have hD := hD0.self (sz := s.heap.size)
  generalize hAe : va_A ws s.heap.size = A at hD hE ⊢
  have hA : ∀ q : Nat, s.heap.size ≤ q → A q := fun q h => by rw [← hAe]; exact Or.inr h
  have hS : va_S A s.heap s.heap [] := va_S.rf
  have hl := lv_entry ([.ref h0]) (n := 4) (Nat.le_of_ble_eq_true rfl)
  rw [lg_entry_eq]
  generalize (lg_sl ([.ref h0]) ++ List.replicate (4 - (lg_sl ([.ref h0])).length) Slot.unset).toArray = ls at hl ⊢
  have hl : lv_has ls 4 [(0, .ref h0)] := hl
  obtain ⟨k_1, fs9, hk_1⟩ := gC_of o_h0
  obtain ⟨r0_1, c1_1, c2_1, c3_1, c4_1, c5_1, c6_1, r7_1, n7_1, c8_1, c9_1, l10_1, c11_1, rfl, o_r0_1, a_r7_1, f2_1, f3_1, f4_1, -⟩ := (hG.1 _ _ _ _ hk_1).hX2 rfl
  obtain ⟨k_2, fs9, hk_2⟩ := gC_of o_r0_1
  obtain ⟨r0_2, n0_2, c1_2, c2_2, c3_2, r4_2, n4_2, c5_2, c6_2, c7_2, c8_2, r9_2, n9_2, r10_2, n10_2, r11_2, n11_2, c12_2, c13_2, c14_2, c15_2, c16_2, rfl, a_r0_2, f1_2, a_r4_2, f3_2, a_r9_2, f5_2, a_r10_2, f7_2, a_r11_2, f9_2, f10_2, f11_2, f12_2, f13_2, f14_2, -⟩ := (hG.1 _ _ _ _ hk_2).hX7 rfl
  have fq2_f := f2_f _ _ _ _ _ hk_1 rfl hk_2 _ rfl _ rfl _ rfl
  have fq2_ge9 := f2_ge9 _ _ _ _ _ hk_1 rfl hk_2 _ rfl
  refine va_new (ci := 9) (fs := dfX10) (C := RX10) (T := TX10) (N := 18) hx hb hts inX10 tyX10 tyX10_ok hown (hts _ kw_640) (hts _ kw_641) (hts _ kw_34) hK hP hD hS hA rfl dfX10_ok (show 0 + 1 ≤ PC ws + (10) from (by have e0 : (0 : Int32).toInt = 0 := (by decide); omega)) (show 0 + 18 ≤ PS ws + (210 + e9.toInt.toNat) from (by have e0 : (0 : Int32).toInt = 0 := (by decide); omega)) dX2_build_0 (fun q_3 H hP9 hD9 hS => ?_)
  have hP := (P_split hP9).1
  have hD := (D_split hD9).1
  have hN : pend A g ws q_3 9 dfX10 H := ⟨(P_split hP9).2, (D_split hD9).2⟩
  clear hP9 hD9
  refine lv_dup hx hb dX2_build_3 rfl ?_
  refine lv_aload_n hx hb dX2_build_4 rfl (lv_at hl 0 rfl) ?_
  refine va_get (D := gD g) (ci := 2) (v := .ref r0_1) (C := RX2) (T := TX2) (N := 12) hx hb hts inX2 hown hK hP k_1 hk_1 rfl 0 (by decide) (hts _ kw_632) (fun _ h9 => h9) rfl dX2_build_5 ?_
  refine va_get (D := gD g) (ci := 6) (v := .ref r0_2) (C := RX7) (T := TX7) (N := 17) hx hb hts inX7 hown hK hP k_2 hk_2 rfl 0 (by decide) (hts _ kw_642) (fun _ h9 => h9) rfl dX2_build_8 ?_
  refine lv_aload_n hx hb dX2_build_11 rfl (lv_at hl 0 rfl) ?_
  refine va_get (D := gD g) (ci := 2) (v := .ref r0_1) (C := RX2) (T := TX2) (N := 12) hx hb hts inX2 hown hK hP k_1 hk_1 rfl 0 (by decide) (hts _ kw_632) (fun _ h9 => h9) rfl dX2_build_12 ?_
  refine va_get (D := gD g) (ci := 6) (v := .int c1_2) (C := RX7) (T := TX7) (N := 17) hx hb hts inX7 hown hK hP k_2 hk_2 rfl 1 (by decide) (hts _ kw_643) (fun _ h9 => h9) rfl dX2_build_15 ?_
  have hFc := gfree hD hS hA
  refine W_led (fun hL0 => ?_)
  refine va_callq (va_runS (As := [.ref r0_2, .int c1_2]) (rest := [.ref q_3, .ref q_3]) ⟨hx, hb, hml, hown, hts⟩ (m_J7_copyOf_9075b_x l g H ws r0_2 (n0_2) (c1_2) none hG a_r0_2 f1_2 (by have q_f10_2 := f10_2; have q_fq2_f := fq2_f; have q_fq2_ge9 := fq2_ge9; have g_c1_2 := i_rg c1_2; have g_c7_2 := i_rg c7_2; have g_c8_2 := i_rg c8_2; omega) (by have q_f10_2 := f10_2; have q_fq2_f := fq2_f; have q_fq2_ge9 := fq2_ge9; have g_c1_2 := i_rg c1_2; have g_c7_2 := i_rg c7_2; have g_c8_2 := i_rg c8_2; omega)) (va_cwS 2 hts (gd_S kw_644 kw_1741 kw_1723 kw_1740) rfl rfl rfl (by decide +kernel) ⟨Nat.le_of_ble_eq_true rfl, Nat.le_of_ble_eq_true rfl⟩) ⟨gblindH, fun U hU hW9 => gmkH hU hW9 hP hK hD hex hE hS hFc⟩ rfl rfl hl.1 rfl (lv_room (Nat.le_of_ble_eq_true rfl)) dX2_build_18 ⟨(show 0 + 1 + (1) ≤ PC ws + (10) from (by have e1 : (1 : Int32).toInt = 1 := (by decide); have q_f10_2 := f10_2; have q_fq2_f := fq2_f; have q_fq2_ge9 := fq2_ge9; have g_c1_2 := i_rg c1_2; have g_c7_2 := i_rg c7_2; have g_c8_2 := i_rg c8_2; omega)), (show 0 + 18 + (c1_2.toInt.toNat) ≤ PS ws + (210 + e9.toInt.toNat) from (by have e1 : (1 : Int32).toInt = 1 := (by decide); have q_f10_2 := f10_2; have q_fq2_f := fq2_f; have q_fq2_ge9 := fq2_ge9; have g_c1_2 := i_rg c1_2; have g_c7_2 := i_rg c7_2; have g_c8_2 := i_rg c8_2; omega))⟩) hS (fun q _ h => hFc q h) hFc (fun r_4 ws_5 t9 H1 locs ht9 hvm9 hw9 hB9 hz9 hk9 hS => ?_)
  obtain ⟨E_6, Fr_7, hG, hP1, hD1, dc_8, ds_9, hLd, hdc_8, hds_9⟩ := hB9
  rw [ht9] at hLd
  refine W_tight (hL0.tr hLd).1 (hL0.tr hLd).2.1 ?_
  clear hL0 hLd
  have hP : va_P (gD g) cl0 ws_5 H1 := by rw [← ht9]; exact hP1
  have hD : va_D A ws_5 := hD1.weaken (fun _ _ _ h => hFc _ h)
  have hN := pend_call hN hk9 hD1
  have o_r_4 := hw9
  clear hP1 hD1 hz9 hk9 hvm9 ht9 hw9
  generalize H1 = H at hP hS hN ⊢
  have aa_10 := a_r7_1
  have aa_11 := a_r0_2
  have aa_12 := a_r4_2
  have aa_13 := a_r9_2
  have aa_14 := a_r10_2
  have aa_15 := a_r11_2
  have o_h0 := E_6.1 _ _ o_h0
  obtain ⟨b_16, n_17, rfl, a_b_16, s_b_16, fr_b_16, h_b_16⟩ := o_r_4
  refine lv_aload_n hx hb dX2_build_21 rfl (lv_at hl 0 rfl) ?_
  obtain ⟨fs9, hk_18, hq_18⟩ := ((gF.a (F' := []) Fr_7 (fun _ h => h))) _ _ _ hk_1
  obtain ⟨r0_18, c1_18, c2_18, c3_18, c4_18, c5_18, c6_18, r7_18, n7_18, c8_18, c9_18, l10_18, c11_18, rfl, o_r0_18, a_r7_18, f2_18, f3_18, f4_18, -⟩ := (hG.1 _ _ _ _ hk_18).hX2 rfl
  obtain rfl := fe_r (hq_18 0 (by decide))
  have o_r0_1 := o_r0_18
  refine va_get (D := gD g) (ci := 2) (v := .ref r0_1) (C := RX2) (T := TX2) (N := 12) hx hb hts inX2 hown hK hP k_1 hk_18 rfl 0 (by decide) (hts _ kw_632) (fun _ h9 => h9) rfl dX2_build_22 ?_
  obtain ⟨fs9, hk_19, hq_19⟩ := ((gF.a (F' := []) Fr_7 (fun _ h => h))) _ _ _ hk_2
  obtain ⟨r0_19, n0_19, c1_19, c2_19, c3_19, r4_19, n4_19, c5_19, c6_19, c7_19, c8_19, r9_19, n9_19, r10_19, n10_19, r11_19, n11_19, c12_19, c13_19, c14_19, c15_19, c16_19, rfl, a_r0_19, f1_19, a_r4_19, f3_19, a_r9_19, f5_19, a_r10_19, f7_19, a_r11_19, f9_19, f10_19, f11_19, f12_19, f13_19, f14_19, -⟩ := (hG.1 _ _ _ _ hk_19).hX7 rfl
  obtain rfl := fe_r (hq_19 0 (by decide))
  have hn9 := gI_n hD ((E_6).1 _ _ aa_11) a_r0_19
  subst hn9
  have a_r0_2 := a_r0_19
  obtain rfl := fe_i (hq_19 1 (by decide))
  obtain rfl := fe_i (hq_19 5 (by decide))
  obtain rfl := fe_i (hq_19 6 (by decide))
  obtain rfl := fe_i (hq_19 7 (by decide))
  obtain rfl := fe_i (hq_19 8 (by decide))
  obtain rfl := fe_i (hq_19 12 (by decide))
  obtain rfl := fe_i (hq_19 14 (by decide))
  refine va_get (D := gD g) (ci := 6) (v := .int c7_2) (C := RX7) (T := TX7) (N := 17) hx hb hts inX7 hown hK hP k_2 hk_19 rfl 7 (by decide) (hts _ kw_645) (fun _ h9 => h9) rfl dX2_build_25 ?_
  refine lv_aload_n hx hb dX2_build_28 rfl (lv_at hl 0 rfl) ?_
  refine va_get (D := gD g) (ci := 2) (v := .ref r0_1) (C := RX2) (T := TX2) (N := 12) hx hb hts inX2 hown hK hP k_1 hk_18 rfl 0 (by decide) (hts _ kw_632) (fun _ h9 => h9) rfl dX2_build_29 ?_
  refine va_get (D := gD g) (ci := 6) (v := .int c8_2) (C := RX7) (T := TX7) (N := 17) hx hb hts inX7 hown hK hP k_2 hk_19 rfl 8 (by decide) (hts _ kw_646) (fun _ h9 => h9) rfl dX2_build_32 ?_
  have hP := va_P.app hP hN.1
  have hD0 := hD
  have hD := D_join (x := (q_3, .inr (9, dfX10))) hD hN.2.1 hN.2.2
  have hFc := gfree hD hS hA
  refine W_led (fun hL0 => ?_)
  refine va_callv (va_runI (As := [.ref b_16, .int c7_2, .int c8_2]) (rest := [.ref q_3]) ⟨hx, hb, hml, hown, hts⟩ (m_X10_init l g H (ws_5 ++ [(q_3, .inr (9, dfX10))]) ws_5.length q_3 b_16 (n_17) (c7_2) (c8_2) (hG.newX (by simp [dfX10]) rfl) get_new (gE_push.1 _ _ a_b_16) s_b_16 (frs_pushO (by simp [dfX10]) fr_b_16) (by have q_fq2_f := fq2_f; have q_f10_2 := f10_2; have q_fq2_ge9 := fq2_ge9; have q_b_16 := h_b_16; have q_s_b_16 := s_b_16; have g_c1_2 := i_rg c1_2; have g_c7_2 := i_rg c7_2; have g_c8_2 := i_rg c8_2; omega) (by have q_fq2_f := fq2_f; have q_f10_2 := f10_2; have q_fq2_ge9 := fq2_ge9; have q_b_16 := h_b_16; have q_s_b_16 := s_b_16; have g_c1_2 := i_rg c1_2; have g_c7_2 := i_rg c7_2; have g_c8_2 := i_rg c8_2; omega)) (cwI 3 hts (gd_I kw_44) rfl rfl rfl (hts _ kw_34) (hts _ kw_647) (hts _ kw_45) rfl (by decide +kernel) ⟨Nat.le_of_ble_eq_true rfl, Nat.le_of_ble_eq_true rfl⟩) ⟨gblindH, fun U hU hW9 => gmkH hU hW9 hP hK hD hex hE hS hFc⟩ rfl rfl hl.1 rfl (lv_room (Nat.le_of_ble_eq_true rfl)) dX2_build_35 ⟨(show 0 + 1 + dc_8 + (8) ≤ PC ws + (10) from (by have e8 : (8 : Int32).toInt = 8 := (by decide); have q_f10_2 := f10_2; have q_fq2_f := fq2_f; have q_fq2_ge9 := fq2_ge9; have q_b_16 := h_b_16; have q_s_b_16 := s_b_16; have g_c1_2 := i_rg c1_2; have g_c7_2 := i_rg c7_2; have g_c8_2 := i_rg c8_2; omega)), (show 0 + 18 + ds_9 + (3 * c7_2.toInt.toNat + 5 * c8_2.toInt.toNat) ≤ PS ws + (210 + e9.toInt.toNat) from (by have e8 : (8 : Int32).toInt = 8 := (by decide); have q_f10_2 := f10_2; have q_fq2_f := fq2_f; have q_fq2_ge9 := fq2_ge9; have q_b_16 := h_b_16; have q_s_b_16 := s_b_16; have g_c1_2 := i_rg c1_2; have g_c7_2 := i_rg c7_2; have g_c8_2 := i_rg c8_2; omega))⟩) hS (fun q _ h => hFc q h) hFc (fun  ws_20 t9 H1 locs ht9 hvm9 hw9 hB9 hz9 hk9 hS => ?_)
  obtain ⟨E9, gx9, pm9, hG, hP1, hD1, dc_23, ds_24, hLd, hdc_23, hds_24⟩ := hB9
  have px9 : pM ws_5 (ws_5 ++ [(q_3, .inr (9, dfX10))]) := pM_ob (by intro j h; simp [pK] at h)
  have E_21 : gE ws_5 ws_20 := gE_push.tr E9
  have Fr_22 : gF [] [] none ws_5 ws_20 := gF_new gx9 pm9 px9
  have pq9 := px9.pp
  have hdc_23 : dc_23 + PC ws_20 ≤ PC ws_5 + (8) := by omega
  have hds_24 : ds_24 + PS ws_20 ≤ PS ws_5 + (3 * c7_2.toInt.toNat + 5 * c8_2.toInt.toNat) := by omega
  rw [ht9] at hLd
  refine W_tight (hL0.tr hLd).1 (hL0.tr hLd).2.1 ?_
  clear hL0 hLd pq9
  have hP : va_P (gD g) cl0 ws_20 H1 := by rw [← ht9]; exact hP1
  have hD : va_D A ws_20 := hD1.weaken (fun _ _ _ h => hFc _ h)
  have o_q_3 : gC ws_20 q_3 9 := E9.1 _ _ gS_new
  clear hP1 hD1 hD0 hN E9 gx9 pm9 px9 hz9 hk9 hvm9 ht9 hw9
  generalize H1 = H at hP hS ⊢
  have aa_25 := a_r7_18
  have aa_26 := a_r0_2
  have aa_27 := a_r4_19
  have aa_28 := a_r9_19
  have aa_29 := a_r10_19
  have aa_30 := a_r11_19
  have o_h0 := E_21.1 _ _ o_h0
  refine lv_astore_n (lv' := [(1, .ref q_3), (0, .ref h0)]) hx hb dX2_build_38 rfl hl (by decide) rfl (fun ls hl => ?_)
  refine lv_aload_n hx hb dX2_build_39 rfl (lv_at hl 0 rfl) ?_
  refine lv_aload_n hx hb dX2_build_40 rfl (lv_at hl 1 rfl) ?_
  obtain ⟨fs9, hk_31, hq_31⟩ := ((gF.a (F' := []) Fr_22 (fun _ h => h))) _ _ _ hk_18
  obtain ⟨r0_31, c1_31, c2_31, c3_31, c4_31, c5_31, c6_31, r7_31, n7_31, c8_31, c9_31, l10_31, c11_31, rfl, o_r0_31, a_r7_31, f2_31, f3_31, f4_31, -⟩ := (hG.1 _ _ _ _ hk_31).hX2 rfl
  obtain rfl := fe_r (hq_31 0 (by decide))
  have o_r0_1 := o_r0_31
  refine va_get (D := gD g) (ci := 2) (v := .ref r0_1) (C := RX2) (T := TX2) (N := 12) hx hb hts inX2 hown hK hP k_1 hk_31 rfl 0 (by decide) (hts _ kw_632) (fun _ h9 => h9) rfl dX2_build_41 ?_
  obtain ⟨fs9, hk_32, hq_32⟩ := ((gF.a (F' := []) Fr_22 (fun _ h => h))) _ _ _ hk_19
  obtain ⟨r0_32, n0_32, c1_32, c2_32, c3_32, r4_32, n4_32, c5_32, c6_32, c7_32, c8_32, r9_32, n9_32, r10_32, n10_32, r11_32, n11_32, c12_32, c13_32, c14_32, c15_32, c16_32, rfl, a_r0_32, f1_32, a_r4_32, f3_32, a_r9_32, f5_32, a_r10_32, f7_32, a_r11_32, f9_32, f10_32, f11_32, f12_32, f13_32, f14_32, -⟩ := (hG.1 _ _ _ _ hk_32).hX7 rfl
  obtain rfl := fe_r (hq_32 0 (by decide))
  have hn9 := gI_n hD ((E_21).1 _ _ aa_26) a_r0_32
  subst hn9
  have a_r0_2 := a_r0_32
  obtain rfl := fe_i (hq_32 1 (by decide))
  obtain rfl := fe_i (hq_32 5 (by decide))
  obtain rfl := fe_i (hq_32 6 (by decide))
  obtain rfl := fe_i (hq_32 7 (by decide))
  obtain rfl := fe_i (hq_32 8 (by decide))
  obtain rfl := fe_i (hq_32 12 (by decide))
  obtain rfl := fe_i (hq_32 14 (by decide))
  refine va_get (D := gD g) (ci := 6) (v := .int c5_2) (C := RX7) (T := TX7) (N := 17) hx hb hts inX7 hown hK hP k_2 hk_32 rfl 5 (by decide) (hts _ kw_648) (fun _ h9 => h9) rfl dX2_build_44 ?_
  obtain ⟨k_33, fs9, hk_33⟩ := gC_of o_q_3
  obtain ⟨r0_33, n0_33, c1_33, c2_33, c3_33, c4_33, r5_33, n5_33, r6_33, n6_33, r7_33, n7_33, c8_33, r9_33, n9_33, r10_33, n10_33, r11_33, n11_33, r12_33, n12_33, r13_33, n13_33, c14_33, c15_33, c16_33, c17_33, rfl, a_r0_33, f1_33, a_r5_33, f3_33, a_r6_33, f5_33, a_r7_33, f7_33, a_r9_33, f9_33, a_r10_33, f11_33, a_r11_33, f13_33, a_r12_33, f15_33, a_r13_33, f17_33, hz_c15_33, f19_33, f20_33, f21_33, f22_33, f23_33, f24_33, f25_33, f26_33, f27_33, f28_33, -⟩ := (hG.1 _ _ _ _ hk_33).hX10 rfl
  have hV9 : okv ws_20 9 1 (.int c5_2) := okv_i
  refine va_put (D := gD g) (ci := 9) (v := .int c5_2) (ty := .int) (C := RX10) (T := TX10) (N := 18) hx hb hts inX10 tyX10 tyX10_ok nmX10 hown hK hP hD hS k_33 hk_33 rfl 1 (by decide) (hts _ kw_649) (fun _ h9 => h9) rfl (by decide +kernel) rfl rfl (Nat.le_of_ble_eq_true rfl) dX2_build_47 (fun H locs hP hD hS => ?_)
  have hi_34 : invX10 g ws_20 q_3 [.ref r0_33, .int c5_2, .int c2_33, .int c3_33, .int c4_33, .ref r5_33, .ref r6_33, .ref r7_33, .int c8_33, .ref r9_33, .ref r10_33, .ref r11_33, .ref r12_33, .ref r13_33, .int c14_33, .int c15_33, .int c16_33, .int c17_33] := ⟨r0_33, (n0_33), (c5_2), (c2_33), (c3_33), (c4_33), r5_33, (n5_33), r6_33, (n6_33), r7_33, (n7_33), (c8_33), r9_33, (n9_33), r10_33, (n10_33), r11_33, (n11_33), r12_33, (n12_33), r13_33, (n13_33), (c14_33), (c15_33), (c16_33), (c17_33), rfl, a_r0_33, f1_33, a_r5_33, f3_33, a_r6_33, f5_33, a_r7_33, f7_33, a_r9_33, f9_33, a_r10_33, f11_33, a_r11_33, f13_33, a_r12_33, f15_33, a_r13_33, f17_33, hz_c15_33, f19_33, f20_33, f21_33, f22_33, f23_33, f24_33, f25_33, f26_33, f27_33, f28_33, trivial⟩
  obtain ⟨ws_35, e_ws_35⟩ : ∃ z, z = ws_20.set k_33 (q_3, .inr (9, [.ref r0_33, .int c5_2, .int c2_33, .int c3_33, .int c4_33, .ref r5_33, .ref r6_33, .ref r7_33, .int c8_33, .ref r9_33, .ref r10_33, .ref r11_33, .ref r12_33, .ref r13_33, .int c14_33, .int c15_33, .int c16_33, .int c17_33])) := ⟨_, rfl⟩
  have hP : va_P (gD g) cl0 ws_35 H := by rw [e_ws_35]; exact hP
  have hD : va_D A ws_35 := by rw [e_ws_35]; exact hD
  have E_36 : gE ws_20 ws_35 := gE_set e_ws_35 hk_33 (cw_o (fi := 1) (v := .int c5_2) rfl (by decide))
  have hG : Good g ws_35 := Good_set (fi := 1) (v := .int c5_2) e_ws_35 hk_33 E_36 rfl hV9 hG (ivX10 hi_34)
  have Fr_37 : gF [(9, 1)] [] (some q_3) ws_20 ws_35 := gF_put (fi := 1) (v := .int c5_2) e_ws_35 hk_33 rfl (by decide)
  have pp_38 := Fr_37.pp
  have hkN := gset_self e_ws_35 hk_33
  have hk_31 := gset_ob e_ws_35 hk_33 hk_31 (by decide)
  have hk_32 := gset_ob e_ws_35 hk_33 hk_32 (by decide)
  have hk_33 := hkN
  have o_h0 := E_36.1 _ _ o_h0
  have o_q_3 := E_36.1 _ _ o_q_3
  have a_r7_31 := E_36.1 _ _ a_r7_31
  have o_r0_1 := E_36.1 _ _ o_r0_1
  have a_r4_32 := E_36.1 _ _ a_r4_32
  have a_r9_32 := E_36.1 _ _ a_r9_32
  have a_r10_32 := E_36.1 _ _ a_r10_32
  have a_r11_32 := E_36.1 _ _ a_r11_32
  have a_r0_2 := E_36.1 _ _ a_r0_2
  have a_r0_33 := E_36.1 _ _ a_r0_33
  have a_r5_33 := E_36.1 _ _ a_r5_33
  have a_r6_33 := E_36.1 _ _ a_r6_33
  have a_r7_33 := E_36.1 _ _ a_r7_33
  have a_r9_33 := E_36.1 _ _ a_r9_33
  have a_r10_33 := E_36.1 _ _ a_r10_33
  have a_r11_33 := E_36.1 _ _ a_r11_33
  have a_r12_33 := E_36.1 _ _ a_r12_33
  have a_r13_33 := E_36.1 _ _ a_r13_33
  refine lv_aload_n hx hb dX2_build_50 rfl (lv_at hl 0 rfl) ?_
  refine lv_aload_n hx hb dX2_build_51 rfl (lv_at hl 1 rfl) ?_
  refine va_get (D := gD g) (ci := 2) (v := .ref r0_1) (C := RX2) (T := TX2) (N := 12) hx hb hts inX2 hown hK hP k_1 hk_31 rfl 0 (by decide) (hts _ kw_632) (fun _ h9 => h9) rfl dX2_build_52 ?_
  refine lv_aload_n hx hb dX2_build_55 rfl (lv_at hl 1 rfl) ?_
  refine va_get (D := gD g) (ci := 2) (v := .ref r0_1) (C := RX2) (T := TX2) (N := 12) hx hb hts inX2 hown hK hP k_1 hk_31 rfl 0 (by decide) (hts _ kw_632) (fun _ h9 => h9) rfl dX2_build_56 ?_
  refine lv_aload_n hx hb dX2_build_59 rfl (lv_at hl 1 rfl) ?_
  refine va_get (D := gD g) (ci := 2) (v := .ref r0_1) (C := RX2) (T := TX2) (N := 12) hx hb hts inX2 hown hK hP k_1 hk_31 rfl 0 (by decide) (hts _ kw_632) (fun _ h9 => h9) rfl dX2_build_60 ?_
  refine lv_aload_n hx hb dX2_build_63 rfl (lv_at hl 1 rfl) ?_
  refine va_get (D := gD g) (ci := 2) (v := .ref r0_1) (C := RX2) (T := TX2) (N := 12) hx hb hts inX2 hown hK hP k_1 hk_31 rfl 0 (by decide) (hts _ kw_632) (fun _ h9 => h9) rfl dX2_build_64 ?_
  refine va_get (D := gD g) (ci := 6) (v := .int c6_2) (C := RX7) (T := TX7) (N := 17) hx hb hts inX7 hown hK hP k_2 hk_32 rfl 6 (by decide) (hts _ kw_650) (fun _ h9 => h9) rfl dX2_build_67 ?_
  refine lv_iconst (v := 2) hx hb dX2_build_70 (by decide) ?_
  refine lv_iadd hx hb dX2_build_71 ?_
  refine lv_topi (fun z_39 ez_39 => ?_)
  have hFc := gfree hD hS hA
  refine va_calli (va_runV (As := [.int z_39]) (rest := [.ref r0_1, .ref r0_1, .ref q_3]) ⟨hx, hb, hml, hown, hts⟩ (m_X7_u2 l g H.size ws_35 r0_1 (z_39) hG o_r0_1) (cwV 1 hts (gd_V kw_651 kw_1450 kw_1451 kw_710 kw_1449) rfl rfl rfl (by decide +kernel) ⟨Nat.le_of_ble_eq_true rfl, Nat.le_of_ble_eq_true rfl⟩) ⟨gblind, va_recv hK hP (ci := 6) (q0 := k_2) rfl hk_32, fun U hU hW9 => gmk hU hW9 hP hK hD hex hE hS hFc⟩ rfl rfl hl.1 rfl (lv_room (Nat.le_of_ble_eq_true rfl)) dX2_build_72 ⟨(show 0 + 1 + dc_8 + dc_23 + 0 ≤ PC ws + (10) from (by have q_f10_2 := f10_2; have q_fq2_f := fq2_f; have q_fq2_ge9 := fq2_ge9; have q_b_16 := h_b_16; have q_s_b_16 := s_b_16; have g_c1_2 := i_rg c1_2; have g_c7_2 := i_rg c7_2; have g_c8_2 := i_rg c8_2; omega)), (show 0 + 18 + ds_9 + ds_24 + 0 ≤ PS ws + (210 + e9.toInt.toNat) from (by have q_f10_2 := f10_2; have q_fq2_f := fq2_f; have q_fq2_ge9 := fq2_ge9; have q_b_16 := h_b_16; have q_s_b_16 := s_b_16; have g_c1_2 := i_rg c1_2; have g_c7_2 := i_rg c7_2; have g_c8_2 := i_rg c8_2; omega))⟩) hS (fun q _ h => hFc q h) hFc (fun r_40 u9 t9 H1 locs ht9 hvm9 hw9 hB9 hz9 hk9 hS => ?_)
  have hP : va_P (gD g) cl0 ws_35 H1 := by rw [← ht9]; exact hB9.1
  have h_r_40 := hw9
  clear hB9 hz9 hk9 hvm9 ht9 hw9
  generalize H1 = H at hP hS ⊢
  have hFc := gfree hD hS hA
  refine va_calli (va_runV (As := [.int r_40]) (rest := [.ref r0_1, .ref q_3]) ⟨hx, hb, hml, hown, hts⟩ (m_X7_firstOf l g H.size ws_35 r0_1 (r_40) hG o_r0_1) (cwV 1 hts (gd_V kw_652 kw_1326 kw_1327 kw_710 kw_1325) rfl rfl rfl (by decide +kernel) ⟨Nat.le_of_ble_eq_true rfl, Nat.le_of_ble_eq_true rfl⟩) ⟨gblind, va_recv hK hP (ci := 6) (q0 := k_2) rfl hk_32, fun U hU hW9 => gmk hU hW9 hP hK hD hex hE hS hFc⟩ rfl rfl hl.1 rfl (lv_room (Nat.le_of_ble_eq_true rfl)) dX2_build_75 ⟨(show 0 + 1 + dc_8 + dc_23 + 0 ≤ PC ws + (10) from (by have q_f10_2 := f10_2; have q_fq2_f := fq2_f; have q_fq2_ge9 := fq2_ge9; have q_b_16 := h_b_16; have q_s_b_16 := s_b_16; have g_c1_2 := i_rg c1_2; have g_c7_2 := i_rg c7_2; have g_c8_2 := i_rg c8_2; omega)), (show 0 + 18 + ds_9 + ds_24 + 0 ≤ PS ws + (210 + e9.toInt.toNat) from (by have q_f10_2 := f10_2; have q_fq2_f := fq2_f; have q_fq2_ge9 := fq2_ge9; have q_b_16 := h_b_16; have q_s_b_16 := s_b_16; have g_c1_2 := i_rg c1_2; have g_c7_2 := i_rg c7_2; have g_c8_2 := i_rg c8_2; omega))⟩) hS (fun q _ h => hFc q h) hFc (fun r_41 u9 t9 H1 locs ht9 hvm9 hw9 hB9 hz9 hk9 hS => ?_)
  have hP : va_P (gD g) cl0 ws_35 H1 := by rw [← ht9]; exact hB9.1
  have h_r_41 := hw9
  clear hB9 hz9 hk9 hvm9 ht9 hw9
  generalize H1 = H at hP hS ⊢
  have hFc := gfree hD hS hA
  refine va_calli (va_runV (As := [.int r_41]) (rest := [.ref q_3]) ⟨hx, hb, hml, hown, hts⟩ (m_X7_entryAt l g H.size ws_35 r0_1 (r_41) hG o_r0_1) (cwV 1 hts (gd_V kw_633 kw_1298 kw_1299 kw_710 kw_1297) rfl rfl rfl (by decide +kernel) ⟨Nat.le_of_ble_eq_true rfl, Nat.le_of_ble_eq_true rfl⟩) ⟨gblind, va_recv hK hP (ci := 6) (q0 := k_2) rfl hk_32, fun U hU hW9 => gmk hU hW9 hP hK hD hex hE hS hFc⟩ rfl rfl hl.1 rfl (lv_room (Nat.le_of_ble_eq_true rfl)) dX2_build_78 ⟨(show 0 + 1 + dc_8 + dc_23 + 0 ≤ PC ws + (10) from (by have q_f10_2 := f10_2; have q_fq2_f := fq2_f; have q_fq2_ge9 := fq2_ge9; have q_b_16 := h_b_16; have q_s_b_16 := s_b_16; have g_c1_2 := i_rg c1_2; have g_c7_2 := i_rg c7_2; have g_c8_2 := i_rg c8_2; omega)), (show 0 + 18 + ds_9 + ds_24 + 0 ≤ PS ws + (210 + e9.toInt.toNat) from (by have q_f10_2 := f10_2; have q_fq2_f := fq2_f; have q_fq2_ge9 := fq2_ge9; have q_b_16 := h_b_16; have q_s_b_16 := s_b_16; have g_c1_2 := i_rg c1_2; have g_c7_2 := i_rg c7_2; have g_c8_2 := i_rg c8_2; omega))⟩) hS (fun q _ h => hFc q h) hFc (fun r_42 u9 t9 H1 locs ht9 hvm9 hw9 hB9 hz9 hk9 hS => ?_)
  have hP : va_P (gD g) cl0 ws_35 H1 := by rw [← ht9]; exact hB9.1
  clear hB9 hz9 hk9 hvm9 ht9 hw9
  generalize H1 = H at hP hS ⊢
  have hV9 : okv ws_35 9 2 (.int r_42) := okv_i
  refine va_put (D := gD g) (ci := 9) (v := .int r_42) (ty := .int) (C := RX10) (T := TX10) (N := 18) hx hb hts inX10 tyX10 tyX10_ok nmX10 hown hK hP hD hS k_33 hk_33 rfl 2 (by decide) (hts _ kw_653) (fun _ h9 => h9) rfl (by decide +kernel) rfl rfl (Nat.le_of_ble_eq_true rfl) dX2_build_81 (fun H locs hP hD hS => ?_)
  have hi_43 : invX10 g ws_35 q_3 [.ref r0_33, .int c5_2, .int r_42, .int c3_33, .int c4_33, .ref r5_33, .ref r6_33, .ref r7_33, .int c8_33, .ref r9_33, .ref r10_33, .ref r11_33, .ref r12_33, .ref r13_33, .int c14_33, .int c15_33, .int c16_33, .int c17_33] := ⟨r0_33, (n0_33), (c5_2), (r_42), (c3_33), (c4_33), r5_33, (n5_33), r6_33, (n6_33), r7_33, (n7_33), (c8_33), r9_33, (n9_33), r10_33, (n10_33), r11_33, (n11_33), r12_33, (n12_33), r13_33, (n13_33), (c14_33), (c15_33), (c16_33), (c17_33), rfl, a_r0_33, f1_33, a_r5_33, f3_33, a_r6_33, f5_33, a_r7_33, f7_33, a_r9_33, f9_33, a_r10_33, f11_33, a_r11_33, f13_33, a_r12_33, f15_33, a_r13_33, f17_33, hz_c15_33, f19_33, f20_33, f21_33, f22_33, f23_33, f24_33, f25_33, f26_33, f27_33, f28_33, trivial⟩
  obtain ⟨ws_44, e_ws_44⟩ : ∃ z, z = ws_35.set k_33 (q_3, .inr (9, [.ref r0_33, .int c5_2, .int r_42, .int c3_33, .int c4_33, .ref r5_33, .ref r6_33, .ref r7_33, .int c8_33, .ref r9_33, .ref r10_33, .ref r11_33, .ref r12_33, .ref r13_33, .int c14_33, .int c15_33, .int c16_33, .int c17_33])) := ⟨_, rfl⟩
  have hP : va_P (gD g) cl0 ws_44 H := by rw [e_ws_44]; exact hP
  have hD : va_D A ws_44 := by rw [e_ws_44]; exact hD
  have E_45 : gE ws_35 ws_44 := gE_set e_ws_44 hk_33 (cw_o (fi := 2) (v := .int r_42) rfl (by decide))
  have hG : Good g ws_44 := Good_set (fi := 2) (v := .int r_42) e_ws_44 hk_33 E_45 rfl hV9 hG (ivX10 hi_43)
  have Fr_46 : gF [(9, 2)] [] (some q_3) ws_35 ws_44 := gF_put (fi := 2) (v := .int r_42) e_ws_44 hk_33 rfl (by decide)
  have pp_47 := Fr_46.pp
  have hkN := gset_self e_ws_44 hk_33
  have hk_31 := gset_ob e_ws_44 hk_33 hk_31 (by decide)
  have hk_32 := gset_ob e_ws_44 hk_33 hk_32 (by decide)
  have hk_33 := hkN
  have o_h0 := E_45.1 _ _ o_h0
  have o_q_3 := E_45.1 _ _ o_q_3
  have a_r7_31 := E_45.1 _ _ a_r7_31
  have o_r0_1 := E_45.1 _ _ o_r0_1
  have a_r4_32 := E_45.1 _ _ a_r4_32
  have a_r9_32 := E_45.1 _ _ a_r9_32
  have a_r10_32 := E_45.1 _ _ a_r10_32
  have a_r11_32 := E_45.1 _ _ a_r11_32
  have a_r0_2 := E_45.1 _ _ a_r0_2
  have a_r0_33 := E_45.1 _ _ a_r0_33
  have a_r5_33 := E_45.1 _ _ a_r5_33
  have a_r6_33 := E_45.1 _ _ a_r6_33
  have a_r7_33 := E_45.1 _ _ a_r7_33
  have a_r9_33 := E_45.1 _ _ a_r9_33
  have a_r10_33 := E_45.1 _ _ a_r10_33
  have a_r11_33 := E_45.1 _ _ a_r11_33
  have a_r12_33 := E_45.1 _ _ a_r12_33
  have a_r13_33 := E_45.1 _ _ a_r13_33
  refine lv_aload_n hx hb dX2_build_84 rfl (lv_at hl 0 rfl) ?_
  refine lv_aload_n hx hb dX2_build_85 rfl (lv_at hl 1 rfl) ?_
  refine va_get (D := gD g) (ci := 2) (v := .ref r0_1) (C := RX2) (T := TX2) (N := 12) hx hb hts inX2 hown hK hP k_1 hk_31 rfl 0 (by decide) (hts _ kw_632) (fun _ h9 => h9) rfl dX2_build_86 ?_
  refine lv_aload_n hx hb dX2_build_89 rfl (lv_at hl 1 rfl) ?_
  refine va_get (D := gD g) (ci := 2) (v := .ref r0_1) (C := RX2) (T := TX2) (N := 12) hx hb hts inX2 hown hK hP k_1 hk_31 rfl 0 (by decide) (hts _ kw_632) (fun _ h9 => h9) rfl dX2_build_90 ?_
  refine lv_aload_n hx hb dX2_build_93 rfl (lv_at hl 1 rfl) ?_
  refine va_get (D := gD g) (ci := 2) (v := .ref r0_1) (C := RX2) (T := TX2) (N := 12) hx hb hts inX2 hown hK hP k_1 hk_31 rfl 0 (by decide) (hts _ kw_632) (fun _ h9 => h9) rfl dX2_build_94 ?_
  refine lv_aload_n hx hb dX2_build_97 rfl (lv_at hl 1 rfl) ?_
  refine va_get (D := gD g) (ci := 2) (v := .ref r0_1) (C := RX2) (T := TX2) (N := 12) hx hb hts inX2 hown hK hP k_1 hk_31 rfl 0 (by decide) (hts _ kw_632) (fun _ h9 => h9) rfl dX2_build_98 ?_
  refine va_get (D := gD g) (ci := 6) (v := .int c6_2) (C := RX7) (T := TX7) (N := 17) hx hb hts inX7 hown hK hP k_2 hk_32 rfl 6 (by decide) (hts _ kw_650) (fun _ h9 => h9) rfl dX2_build_101 ?_
  refine lv_iconst (v := 4) hx hb dX2_build_104 (by decide) ?_
  refine lv_iadd hx hb dX2_build_105 ?_
  refine lv_topi (fun z_48 ez_48 => ?_)
  have hFc := gfree hD hS hA
  refine va_calli (va_runV (As := [.int z_48]) (rest := [.ref r0_1, .ref r0_1, .ref q_3]) ⟨hx, hb, hml, hown, hts⟩ (m_X7_u2 l g H.size ws_44 r0_1 (z_48) hG o_r0_1) (cwV 1 hts (gd_V kw_651 kw_1450 kw_1451 kw_710 kw_1449) rfl rfl rfl (by decide +kernel) ⟨Nat.le_of_ble_eq_true rfl, Nat.le_of_ble_eq_true rfl⟩) ⟨gblind, va_recv hK hP (ci := 6) (q0 := k_2) rfl hk_32, fun U hU hW9 => gmk hU hW9 hP hK hD hex hE hS hFc⟩ rfl rfl hl.1 rfl (lv_room (Nat.le_of_ble_eq_true rfl)) dX2_build_106 ⟨(show 0 + 1 + dc_8 + dc_23 + 0 ≤ PC ws + (10) from (by have q_f10_2 := f10_2; have q_fq2_f := fq2_f; have q_fq2_ge9 := fq2_ge9; have q_b_16 := h_b_16; have q_s_b_16 := s_b_16; have g_c1_2 := i_rg c1_2; have g_c7_2 := i_rg c7_2; have g_c8_2 := i_rg c8_2; omega)), (show 0 + 18 + ds_9 + ds_24 + 0 ≤ PS ws + (210 + e9.toInt.toNat) from (by have q_f10_2 := f10_2; have q_fq2_f := fq2_f; have q_fq2_ge9 := fq2_ge9; have q_b_16 := h_b_16; have q_s_b_16 := s_b_16; have g_c1_2 := i_rg c1_2; have g_c7_2 := i_rg c7_2; have g_c8_2 := i_rg c8_2; omega))⟩) hS (fun q _ h => hFc q h) hFc (fun r_49 u9 t9 H1 locs ht9 hvm9 hw9 hB9 hz9 hk9 hS => ?_)
  have hP : va_P (gD g) cl0 ws_44 H1 := by rw [← ht9]; exact hB9.1
  have h_r_49 := hw9
  clear hB9 hz9 hk9 hvm9 ht9 hw9
  generalize H1 = H at hP hS ⊢
  have hFc := gfree hD hS hA
  refine va_calli (va_runV (As := [.int r_49]) (rest := [.ref r0_1, .ref q_3]) ⟨hx, hb, hml, hown, hts⟩ (m_X7_firstOf l g H.size ws_44 r0_1 (r_49) hG o_r0_1) (cwV 1 hts (gd_V kw_652 kw_1326 kw_1327 kw_710 kw_1325) rfl rfl rfl (by decide +kernel) ⟨Nat.le_of_ble_eq_true rfl, Nat.le_of_ble_eq_true rfl⟩) ⟨gblind, va_recv hK hP (ci := 6) (q0 := k_2) rfl hk_32, fun U hU hW9 => gmk hU hW9 hP hK hD hex hE hS hFc⟩ rfl rfl hl.1 rfl (lv_room (Nat.le_of_ble_eq_true rfl)) dX2_build_109 ⟨(show 0 + 1 + dc_8 + dc_23 + 0 ≤ PC ws + (10) from (by have q_f10_2 := f10_2; have q_fq2_f := fq2_f; have q_fq2_ge9 := fq2_ge9; have q_b_16 := h_b_16; have q_s_b_16 := s_b_16; have g_c1_2 := i_rg c1_2; have g_c7_2 := i_rg c7_2; have g_c8_2 := i_rg c8_2; omega)), (show 0 + 18 + ds_9 + ds_24 + 0 ≤ PS ws + (210 + e9.toInt.toNat) from (by have q_f10_2 := f10_2; have q_fq2_f := fq2_f; have q_fq2_ge9 := fq2_ge9; have q_b_16 := h_b_16; have q_s_b_16 := s_b_16; have g_c1_2 := i_rg c1_2; have g_c7_2 := i_rg c7_2; have g_c8_2 := i_rg c8_2; omega))⟩) hS (fun q _ h => hFc q h) hFc (fun r_50 u9 t9 H1 locs ht9 hvm9 hw9 hB9 hz9 hk9 hS => ?_)
  have hP : va_P (gD g) cl0 ws_44 H1 := by rw [← ht9]; exact hB9.1
  have h_r_50 := hw9
  clear hB9 hz9 hk9 hvm9 ht9 hw9
  generalize H1 = H at hP hS ⊢
  have hFc := gfree hD hS hA
  refine va_calli (va_runV (As := [.int r_50]) (rest := [.ref q_3]) ⟨hx, hb, hml, hown, hts⟩ (m_X7_entryAt l g H.size ws_44 r0_1 (r_50) hG o_r0_1) (cwV 1 hts (gd_V kw_633 kw_1298 kw_1299 kw_710 kw_1297) rfl rfl rfl (by decide +kernel) ⟨Nat.le_of_ble_eq_true rfl, Nat.le_of_ble_eq_true rfl⟩) ⟨gblind, va_recv hK hP (ci := 6) (q0 := k_2) rfl hk_32, fun U hU hW9 => gmk hU hW9 hP hK hD hex hE hS hFc⟩ rfl rfl hl.1 rfl (lv_room (Nat.le_of_ble_eq_true rfl)) dX2_build_112 ⟨(show 0 + 1 + dc_8 + dc_23 + 0 ≤ PC ws + (10) from (by have q_f10_2 := f10_2; have q_fq2_f := fq2_f; have q_fq2_ge9 := fq2_ge9; have q_b_16 := h_b_16; have q_s_b_16 := s_b_16; have g_c1_2 := i_rg c1_2; have g_c7_2 := i_rg c7_2; have g_c8_2 := i_rg c8_2; omega)), (show 0 + 18 + ds_9 + ds_24 + 0 ≤ PS ws + (210 + e9.toInt.toNat) from (by have q_f10_2 := f10_2; have q_fq2_f := fq2_f; have q_fq2_ge9 := fq2_ge9; have q_b_16 := h_b_16; have q_s_b_16 := s_b_16; have g_c1_2 := i_rg c1_2; have g_c7_2 := i_rg c7_2; have g_c8_2 := i_rg c8_2; omega))⟩) hS (fun q _ h => hFc q h) hFc (fun r_51 u9 t9 H1 locs ht9 hvm9 hw9 hB9 hz9 hk9 hS => ?_)
  have hP : va_P (gD g) cl0 ws_44 H1 := by rw [← ht9]; exact hB9.1
  clear hB9 hz9 hk9 hvm9 ht9 hw9
  generalize H1 = H at hP hS ⊢
  have hV9 : okv ws_44 9 3 (.int r_51) := okv_i
  refine va_put (D := gD g) (ci := 9) (v := .int r_51) (ty := .int) (C := RX10) (T := TX10) (N := 18) hx hb hts inX10 tyX10 tyX10_ok nmX10 hown hK hP hD hS k_33 hk_33 rfl 3 (by decide) (hts _ kw_654) (fun _ h9 => h9) rfl (by decide +kernel) rfl rfl (Nat.le_of_ble_eq_true rfl) dX2_build_115 (fun H locs hP hD hS => ?_)
  have hi_52 : invX10 g ws_44 q_3 [.ref r0_33, .int c5_2, .int r_42, .int r_51, .int c4_33, .ref r5_33, .ref r6_33, .ref r7_33, .int c8_33, .ref r9_33, .ref r10_33, .ref r11_33, .ref r12_33, .ref r13_33, .int c14_33, .int c15_33, .int c16_33, .int c17_33] := ⟨r0_33, (n0_33), (c5_2), (r_42), (r_51), (c4_33), r5_33, (n5_33), r6_33, (n6_33), r7_33, (n7_33), (c8_33), r9_33, (n9_33), r10_33, (n10_33), r11_33, (n11_33), r12_33, (n12_33), r13_33, (n13_33), (c14_33), (c15_33), (c16_33), (c17_33), rfl, a_r0_33, f1_33, a_r5_33, f3_33, a_r6_33, f5_33, a_r7_33, f7_33, a_r9_33, f9_33, a_r10_33, f11_33, a_r11_33, f13_33, a_r12_33, f15_33, a_r13_33, f17_33, hz_c15_33, f19_33, f20_33, f21_33, f22_33, f23_33, f24_33, f25_33, f26_33, f27_33, f28_33, trivial⟩
  obtain ⟨ws_53, e_ws_53⟩ : ∃ z, z = ws_44.set k_33 (q_3, .inr (9, [.ref r0_33, .int c5_2, .int r_42, .int r_51, .int c4_33, .ref r5_33, .ref r6_33, .ref r7_33, .int c8_33, .ref r9_33, .ref r10_33, .ref r11_33, .ref r12_33, .ref r13_33, .int c14_33, .int c15_33, .int c16_33, .int c17_33])) := ⟨_, rfl⟩
  have hP : va_P (gD g) cl0 ws_53 H := by rw [e_ws_53]; exact hP
  have hD : va_D A ws_53 := by rw [e_ws_53]; exact hD
  have E_54 : gE ws_44 ws_53 := gE_set e_ws_53 hk_33 (cw_o (fi := 3) (v := .int r_51) rfl (by decide))
  have hG : Good g ws_53 := Good_set (fi := 3) (v := .int r_51) e_ws_53 hk_33 E_54 rfl hV9 hG (ivX10 hi_52)
  have Fr_55 : gF [(9, 3)] [] (some q_3) ws_44 ws_53 := gF_put (fi := 3) (v := .int r_51) e_ws_53 hk_33 rfl (by decide)
  have pp_56 := Fr_55.pp
  have hkN := gset_self e_ws_53 hk_33
  have hk_31 := gset_ob e_ws_53 hk_33 hk_31 (by decide)
  have hk_32 := gset_ob e_ws_53 hk_33 hk_32 (by decide)
  have hk_33 := hkN
  have o_h0 := E_54.1 _ _ o_h0
  have o_q_3 := E_54.1 _ _ o_q_3
  have a_r7_31 := E_54.1 _ _ a_r7_31
  have o_r0_1 := E_54.1 _ _ o_r0_1
  have a_r4_32 := E_54.1 _ _ a_r4_32
  have a_r9_32 := E_54.1 _ _ a_r9_32
  have a_r10_32 := E_54.1 _ _ a_r10_32
  have a_r11_32 := E_54.1 _ _ a_r11_32
  have a_r0_2 := E_54.1 _ _ a_r0_2
  have a_r0_33 := E_54.1 _ _ a_r0_33
  have a_r5_33 := E_54.1 _ _ a_r5_33
  have a_r6_33 := E_54.1 _ _ a_r6_33
  have a_r7_33 := E_54.1 _ _ a_r7_33
  have a_r9_33 := E_54.1 _ _ a_r9_33
  have a_r10_33 := E_54.1 _ _ a_r10_33
  have a_r11_33 := E_54.1 _ _ a_r11_33
  have a_r12_33 := E_54.1 _ _ a_r12_33
  have a_r13_33 := E_54.1 _ _ a_r13_33
  refine lv_iconst (v := 0) hx hb dX2_build_118 (by decide) ?_
  refine lv_istore_n (lv' := [(2, .int 0), (1, .ref q_3), (0, .ref h0)]) hx hb dX2_build_119 rfl hl (by decide) rfl (fun ls hl => ?_)
  have J_120 : ∀ (n9 : Nat) (v2_57 : Int32) (dc_120_1 : Nat) (ds_120_1 : Nat) (ws_59 : va_W) (H : Heap) (locs : List Loc) (ls : Array Slot), (2147483647 - v2_57.toInt).toNat = n9 → 0 ≤ v2_57.toInt → gE ws_53 ws_59 → gF [] [(9, 5), (9, 6), (9, 7)] none ws_53 ws_59 → Good g ws_59 → dc_120_1 + PC ws_59 ≤ PC ws + (10) → ds_120_1 + PS ws_59 ≤ PS ws + (210 + e9.toInt.toNat) → va_P (gD g) cl0 ws_59 H → va_D A ws_59 → va_S A s.heap H locs → lv_has ls 4 [(0, .ref h0), (1, .ref q_3), (2, .int v2_57)] → W p l e (headSpec (wt yX2_build cX2_build 4 (some (.object "CodeFoundry$Unit"))) ({ frames := 4, cells := PC ws + (10), slots := PS ws + (210 + e9.toInt.toNat), locals := 89 })).room s m ([.ref h0] : List Value).toArray below meth c H locs (dc_120_1) (ds_120_1) (MQ below (va_Qq (fun (r : Option Nat) (u9 : va_W) => ∃ b, r = some b ∧ gC u9 b 9) (gQ2 g [(6, 12), (6, 13), (6, 14), (9, 0), (9, 1), (9, 2), (9, 3), (9, 4), (9, 5), (9, 6), (9, 7), (9, 8), (9, 9), (9, 10), (9, 11), (9, 12), (9, 13), (9, 16), (9, 17)] [(9, 5), (9, 6), (9, 7), (9, 9), (9, 10), (9, 11), (9, 12)] none A ws s.heap (10) (210 + e9.toInt.toNat)) A) ([.ref h0] : List Value).toArray s (PC ws + (10)) (PS ws + (210 + e9.toInt.toNat)) A) (F0 m 120 ls []) := by
    intro n9
    induction n9 using Nat.strongRecOn with
    | ind n9 ih_120 =>
      intro v2_57 dc_120_1 ds_120_1 ws_59 H locs ls hm9 iv_58 E_60 Fr_61 hG hc9 hs9 hP hD hS hl
      subst hm9
      have aa_62 := a_r7_31
      have aa_63 := a_r0_2
      have aa_64 := a_r4_32
      have aa_65 := a_r9_32
      have aa_66 := a_r10_32
      have aa_67 := a_r11_32
      have aa_68 := a_r0_33
      have aa_69 := a_r5_33
      have aa_70 := a_r6_33
      have aa_71 := a_r7_33
      have aa_72 := a_r9_33
      have aa_73 := a_r10_33
      have aa_74 := a_r11_33
      have aa_75 := a_r12_33
      have aa_76 := a_r13_33
      have o_h0 := E_60.1 _ _ o_h0
      have o_q_3 := E_60.1 _ _ o_q_3
      refine lv_iload_n hx hb dX2_build_120 rfl (lv_at hl 2 rfl) ?_
      refine lv_aload_n hx hb dX2_build_121 rfl (lv_at hl 1 rfl) ?_
      obtain ⟨fs9, hk_77, hq_77⟩ := ((gF.a (F' := []) Fr_61 (fun _ h => h))) _ _ _ hk_33
      obtain ⟨r0_77, n0_77, c1_77, c2_77, c3_77, c4_77, r5_77, n5_77, r6_77, n6_77, r7_77, n7_77, c8_77, r9_77, n9_77, r10_77, n10_77, r11_77, n11_77, r12_77, n12_77, r13_77, n13_77, c14_77, c15_77, c16_77, c17_77, rfl, a_r0_77, f1_77, a_r5_77, f3_77, a_r6_77, f5_77, a_r7_77, f7_77, a_r9_77, f9_77, a_r10_77, f11_77, a_r11_77, f13_77, a_r12_77, f15_77, a_r13_77, f17_77, hz_c15_77, f19_77, f20_77, f21_77, f22_77, f23_77, f24_77, f25_77, f26_77, f27_77, f28_77, -⟩ := (hG.1 _ _ _ _ hk_77).hX10 rfl
      obtain rfl := fe_r (hq_77 5 (by decide))
      have hn9 := gI_n hD ((E_60).1 _ _ aa_69) a_r5_77
      subst hn9
      have a_r5_33 := a_r5_77
      obtain rfl := fe_r (hq_77 6 (by decide))
      have hn9 := gI_n hD ((E_60).1 _ _ aa_70) a_r6_77
      subst hn9
      have a_r6_33 := a_r6_77
      obtain rfl := fe_r (hq_77 7 (by decide))
      have hn9 := gI_n hD ((E_60).1 _ _ aa_71) a_r7_77
      subst hn9
      have a_r7_33 := a_r7_77
      obtain rfl := fe_r (hq_77 9 (by decide))
      have hn9 := gI_n hD ((E_60).1 _ _ aa_72) a_r9_77
      subst hn9
      have a_r9_33 := a_r9_77
      obtain rfl := fe_r (hq_77 10 (by decide))
      have hn9 := gI_n hD ((E_60).1 _ _ aa_73) a_r10_77
      subst hn9
      have a_r10_33 := a_r10_77
      obtain rfl := fe_r (hq_77 11 (by decide))
      have hn9 := gI_n hD ((E_60).1 _ _ aa_74) a_r11_77
      subst hn9
      have a_r11_33 := a_r11_77
      obtain rfl := fe_r (hq_77 12 (by decide))
      have hn9 := gI_n hD ((E_60).1 _ _ aa_75) a_r12_77
      subst hn9
      have a_r12_33 := a_r12_77
      obtain rfl := fe_r (hq_77 13 (by decide))
      have hn9 := gI_n hD ((E_60).1 _ _ aa_76) a_r13_77
      subst hn9
      have a_r13_33 := a_r13_77
      refine va_get (D := gD g) (ci := 9) (v := .ref r5_33) (C := RX10) (T := TX10) (N := 18) hx hb hts inX10 hown hK hP k_33 hk_77 rfl 5 (by decide) (hts _ kw_655) (fun _ h9 => h9) rfl dX2_build_122 ?_
      obtain ⟨k_78, f_78, hk_78⟩ := gI_of a_r5_33
      obtain ⟨z_79, ez_79⟩ : ∃ z : Int32, Int32.ofNat n5_33 = z := ⟨_, rfl⟩
      refine va_alen (v := z_79) hx hb hK hP k_78 1 hk_78 rfl ez_79 dX2_build_125 ?_
      refine lv_icmp_ge (tgt := 198) hx hb dX2_build_126 (by decide) (fun c_80 => ?_) (fun c_80 => ?_)
      · refine lv_iconst (v := 0) hx hb dX2_build_198 (by decide) ?_
        refine lv_istore_n (lv' := [(2, .int 0), (0, .ref h0), (1, .ref q_3)]) hx hb dX2_build_199 rfl hl (by decide) rfl (fun ls hl => ?_)
        have J_200 : ∀ (n9 : Nat) (v2_81 : Int32) (dc_200_2 : Nat) (ds_200_2 : Nat) (ws_83 : va_W) (H : Heap) (locs : List Loc) (ls : Array Slot), (2147483647 - v2_81.toInt).toNat = n9 → 0 ≤ v2_81.toInt → gE ws_59 ws_83 → gF [(6, 12), (6, 13), (6, 14)] [(9, 9), (9, 10), (9, 11), (9, 12)] none ws_59 ws_83 → Good g ws_83 → dc_200_2 + PC ws_83 ≤ PC ws + (10) → ds_200_2 + PS ws_83 ≤ PS ws + (210 + e9.toInt.toNat) → va_P (gD g) cl0 ws_83 H → va_D A ws_83 → va_S A s.heap H locs → lv_has ls 4 [(0, .ref h0), (1, .ref q_3), (2, .int v2_81)] → W p l e (headSpec (wt yX2_build cX2_build 4 (some (.object "CodeFoundry$Unit"))) ({ frames := 4, cells := PC ws + (10), slots := PS ws + (210 + e9.toInt.toNat), locals := 89 })).room s m ([.ref h0] : List Value).toArray below meth c H locs (dc_200_2) (ds_200_2) (MQ below (va_Qq (fun (r : Option Nat) (u9 : va_W) => ∃ b, r = some b ∧ gC u9 b 9) (gQ2 g [(6, 12), (6, 13), (6, 14), (9, 0), (9, 1), (9, 2), (9, 3), (9, 4), (9, 5), (9, 6), (9, 7), (9, 8), (9, 9), (9, 10), (9, 11), (9, 12), (9, 13), (9, 16), (9, 17)] [(9, 5), (9, 6), (9, 7), (9, 9), (9, 10), (9, 11), (9, 12)] none A ws s.heap (10) (210 + e9.toInt.toNat)) A) ([.ref h0] : List Value).toArray s (PC ws + (10)) (PS ws + (210 + e9.toInt.toNat)) A) (F0 m 200 ls []) := by
          intro n9
          induction n9 using Nat.strongRecOn with
          | ind n9 ih_200 =>
            intro v2_81 dc_200_2 ds_200_2 ws_83 H locs ls hm9 iv_82 E_84 Fr_85 hG hc9 hs9 hP hD hS hl
            subst hm9
            have aa_86 := a_r0_77
            have aa_87 := a_r5_33
            have aa_88 := a_r6_33
            have aa_89 := a_r7_33
            have aa_90 := a_r9_33
            have aa_91 := a_r10_33
            have aa_92 := a_r11_33
            have aa_93 := a_r12_33
            have aa_94 := a_r13_33
            have o_h0 := E_84.1 _ _ o_h0
            have o_q_3 := E_84.1 _ _ o_q_3
            refine lv_iload_n hx hb dX2_build_200 rfl (lv_at hl 2 rfl) ?_
            refine lv_aload_n hx hb dX2_build_201 rfl (lv_at hl 1 rfl) ?_
            obtain ⟨fs9, hk_95, hq_95⟩ := ((gF.a (F' := [(6, 12), (6, 13), (6, 14)]) Fr_85 (fun _ h => h))) _ _ _ hk_77
            obtain ⟨r0_95, n0_95, c1_95, c2_95, c3_95, c4_95, r5_95, n5_95, r6_95, n6_95, r7_95, n7_95, c8_95, r9_95, n9_95, r10_95, n10_95, r11_95, n11_95, r12_95, n12_95, r13_95, n13_95, c14_95, c15_95, c16_95, c17_95, rfl, a_r0_95, f1_95, a_r5_95, f3_95, a_r6_95, f5_95, a_r7_95, f7_95, a_r9_95, f9_95, a_r10_95, f11_95, a_r11_95, f13_95, a_r12_95, f15_95, a_r13_95, f17_95, hz_c15_95, f19_95, f20_95, f21_95, f22_95, f23_95, f24_95, f25_95, f26_95, f27_95, f28_95, -⟩ := (hG.1 _ _ _ _ hk_95).hX10 rfl
            obtain rfl := fe_r (hq_95 5 (by decide))
            have hn9 := gI_n hD ((E_84).1 _ _ aa_87) a_r5_95
            subst hn9
            have a_r5_33 := a_r5_95
            obtain rfl := fe_r (hq_95 6 (by decide))
            have hn9 := gI_n hD ((E_84).1 _ _ aa_88) a_r6_95
            subst hn9
            have a_r6_33 := a_r6_95
            obtain rfl := fe_r (hq_95 7 (by decide))
            have hn9 := gI_n hD ((E_84).1 _ _ aa_89) a_r7_95
            subst hn9
            have a_r7_33 := a_r7_95
            obtain rfl := fe_r (hq_95 9 (by decide))
            have hn9 := gI_n hD ((E_84).1 _ _ aa_90) a_r9_95
            subst hn9
            have a_r9_33 := a_r9_95
            obtain rfl := fe_r (hq_95 10 (by decide))
            have hn9 := gI_n hD ((E_84).1 _ _ aa_91) a_r10_95
            subst hn9
            have a_r10_33 := a_r10_95
            obtain rfl := fe_r (hq_95 11 (by decide))
            have hn9 := gI_n hD ((E_84).1 _ _ aa_92) a_r11_95
            subst hn9
            have a_r11_33 := a_r11_95
            obtain rfl := fe_r (hq_95 12 (by decide))
            have hn9 := gI_n hD ((E_84).1 _ _ aa_93) a_r12_95
            subst hn9
            have a_r12_33 := a_r12_95
            obtain rfl := fe_r (hq_95 13 (by decide))
            have hn9 := gI_n hD ((E_84).1 _ _ aa_94) a_r13_95
            subst hn9
            have a_r13_33 := a_r13_95
            refine va_get (D := gD g) (ci := 9) (v := .ref r13_33) (C := RX10) (T := TX10) (N := 18) hx hb hts inX10 hown hK hP k_33 hk_95 rfl 13 (by decide) (hts _ kw_661) (fun _ h9 => h9) rfl dX2_build_202 ?_
            obtain ⟨k_96, f_96, hk_96⟩ := gR_of a_r13_33
            obtain ⟨z_97, ez_97⟩ : ∃ z : Int32, Int32.ofNat n13_33 = z := ⟨_, rfl⟩
            refine va_alen (v := z_97) hx hb hK hP k_96 5 hk_96 rfl ez_97 dX2_build_205 ?_
            refine lv_icmp_ge (tgt := 309) hx hb dX2_build_206 (by decide) (fun c_98 => ?_) (fun c_98 => ?_)
            · refine lv_aload_n hx hb dX2_build_309 rfl (lv_at hl 1 rfl) ?_
              refine W_led (fun hLd => ?_)
              have hcl : dc_200_2 + PC ws_83 ≤ PC ws + (10) := (by have q_f10_2 := f10_2; have q_fq2_f := fq2_f; have q_fq2_ge9 := fq2_ge9; have q_b_16 := h_b_16; have q_s_b_16 := s_b_16; have g_c1_2 := i_rg c1_2; have g_c7_2 := i_rg c7_2; have g_c8_2 := i_rg c8_2; omega)
              have hsl : ds_200_2 + PS ws_83 ≤ PS ws + (210 + e9.toInt.toNat) := (by have q_f10_2 := f10_2; have q_fq2_f := fq2_f; have q_fq2_ge9 := fq2_ge9; have q_b_16 := h_b_16; have q_s_b_16 := s_b_16; have g_c1_2 := i_rg c1_2; have g_c7_2 := i_rg c7_2; have g_c8_2 := i_rg c8_2; omega)
              refine W.widen (k := PC ws + (10)) (n := PS ws + (210 + e9.toInt.toNat)) (by omega) (by omega) ?_
              exact W.aret (v := .ref q_3) hx hb hr (Or.inl ⟨_, rfl⟩) (Or.inr ⟨_, rfl⟩) (fun t9 ht9 hW9 => ⟨⟨some q_3, ws_83, rfl, ⟨_, rfl, o_q_3⟩, ⟨(E_6.tr (E_21.tr (E_36.tr (E_45.tr (E_54.tr (E_60.tr E_84)))))), (gF.tr (gF.mo (F' := [(6, 12), (6, 13), (6, 14), (9, 0), (9, 1), (9, 2), (9, 3), (9, 4), (9, 5), (9, 6), (9, 7), (9, 8), (9, 9), (9, 10), (9, 11), (9, 12), (9, 13), (9, 16), (9, 17)]) (C' := [(9, 5), (9, 6), (9, 7), (9, 9), (9, 10), (9, 11), (9, 12)]) (S' := none) Fr_7 (fun _ h => absurd h List.not_mem_nil) (fun _ h => absurd h List.not_mem_nil) (Or.inr rfl)) (gF.tr (gF.mo (F' := [(6, 12), (6, 13), (6, 14), (9, 0), (9, 1), (9, 2), (9, 3), (9, 4), (9, 5), (9, 6), (9, 7), (9, 8), (9, 9), (9, 10), (9, 11), (9, 12), (9, 13), (9, 16), (9, 17)]) (C' := [(9, 5), (9, 6), (9, 7), (9, 9), (9, 10), (9, 11), (9, 12)]) (S' := none) Fr_22 (fun _ h => absurd h List.not_mem_nil) (fun _ h => absurd h List.not_mem_nil) (Or.inr rfl)) (gF.tr (gF.mo (F' := [(6, 12), (6, 13), (6, 14), (9, 0), (9, 1), (9, 2), (9, 3), (9, 4), (9, 5), (9, 6), (9, 7), (9, 8), (9, 9), (9, 10), (9, 11), (9, 12), (9, 13), (9, 16), (9, 17)]) (C' := [(9, 5), (9, 6), (9, 7), (9, 9), (9, 10), (9, 11), (9, 12)]) (S' := none) Fr_37 (by decide) (fun _ h => absurd h List.not_mem_nil) (Or.inl rfl)) (gF.tr (gF.mo (F' := [(6, 12), (6, 13), (6, 14), (9, 0), (9, 1), (9, 2), (9, 3), (9, 4), (9, 5), (9, 6), (9, 7), (9, 8), (9, 9), (9, 10), (9, 11), (9, 12), (9, 13), (9, 16), (9, 17)]) (C' := [(9, 5), (9, 6), (9, 7), (9, 9), (9, 10), (9, 11), (9, 12)]) (S' := none) Fr_46 (by decide) (fun _ h => absurd h List.not_mem_nil) (Or.inl rfl)) (gF.tr (gF.mo (F' := [(6, 12), (6, 13), (6, 14), (9, 0), (9, 1), (9, 2), (9, 3), (9, 4), (9, 5), (9, 6), (9, 7), (9, 8), (9, 9), (9, 10), (9, 11), (9, 12), (9, 13), (9, 16), (9, 17)]) (C' := [(9, 5), (9, 6), (9, 7), (9, 9), (9, 10), (9, 11), (9, 12)]) (S' := none) Fr_55 (by decide) (fun _ h => absurd h List.not_mem_nil) (Or.inl rfl)) (gF.tr (gF.mo (F' := [(6, 12), (6, 13), (6, 14), (9, 0), (9, 1), (9, 2), (9, 3), (9, 4), (9, 5), (9, 6), (9, 7), (9, 8), (9, 9), (9, 10), (9, 11), (9, 12), (9, 13), (9, 16), (9, 17)]) (C' := [(9, 5), (9, 6), (9, 7), (9, 9), (9, 10), (9, 11), (9, 12)]) (S' := none) Fr_61 (fun _ h => absurd h List.not_mem_nil) (by decide) (Or.inr rfl)) (gF.mo (F' := [(6, 12), (6, 13), (6, 14), (9, 0), (9, 1), (9, 2), (9, 3), (9, 4), (9, 5), (9, 6), (9, 7), (9, 8), (9, 9), (9, 10), (9, 11), (9, 12), (9, 13), (9, 16), (9, 17)]) (C' := [(9, 5), (9, 6), (9, 7), (9, 9), (9, 10), (9, 11), (9, 12)]) (S' := none) Fr_85 (by decide) (by decide) (Or.inr rfl)))))))), hG, by rw [ht9]; exact hP, hD, _, _, by rw [ht9]; exact hLd, hcl, hsl⟩⟩, hS.F ht9⟩) hS.2.2 dX2_build_310
            · refine lv_aload_n hx hb dX2_build_209 rfl (lv_at hl 0 rfl) ?_
              obtain ⟨fs9, hk_99, hq_99⟩ := ((gA.tr (gF.a (F' := [(6, 12), (6, 13), (6, 14)]) Fr_61 (fun _ h => absurd h List.not_mem_nil)) (gF.a (F' := [(6, 12), (6, 13), (6, 14)]) Fr_85 (fun _ h => h)))) _ _ _ hk_31
              obtain ⟨r0_99, c1_99, c2_99, c3_99, c4_99, c5_99, c6_99, r7_99, n7_99, c8_99, c9_99, l10_99, c11_99, rfl, o_r0_99, a_r7_99, f2_99, f3_99, f4_99, -⟩ := (hG.1 _ _ _ _ hk_99).hX2 rfl
              obtain rfl := fe_r (hq_99 0 (by decide))
              have o_r0_1 := o_r0_99
              refine va_get (D := gD g) (ci := 2) (v := .ref r0_1) (C := RX2) (T := TX2) (N := 12) hx hb hts inX2 hown hK hP k_1 hk_99 rfl 0 (by decide) (hts _ kw_632) (fun _ h9 => h9) rfl dX2_build_210 ?_
              obtain ⟨fs9, hk_100, hq_100⟩ := ((gA.tr (gF.a (F' := [(6, 12), (6, 13), (6, 14)]) Fr_61 (fun _ h => absurd h List.not_mem_nil)) (gF.a (F' := [(6, 12), (6, 13), (6, 14)]) Fr_85 (fun _ h => h)))) _ _ _ hk_32
              obtain ⟨r0_100, n0_100, c1_100, c2_100, c3_100, r4_100, n4_100, c5_100, c6_100, c7_100, c8_100, r9_100, n9_100, r10_100, n10_100, r11_100, n11_100, c12_100, c13_100, c14_100, c15_100, c16_100, rfl, a_r0_100, f1_100, a_r4_100, f3_100, a_r9_100, f5_100, a_r10_100, f7_100, a_r11_100, f9_100, f10_100, f11_100, f12_100, f13_100, f14_100, -⟩ := (hG.1 _ _ _ _ hk_100).hX7 rfl
              obtain rfl := fe_r (hq_100 0 (by decide))
              have hn9 := gI_n hD (((E_60.tr E_84)).1 _ _ aa_63) a_r0_100
              subst hn9
              have a_r0_2 := a_r0_100
              obtain rfl := fe_i (hq_100 1 (by decide))
              obtain rfl := fe_i (hq_100 5 (by decide))
              obtain rfl := fe_i (hq_100 6 (by decide))
              obtain rfl := fe_i (hq_100 7 (by decide))
              obtain rfl := fe_i (hq_100 8 (by decide))
              refine va_get (D := gD g) (ci := 6) (v := .int c7_2) (C := RX7) (T := TX7) (N := 17) hx hb hts inX7 hown hK hP k_2 hk_100 rfl 7 (by decide) (hts _ kw_645) (fun _ h9 => h9) rfl dX2_build_213 ?_
              refine lv_iload_n hx hb dX2_build_216 rfl (lv_at hl 2 rfl) ?_
              refine lv_iadd hx hb dX2_build_217 ?_
              refine lv_topi (fun z_101 ez_101 => ?_)
              refine lv_istore_n (lv' := [(3, .int z_101), (0, .ref h0), (1, .ref q_3), (2, .int v2_81)]) hx hb dX2_build_218 rfl hl (by decide) rfl (fun ls hl => ?_)
              refine lv_aload_n hx hb dX2_build_219 rfl (lv_at hl 2 rfl) ?_
              refine va_get (D := gD g) (ci := 9) (v := .ref r9_33) (C := RX10) (T := TX10) (N := 18) hx hb hts inX10 hown hK hP k_33 hk_95 rfl 9 (by decide) (hts _ kw_662) (fun _ h9 => h9) rfl dX2_build_220 ?_
              refine lv_iload_n hx hb dX2_build_223 rfl (lv_at hl 3 rfl) ?_
              refine lv_aload_n hx hb dX2_build_224 rfl (lv_at hl 1 rfl) ?_
              refine va_get (D := gD g) (ci := 2) (v := .ref r0_1) (C := RX2) (T := TX2) (N := 12) hx hb hts inX2 hown hK hP k_1 hk_99 rfl 0 (by decide) (hts _ kw_632) (fun _ h9 => h9) rfl dX2_build_225 ?_
              refine lv_aload_n hx hb dX2_build_228 rfl (lv_at hl 1 rfl) ?_
              refine va_get (D := gD g) (ci := 2) (v := .ref r0_1) (C := RX2) (T := TX2) (N := 12) hx hb hts inX2 hown hK hP k_1 hk_99 rfl 0 (by decide) (hts _ kw_632) (fun _ h9 => h9) rfl dX2_build_229 ?_
              refine lv_iload_n hx hb dX2_build_232 rfl (lv_at hl 0 rfl) ?_
              have hFc := gfree hD hS hA
              refine va_calli (va_runV (As := [.int z_101]) (rest := [.ref r0_1, .int v2_81, .ref r9_33]) ⟨hx, hb, hml, hown, hts⟩ (m_X7_nameOf l g H.size ws_83 r0_1 (z_101) hG o_r0_1) (cwV 1 hts (gd_V kw_656 kw_1409 kw_1410 kw_710 kw_1408) rfl rfl rfl (by decide +kernel) ⟨Nat.le_of_ble_eq_true rfl, Nat.le_of_ble_eq_true rfl⟩) ⟨gblind, va_recv hK hP (ci := 6) (q0 := k_2) rfl hk_100, fun U hU hW9 => gmk hU hW9 hP hK hD hex hE hS hFc⟩ rfl rfl hl.1 rfl (lv_room (Nat.le_of_ble_eq_true rfl)) dX2_build_233 ⟨(show dc_200_2 + 0 ≤ PC ws + (10) from (by have q_f10_2 := f10_2; have q_fq2_f := fq2_f; have q_fq2_ge9 := fq2_ge9; have q_b_16 := h_b_16; obtain ⟨u_z_101, q_z_101⟩ := i_add ez_101; have q_s_b_16 := s_b_16; have q_iv_82 := iv_82; have q_c_98 := i_nle c_98; have q_z_97 := i_len ez_97 f17_95; have q_f17_33 := f17_33; have q_f26_33 := f26_33; have g_c1_2 := i_rg c1_2; have g_c7_2 := i_rg c7_2; have g_c8_2 := i_rg c8_2; have g_v2_81 := i_rg v2_81; have g_z_101 := i_rg z_101; have g_z_97 := i_rg z_97; omega)), (show ds_200_2 + 0 ≤ PS ws + (210 + e9.toInt.toNat) from (by have q_f10_2 := f10_2; have q_fq2_f := fq2_f; have q_fq2_ge9 := fq2_ge9; have q_b_16 := h_b_16; obtain ⟨u_z_101, q_z_101⟩ := i_add ez_101; have q_s_b_16 := s_b_16; have q_iv_82 := iv_82; have q_c_98 := i_nle c_98; have q_z_97 := i_len ez_97 f17_95; have q_f17_33 := f17_33; have q_f26_33 := f26_33; have g_c1_2 := i_rg c1_2; have g_c7_2 := i_rg c7_2; have g_c8_2 := i_rg c8_2; have g_v2_81 := i_rg v2_81; have g_z_101 := i_rg z_101; have g_z_97 := i_rg z_97; omega))⟩) hS (fun q _ h => hFc q h) hFc (fun r_102 u9 t9 H1 locs ht9 hvm9 hw9 hB9 hz9 hk9 hS => ?_)
              have hP : va_P (gD g) cl0 ws_83 H1 := by rw [← ht9]; exact hB9.1
              clear hB9 hz9 hk9 hvm9 ht9 hw9
              generalize H1 = H at hP hS ⊢
              have hFc := gfree hD hS hA
              refine va_calli (va_runV (As := [.int r_102]) (rest := [.int v2_81, .ref r9_33]) ⟨hx, hb, hml, hown, hts⟩ (m_X7_entryAt l g H.size ws_83 r0_1 (r_102) hG o_r0_1) (cwV 1 hts (gd_V kw_633 kw_1298 kw_1299 kw_710 kw_1297) rfl rfl rfl (by decide +kernel) ⟨Nat.le_of_ble_eq_true rfl, Nat.le_of_ble_eq_true rfl⟩) ⟨gblind, va_recv hK hP (ci := 6) (q0 := k_2) rfl hk_100, fun U hU hW9 => gmk hU hW9 hP hK hD hex hE hS hFc⟩ rfl rfl hl.1 rfl (lv_room (Nat.le_of_ble_eq_true rfl)) dX2_build_236 ⟨(show dc_200_2 + 0 ≤ PC ws + (10) from (by have q_f10_2 := f10_2; have q_fq2_f := fq2_f; have q_fq2_ge9 := fq2_ge9; have q_b_16 := h_b_16; obtain ⟨u_z_101, q_z_101⟩ := i_add ez_101; have q_s_b_16 := s_b_16; have q_iv_82 := iv_82; have q_c_98 := i_nle c_98; have q_z_97 := i_len ez_97 f17_95; have q_f17_33 := f17_33; have q_f26_33 := f26_33; have g_c1_2 := i_rg c1_2; have g_c7_2 := i_rg c7_2; have g_c8_2 := i_rg c8_2; have g_v2_81 := i_rg v2_81; have g_z_101 := i_rg z_101; have g_z_97 := i_rg z_97; omega)), (show ds_200_2 + 0 ≤ PS ws + (210 + e9.toInt.toNat) from (by have q_f10_2 := f10_2; have q_fq2_f := fq2_f; have q_fq2_ge9 := fq2_ge9; have q_b_16 := h_b_16; obtain ⟨u_z_101, q_z_101⟩ := i_add ez_101; have q_s_b_16 := s_b_16; have q_iv_82 := iv_82; have q_c_98 := i_nle c_98; have q_z_97 := i_len ez_97 f17_95; have q_f17_33 := f17_33; have q_f26_33 := f26_33; have g_c1_2 := i_rg c1_2; have g_c7_2 := i_rg c7_2; have g_c8_2 := i_rg c8_2; have g_v2_81 := i_rg v2_81; have g_z_101 := i_rg z_101; have g_z_97 := i_rg z_97; omega))⟩) hS (fun q _ h => hFc q h) hFc (fun r_103 u9 t9 H1 locs ht9 hvm9 hw9 hB9 hz9 hk9 hS => ?_)
              have hP : va_P (gD g) cl0 ws_83 H1 := by rw [← ht9]; exact hB9.1
              clear hB9 hz9 hk9 hvm9 ht9 hw9
              generalize H1 = H at hP hS ⊢
              obtain ⟨k_104, f_104, hk_104⟩ := gI_of a_r9_33
              have hC9 : hol ws_83 r9_33 [(9, 9)] := (hol_u hG.u hk_95 (j := 9) rfl a_r9_33 (by decide))
              have hS9 : holS ws_83 r9_33 none := holS_n
              refine va_iast hx hb hK hP hD hS k_104 1 hk_104 rfl (i_in2 (by have q_f9_33 := f9_33; have q_f22_33 := f22_33; have q_f23_33 := f23_33; have q_f24_33 := f24_33; have q_f25_33 := f25_33; have q_f26_33 := f26_33; have q_f27_33 := f27_33; have q_f22_77 := f22_77; have q_iv_82 := iv_82; have q_f22_95 := f22_95; have q_c_98 := i_nle c_98; obtain ⟨u_z_101, q_z_101⟩ := i_add ez_101; have q_fq2_f := fq2_f; have q_f11_33 := f11_33; have q_f13_33 := f13_33; have q_f15_33 := f15_33; have q_f17_33 := f17_33; have q_z_97 := i_len ez_97 f17_95; have q_f10_2 := f10_2; have q_fq2_ge9 := fq2_ge9; have q_b_16 := h_b_16; have q_s_b_16 := s_b_16; have g_c1_2 := i_rg c1_2; have g_c7_2 := i_rg c7_2; have g_c8_2 := i_rg c8_2; have g_c8_33 := i_rg c8_33; have g_c8_77 := i_rg c8_77; have g_c8_95 := i_rg c8_95; have g_v2_81 := i_rg v2_81; have g_z_101 := i_rg z_101; have g_z_97 := i_rg z_97; omega)) dX2_build_239 (fun H locs hP hD hS => ?_)
              obtain ⟨ws_105, e_ws_105⟩ : ∃ z, z = ws_83.set k_104 (r9_33, .inl (g.cI, n9_33, .inl (upd f_104 (v2_81 : Int32).toNatClampNeg r_103))) := ⟨_, rfl⟩
              have hP : va_P (gD g) cl0 ws_105 H := by rw [e_ws_105]; exact hP
              have hD : va_D A ws_105 := by rw [e_ws_105]; exact hD
              have E_106 : gE ws_83 ws_105 := gE_ari e_ws_105 hk_104
              have hG : Good g ws_105 := Good_arI e_ws_105 hk_104 hG
              have Fr_107 : gF [] [(9, 9)] none ws_83 ws_105 := gF_ar e_ws_105 hk_104 rfl hC9 hS9
              have pp_108 := Fr_107.pp
              have hk_95 := gset_arO e_ws_105 hk_104 hk_95
              have hk_99 := gset_arO e_ws_105 hk_104 hk_99
              have hk_100 := gset_arO e_ws_105 hk_104 hk_100
              have o_h0 := E_106.1 _ _ o_h0
              have o_q_3 := E_106.1 _ _ o_q_3
              have a_r0_95 := E_106.1 _ _ a_r0_95
              have a_r5_33 := E_106.1 _ _ a_r5_33
              have a_r6_33 := E_106.1 _ _ a_r6_33
              have a_r7_33 := E_106.1 _ _ a_r7_33
              have a_r9_33 := E_106.1 _ _ a_r9_33
              have a_r10_33 := E_106.1 _ _ a_r10_33
              have a_r11_33 := E_106.1 _ _ a_r11_33
              have a_r12_33 := E_106.1 _ _ a_r12_33
              have a_r13_33 := E_106.1 _ _ a_r13_33
              have a_r7_99 := E_106.1 _ _ a_r7_99
              have o_r0_1 := E_106.1 _ _ o_r0_1
              have a_r4_100 := E_106.1 _ _ a_r4_100
              have a_r9_100 := E_106.1 _ _ a_r9_100
              have a_r10_100 := E_106.1 _ _ a_r10_100
              have a_r11_100 := E_106.1 _ _ a_r11_100
              have a_r0_2 := E_106.1 _ _ a_r0_2
              refine lv_aload_n hx hb dX2_build_240 rfl (lv_at hl 2 rfl) ?_
              refine va_get (D := gD g) (ci := 9) (v := .ref r10_33) (C := RX10) (T := TX10) (N := 18) hx hb hts inX10 hown hK hP k_33 hk_95 rfl 10 (by decide) (hts _ kw_663) (fun _ h9 => h9) rfl dX2_build_241 ?_
              refine lv_iload_n hx hb dX2_build_244 rfl (lv_at hl 3 rfl) ?_
              refine lv_aload_n hx hb dX2_build_245 rfl (lv_at hl 1 rfl) ?_
              refine va_get (D := gD g) (ci := 2) (v := .ref r0_1) (C := RX2) (T := TX2) (N := 12) hx hb hts inX2 hown hK hP k_1 hk_99 rfl 0 (by decide) (hts _ kw_632) (fun _ h9 => h9) rfl dX2_build_246 ?_
              refine lv_aload_n hx hb dX2_build_249 rfl (lv_at hl 1 rfl) ?_
              refine va_get (D := gD g) (ci := 2) (v := .ref r0_1) (C := RX2) (T := TX2) (N := 12) hx hb hts inX2 hown hK hP k_1 hk_99 rfl 0 (by decide) (hts _ kw_632) (fun _ h9 => h9) rfl dX2_build_250 ?_
              refine lv_iload_n hx hb dX2_build_253 rfl (lv_at hl 0 rfl) ?_
              have hFc := gfree hD hS hA
              refine va_calli (va_runV (As := [.int z_101]) (rest := [.ref r0_1, .int v2_81, .ref r10_33]) ⟨hx, hb, hml, hown, hts⟩ (m_X7_typeOf l g H.size ws_105 r0_1 (z_101) hG o_r0_1) (cwV 1 hts (gd_V kw_658 kw_1438 kw_1439 kw_710 kw_1437) rfl rfl rfl (by decide +kernel) ⟨Nat.le_of_ble_eq_true rfl, Nat.le_of_ble_eq_true rfl⟩) ⟨gblind, va_recv hK hP (ci := 6) (q0 := k_2) rfl hk_100, fun U hU hW9 => gmk hU hW9 hP hK hD hex hE hS hFc⟩ rfl rfl hl.1 rfl (lv_room (Nat.le_of_ble_eq_true rfl)) dX2_build_254 ⟨(show dc_200_2 + 0 ≤ PC ws + (10) from (by have q_f10_2 := f10_2; have q_fq2_f := fq2_f; have q_fq2_ge9 := fq2_ge9; have q_b_16 := h_b_16; obtain ⟨u_z_101, q_z_101⟩ := i_add ez_101; have q_s_b_16 := s_b_16; have q_iv_82 := iv_82; have q_c_98 := i_nle c_98; have q_z_97 := i_len ez_97 f17_95; have q_f17_33 := f17_33; have q_f26_33 := f26_33; have g_c1_2 := i_rg c1_2; have g_c7_2 := i_rg c7_2; have g_c8_2 := i_rg c8_2; have g_v2_81 := i_rg v2_81; have g_z_101 := i_rg z_101; have g_z_97 := i_rg z_97; omega)), (show ds_200_2 + 0 ≤ PS ws + (210 + e9.toInt.toNat) from (by have q_f10_2 := f10_2; have q_fq2_f := fq2_f; have q_fq2_ge9 := fq2_ge9; have q_b_16 := h_b_16; obtain ⟨u_z_101, q_z_101⟩ := i_add ez_101; have q_s_b_16 := s_b_16; have q_iv_82 := iv_82; have q_c_98 := i_nle c_98; have q_z_97 := i_len ez_97 f17_95; have q_f17_33 := f17_33; have q_f26_33 := f26_33; have g_c1_2 := i_rg c1_2; have g_c7_2 := i_rg c7_2; have g_c8_2 := i_rg c8_2; have g_v2_81 := i_rg v2_81; have g_z_101 := i_rg z_101; have g_z_97 := i_rg z_97; omega))⟩) hS (fun q _ h => hFc q h) hFc (fun r_109 u9 t9 H1 locs ht9 hvm9 hw9 hB9 hz9 hk9 hS => ?_)
              have hP : va_P (gD g) cl0 ws_105 H1 := by rw [← ht9]; exact hB9.1
              clear hB9 hz9 hk9 hvm9 ht9 hw9
              generalize H1 = H at hP hS ⊢
              have hFc := gfree hD hS hA
              refine va_calli (va_runV (As := [.int r_109]) (rest := [.int v2_81, .ref r10_33]) ⟨hx, hb, hml, hown, hts⟩ (m_X7_entryAt l g H.size ws_105 r0_1 (r_109) hG o_r0_1) (cwV 1 hts (gd_V kw_633 kw_1298 kw_1299 kw_710 kw_1297) rfl rfl rfl (by decide +kernel) ⟨Nat.le_of_ble_eq_true rfl, Nat.le_of_ble_eq_true rfl⟩) ⟨gblind, va_recv hK hP (ci := 6) (q0 := k_2) rfl hk_100, fun U hU hW9 => gmk hU hW9 hP hK hD hex hE hS hFc⟩ rfl rfl hl.1 rfl (lv_room (Nat.le_of_ble_eq_true rfl)) dX2_build_257 ⟨(show dc_200_2 + 0 ≤ PC ws + (10) from (by have q_f10_2 := f10_2; have q_fq2_f := fq2_f; have q_fq2_ge9 := fq2_ge9; have q_b_16 := h_b_16; obtain ⟨u_z_101, q_z_101⟩ := i_add ez_101; have q_s_b_16 := s_b_16; have q_iv_82 := iv_82; have q_c_98 := i_nle c_98; have q_z_97 := i_len ez_97 f17_95; have q_f17_33 := f17_33; have q_f26_33 := f26_33; have g_c1_2 := i_rg c1_2; have g_c7_2 := i_rg c7_2; have g_c8_2 := i_rg c8_2; have g_v2_81 := i_rg v2_81; have g_z_101 := i_rg z_101; have g_z_97 := i_rg z_97; omega)), (show ds_200_2 + 0 ≤ PS ws + (210 + e9.toInt.toNat) from (by have q_f10_2 := f10_2; have q_fq2_f := fq2_f; have q_fq2_ge9 := fq2_ge9; have q_b_16 := h_b_16; obtain ⟨u_z_101, q_z_101⟩ := i_add ez_101; have q_s_b_16 := s_b_16; have q_iv_82 := iv_82; have q_c_98 := i_nle c_98; have q_z_97 := i_len ez_97 f17_95; have q_f17_33 := f17_33; have q_f26_33 := f26_33; have g_c1_2 := i_rg c1_2; have g_c7_2 := i_rg c7_2; have g_c8_2 := i_rg c8_2; have g_v2_81 := i_rg v2_81; have g_z_101 := i_rg z_101; have g_z_97 := i_rg z_97; omega))⟩) hS (fun q _ h => hFc q h) hFc (fun r_110 u9 t9 H1 locs ht9 hvm9 hw9 hB9 hz9 hk9 hS => ?_)
              have hP : va_P (gD g) cl0 ws_105 H1 := by rw [← ht9]; exact hB9.1
              clear hB9 hz9 hk9 hvm9 ht9 hw9
              generalize H1 = H at hP hS ⊢
              obtain ⟨k_111, f_111, hk_111⟩ := gI_of a_r10_33
              have hC9 : hol ws_105 r10_33 [(9, 10)] := (hol_u hG.u hk_95 (j := 10) rfl a_r10_33 (by decide))
              have hS9 : holS ws_105 r10_33 none := holS_n
              refine va_iast hx hb hK hP hD hS k_111 1 hk_111 rfl (i_in2 (by have q_f11_33 := f11_33; have q_f23_33 := f23_33; have q_iv_82 := iv_82; have q_c_98 := i_nle c_98; obtain ⟨u_z_101, q_z_101⟩ := i_add ez_101; have q_fq2_f := fq2_f; have q_f9_33 := f9_33; have q_f22_33 := f22_33; have q_f24_33 := f24_33; have q_f25_33 := f25_33; have q_f26_33 := f26_33; have q_f27_33 := f27_33; have q_f22_77 := f22_77; have q_f22_95 := f22_95; have q_z_97 := i_len ez_97 f17_95; have q_f10_2 := f10_2; have q_fq2_ge9 := fq2_ge9; have q_b_16 := h_b_16; have q_f13_33 := f13_33; have q_f15_33 := f15_33; have q_f17_33 := f17_33; have q_s_b_16 := s_b_16; have g_c1_2 := i_rg c1_2; have g_c7_2 := i_rg c7_2; have g_c8_2 := i_rg c8_2; have g_c8_33 := i_rg c8_33; have g_c8_77 := i_rg c8_77; have g_c8_95 := i_rg c8_95; have g_v2_81 := i_rg v2_81; have g_z_101 := i_rg z_101; have g_z_97 := i_rg z_97; omega)) dX2_build_260 (fun H locs hP hD hS => ?_)
              obtain ⟨ws_112, e_ws_112⟩ : ∃ z, z = ws_105.set k_111 (r10_33, .inl (g.cI, n10_33, .inl (upd f_111 (v2_81 : Int32).toNatClampNeg r_110))) := ⟨_, rfl⟩
              have hP : va_P (gD g) cl0 ws_112 H := by rw [e_ws_112]; exact hP
              have hD : va_D A ws_112 := by rw [e_ws_112]; exact hD
              have E_113 : gE ws_105 ws_112 := gE_ari e_ws_112 hk_111
              have hG : Good g ws_112 := Good_arI e_ws_112 hk_111 hG
              have Fr_114 : gF [] [(9, 10)] none ws_105 ws_112 := gF_ar e_ws_112 hk_111 rfl hC9 hS9
              have pp_115 := Fr_114.pp
              have hk_95 := gset_arO e_ws_112 hk_111 hk_95
              have hk_99 := gset_arO e_ws_112 hk_111 hk_99
              have hk_100 := gset_arO e_ws_112 hk_111 hk_100
              have o_h0 := E_113.1 _ _ o_h0
              have o_q_3 := E_113.1 _ _ o_q_3
              have a_r0_95 := E_113.1 _ _ a_r0_95
              have a_r5_33 := E_113.1 _ _ a_r5_33
              have a_r6_33 := E_113.1 _ _ a_r6_33
              have a_r7_33 := E_113.1 _ _ a_r7_33
              have a_r9_33 := E_113.1 _ _ a_r9_33
              have a_r10_33 := E_113.1 _ _ a_r10_33
              have a_r11_33 := E_113.1 _ _ a_r11_33
              have a_r12_33 := E_113.1 _ _ a_r12_33
              have a_r13_33 := E_113.1 _ _ a_r13_33
              have a_r7_99 := E_113.1 _ _ a_r7_99
              have o_r0_1 := E_113.1 _ _ o_r0_1
              have a_r4_100 := E_113.1 _ _ a_r4_100
              have a_r9_100 := E_113.1 _ _ a_r9_100
              have a_r10_100 := E_113.1 _ _ a_r10_100
              have a_r11_100 := E_113.1 _ _ a_r11_100
              have a_r0_2 := E_113.1 _ _ a_r0_2
              refine lv_aload_n hx hb dX2_build_261 rfl (lv_at hl 1 rfl) ?_
              refine va_get (D := gD g) (ci := 2) (v := .ref r0_1) (C := RX2) (T := TX2) (N := 12) hx hb hts inX2 hown hK hP k_1 hk_99 rfl 0 (by decide) (hts _ kw_632) (fun _ h9 => h9) rfl dX2_build_262 ?_
              refine lv_aload_n hx hb dX2_build_265 rfl (lv_at hl 1 rfl) ?_
              refine va_get (D := gD g) (ci := 2) (v := .ref r0_1) (C := RX2) (T := TX2) (N := 12) hx hb hts inX2 hown hK hP k_1 hk_99 rfl 0 (by decide) (hts _ kw_632) (fun _ h9 => h9) rfl dX2_build_266 ?_
              refine lv_iload_n hx hb dX2_build_269 rfl (lv_at hl 0 rfl) ?_
              have hFc := gfree hD hS hA
              refine va_calli (va_runV (As := [.int z_101]) (rest := [.ref r0_1]) ⟨hx, hb, hml, hown, hts⟩ (m_X7_typeOf l g H.size ws_112 r0_1 (z_101) hG o_r0_1) (cwV 1 hts (gd_V kw_658 kw_1438 kw_1439 kw_710 kw_1437) rfl rfl rfl (by decide +kernel) ⟨Nat.le_of_ble_eq_true rfl, Nat.le_of_ble_eq_true rfl⟩) ⟨gblind, va_recv hK hP (ci := 6) (q0 := k_2) rfl hk_100, fun U hU hW9 => gmk hU hW9 hP hK hD hex hE hS hFc⟩ rfl rfl hl.1 rfl (lv_room (Nat.le_of_ble_eq_true rfl)) dX2_build_270 ⟨(show dc_200_2 + 0 ≤ PC ws + (10) from (by have q_f10_2 := f10_2; have q_fq2_f := fq2_f; have q_fq2_ge9 := fq2_ge9; have q_b_16 := h_b_16; obtain ⟨u_z_101, q_z_101⟩ := i_add ez_101; have q_s_b_16 := s_b_16; have q_iv_82 := iv_82; have q_c_98 := i_nle c_98; have q_z_97 := i_len ez_97 f17_95; have q_f17_33 := f17_33; have q_f26_33 := f26_33; have g_c1_2 := i_rg c1_2; have g_c7_2 := i_rg c7_2; have g_c8_2 := i_rg c8_2; have g_v2_81 := i_rg v2_81; have g_z_101 := i_rg z_101; have g_z_97 := i_rg z_97; omega)), (show ds_200_2 + 0 ≤ PS ws + (210 + e9.toInt.toNat) from (by have q_f10_2 := f10_2; have q_fq2_f := fq2_f; have q_fq2_ge9 := fq2_ge9; have q_b_16 := h_b_16; obtain ⟨u_z_101, q_z_101⟩ := i_add ez_101; have q_s_b_16 := s_b_16; have q_iv_82 := iv_82; have q_c_98 := i_nle c_98; have q_z_97 := i_len ez_97 f17_95; have q_f17_33 := f17_33; have q_f26_33 := f26_33; have g_c1_2 := i_rg c1_2; have g_c7_2 := i_rg c7_2; have g_c8_2 := i_rg c8_2; have g_v2_81 := i_rg v2_81; have g_z_101 := i_rg z_101; have g_z_97 := i_rg z_97; omega))⟩) hS (fun q _ h => hFc q h) hFc (fun r_116 u9 t9 H1 locs ht9 hvm9 hw9 hB9 hz9 hk9 hS => ?_)
              have hP : va_P (gD g) cl0 ws_112 H1 := by rw [← ht9]; exact hB9.1
              clear hB9 hz9 hk9 hvm9 ht9 hw9
              generalize H1 = H at hP hS ⊢
              have hFc := gfree hD hS hA
              refine va_calli (va_runV (As := [.int r_116]) (rest := []) ⟨hx, hb, hml, hown, hts⟩ (m_X7_isMethodType l g H.size ws_112 r0_1 (r_116) hG o_r0_1) (cwV 1 hts (gd_V kw_664 kw_1344 kw_1345 kw_710 kw_1343) rfl rfl rfl (by decide +kernel) ⟨Nat.le_of_ble_eq_true rfl, Nat.le_of_ble_eq_true rfl⟩) ⟨gblind, va_recv hK hP (ci := 6) (q0 := k_2) rfl hk_100, fun U hU hW9 => gmk hU hW9 hP hK hD hex hE hS hFc⟩ rfl rfl hl.1 rfl (lv_room (Nat.le_of_ble_eq_true rfl)) dX2_build_273 ⟨(show dc_200_2 + 0 ≤ PC ws + (10) from (by have q_f10_2 := f10_2; have q_fq2_f := fq2_f; have q_fq2_ge9 := fq2_ge9; have q_b_16 := h_b_16; obtain ⟨u_z_101, q_z_101⟩ := i_add ez_101; have q_s_b_16 := s_b_16; have q_iv_82 := iv_82; have q_c_98 := i_nle c_98; have q_z_97 := i_len ez_97 f17_95; have q_f17_33 := f17_33; have q_f26_33 := f26_33; have g_c1_2 := i_rg c1_2; have g_c7_2 := i_rg c7_2; have g_c8_2 := i_rg c8_2; have g_v2_81 := i_rg v2_81; have g_z_101 := i_rg z_101; have g_z_97 := i_rg z_97; omega)), (show ds_200_2 + 0 ≤ PS ws + (210 + e9.toInt.toNat) from (by have q_f10_2 := f10_2; have q_fq2_f := fq2_f; have q_fq2_ge9 := fq2_ge9; have q_b_16 := h_b_16; obtain ⟨u_z_101, q_z_101⟩ := i_add ez_101; have q_s_b_16 := s_b_16; have q_iv_82 := iv_82; have q_c_98 := i_nle c_98; have q_z_97 := i_len ez_97 f17_95; have q_f17_33 := f17_33; have q_f26_33 := f26_33; have g_c1_2 := i_rg c1_2; have g_c7_2 := i_rg c7_2; have g_c8_2 := i_rg c8_2; have g_v2_81 := i_rg v2_81; have g_z_101 := i_rg z_101; have g_z_97 := i_rg z_97; omega))⟩) hS (fun q _ h => hFc q h) hFc (fun r_117 ws_118 t9 H1 locs ht9 hvm9 hw9 hB9 hz9 hk9 hS => ?_)
              obtain ⟨E_119, Fr_120, hG, hP1, hD1⟩ := hB9
              have hP : va_P (gD g) cl0 ws_118 H1 := by rw [← ht9]; exact hP1
              have hD : va_D A ws_118 := hD1.weaken (fun _ _ _ h => hFc _ h)
              have hz_r_117 : r_117 = 0 ∨ r_117 = 1 := hw9
              clear hP1 hD1 hz9 hk9 hvm9 ht9 hw9
              generalize H1 = H at hP hS ⊢
              have aa_123 := a_r0_95
              have aa_124 := a_r5_33
              have aa_125 := a_r6_33
              have aa_126 := a_r7_33
              have aa_127 := a_r9_33
              have aa_128 := a_r10_33
              have aa_129 := a_r11_33
              have aa_130 := a_r12_33
              have aa_131 := a_r13_33
              have aa_132 := a_r7_99
              have aa_133 := a_r0_2
              have aa_134 := a_r4_100
              have aa_135 := a_r9_100
              have aa_136 := a_r10_100
              have aa_137 := a_r11_100
              have o_h0 := E_119.1 _ _ o_h0
              have o_q_3 := E_119.1 _ _ o_q_3
              have pp_138 := Fr_120.pp
              refine lv_pop hx hb dX2_build_276 rfl ?_
              refine lv_aload_n hx hb dX2_build_277 rfl (lv_at hl 2 rfl) ?_
              obtain ⟨fs9, hk_139, hq_139⟩ := ((gF.a (F' := [(6, 12), (6, 13), (6, 14)]) Fr_120 (fun _ h => h))) _ _ _ hk_95
              obtain ⟨r0_139, n0_139, c1_139, c2_139, c3_139, c4_139, r5_139, n5_139, r6_139, n6_139, r7_139, n7_139, c8_139, r9_139, n9_139, r10_139, n10_139, r11_139, n11_139, r12_139, n12_139, r13_139, n13_139, c14_139, c15_139, c16_139, c17_139, rfl, a_r0_139, f1_139, a_r5_139, f3_139, a_r6_139, f5_139, a_r7_139, f7_139, a_r9_139, f9_139, a_r10_139, f11_139, a_r11_139, f13_139, a_r12_139, f15_139, a_r13_139, f17_139, hz_c15_139, f19_139, f20_139, f21_139, f22_139, f23_139, f24_139, f25_139, f26_139, f27_139, f28_139, -⟩ := (hG.1 _ _ _ _ hk_139).hX10 rfl
              obtain rfl := fe_r (hq_139 5 (by decide))
              have hn9 := gI_n hD ((E_119).1 _ _ aa_124) a_r5_139
              subst hn9
              have a_r5_33 := a_r5_139
              obtain rfl := fe_r (hq_139 6 (by decide))
              have hn9 := gI_n hD ((E_119).1 _ _ aa_125) a_r6_139
              subst hn9
              have a_r6_33 := a_r6_139
              obtain rfl := fe_r (hq_139 7 (by decide))
              have hn9 := gI_n hD ((E_119).1 _ _ aa_126) a_r7_139
              subst hn9
              have a_r7_33 := a_r7_139
              obtain rfl := fe_r (hq_139 9 (by decide))
              have hn9 := gI_n hD ((E_119).1 _ _ aa_127) a_r9_139
              subst hn9
              have a_r9_33 := a_r9_139
              obtain rfl := fe_r (hq_139 10 (by decide))
              have hn9 := gI_n hD ((E_119).1 _ _ aa_128) a_r10_139
              subst hn9
              have a_r10_33 := a_r10_139
              obtain rfl := fe_r (hq_139 11 (by decide))
              have hn9 := gI_n hD ((E_119).1 _ _ aa_129) a_r11_139
              subst hn9
              have a_r11_33 := a_r11_139
              obtain rfl := fe_r (hq_139 12 (by decide))
              have hn9 := gI_n hD ((E_119).1 _ _ aa_130) a_r12_139
              subst hn9
              have a_r12_33 := a_r12_139
              obtain rfl := fe_r (hq_139 13 (by decide))
              have hn9 := gI_n hD ((E_119).1 _ _ aa_131) a_r13_139
              subst hn9
              have a_r13_33 := a_r13_139
              refine va_get (D := gD g) (ci := 9) (v := .ref r11_33) (C := RX10) (T := TX10) (N := 18) hx hb hts inX10 hown hK hP k_33 hk_139 rfl 11 (by decide) (hts _ kw_665) (fun _ h9 => h9) rfl dX2_build_278 ?_
              refine lv_iload_n hx hb dX2_build_281 rfl (lv_at hl 3 rfl) ?_
              refine lv_aload_n hx hb dX2_build_282 rfl (lv_at hl 1 rfl) ?_
              obtain ⟨fs9, hk_140, hq_140⟩ := ((gF.a (F' := [(6, 12), (6, 13), (6, 14)]) Fr_120 (fun _ h => h))) _ _ _ hk_99
              obtain ⟨r0_140, c1_140, c2_140, c3_140, c4_140, c5_140, c6_140, r7_140, n7_140, c8_140, c9_140, l10_140, c11_140, rfl, o_r0_140, a_r7_140, f2_140, f3_140, f4_140, -⟩ := (hG.1 _ _ _ _ hk_140).hX2 rfl
              obtain rfl := fe_r (hq_140 0 (by decide))
              have o_r0_1 := o_r0_140
              refine va_get (D := gD g) (ci := 2) (v := .ref r0_1) (C := RX2) (T := TX2) (N := 12) hx hb hts inX2 hown hK hP k_1 hk_140 rfl 0 (by decide) (hts _ kw_632) (fun _ h9 => h9) rfl dX2_build_283 ?_
              obtain ⟨fs9, hk_141, hq_141⟩ := ((gF.a (F' := [(6, 12), (6, 13), (6, 14)]) Fr_120 (fun _ h => h))) _ _ _ hk_100
              obtain ⟨r0_141, n0_141, c1_141, c2_141, c3_141, r4_141, n4_141, c5_141, c6_141, c7_141, c8_141, r9_141, n9_141, r10_141, n10_141, r11_141, n11_141, c12_141, c13_141, c14_141, c15_141, c16_141, rfl, a_r0_141, f1_141, a_r4_141, f3_141, a_r9_141, f5_141, a_r10_141, f7_141, a_r11_141, f9_141, f10_141, f11_141, f12_141, f13_141, f14_141, -⟩ := (hG.1 _ _ _ _ hk_141).hX7 rfl
              obtain rfl := fe_r (hq_141 0 (by decide))
              have hn9 := gI_n hD ((E_119).1 _ _ aa_133) a_r0_141
              subst hn9
              have a_r0_2 := a_r0_141
              obtain rfl := fe_i (hq_141 1 (by decide))
              obtain rfl := fe_i (hq_141 5 (by decide))
              obtain rfl := fe_i (hq_141 6 (by decide))
              obtain rfl := fe_i (hq_141 7 (by decide))
              obtain rfl := fe_i (hq_141 8 (by decide))
              refine va_get (D := gD g) (ci := 6) (v := .int c12_141) (C := RX7) (T := TX7) (N := 17) hx hb hts inX7 hown hK hP k_2 hk_141 rfl 12 (by decide) (hts _ kw_666) (fun _ h9 => h9) rfl dX2_build_286 ?_
              obtain ⟨k_142, f_142, hk_142⟩ := gI_of a_r11_33
              have hC9 : hol ws_118 r11_33 [(9, 11)] := (hol_u hG.u hk_139 (j := 11) rfl a_r11_33 (by decide))
              have hS9 : holS ws_118 r11_33 none := holS_n
              refine va_iast hx hb hK hP hD hS k_142 1 hk_142 rfl (i_in2 (by have q_f13_33 := f13_33; have q_f24_33 := f24_33; have q_iv_82 := iv_82; have q_c_98 := i_nle c_98; obtain ⟨u_z_101, q_z_101⟩ := i_add ez_101; have q_fq2_f := fq2_f; have q_f9_33 := f9_33; have q_f22_33 := f22_33; have q_f23_33 := f23_33; have q_f25_33 := f25_33; have q_f26_33 := f26_33; have q_f27_33 := f27_33; have q_f22_77 := f22_77; have q_f22_95 := f22_95; have q_z_97 := i_len ez_97 f17_95; have q_f22_139 := f22_139; have q_f10_2 := f10_2; have q_fq2_ge9 := fq2_ge9; have q_b_16 := h_b_16; have q_f11_33 := f11_33; have q_f15_33 := f15_33; have q_f17_33 := f17_33; have q_s_b_16 := s_b_16; have g_c1_2 := i_rg c1_2; have g_c7_2 := i_rg c7_2; have g_c8_139 := i_rg c8_139; have g_c8_2 := i_rg c8_2; have g_c8_33 := i_rg c8_33; have g_c8_77 := i_rg c8_77; have g_c8_95 := i_rg c8_95; have g_v2_81 := i_rg v2_81; have g_z_101 := i_rg z_101; have g_z_97 := i_rg z_97; omega)) dX2_build_289 (fun H locs hP hD hS => ?_)
              obtain ⟨ws_143, e_ws_143⟩ : ∃ z, z = ws_118.set k_142 (r11_33, .inl (g.cI, n11_33, .inl (upd f_142 (v2_81 : Int32).toNatClampNeg c12_141))) := ⟨_, rfl⟩
              have hP : va_P (gD g) cl0 ws_143 H := by rw [e_ws_143]; exact hP
              have hD : va_D A ws_143 := by rw [e_ws_143]; exact hD
              have E_144 : gE ws_118 ws_143 := gE_ari e_ws_143 hk_142
              have hG : Good g ws_143 := Good_arI e_ws_143 hk_142 hG
              have Fr_145 : gF [] [(9, 11)] none ws_118 ws_143 := gF_ar e_ws_143 hk_142 rfl hC9 hS9
              have pp_146 := Fr_145.pp
              have hk_139 := gset_arO e_ws_143 hk_142 hk_139
              have hk_140 := gset_arO e_ws_143 hk_142 hk_140
              have hk_141 := gset_arO e_ws_143 hk_142 hk_141
              have o_h0 := E_144.1 _ _ o_h0
              have o_q_3 := E_144.1 _ _ o_q_3
              have a_r0_139 := E_144.1 _ _ a_r0_139
              have a_r5_33 := E_144.1 _ _ a_r5_33
              have a_r6_33 := E_144.1 _ _ a_r6_33
              have a_r7_33 := E_144.1 _ _ a_r7_33
              have a_r9_33 := E_144.1 _ _ a_r9_33
              have a_r10_33 := E_144.1 _ _ a_r10_33
              have a_r11_33 := E_144.1 _ _ a_r11_33
              have a_r12_33 := E_144.1 _ _ a_r12_33
              have a_r13_33 := E_144.1 _ _ a_r13_33
              have a_r7_140 := E_144.1 _ _ a_r7_140
              have o_r0_1 := E_144.1 _ _ o_r0_1
              have a_r4_141 := E_144.1 _ _ a_r4_141
              have a_r9_141 := E_144.1 _ _ a_r9_141
              have a_r10_141 := E_144.1 _ _ a_r10_141
              have a_r11_141 := E_144.1 _ _ a_r11_141
              have a_r0_2 := E_144.1 _ _ a_r0_2
              refine lv_aload_n hx hb dX2_build_290 rfl (lv_at hl 2 rfl) ?_
              refine va_get (D := gD g) (ci := 9) (v := .ref r12_33) (C := RX10) (T := TX10) (N := 18) hx hb hts inX10 hown hK hP k_33 hk_139 rfl 12 (by decide) (hts _ kw_667) (fun _ h9 => h9) rfl dX2_build_291 ?_
              refine lv_iload_n hx hb dX2_build_294 rfl (lv_at hl 3 rfl) ?_
              refine lv_aload_n hx hb dX2_build_295 rfl (lv_at hl 1 rfl) ?_
              refine va_get (D := gD g) (ci := 2) (v := .ref r0_1) (C := RX2) (T := TX2) (N := 12) hx hb hts inX2 hown hK hP k_1 hk_140 rfl 0 (by decide) (hts _ kw_632) (fun _ h9 => h9) rfl dX2_build_296 ?_
              refine va_get (D := gD g) (ci := 6) (v := .int c14_141) (C := RX7) (T := TX7) (N := 17) hx hb hts inX7 hown hK hP k_2 hk_141 rfl 14 (by decide) (hts _ kw_668) (fun _ h9 => h9) rfl dX2_build_299 ?_
              obtain ⟨k_147, f_147, hk_147⟩ := gI_of a_r12_33
              have hC9 : hol ws_143 r12_33 [(9, 12)] := (hol_u hG.u hk_139 (j := 12) rfl a_r12_33 (by decide))
              have hS9 : holS ws_143 r12_33 none := holS_n
              refine va_iast hx hb hK hP hD hS k_147 1 hk_147 rfl (i_in2 (by have q_f15_33 := f15_33; have q_f25_33 := f25_33; have q_iv_82 := iv_82; have q_c_98 := i_nle c_98; obtain ⟨u_z_101, q_z_101⟩ := i_add ez_101; have q_fq2_f := fq2_f; have q_f9_33 := f9_33; have q_f22_33 := f22_33; have q_f23_33 := f23_33; have q_f24_33 := f24_33; have q_f26_33 := f26_33; have q_f27_33 := f27_33; have q_f22_77 := f22_77; have q_f22_95 := f22_95; have q_z_97 := i_len ez_97 f17_95; have q_f22_139 := f22_139; have q_f10_2 := f10_2; have q_fq2_ge9 := fq2_ge9; have q_b_16 := h_b_16; have q_f11_33 := f11_33; have q_f13_33 := f13_33; have q_f17_33 := f17_33; have q_s_b_16 := s_b_16; have g_c1_2 := i_rg c1_2; have g_c7_2 := i_rg c7_2; have g_c8_139 := i_rg c8_139; have g_c8_2 := i_rg c8_2; have g_c8_33 := i_rg c8_33; have g_c8_77 := i_rg c8_77; have g_c8_95 := i_rg c8_95; have g_v2_81 := i_rg v2_81; have g_z_101 := i_rg z_101; have g_z_97 := i_rg z_97; omega)) dX2_build_302 (fun H locs hP hD hS => ?_)
              obtain ⟨ws_148, e_ws_148⟩ : ∃ z, z = ws_143.set k_147 (r12_33, .inl (g.cI, n12_33, .inl (upd f_147 (v2_81 : Int32).toNatClampNeg c14_141))) := ⟨_, rfl⟩
              have hP : va_P (gD g) cl0 ws_148 H := by rw [e_ws_148]; exact hP
              have hD : va_D A ws_148 := by rw [e_ws_148]; exact hD
              have E_149 : gE ws_143 ws_148 := gE_ari e_ws_148 hk_147
              have hG : Good g ws_148 := Good_arI e_ws_148 hk_147 hG
              have Fr_150 : gF [] [(9, 12)] none ws_143 ws_148 := gF_ar e_ws_148 hk_147 rfl hC9 hS9
              have pp_151 := Fr_150.pp
              have hk_139 := gset_arO e_ws_148 hk_147 hk_139
              have hk_140 := gset_arO e_ws_148 hk_147 hk_140
              have hk_141 := gset_arO e_ws_148 hk_147 hk_141
              have o_h0 := E_149.1 _ _ o_h0
              have o_q_3 := E_149.1 _ _ o_q_3
              have a_r0_139 := E_149.1 _ _ a_r0_139
              have a_r5_33 := E_149.1 _ _ a_r5_33
              have a_r6_33 := E_149.1 _ _ a_r6_33
              have a_r7_33 := E_149.1 _ _ a_r7_33
              have a_r9_33 := E_149.1 _ _ a_r9_33
              have a_r10_33 := E_149.1 _ _ a_r10_33
              have a_r11_33 := E_149.1 _ _ a_r11_33
              have a_r12_33 := E_149.1 _ _ a_r12_33
              have a_r13_33 := E_149.1 _ _ a_r13_33
              have a_r7_140 := E_149.1 _ _ a_r7_140
              have o_r0_1 := E_149.1 _ _ o_r0_1
              have a_r4_141 := E_149.1 _ _ a_r4_141
              have a_r9_141 := E_149.1 _ _ a_r9_141
              have a_r10_141 := E_149.1 _ _ a_r10_141
              have a_r11_141 := E_149.1 _ _ a_r11_141
              have a_r0_2 := E_149.1 _ _ a_r0_2
              obtain ⟨z_152, ez_152⟩ : ∃ z : Int32, v2_81 + Int32.ofInt 1 = z := ⟨_, rfl⟩
              refine lv_iinc (v := z_152) (lv' := [(2, .int z_152), (3, .int z_101), (0, .ref h0), (1, .ref q_3)]) hx hb dX2_build_303 hl (k := 3) rfl ez_152 (by decide) rfl (fun ls hl => ?_)
              refine lv_goto (tgt := 200) hx hb dX2_build_306 (by decide) ?_
              exact ih_200 _ (by obtain ⟨u_z_152, q_z_152⟩ := i_iz ez_152 (by decide) (by decide); have q_iv_82 := iv_82; have q_c_98 := i_nle c_98; obtain ⟨u_z_101, q_z_101⟩ := i_add ez_101; have q_fq2_f := fq2_f; have q_z_97 := i_len ez_97 f17_95; have q_f10_2 := f10_2; have q_fq2_ge9 := fq2_ge9; have q_b_16 := h_b_16; have q_f17_33 := f17_33; have q_f26_33 := f26_33; have g_c1_2 := i_rg c1_2; have g_c7_2 := i_rg c7_2; have g_c8_2 := i_rg c8_2; have g_v2_81 := i_rg v2_81; have g_z_101 := i_rg z_101; have g_z_152 := i_rg z_152; have g_z_97 := i_rg z_97; omega) (z_152) (dc_200_2) (ds_200_2) ws_148 H locs ls rfl (by obtain ⟨u_z_152, q_z_152⟩ := i_iz ez_152 (by decide) (by decide); have q_iv_82 := iv_82; have q_c_98 := i_nle c_98; obtain ⟨u_z_101, q_z_101⟩ := i_add ez_101; have q_fq2_f := fq2_f; have q_z_97 := i_len ez_97 f17_95; have q_f10_2 := f10_2; have q_fq2_ge9 := fq2_ge9; have q_b_16 := h_b_16; have q_f17_33 := f17_33; have q_f26_33 := f26_33; have g_c1_2 := i_rg c1_2; have g_c7_2 := i_rg c7_2; have g_c8_2 := i_rg c8_2; have g_v2_81 := i_rg v2_81; have g_z_101 := i_rg z_101; have g_z_152 := i_rg z_152; have g_z_97 := i_rg z_97; omega) ((E_84.tr (E_106.tr (E_113.tr (E_119.tr (E_144.tr E_149)))))) ((gF.tr Fr_85 (gF.tr (gF.mo (F' := [(6, 12), (6, 13), (6, 14)]) (C' := [(9, 9), (9, 10), (9, 11), (9, 12)]) (S' := none) Fr_107 (fun _ h => absurd h List.not_mem_nil) (by decide) (Or.inr rfl)) (gF.tr (gF.mo (F' := [(6, 12), (6, 13), (6, 14)]) (C' := [(9, 9), (9, 10), (9, 11), (9, 12)]) (S' := none) Fr_114 (fun _ h => absurd h List.not_mem_nil) (by decide) (Or.inr rfl)) (gF.tr (gF.mo (F' := [(6, 12), (6, 13), (6, 14)]) (C' := [(9, 9), (9, 10), (9, 11), (9, 12)]) (S' := none) Fr_120 (fun _ h => h) (fun _ h => absurd h List.not_mem_nil) (Or.inr rfl)) (gF.tr (gF.mo (F' := [(6, 12), (6, 13), (6, 14)]) (C' := [(9, 9), (9, 10), (9, 11), (9, 12)]) (S' := none) Fr_145 (fun _ h => absurd h List.not_mem_nil) (by decide) (Or.inr rfl)) (gF.mo (F' := [(6, 12), (6, 13), (6, 14)]) (C' := [(9, 9), (9, 10), (9, 11), (9, 12)]) (S' := none) Fr_150 (fun _ h => absurd h List.not_mem_nil) (by decide) (Or.inr rfl)))))))) hG (by have q_f10_2 := f10_2; have q_fq2_f := fq2_f; have q_fq2_ge9 := fq2_ge9; have q_b_16 := h_b_16; obtain ⟨u_z_101, q_z_101⟩ := i_add ez_101; have q_s_b_16 := s_b_16; have q_iv_82 := iv_82; have q_c_98 := i_nle c_98; obtain ⟨u_z_152, q_z_152⟩ := i_iz ez_152 (by decide) (by decide); have q_z_97 := i_len ez_97 f17_95; have q_f17_33 := f17_33; have q_f26_33 := f26_33; have g_c1_2 := i_rg c1_2; have g_c7_2 := i_rg c7_2; have g_c8_2 := i_rg c8_2; have g_v2_81 := i_rg v2_81; have g_z_101 := i_rg z_101; have g_z_152 := i_rg z_152; have g_z_97 := i_rg z_97; omega) (by have q_f10_2 := f10_2; have q_fq2_f := fq2_f; have q_fq2_ge9 := fq2_ge9; have q_b_16 := h_b_16; obtain ⟨u_z_101, q_z_101⟩ := i_add ez_101; have q_s_b_16 := s_b_16; have q_iv_82 := iv_82; have q_c_98 := i_nle c_98; obtain ⟨u_z_152, q_z_152⟩ := i_iz ez_152 (by decide) (by decide); have q_z_97 := i_len ez_97 f17_95; have q_f17_33 := f17_33; have q_f26_33 := f26_33; have g_c1_2 := i_rg c1_2; have g_c7_2 := i_rg c7_2; have g_c8_2 := i_rg c8_2; have g_v2_81 := i_rg v2_81; have g_z_101 := i_rg z_101; have g_z_152 := i_rg z_152; have g_z_97 := i_rg z_97; omega) hP hD hS (lv_sub hl [2, 3, 0] rfl)
        exact J_200 _ (0) (dc_120_1) (ds_120_1) ws_59 H locs ls rfl (by have e0 : (0 : Int32).toInt = 0 := (by decide); omega) (gE.rf) (gF.rf) hG (by have q_f10_2 := f10_2; have q_fq2_f := fq2_f; have q_fq2_ge9 := fq2_ge9; have q_b_16 := h_b_16; have q_s_b_16 := s_b_16; have g_c1_2 := i_rg c1_2; have g_c7_2 := i_rg c7_2; have g_c8_2 := i_rg c8_2; omega) (by have q_f10_2 := f10_2; have q_fq2_f := fq2_f; have q_fq2_ge9 := fq2_ge9; have q_b_16 := h_b_16; have q_s_b_16 := s_b_16; have g_c1_2 := i_rg c1_2; have g_c7_2 := i_rg c7_2; have g_c8_2 := i_rg c8_2; omega) hP hD hS (lv_sub hl [1, 2, 0] rfl)
      · refine lv_aload_n hx hb dX2_build_129 rfl (lv_at hl 1 rfl) ?_
        refine va_get (D := gD g) (ci := 9) (v := .ref r5_33) (C := RX10) (T := TX10) (N := 18) hx hb hts inX10 hown hK hP k_33 hk_77 rfl 5 (by decide) (hts _ kw_655) (fun _ h9 => h9) rfl dX2_build_130 ?_
        refine lv_iload_n hx hb dX2_build_133 rfl (lv_at hl 2 rfl) ?_
        refine lv_aload_n hx hb dX2_build_134 rfl (lv_at hl 0 rfl) ?_
        obtain ⟨fs9, hk_153, hq_153⟩ := ((gF.a (F' := []) Fr_61 (fun _ h => h))) _ _ _ hk_31
        obtain ⟨r0_153, c1_153, c2_153, c3_153, c4_153, c5_153, c6_153, r7_153, n7_153, c8_153, c9_153, l10_153, c11_153, rfl, o_r0_153, a_r7_153, f2_153, f3_153, f4_153, -⟩ := (hG.1 _ _ _ _ hk_153).hX2 rfl
        obtain rfl := fe_r (hq_153 0 (by decide))
        have o_r0_1 := o_r0_153
        refine va_get (D := gD g) (ci := 2) (v := .ref r0_1) (C := RX2) (T := TX2) (N := 12) hx hb hts inX2 hown hK hP k_1 hk_153 rfl 0 (by decide) (hts _ kw_632) (fun _ h9 => h9) rfl dX2_build_135 ?_
        refine lv_aload_n hx hb dX2_build_138 rfl (lv_at hl 0 rfl) ?_
        refine va_get (D := gD g) (ci := 2) (v := .ref r0_1) (C := RX2) (T := TX2) (N := 12) hx hb hts inX2 hown hK hP k_1 hk_153 rfl 0 (by decide) (hts _ kw_632) (fun _ h9 => h9) rfl dX2_build_139 ?_
        refine lv_iload_n hx hb dX2_build_142 rfl (lv_at hl 2 rfl) ?_
        have hFc := gfree hD hS hA
        obtain ⟨k_154, fs_154, hk_154⟩ := gC_of o_r0_1
        refine va_calli (va_runV (As := [.int v2_57]) (rest := [.ref r0_1, .int v2_57, .ref r5_33]) ⟨hx, hb, hml, hown, hts⟩ (m_X7_nameOf l g H.size ws_59 r0_1 (v2_57) hG o_r0_1) (cwV 1 hts (gd_V kw_656 kw_1409 kw_1410 kw_710 kw_1408) rfl rfl rfl (by decide +kernel) ⟨Nat.le_of_ble_eq_true rfl, Nat.le_of_ble_eq_true rfl⟩) ⟨gblind, va_recv hK hP (ci := 6) (q0 := k_154) rfl hk_154, fun U hU hW9 => gmk hU hW9 hP hK hD hex hE hS hFc⟩ rfl rfl hl.1 rfl (lv_room (Nat.le_of_ble_eq_true rfl)) dX2_build_143 ⟨(show dc_120_1 + 0 ≤ PC ws + (10) from (by have q_f10_2 := f10_2; have q_fq2_f := fq2_f; have q_fq2_ge9 := fq2_ge9; have q_b_16 := h_b_16; have q_s_b_16 := s_b_16; have g_c1_2 := i_rg c1_2; have g_c7_2 := i_rg c7_2; have g_c8_2 := i_rg c8_2; omega)), (show ds_120_1 + 0 ≤ PS ws + (210 + e9.toInt.toNat) from (by have q_f10_2 := f10_2; have q_fq2_f := fq2_f; have q_fq2_ge9 := fq2_ge9; have q_b_16 := h_b_16; have q_s_b_16 := s_b_16; have g_c1_2 := i_rg c1_2; have g_c7_2 := i_rg c7_2; have g_c8_2 := i_rg c8_2; omega))⟩) hS (fun q _ h => hFc q h) hFc (fun r_155 u9 t9 H1 locs ht9 hvm9 hw9 hB9 hz9 hk9 hS => ?_)
        have hP : va_P (gD g) cl0 ws_59 H1 := by rw [← ht9]; exact hB9.1
        clear hB9 hz9 hk9 hvm9 ht9 hw9
        generalize H1 = H at hP hS ⊢
        have hFc := gfree hD hS hA
        obtain ⟨k_156, fs_156, hk_156⟩ := gC_of o_r0_1
        refine va_calli (va_runV (As := [.int r_155]) (rest := [.int v2_57, .ref r5_33]) ⟨hx, hb, hml, hown, hts⟩ (m_X7_entryAt l g H.size ws_59 r0_1 (r_155) hG o_r0_1) (cwV 1 hts (gd_V kw_633 kw_1298 kw_1299 kw_710 kw_1297) rfl rfl rfl (by decide +kernel) ⟨Nat.le_of_ble_eq_true rfl, Nat.le_of_ble_eq_true rfl⟩) ⟨gblind, va_recv hK hP (ci := 6) (q0 := k_156) rfl hk_156, fun U hU hW9 => gmk hU hW9 hP hK hD hex hE hS hFc⟩ rfl rfl hl.1 rfl (lv_room (Nat.le_of_ble_eq_true rfl)) dX2_build_146 ⟨(show dc_120_1 + 0 ≤ PC ws + (10) from (by have q_f10_2 := f10_2; have q_fq2_f := fq2_f; have q_fq2_ge9 := fq2_ge9; have q_b_16 := h_b_16; have q_s_b_16 := s_b_16; have g_c1_2 := i_rg c1_2; have g_c7_2 := i_rg c7_2; have g_c8_2 := i_rg c8_2; omega)), (show ds_120_1 + 0 ≤ PS ws + (210 + e9.toInt.toNat) from (by have q_f10_2 := f10_2; have q_fq2_f := fq2_f; have q_fq2_ge9 := fq2_ge9; have q_b_16 := h_b_16; have q_s_b_16 := s_b_16; have g_c1_2 := i_rg c1_2; have g_c7_2 := i_rg c7_2; have g_c8_2 := i_rg c8_2; omega))⟩) hS (fun q _ h => hFc q h) hFc (fun r_157 u9 t9 H1 locs ht9 hvm9 hw9 hB9 hz9 hk9 hS => ?_)
        have hP : va_P (gD g) cl0 ws_59 H1 := by rw [← ht9]; exact hB9.1
        clear hB9 hz9 hk9 hvm9 ht9 hw9
        generalize H1 = H at hP hS ⊢
        have hC9 : hol ws_59 r5_33 [(9, 5)] := (hol_u hG.u hk_77 (j := 5) rfl a_r5_33 (by decide))
        have hS9 : holS ws_59 r5_33 none := holS_n
        refine va_iast hx hb hK hP hD hS k_78 1 hk_78 rfl (i_in2 (by have q_f3_33 := f3_33; have q_f19_33 := f19_33; have q_f20_33 := f20_33; have q_f21_33 := f21_33; have q_f28_33 := f28_33; have q_iv_58 := iv_58; have q_f19_77 := f19_77; have q_z_79 := i_len ez_79 f3_77; have q_c_80 := i_nle c_80; have q_f5_33 := f5_33; have q_f7_33 := f7_33; have g_c4_33 := i_rg c4_33; have g_c4_77 := i_rg c4_77; have g_v2_57 := i_rg v2_57; have g_z_79 := i_rg z_79; omega)) dX2_build_149 (fun H locs hP hD hS => ?_)
        obtain ⟨ws_158, e_ws_158⟩ : ∃ z, z = ws_59.set k_78 (r5_33, .inl (g.cI, n5_33, .inl (upd f_78 (v2_57 : Int32).toNatClampNeg r_157))) := ⟨_, rfl⟩
        have hP : va_P (gD g) cl0 ws_158 H := by rw [e_ws_158]; exact hP
        have hD : va_D A ws_158 := by rw [e_ws_158]; exact hD
        have E_159 : gE ws_59 ws_158 := gE_ari e_ws_158 hk_78
        have hG : Good g ws_158 := Good_arI e_ws_158 hk_78 hG
        have Fr_160 : gF [] [(9, 5)] none ws_59 ws_158 := gF_ar e_ws_158 hk_78 rfl hC9 hS9
        have pp_161 := Fr_160.pp
        have hk_77 := gset_arO e_ws_158 hk_78 hk_77
        have hk_153 := gset_arO e_ws_158 hk_78 hk_153
        have o_h0 := E_159.1 _ _ o_h0
        have o_q_3 := E_159.1 _ _ o_q_3
        have a_r0_77 := E_159.1 _ _ a_r0_77
        have a_r5_33 := E_159.1 _ _ a_r5_33
        have a_r6_33 := E_159.1 _ _ a_r6_33
        have a_r7_33 := E_159.1 _ _ a_r7_33
        have a_r9_33 := E_159.1 _ _ a_r9_33
        have a_r10_33 := E_159.1 _ _ a_r10_33
        have a_r11_33 := E_159.1 _ _ a_r11_33
        have a_r12_33 := E_159.1 _ _ a_r12_33
        have a_r13_33 := E_159.1 _ _ a_r13_33
        have a_r7_153 := E_159.1 _ _ a_r7_153
        have o_r0_1 := E_159.1 _ _ o_r0_1
        refine lv_aload_n hx hb dX2_build_150 rfl (lv_at hl 1 rfl) ?_
        refine va_get (D := gD g) (ci := 9) (v := .ref r6_33) (C := RX10) (T := TX10) (N := 18) hx hb hts inX10 hown hK hP k_33 hk_77 rfl 6 (by decide) (hts _ kw_657) (fun _ h9 => h9) rfl dX2_build_151 ?_
        refine lv_iload_n hx hb dX2_build_154 rfl (lv_at hl 2 rfl) ?_
        refine lv_aload_n hx hb dX2_build_155 rfl (lv_at hl 0 rfl) ?_
        refine va_get (D := gD g) (ci := 2) (v := .ref r0_1) (C := RX2) (T := TX2) (N := 12) hx hb hts inX2 hown hK hP k_1 hk_153 rfl 0 (by decide) (hts _ kw_632) (fun _ h9 => h9) rfl dX2_build_156 ?_
        refine lv_aload_n hx hb dX2_build_159 rfl (lv_at hl 0 rfl) ?_
        refine va_get (D := gD g) (ci := 2) (v := .ref r0_1) (C := RX2) (T := TX2) (N := 12) hx hb hts inX2 hown hK hP k_1 hk_153 rfl 0 (by decide) (hts _ kw_632) (fun _ h9 => h9) rfl dX2_build_160 ?_
        refine lv_iload_n hx hb dX2_build_163 rfl (lv_at hl 2 rfl) ?_
        have hFc := gfree hD hS hA
        obtain ⟨k_162, fs_162, hk_162⟩ := gC_of o_r0_1
        refine va_calli (va_runV (As := [.int v2_57]) (rest := [.ref r0_1, .int v2_57, .ref r6_33]) ⟨hx, hb, hml, hown, hts⟩ (m_X7_typeOf l g H.size ws_158 r0_1 (v2_57) hG o_r0_1) (cwV 1 hts (gd_V kw_658 kw_1438 kw_1439 kw_710 kw_1437) rfl rfl rfl (by decide +kernel) ⟨Nat.le_of_ble_eq_true rfl, Nat.le_of_ble_eq_true rfl⟩) ⟨gblind, va_recv hK hP (ci := 6) (q0 := k_162) rfl hk_162, fun U hU hW9 => gmk hU hW9 hP hK hD hex hE hS hFc⟩ rfl rfl hl.1 rfl (lv_room (Nat.le_of_ble_eq_true rfl)) dX2_build_164 ⟨(show dc_120_1 + 0 ≤ PC ws + (10) from (by have q_f10_2 := f10_2; have q_fq2_f := fq2_f; have q_fq2_ge9 := fq2_ge9; have q_b_16 := h_b_16; have q_s_b_16 := s_b_16; have g_c1_2 := i_rg c1_2; have g_c7_2 := i_rg c7_2; have g_c8_2 := i_rg c8_2; omega)), (show ds_120_1 + 0 ≤ PS ws + (210 + e9.toInt.toNat) from (by have q_f10_2 := f10_2; have q_fq2_f := fq2_f; have q_fq2_ge9 := fq2_ge9; have q_b_16 := h_b_16; have q_s_b_16 := s_b_16; have g_c1_2 := i_rg c1_2; have g_c7_2 := i_rg c7_2; have g_c8_2 := i_rg c8_2; omega))⟩) hS (fun q _ h => hFc q h) hFc (fun r_163 u9 t9 H1 locs ht9 hvm9 hw9 hB9 hz9 hk9 hS => ?_)
        have hP : va_P (gD g) cl0 ws_158 H1 := by rw [← ht9]; exact hB9.1
        clear hB9 hz9 hk9 hvm9 ht9 hw9
        generalize H1 = H at hP hS ⊢
        have hFc := gfree hD hS hA
        obtain ⟨k_164, fs_164, hk_164⟩ := gC_of o_r0_1
        refine va_calli (va_runV (As := [.int r_163]) (rest := [.int v2_57, .ref r6_33]) ⟨hx, hb, hml, hown, hts⟩ (m_X7_entryAt l g H.size ws_158 r0_1 (r_163) hG o_r0_1) (cwV 1 hts (gd_V kw_633 kw_1298 kw_1299 kw_710 kw_1297) rfl rfl rfl (by decide +kernel) ⟨Nat.le_of_ble_eq_true rfl, Nat.le_of_ble_eq_true rfl⟩) ⟨gblind, va_recv hK hP (ci := 6) (q0 := k_164) rfl hk_164, fun U hU hW9 => gmk hU hW9 hP hK hD hex hE hS hFc⟩ rfl rfl hl.1 rfl (lv_room (Nat.le_of_ble_eq_true rfl)) dX2_build_167 ⟨(show dc_120_1 + 0 ≤ PC ws + (10) from (by have q_f10_2 := f10_2; have q_fq2_f := fq2_f; have q_fq2_ge9 := fq2_ge9; have q_b_16 := h_b_16; have q_s_b_16 := s_b_16; have g_c1_2 := i_rg c1_2; have g_c7_2 := i_rg c7_2; have g_c8_2 := i_rg c8_2; omega)), (show ds_120_1 + 0 ≤ PS ws + (210 + e9.toInt.toNat) from (by have q_f10_2 := f10_2; have q_fq2_f := fq2_f; have q_fq2_ge9 := fq2_ge9; have q_b_16 := h_b_16; have q_s_b_16 := s_b_16; have g_c1_2 := i_rg c1_2; have g_c7_2 := i_rg c7_2; have g_c8_2 := i_rg c8_2; omega))⟩) hS (fun q _ h => hFc q h) hFc (fun r_165 u9 t9 H1 locs ht9 hvm9 hw9 hB9 hz9 hk9 hS => ?_)
        have hP : va_P (gD g) cl0 ws_158 H1 := by rw [← ht9]; exact hB9.1
        clear hB9 hz9 hk9 hvm9 ht9 hw9
        generalize H1 = H at hP hS ⊢
        obtain ⟨k_166, f_166, hk_166⟩ := gI_of a_r6_33
        have hC9 : hol ws_158 r6_33 [(9, 6)] := (hol_u hG.u hk_77 (j := 6) rfl a_r6_33 (by decide))
        have hS9 : holS ws_158 r6_33 none := holS_n
        refine va_iast hx hb hK hP hD hS k_166 1 hk_166 rfl (i_in2 (by have q_f5_33 := f5_33; have q_f20_33 := f20_33; have q_iv_58 := iv_58; have q_c_80 := i_nle c_80; have q_f3_33 := f3_33; have q_f19_33 := f19_33; have q_f21_33 := f21_33; have q_f28_33 := f28_33; have q_f19_77 := f19_77; have q_z_79 := i_len ez_79 f3_77; have q_f7_33 := f7_33; have g_c4_33 := i_rg c4_33; have g_c4_77 := i_rg c4_77; have g_v2_57 := i_rg v2_57; have g_z_79 := i_rg z_79; omega)) dX2_build_170 (fun H locs hP hD hS => ?_)
        obtain ⟨ws_167, e_ws_167⟩ : ∃ z, z = ws_158.set k_166 (r6_33, .inl (g.cI, n6_33, .inl (upd f_166 (v2_57 : Int32).toNatClampNeg r_165))) := ⟨_, rfl⟩
        have hP : va_P (gD g) cl0 ws_167 H := by rw [e_ws_167]; exact hP
        have hD : va_D A ws_167 := by rw [e_ws_167]; exact hD
        have E_168 : gE ws_158 ws_167 := gE_ari e_ws_167 hk_166
        have hG : Good g ws_167 := Good_arI e_ws_167 hk_166 hG
        have Fr_169 : gF [] [(9, 6)] none ws_158 ws_167 := gF_ar e_ws_167 hk_166 rfl hC9 hS9
        have pp_170 := Fr_169.pp
        have hk_77 := gset_arO e_ws_167 hk_166 hk_77
        have hk_153 := gset_arO e_ws_167 hk_166 hk_153
        have o_h0 := E_168.1 _ _ o_h0
        have o_q_3 := E_168.1 _ _ o_q_3
        have a_r0_77 := E_168.1 _ _ a_r0_77
        have a_r5_33 := E_168.1 _ _ a_r5_33
        have a_r6_33 := E_168.1 _ _ a_r6_33
        have a_r7_33 := E_168.1 _ _ a_r7_33
        have a_r9_33 := E_168.1 _ _ a_r9_33
        have a_r10_33 := E_168.1 _ _ a_r10_33
        have a_r11_33 := E_168.1 _ _ a_r11_33
        have a_r12_33 := E_168.1 _ _ a_r12_33
        have a_r13_33 := E_168.1 _ _ a_r13_33
        have a_r7_153 := E_168.1 _ _ a_r7_153
        have o_r0_1 := E_168.1 _ _ o_r0_1
        refine lv_aload_n hx hb dX2_build_171 rfl (lv_at hl 1 rfl) ?_
        refine va_get (D := gD g) (ci := 9) (v := .ref r7_33) (C := RX10) (T := TX10) (N := 18) hx hb hts inX10 hown hK hP k_33 hk_77 rfl 7 (by decide) (hts _ kw_659) (fun _ h9 => h9) rfl dX2_build_172 ?_
        refine lv_iload_n hx hb dX2_build_175 rfl (lv_at hl 2 rfl) ?_
        refine lv_aload_n hx hb dX2_build_176 rfl (lv_at hl 0 rfl) ?_
        refine va_get (D := gD g) (ci := 2) (v := .ref r0_1) (C := RX2) (T := TX2) (N := 12) hx hb hts inX2 hown hK hP k_1 hk_153 rfl 0 (by decide) (hts _ kw_632) (fun _ h9 => h9) rfl dX2_build_177 ?_
        refine lv_aload_n hx hb dX2_build_180 rfl (lv_at hl 0 rfl) ?_
        refine va_get (D := gD g) (ci := 2) (v := .ref r0_1) (C := RX2) (T := TX2) (N := 12) hx hb hts inX2 hown hK hP k_1 hk_153 rfl 0 (by decide) (hts _ kw_632) (fun _ h9 => h9) rfl dX2_build_181 ?_
        refine lv_iload_n hx hb dX2_build_184 rfl (lv_at hl 2 rfl) ?_
        have hFc := gfree hD hS hA
        obtain ⟨k_171, fs_171, hk_171⟩ := gC_of o_r0_1
        refine va_calli (va_runV (As := [.int v2_57]) (rest := [.ref r0_1, .int v2_57, .ref r7_33]) ⟨hx, hb, hml, hown, hts⟩ (m_X7_typeOf l g H.size ws_167 r0_1 (v2_57) hG o_r0_1) (cwV 1 hts (gd_V kw_658 kw_1438 kw_1439 kw_710 kw_1437) rfl rfl rfl (by decide +kernel) ⟨Nat.le_of_ble_eq_true rfl, Nat.le_of_ble_eq_true rfl⟩) ⟨gblind, va_recv hK hP (ci := 6) (q0 := k_171) rfl hk_171, fun U hU hW9 => gmk hU hW9 hP hK hD hex hE hS hFc⟩ rfl rfl hl.1 rfl (lv_room (Nat.le_of_ble_eq_true rfl)) dX2_build_185 ⟨(show dc_120_1 + 0 ≤ PC ws + (10) from (by have q_f10_2 := f10_2; have q_fq2_f := fq2_f; have q_fq2_ge9 := fq2_ge9; have q_b_16 := h_b_16; have q_s_b_16 := s_b_16; have g_c1_2 := i_rg c1_2; have g_c7_2 := i_rg c7_2; have g_c8_2 := i_rg c8_2; omega)), (show ds_120_1 + 0 ≤ PS ws + (210 + e9.toInt.toNat) from (by have q_f10_2 := f10_2; have q_fq2_f := fq2_f; have q_fq2_ge9 := fq2_ge9; have q_b_16 := h_b_16; have q_s_b_16 := s_b_16; have g_c1_2 := i_rg c1_2; have g_c7_2 := i_rg c7_2; have g_c8_2 := i_rg c8_2; omega))⟩) hS (fun q _ h => hFc q h) hFc (fun r_172 u9 t9 H1 locs ht9 hvm9 hw9 hB9 hz9 hk9 hS => ?_)
        have hP : va_P (gD g) cl0 ws_167 H1 := by rw [← ht9]; exact hB9.1
        clear hB9 hz9 hk9 hvm9 ht9 hw9
        generalize H1 = H at hP hS ⊢
        have hFc := gfree hD hS hA
        obtain ⟨k_173, fs_173, hk_173⟩ := gC_of o_r0_1
        refine va_calli (va_runV (As := [.int r_172]) (rest := [.int v2_57, .ref r7_33]) ⟨hx, hb, hml, hown, hts⟩ (m_X7_kindOfType l g H.size ws_167 r0_1 (r_172) hG o_r0_1) (cwV 1 hts (gd_V kw_660 kw_1388 kw_1389 kw_710 kw_1387) rfl rfl rfl (by decide +kernel) ⟨Nat.le_of_ble_eq_true rfl, Nat.le_of_ble_eq_true rfl⟩) ⟨gblind, va_recv hK hP (ci := 6) (q0 := k_173) rfl hk_173, fun U hU hW9 => gmk hU hW9 hP hK hD hex hE hS hFc⟩ rfl rfl hl.1 rfl (lv_room (Nat.le_of_ble_eq_true rfl)) dX2_build_188 ⟨(show dc_120_1 + 0 ≤ PC ws + (10) from (by have q_f10_2 := f10_2; have q_fq2_f := fq2_f; have q_fq2_ge9 := fq2_ge9; have q_b_16 := h_b_16; have q_s_b_16 := s_b_16; have g_c1_2 := i_rg c1_2; have g_c7_2 := i_rg c7_2; have g_c8_2 := i_rg c8_2; omega)), (show ds_120_1 + 0 ≤ PS ws + (210 + e9.toInt.toNat) from (by have q_f10_2 := f10_2; have q_fq2_f := fq2_f; have q_fq2_ge9 := fq2_ge9; have q_b_16 := h_b_16; have q_s_b_16 := s_b_16; have g_c1_2 := i_rg c1_2; have g_c7_2 := i_rg c7_2; have g_c8_2 := i_rg c8_2; omega))⟩) hS (fun q _ h => hFc q h) hFc (fun r_174 u9 t9 H1 locs ht9 hvm9 hw9 hB9 hz9 hk9 hS => ?_)
        have hP : va_P (gD g) cl0 ws_167 H1 := by rw [← ht9]; exact hB9.1
        clear hB9 hz9 hk9 hvm9 ht9 hw9
        generalize H1 = H at hP hS ⊢
        obtain ⟨k_175, f_175, hk_175⟩ := gI_of a_r7_33
        have hC9 : hol ws_167 r7_33 [(9, 7)] := (hol_u hG.u hk_77 (j := 7) rfl a_r7_33 (by decide))
        have hS9 : holS ws_167 r7_33 none := holS_n
        refine va_iast hx hb hK hP hD hS k_175 1 hk_175 rfl (i_in2 (by have q_f7_33 := f7_33; have q_f21_33 := f21_33; have q_iv_58 := iv_58; have q_c_80 := i_nle c_80; have q_f3_33 := f3_33; have q_f19_33 := f19_33; have q_f20_33 := f20_33; have q_f28_33 := f28_33; have q_f19_77 := f19_77; have q_z_79 := i_len ez_79 f3_77; have q_f5_33 := f5_33; have g_c4_33 := i_rg c4_33; have g_c4_77 := i_rg c4_77; have g_v2_57 := i_rg v2_57; have g_z_79 := i_rg z_79; omega)) dX2_build_191 (fun H locs hP hD hS => ?_)
        obtain ⟨ws_176, e_ws_176⟩ : ∃ z, z = ws_167.set k_175 (r7_33, .inl (g.cI, n7_33, .inl (upd f_175 (v2_57 : Int32).toNatClampNeg r_174))) := ⟨_, rfl⟩
        have hP : va_P (gD g) cl0 ws_176 H := by rw [e_ws_176]; exact hP
        have hD : va_D A ws_176 := by rw [e_ws_176]; exact hD
        have E_177 : gE ws_167 ws_176 := gE_ari e_ws_176 hk_175
        have hG : Good g ws_176 := Good_arI e_ws_176 hk_175 hG
        have Fr_178 : gF [] [(9, 7)] none ws_167 ws_176 := gF_ar e_ws_176 hk_175 rfl hC9 hS9
        have pp_179 := Fr_178.pp
        have hk_77 := gset_arO e_ws_176 hk_175 hk_77
        have hk_153 := gset_arO e_ws_176 hk_175 hk_153
        have o_h0 := E_177.1 _ _ o_h0
        have o_q_3 := E_177.1 _ _ o_q_3
        have a_r0_77 := E_177.1 _ _ a_r0_77
        have a_r5_33 := E_177.1 _ _ a_r5_33
        have a_r6_33 := E_177.1 _ _ a_r6_33
        have a_r7_33 := E_177.1 _ _ a_r7_33
        have a_r9_33 := E_177.1 _ _ a_r9_33
        have a_r10_33 := E_177.1 _ _ a_r10_33
        have a_r11_33 := E_177.1 _ _ a_r11_33
        have a_r12_33 := E_177.1 _ _ a_r12_33
        have a_r13_33 := E_177.1 _ _ a_r13_33
        have a_r7_153 := E_177.1 _ _ a_r7_153
        have o_r0_1 := E_177.1 _ _ o_r0_1
        obtain ⟨z_180, ez_180⟩ : ∃ z : Int32, v2_57 + Int32.ofInt 1 = z := ⟨_, rfl⟩
        refine lv_iinc (v := z_180) (lv' := [(2, .int z_180), (0, .ref h0), (1, .ref q_3)]) hx hb dX2_build_192 hl (k := 2) rfl ez_180 (by decide) rfl (fun ls hl => ?_)
        refine lv_goto (tgt := 120) hx hb dX2_build_195 (by decide) ?_
        exact ih_120 _ (by obtain ⟨u_z_180, q_z_180⟩ := i_iz ez_180 (by decide) (by decide); have q_iv_58 := iv_58; have q_c_80 := i_nle c_80; have q_z_79 := i_len ez_79 f3_77; have q_f3_33 := f3_33; have q_f19_33 := f19_33; have q_f20_33 := f20_33; have q_f21_33 := f21_33; have q_f28_33 := f28_33; have q_f19_77 := f19_77; have g_c4_33 := i_rg c4_33; have g_c4_77 := i_rg c4_77; have g_v2_57 := i_rg v2_57; have g_z_180 := i_rg z_180; have g_z_79 := i_rg z_79; omega) (z_180) (dc_120_1) (ds_120_1) ws_176 H locs ls rfl (by obtain ⟨u_z_180, q_z_180⟩ := i_iz ez_180 (by decide) (by decide); have q_iv_58 := iv_58; have q_c_80 := i_nle c_80; have q_z_79 := i_len ez_79 f3_77; have q_f3_33 := f3_33; have q_f19_33 := f19_33; have q_f20_33 := f20_33; have q_f21_33 := f21_33; have q_f28_33 := f28_33; have q_f19_77 := f19_77; have g_c4_33 := i_rg c4_33; have g_c4_77 := i_rg c4_77; have g_v2_57 := i_rg v2_57; have g_z_180 := i_rg z_180; have g_z_79 := i_rg z_79; omega) ((E_60.tr (E_159.tr (E_168.tr E_177)))) ((gF.tr Fr_61 (gF.tr (gF.mo (F' := []) (C' := [(9, 5), (9, 6), (9, 7)]) (S' := none) Fr_160 (fun _ h => h) (by decide) (Or.inr rfl)) (gF.tr (gF.mo (F' := []) (C' := [(9, 5), (9, 6), (9, 7)]) (S' := none) Fr_169 (fun _ h => h) (by decide) (Or.inr rfl)) (gF.mo (F' := []) (C' := [(9, 5), (9, 6), (9, 7)]) (S' := none) Fr_178 (fun _ h => h) (by decide) (Or.inr rfl)))))) hG (by have q_f10_2 := f10_2; have q_fq2_f := fq2_f; have q_fq2_ge9 := fq2_ge9; have q_b_16 := h_b_16; have q_s_b_16 := s_b_16; have g_c1_2 := i_rg c1_2; have g_c7_2 := i_rg c7_2; have g_c8_2 := i_rg c8_2; omega) (by have q_f10_2 := f10_2; have q_fq2_f := fq2_f; have q_fq2_ge9 := fq2_ge9; have q_b_16 := h_b_16; have q_s_b_16 := s_b_16; have g_c1_2 := i_rg c1_2; have g_c7_2 := i_rg c7_2; have g_c8_2 := i_rg c8_2; omega) hP hD hS (lv_sub hl [1, 2, 0] rfl)
  exact J_120 _ (0) (0 + 1 + dc_8 + dc_23) (0 + 18 + ds_9 + ds_24) ws_53 H locs ls rfl (by have e0 : (0 : Int32).toInt = 0 := (by decide); omega) (gE.rf) (gF.rf) hG (by have q_f10_2 := f10_2; have q_fq2_f := fq2_f; have q_fq2_ge9 := fq2_ge9; have q_b_16 := h_b_16; have q_s_b_16 := s_b_16; have g_c1_2 := i_rg c1_2; have g_c7_2 := i_rg c7_2; have g_c8_2 := i_rg c8_2; omega) (by have q_f10_2 := f10_2; have q_fq2_f := fq2_f; have q_fq2_ge9 := fq2_ge9; have q_b_16 := h_b_16; have q_s_b_16 := s_b_16; have g_c1_2 := i_rg c1_2; have g_c7_2 := i_rg c7_2; have g_c8_2 := i_rg c8_2; omega) hP hD hS (lv_sub hl [2, 1, 0] rfl)
