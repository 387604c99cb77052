set_option maxHeartbeats 1000000 in
set_option maxRecDepth 100000 in
theorem m_J7_copyOf_9075b (l : Launch) (g : Gm) (H0 : Heap) (ws : va_W) (b0 : Nat) (n_b0 : Nat) (x1 : Int32) (S0 : Option Nat) (hG : Good g ws) (a_b0 : gI ws b0 g.cB n_b0) (s_b0 : n_b0 < 2147483648) (p0 : 0 ≤ x1.toInt) (p1 : x1.toInt ≤ 524288) (pn : x1.toInt ≠ (n_b0 : Int)) : Met l yJ7_copyOf_9075b (wt yJ7_copyOf_9075b cJ7_copyOf_9075b 3 (some (.array .byte))) ({ frames := 1, cells := (1), slots := (x1.toInt.toNat), locals := 40 }) (va_Pc [.ref b0, .int x1] (st_H g H0 ws)) (va_Qq (fun (r : Option Nat) (u9 : va_W) => ∃ b n : Nat, r = some b ∧ gI u9 b g.cB n ∧ n < 2147483648 ∧ frs u9 b ∧ ((n : Int) = x1.toInt)) (gQ2 g [] [] S0 (va_A ws H0.size) ws H0 (1) (x1.toInt.toNat)) (va_A ws H0.size)) ((1)) ((x1.toInt.toNat)) (va_A ws H0.size) := by
  refine Met.ofW (cc := cJ7_copyOf_9075b) (maxL := 3) (ret := (some (.array .byte))) (by decide) rfl ?_
  intro p e s m args below meth c s₁ B hml hv
  obtain ⟨rfl, hH0, hsz, hP, hK, hD0, hex, hE⟩ := hv
  have hx := B.exec
  have hb := B.bytes
  have hr := B.returns
  have hts0 := atoms_spec (ws := wt yJ7_copyOf_9075b cJ7_copyOf_9075b 3 (some (.array .byte))) B.pre
  have hts : ∀ w ∈ tb, w.before _ s = true := fun w h => hts0 w (List.mem_cons_of_mem _ h)
  have hown : s.vm.findClass RJ7 = some m.cls := findClass_of_methodNamed B.named
  subst hH0
  have hD := hD0.self (sz := s.heap.size)
  generalize hAe : va_A ws s.heap.size = A at hD hE ⊢
  have hA : ∀ q : Nat, s.heap.size ≤ q → A q := fun q h => by rw [← hAe]; exact Or.inr h
  have hS : va_S A s.heap s.heap [] := va_S.rf
  have hl := lv_entry ([.ref b0, .int x1]) (n := 3) (Nat.le_of_ble_eq_true rfl)
  rw [lg_entry_eq]
  generalize (lg_sl ([.ref b0, .int x1]) ++ List.replicate (3 - (lg_sl ([.ref b0, .int x1])).length) Slot.unset).toArray = ls at hl ⊢
  have hl : lv_has ls 3 [(0, .ref b0), (1, .int x1)] := hl
  refine lv_iload_n hx hb dJ7_copyOf_9075b_0 rfl (lv_at hl 1 rfl) ?_
  refine lv_aload_n hx hb dJ7_copyOf_9075b_1 rfl (lv_at hl 0 rfl) ?_
  obtain ⟨k_1, f_1, hk_1⟩ := gI_of a_b0
  obtain ⟨z_2, ez_2⟩ : ∃ z : Int32, Int32.ofNat n_b0 = z := ⟨_, rfl⟩
  refine va_alen (v := z_2) hx hb hK hP k_1 0 hk_1 rfl ez_2 dJ7_copyOf_9075b_2 ?_
  refine lv_icmp_ne (tgt := 14) hx hb dJ7_copyOf_9075b_3 (by decide) (fun c_3 => ?_) (fun c_3 => ?_)
  · refine lv_iload_n hx hb dJ7_copyOf_9075b_14 rfl (lv_at hl 1 rfl) ?_
    obtain ⟨n_5, en_5⟩ : ∃ y : Nat, (x1 : Int32).toNatClampNeg = y := ⟨_, rfl⟩
    have bn_5 : n_5 ≤ 524288 := i_cl en_5 (by have q_p0 := p0; have q_p1 := p1; have q_pn := pn; have q_c_3 := i_ne c_3; have q_s_b0 := s_b0; have q_z_2 := i_len ez_2 s_b0; have g_x1 := i_rg x1; have g_z_2 := i_rg z_2; omega)
    have zn_5 : 0 ≤ (x1 : Int32).toInt := (by have q_p0 := p0; have q_p1 := p1; have q_pn := pn; have q_c_3 := i_ne c_3; have q_s_b0 := s_b0; have q_z_2 := i_len ez_2 s_b0; have g_x1 := i_rg x1; have g_z_2 := i_rg z_2; omega)
    have q_n_5 := i_nn en_5 zn_5
    refine va_newa (atype := .byte) (ty := .byte) (a0 := (n_5, .inl (fun _ => 0))) (N' := n_5) hx hb (hts (.arrayClass .byte) kw_11) rfl hK hP hD hS hA (fun _ => rfl) (i_nl0 zn_5) en_5 (i_by bn_5 (by decide)) (show 0 + 1 ≤ (1) from (by have e0 : (0 : Int32).toInt = 0 := (by decide); have q_p0 := p0; have q_p1 := p1; have q_pn := pn; have q_c_3 := i_ne c_3; have q_s_b0 := s_b0; have q_z_2 := i_len ez_2 s_b0; have g_x1 := i_rg x1; have g_z_2 := i_rg z_2; omega)) (show 0 + n_5 ≤ (x1.toInt.toNat) from (by have e0 : (0 : Int32).toInt = 0 := (by decide); have q_p0 := p0; have q_p1 := p1; have q_pn := pn; have q_c_3 := i_ne c_3; have q_s_b0 := s_b0; have q_z_2 := i_len ez_2 s_b0; have g_x1 := i_rg x1; have g_z_2 := i_rg z_2; omega)) dJ7_copyOf_9075b_15 (fun q_4 cA9 H hK9 hP hD hS => ?_)
    obtain rfl := cls_new hK hK9 (k := 0) rfl (fun _ h => by cases h)
    clear hK9
    have hD9 := hD
    obtain ⟨ws_6, e_ws_6⟩ : ∃ z, z = ws ++ [(q_4, .inl (g.cB, n_5, .inl (fun _ => 0)))] := ⟨_, rfl⟩
    have hP : va_P (gD g) cl0 ws_6 H := by rw [e_ws_6]; exact hP
    have hD : va_D A ws_6 := by rw [e_ws_6]; exact hD
    have E_7 : gE ws ws_6 := by rw [e_ws_6]; exact gE_push
    have Fr_8 : gF [] [] S0 ws ws_6 := by rw [e_ws_6]; exact gF_push
    have fr_q_4 : frs ws_6 q_4 := by rw [e_ws_6]; exact frs_new hD9 hG.u
    have hG : Good g ws_6 := by rw [e_ws_6]; exact Good_pushI hD9 hG
    have a_q_4 : gI ws_6 q_4 g.cB n_5 := by rw [e_ws_6]; exact gS_new
    have s_q_4 : n_5 < 2147483648 := Nat.lt_of_le_of_lt bn_5 (by decide)
    have pp_9 := Fr_8.pp
    have hk_1 := get_oldE e_ws_6 hk_1
    have a_b0 := E_7.1 _ _ a_b0
    refine lv_astore_n (lv' := [(2, .ref q_4), (0, .ref b0), (1, .int x1)]) hx hb dJ7_copyOf_9075b_17 rfl hl (by decide) rfl (fun ls hl => ?_)
    refine lv_aload_n hx hb dJ7_copyOf_9075b_18 rfl (lv_at hl 1 rfl) ?_
    refine lv_iconst (v := 0) hx hb dJ7_copyOf_9075b_19 (by decide) ?_
    refine lv_aload_n hx hb dJ7_copyOf_9075b_20 rfl (lv_at hl 0 rfl) ?_
    refine lv_iconst (v := 0) hx hb dJ7_copyOf_9075b_21 (by decide) ?_
    refine lv_aload_n hx hb dJ7_copyOf_9075b_22 rfl (lv_at hl 1 rfl) ?_
    obtain ⟨z_10, ez_10⟩ : ∃ z : Int32, Int32.ofNat n_b0 = z := ⟨_, rfl⟩
    refine va_alen (v := z_10) hx hb hK hP k_1 0 hk_1 rfl ez_10 dJ7_copyOf_9075b_23 ?_
    refine lv_iload_n hx hb dJ7_copyOf_9075b_24 rfl (lv_at hl 2 rfl) ?_
    refine va_mmin hx hb (by rw [hml]; exact hl.1.symm) hown (hts _ kw_1742) (hts _ kw_1750) (hts _ kw_1748) (hts _ kw_1749) (Nat.le_of_ble_eq_true rfl) (Nat.le_of_ble_eq_true rfl) (show 0 + 1 ≤ (1) from (by have q_p0 := p0; have q_p1 := p1; have q_pn := pn; have q_c_3 := i_ne c_3; have q_n_5 := i_nn en_5 zn_5; have q2_n_5 := bn_5; have q_s_b0 := s_b0; have q_z_2 := i_len ez_2 s_b0; have q_z_10 := i_len ez_10 s_b0; have g_x1 := i_rg x1; have g_z_10 := i_rg z_10; have g_z_2 := i_rg z_2; omega)) (show 0 + n_5 ≤ (x1.toInt.toNat) from (by have q_p0 := p0; have q_p1 := p1; have q_pn := pn; have q_c_3 := i_ne c_3; have q_n_5 := i_nn en_5 zn_5; have q2_n_5 := bn_5; have q_s_b0 := s_b0; have q_z_2 := i_len ez_2 s_b0; have q_z_10 := i_len ez_10 s_b0; have g_x1 := i_rg x1; have g_z_10 := i_rg z_10; have g_z_2 := i_rg z_2; omega)) dJ7_copyOf_9075b_25 ?_
    refine lv_topi (fun z_11 ez_11 => ?_)
    obtain ⟨k_12, f_12, hk_12⟩ := gI_of a_q_4
    have hC9 : hol ws_6 q_4 [] := (hol_f fr_q_4)
    have hS9 : holS ws_6 q_4 S0 := holS_f fr_q_4
    refine va_copyi hx hb (by rw [hml]; exact hl.1.symm) hown (hts _ kw_1743) (hts _ kw_28) (hts _ kw_29) (hts _ kw_30) hK hP hD hS k_1 k_12 0 0 hk_1 hk_12 rfl rfl rfl (by decide) (by decide) (i_nl0 (by have q_z_11 := i_min ez_11; have q_p0 := p0; have q_p1 := p1; have q_pn := pn; have q_c_3 := i_ne c_3; have q_n_5 := i_nn en_5 zn_5; have q_z_10 := i_len ez_10 s_b0; have g_x1 := i_rg x1; have g_z_10 := i_rg z_10; have g_z_11 := i_rg z_11; have g_z_2 := i_rg z_2; omega)) (i_cp (by have e0 : (0 : Int32).toInt = 0 := (by decide); have q_s_b0 := s_b0; have q_pn := pn; have q_z_2 := i_len ez_2 s_b0; have q_z_10 := i_len ez_10 s_b0; have q_z_11 := i_min ez_11; have q_p0 := p0; have q_p1 := p1; have q_c_3 := i_ne c_3; have q_n_5 := i_nn en_5 zn_5; have g_x1 := i_rg x1; have g_z_10 := i_rg z_10; have g_z_11 := i_rg z_11; have g_z_2 := i_rg z_2; omega)) (i_cp (by have e0 : (0 : Int32).toInt = 0 := (by decide); have q_n_5 := i_nn en_5 zn_5; have q2_n_5 := bn_5; have q_z_11 := i_min ez_11; have q_p0 := p0; have q_p1 := p1; have q_pn := pn; have q_c_3 := i_ne c_3; have q_z_10 := i_len ez_10 s_b0; have g_x1 := i_rg x1; have g_z_10 := i_rg z_10; have g_z_11 := i_rg z_11; have g_z_2 := i_rg z_2; omega)) (fun i _ => hG.2.2.1 _ _ _ _ hk_1 _) (Nat.le_of_ble_eq_true rfl) (Nat.le_of_ble_eq_true rfl) dJ7_copyOf_9075b_28 (fun H locs hP hD hS => ?_)
    obtain ⟨ws_13, e_ws_13⟩ : ∃ z, z = ws_6.set k_12 (q_4, .inl (g.cB, n_5, .inl (va_cpy f_1 f_12 (0 : Int32).toNatClampNeg (0 : Int32).toNatClampNeg (z_11 : Int32).toNatClampNeg))) := ⟨_, rfl⟩
    have hP : va_P (gD g) cl0 ws_13 H := by rw [e_ws_13]; exact hP
    have hD : va_D A ws_13 := by rw [e_ws_13]; exact hD
    have E_14 : gE ws_6 ws_13 := gE_ari e_ws_13 hk_12
    have hG : Good g ws_13 := Good_arC e_ws_13 hk_12 hG hk_1
    have Fr_15 : gF [] [] S0 ws_6 ws_13 := gF_ar e_ws_13 hk_12 rfl hC9 hS9
    have fr_q_4 := frs_ar e_ws_13 hk_12 fr_q_4
    have pp_16 := Fr_15.pp
    have a_b0 := E_14.1 _ _ a_b0
    have a_q_4 := E_14.1 _ _ a_q_4
    refine lv_aload_n hx hb dJ7_copyOf_9075b_31 rfl (lv_at hl 0 rfl) ?_
    refine W_led (fun hLd => ?_)
    have hcl : 0 + 1 + PC ws_13 ≤ PC ws + (1) := (by have q_p0 := p0; have q_p1 := p1; have q_pn := pn; have q_c_3 := i_ne c_3; have q_n_5 := i_nn en_5 zn_5; have q2_n_5 := bn_5; have q_z_11 := i_min ez_11; have q_s_b0 := s_b0; have q_z_2 := i_len ez_2 s_b0; have q_z_10 := i_len ez_10 s_b0; have g_x1 := i_rg x1; have g_z_10 := i_rg z_10; have g_z_11 := i_rg z_11; have g_z_2 := i_rg z_2; omega)
    have hsl : 0 + n_5 + PS ws_13 ≤ PS ws + (x1.toInt.toNat) := (by have q_p0 := p0; have q_p1 := p1; have q_pn := pn; have q_c_3 := i_ne c_3; have q_n_5 := i_nn en_5 zn_5; have q2_n_5 := bn_5; have q_z_11 := i_min ez_11; have q_s_b0 := s_b0; have q_z_2 := i_len ez_2 s_b0; have q_z_10 := i_len ez_10 s_b0; have g_x1 := i_rg x1; have g_z_10 := i_rg z_10; have g_z_11 := i_rg z_11; have g_z_2 := i_rg z_2; omega)
    refine W.widen (k := (1)) (n := (x1.toInt.toNat)) (by omega) (by omega) ?_
    exact W.aret (v := .ref q_4) hx hb hr (Or.inr ⟨_, rfl⟩) (Or.inr ⟨_, rfl⟩) (fun t9 ht9 hW9 => ⟨⟨some q_4, ws_13, rfl, ⟨_, _, rfl, a_q_4, s_q_4, fr_q_4, (by have q_p0 := p0; have q_p1 := p1; have q_pn := pn; have q_c_3 := i_ne c_3; have q_n_5 := i_nn en_5 zn_5; have q2_n_5 := bn_5; have q_z_11 := i_min ez_11; have q_s_b0 := s_b0; have q_z_2 := i_len ez_2 s_b0; have q_z_10 := i_len ez_10 s_b0; have g_x1 := i_rg x1; have g_z_10 := i_rg z_10; have g_z_11 := i_rg z_11; have g_z_2 := i_rg z_2; omega)⟩, ⟨(E_7.tr E_14), (gF.tr Fr_8 Fr_15), hG, by rw [ht9]; exact hP, hD, _, _, by rw [ht9]; exact hLd, hcl, hsl⟩⟩, hS.F ht9⟩) hS.2.2 dJ7_copyOf_9075b_32
  · exact False.elim (by have q_p0 := p0; have q_p1 := p1; have q_pn := pn; have q_z_2 := i_len ez_2 s_b0; have q_c_3 := i_eq c_3; have q_s_b0 := s_b0; have g_x1 := i_rg x1; have g_z_2 := i_rg z_2; omega)
set_option maxHeartbeats 1000000 in
set_option maxRecDepth 100000 in
theorem m_J7_copyOf_59c91 (l : Launch) (g : Gm) (H0 : Heap) (ws : va_W) (b0 : Nat) (n_b0 : Nat) (x1 : Int32) (S0 : Option Nat) (hG : Good g ws) (a_b0 : gI ws b0 g.cI n_b0) (s_b0 : n_b0 < 2147483648) (p0 : 0 ≤ x1.toInt) (p1 : x1.toInt ≤ 524288) (pn : x1.toInt ≠ (n_b0 : Int)) : Met l yJ7_copyOf_59c91 (wt yJ7_copyOf_59c91 cJ7_copyOf_59c91 3 (some (.array .int))) ({ frames := 1, cells := (1), slots := (x1.toInt.toNat), locals := 40 }) (va_Pc [.ref b0, .int x1] (st_H g H0 ws)) (va_Qq (fun (r : Option Nat) (u9 : va_W) => ∃ b n : Nat, r = some b ∧ gI u9 b g.cI n ∧ n < 2147483648 ∧ frs u9 b ∧ ((n : Int) = x1.toInt)) (gQ2 g [] [] S0 (va_A ws H0.size) ws H0 (1) (x1.toInt.toNat)) (va_A ws H0.size)) ((1)) ((x1.toInt.toNat)) (va_A ws H0.size) := by
  refine Met.ofW (cc := cJ7_copyOf_59c91) (maxL := 3) (ret := (some (.array .int))) (by decide) rfl ?_
  intro p e s m args below meth c s₁ B hml hv
  obtain ⟨rfl, hH0, hsz, hP, hK, hD0, hex, hE⟩ := hv
  have hx := B.exec
  have hb := B.bytes
  have hr := B.returns
  have hts0 := atoms_spec (ws := wt yJ7_copyOf_59c91 cJ7_copyOf_59c91 3 (some (.array .int))) B.pre
  have hts : ∀ w ∈ tb, w.before _ s = true := fun w h => hts0 w (List.mem_cons_of_mem _ h)
  have hown : s.vm.findClass RJ7 = some m.cls := findClass_of_methodNamed B.named
  subst hH0
  have hD := hD0.self (sz := s.heap.size)
  generalize hAe : va_A ws s.heap.size = A at hD hE ⊢
  have hA : ∀ q : Nat, s.heap.size ≤ q → A q := fun q h => by rw [← hAe]; exact Or.inr h
  have hS : va_S A s.heap s.heap [] := va_S.rf
  have hl := lv_entry ([.ref b0, .int x1]) (n := 3) (Nat.le_of_ble_eq_true rfl)
  rw [lg_entry_eq]
  generalize (lg_sl ([.ref b0, .int x1]) ++ List.replicate (3 - (lg_sl ([.ref b0, .int x1])).length) Slot.unset).toArray = ls at hl ⊢
  have hl : lv_has ls 3 [(0, .ref b0), (1, .int x1)] := hl
  refine lv_iload_n hx hb dJ7_copyOf_59c91_0 rfl (lv_at hl 1 rfl) ?_
  refine lv_aload_n hx hb dJ7_copyOf_59c91_1 rfl (lv_at hl 0 rfl) ?_
  obtain ⟨k_1, f_1, hk_1⟩ := gI_of a_b0
  obtain ⟨z_2, ez_2⟩ : ∃ z : Int32, Int32.ofNat n_b0 = z := ⟨_, rfl⟩
  refine va_alen (v := z_2) hx hb hK hP k_1 1 hk_1 rfl ez_2 dJ7_copyOf_59c91_2 ?_
  refine lv_icmp_ne (tgt := 14) hx hb dJ7_copyOf_59c91_3 (by decide) (fun c_3 => ?_) (fun c_3 => ?_)
  · refine lv_iload_n hx hb dJ7_copyOf_59c91_14 rfl (lv_at hl 1 rfl) ?_
    obtain ⟨n_5, en_5⟩ : ∃ y : Nat, (x1 : Int32).toNatClampNeg = y := ⟨_, rfl⟩
    have bn_5 : n_5 ≤ 524288 := i_cl en_5 (by have q_p0 := p0; have q_p1 := p1; have q_pn := pn; have q_c_3 := i_ne c_3; have q_s_b0 := s_b0; have q_z_2 := i_len ez_2 s_b0; have g_x1 := i_rg x1; have g_z_2 := i_rg z_2; omega)
    have zn_5 : 0 ≤ (x1 : Int32).toInt := (by have q_p0 := p0; have q_p1 := p1; have q_pn := pn; have q_c_3 := i_ne c_3; have q_s_b0 := s_b0; have q_z_2 := i_len ez_2 s_b0; have g_x1 := i_rg x1; have g_z_2 := i_rg z_2; omega)
    have q_n_5 := i_nn en_5 zn_5
    refine va_newa (atype := .int) (ty := .int) (a0 := (n_5, .inl (fun _ => 0))) (N' := n_5) hx hb (hts (.arrayClass .int) kw_51) rfl hK hP hD hS hA (fun _ => rfl) (i_nl0 zn_5) en_5 (i_by bn_5 (by decide)) (show 0 + 1 ≤ (1) from (by have e0 : (0 : Int32).toInt = 0 := (by decide); have q_p0 := p0; have q_p1 := p1; have q_pn := pn; have q_c_3 := i_ne c_3; have q_s_b0 := s_b0; have q_z_2 := i_len ez_2 s_b0; have g_x1 := i_rg x1; have g_z_2 := i_rg z_2; omega)) (show 0 + n_5 ≤ (x1.toInt.toNat) from (by have e0 : (0 : Int32).toInt = 0 := (by decide); have q_p0 := p0; have q_p1 := p1; have q_pn := pn; have q_c_3 := i_ne c_3; have q_s_b0 := s_b0; have q_z_2 := i_len ez_2 s_b0; have g_x1 := i_rg x1; have g_z_2 := i_rg z_2; omega)) dJ7_copyOf_59c91_15 (fun q_4 cA9 H hK9 hP hD hS => ?_)
    obtain rfl := cls_new hK hK9 (k := 1) rfl (fun _ h => by cases h)
    clear hK9
    have hD9 := hD
    obtain ⟨ws_6, e_ws_6⟩ : ∃ z, z = ws ++ [(q_4, .inl (g.cI, n_5, .inl (fun _ => 0)))] := ⟨_, rfl⟩
    have hP : va_P (gD g) cl0 ws_6 H := by rw [e_ws_6]; exact hP
    have hD : va_D A ws_6 := by rw [e_ws_6]; exact hD
    have E_7 : gE ws ws_6 := by rw [e_ws_6]; exact gE_push
    have Fr_8 : gF [] [] S0 ws ws_6 := by rw [e_ws_6]; exact gF_push
    have fr_q_4 : frs ws_6 q_4 := by rw [e_ws_6]; exact frs_new hD9 hG.u
    have hG : Good g ws_6 := by rw [e_ws_6]; exact Good_pushI hD9 hG
    have a_q_4 : gI ws_6 q_4 g.cI n_5 := by rw [e_ws_6]; exact gS_new
    have s_q_4 : n_5 < 2147483648 := Nat.lt_of_le_of_lt bn_5 (by decide)
    have pp_9 := Fr_8.pp
    have hk_1 := get_oldE e_ws_6 hk_1
    have a_b0 := E_7.1 _ _ a_b0
    refine lv_astore_n (lv' := [(2, .ref q_4), (0, .ref b0), (1, .int x1)]) hx hb dJ7_copyOf_59c91_17 rfl hl (by decide) rfl (fun ls hl => ?_)
    refine lv_aload_n hx hb dJ7_copyOf_59c91_18 rfl (lv_at hl 1 rfl) ?_
    refine lv_iconst (v := 0) hx hb dJ7_copyOf_59c91_19 (by decide) ?_
    refine lv_aload_n hx hb dJ7_copyOf_59c91_20 rfl (lv_at hl 0 rfl) ?_
    refine lv_iconst (v := 0) hx hb dJ7_copyOf_59c91_21 (by decide) ?_
    refine lv_aload_n hx hb dJ7_copyOf_59c91_22 rfl (lv_at hl 1 rfl) ?_
    obtain ⟨z_10, ez_10⟩ : ∃ z : Int32, Int32.ofNat n_b0 = z := ⟨_, rfl⟩
    refine va_alen (v := z_10) hx hb hK hP k_1 1 hk_1 rfl ez_10 dJ7_copyOf_59c91_23 ?_
    refine lv_iload_n hx hb dJ7_copyOf_59c91_24 rfl (lv_at hl 2 rfl) ?_
    refine va_mmin hx hb (by rw [hml]; exact hl.1.symm) hown (hts _ kw_1742) (hts _ kw_1750) (hts _ kw_1748) (hts _ kw_1749) (Nat.le_of_ble_eq_true rfl) (Nat.le_of_ble_eq_true rfl) (show 0 + 1 ≤ (1) from (by have q_p0 := p0; have q_p1 := p1; have q_pn := pn; have q_c_3 := i_ne c_3; have q_n_5 := i_nn en_5 zn_5; have q2_n_5 := bn_5; have q_s_b0 := s_b0; have q_z_2 := i_len ez_2 s_b0; have q_z_10 := i_len ez_10 s_b0; have g_x1 := i_rg x1; have g_z_10 := i_rg z_10; have g_z_2 := i_rg z_2; omega)) (show 0 + n_5 ≤ (x1.toInt.toNat) from (by have q_p0 := p0; have q_p1 := p1; have q_pn := pn; have q_c_3 := i_ne c_3; have q_n_5 := i_nn en_5 zn_5; have q2_n_5 := bn_5; have q_s_b0 := s_b0; have q_z_2 := i_len ez_2 s_b0; have q_z_10 := i_len ez_10 s_b0; have g_x1 := i_rg x1; have g_z_10 := i_rg z_10; have g_z_2 := i_rg z_2; omega)) dJ7_copyOf_59c91_25 ?_
    refine lv_topi (fun z_11 ez_11 => ?_)
    obtain ⟨k_12, f_12, hk_12⟩ := gI_of a_q_4
    have hC9 : hol ws_6 q_4 [] := (hol_f fr_q_4)
    have hS9 : holS ws_6 q_4 S0 := holS_f fr_q_4
    refine va_copyi hx hb (by rw [hml]; exact hl.1.symm) hown (hts _ kw_1743) (hts _ kw_28) (hts _ kw_29) (hts _ kw_30) hK hP hD hS k_1 k_12 1 1 hk_1 hk_12 rfl rfl rfl (by decide) (by decide) (i_nl0 (by have q_z_11 := i_min ez_11; have q_p0 := p0; have q_p1 := p1; have q_pn := pn; have q_c_3 := i_ne c_3; have q_n_5 := i_nn en_5 zn_5; have q_z_10 := i_len ez_10 s_b0; have g_x1 := i_rg x1; have g_z_10 := i_rg z_10; have g_z_11 := i_rg z_11; have g_z_2 := i_rg z_2; omega)) (i_cp (by have e0 : (0 : Int32).toInt = 0 := (by decide); have q_s_b0 := s_b0; have q_pn := pn; have q_z_2 := i_len ez_2 s_b0; have q_z_10 := i_len ez_10 s_b0; have q_z_11 := i_min ez_11; have q_p0 := p0; have q_p1 := p1; have q_c_3 := i_ne c_3; have q_n_5 := i_nn en_5 zn_5; have g_x1 := i_rg x1; have g_z_10 := i_rg z_10; have g_z_11 := i_rg z_11; have g_z_2 := i_rg z_2; omega)) (i_cp (by have e0 : (0 : Int32).toInt = 0 := (by decide); have q_n_5 := i_nn en_5 zn_5; have q2_n_5 := bn_5; have q_z_11 := i_min ez_11; have q_p0 := p0; have q_p1 := p1; have q_pn := pn; have q_c_3 := i_ne c_3; have q_z_10 := i_len ez_10 s_b0; have g_x1 := i_rg x1; have g_z_10 := i_rg z_10; have g_z_11 := i_rg z_11; have g_z_2 := i_rg z_2; omega)) (fun _ _ => rfl) (Nat.le_of_ble_eq_true rfl) (Nat.le_of_ble_eq_true rfl) dJ7_copyOf_59c91_28 (fun H locs hP hD hS => ?_)
    obtain ⟨ws_13, e_ws_13⟩ : ∃ z, z = ws_6.set k_12 (q_4, .inl (g.cI, n_5, .inl (va_cpy f_1 f_12 (0 : Int32).toNatClampNeg (0 : Int32).toNatClampNeg (z_11 : Int32).toNatClampNeg))) := ⟨_, rfl⟩
    have hP : va_P (gD g) cl0 ws_13 H := by rw [e_ws_13]; exact hP
    have hD : va_D A ws_13 := by rw [e_ws_13]; exact hD
    have E_14 : gE ws_6 ws_13 := gE_ari e_ws_13 hk_12
    have hG : Good g ws_13 := Good_arI e_ws_13 hk_12 hG
    have Fr_15 : gF [] [] S0 ws_6 ws_13 := gF_ar e_ws_13 hk_12 rfl hC9 hS9
    have fr_q_4 := frs_ar e_ws_13 hk_12 fr_q_4
    have pp_16 := Fr_15.pp
    have a_b0 := E_14.1 _ _ a_b0
    have a_q_4 := E_14.1 _ _ a_q_4
    refine lv_aload_n hx hb dJ7_copyOf_59c91_31 rfl (lv_at hl 0 rfl) ?_
    refine W_led (fun hLd => ?_)
    have hcl : 0 + 1 + PC ws_13 ≤ PC ws + (1) := (by have q_p0 := p0; have q_p1 := p1; have q_pn := pn; have q_c_3 := i_ne c_3; have q_n_5 := i_nn en_5 zn_5; have q2_n_5 := bn_5; have q_z_11 := i_min ez_11; have q_s_b0 := s_b0; have q_z_2 := i_len ez_2 s_b0; have q_z_10 := i_len ez_10 s_b0; have g_x1 := i_rg x1; have g_z_10 := i_rg z_10; have g_z_11 := i_rg z_11; have g_z_2 := i_rg z_2; omega)
    have hsl : 0 + n_5 + PS ws_13 ≤ PS ws + (x1.toInt.toNat) := (by have q_p0 := p0; have q_p1 := p1; have q_pn := pn; have q_c_3 := i_ne c_3; have q_n_5 := i_nn en_5 zn_5; have q2_n_5 := bn_5; have q_z_11 := i_min ez_11; have q_s_b0 := s_b0; have q_z_2 := i_len ez_2 s_b0; have q_z_10 := i_len ez_10 s_b0; have g_x1 := i_rg x1; have g_z_10 := i_rg z_10; have g_z_11 := i_rg z_11; have g_z_2 := i_rg z_2; omega)
    refine W.widen (k := (1)) (n := (x1.toInt.toNat)) (by omega) (by omega) ?_
    exact W.aret (v := .ref q_4) hx hb hr (Or.inr ⟨_, rfl⟩) (Or.inr ⟨_, rfl⟩) (fun t9 ht9 hW9 => ⟨⟨some q_4, ws_13, rfl, ⟨_, _, rfl, a_q_4, s_q_4, fr_q_4, (by have q_p0 := p0; have q_p1 := p1; have q_pn := pn; have q_c_3 := i_ne c_3; have q_n_5 := i_nn en_5 zn_5; have q2_n_5 := bn_5; have q_z_11 := i_min ez_11; have q_s_b0 := s_b0; have q_z_2 := i_len ez_2 s_b0; have q_z_10 := i_len ez_10 s_b0; have g_x1 := i_rg x1; have g_z_10 := i_rg z_10; have g_z_11 := i_rg z_11; have g_z_2 := i_rg z_2; omega)⟩, ⟨(E_7.tr E_14), (gF.tr Fr_8 Fr_15), hG, by rw [ht9]; exact hP, hD, _, _, by rw [ht9]; exact hLd, hcl, hsl⟩⟩, hS.F ht9⟩) hS.2.2 dJ7_copyOf_59c91_32
  · exact False.elim (by have q_p0 := p0; have q_p1 := p1; have q_pn := pn; have q_z_2 := i_len ez_2 s_b0; have q_c_3 := i_eq c_3; have q_s_b0 := s_b0; have g_x1 := i_rg x1; have g_z_2 := i_rg z_2; omega)
set_option maxHeartbeats 1000000 in
set_option maxRecDepth 100000 in
theorem m_X8_init (l : Launch) (g : Gm) (H0 : Heap) (ws : va_W) (k0 : Nat) (h0 : Nat) (x1 : Int32) (x2 : Int32) (x3 : Int32) (hX : GoodX g k0 ws) (hk0 : ows ws k0 h0 7 dfX8) (p1 : 0 ≤ x1.toInt ∧ x1.toInt ≤ 1296) (p2 : 0 ≤ x2.toInt ∧ x2.toInt ≤ 1200) (p3 : 0 ≤ x3.toInt ∧ x3.toInt ≤ 16) : Met l yX8_init (wt yX8_init cX8_init 4 none) ({ frames := 1, cells := (7), slots := (2 * x1.toInt.toNat + x2.toInt.toNat + 4 * x3.toInt.toNat), locals := 12 }) (va_Pc [.ref h0, .int x1, .int x2, .int x3] (st_H g H0 ws)) (va_Qv (fun (u9 : va_W) => gP u9 h0 (fun fs => ∀ (rn n : Nat), fs[0]? = some (.ref rn) → gI u9 rn g.cI n → (n : Int) = x1.toInt) ∧ gP u9 h0 (fun fs => ∀ (rn n : Nat), fs[3]? = some (.ref rn) → gI u9 rn g.cI n → (n : Int) = x2.toInt) ∧ gP u9 h0 (fun fs => ∀ (rn n : Nat), fs[5]? = some (.ref rn) → gI u9 rn g.cI n → (n : Int) = x3.toInt) ∧ gP u9 h0 (fun fs => ∀ c : Int32, fs[2]? = some (.int c) → c.toInt = 0) ∧ gP u9 h0 (fun fs => ∀ c : Int32, fs[4]? = some (.int c) → c.toInt = 0)) (gQ3 g k0 (va_A ws H0.size) ws H0 (7) (2 * x1.toInt.toNat + x2.toInt.toNat + 4 * x3.toInt.toNat)) (va_A ws H0.size)) ((7)) ((2 * x1.toInt.toNat + x2.toInt.toNat + 4 * x3.toInt.toNat)) (va_A ws H0.size) := by
  refine Met.ofW (cc := cX8_init) (maxL := 4) (ret := none) (by decide) rfl ?_
  intro p e s m args below meth c s₁ B hml hv
  obtain ⟨rfl, hH0, hsz, hP, hK, hD0, hex, hE⟩ := hv
  have hx := B.exec
  have hb := B.bytes
  have hr := B.returns
  have hts0 := atoms_spec (ws := wt yX8_init cX8_init 4 none) B.pre
  have hts : ∀ w ∈ tb, w.before _ s = true := fun w h => hts0 w (List.mem_cons_of_mem _ h)
  have hown : s.vm.findClass RX8 = some m.cls := findClass_of_methodNamed B.named
  subst hH0
  have hD := hD0.self (sz := s.heap.size)
  generalize hAe : va_A ws s.heap.size = A at hD hE ⊢
  have hA : ∀ q : Nat, s.heap.size ≤ q → A q := fun q h => by rw [← hAe]; exact Or.inr h
  have hS : va_S A s.heap s.heap [] := va_S.rf
  have hl := lv_entry ([.ref h0, .int x1, .int x2, .int x3]) (n := 4) (Nat.le_of_ble_eq_true rfl)
  rw [lg_entry_eq]
  generalize (lg_sl ([.ref h0, .int x1, .int x2, .int x3]) ++ List.replicate (4 - (lg_sl ([.ref h0, .int x1, .int x2, .int x3])).length) Slot.unset).toArray = ls at hl ⊢
  have hl : lv_has ls 4 [(0, .ref h0), (1, .int x1), (2, .int x2), (3, .int x3)] := hl
  have hin9 : meth.name = "<init>" := (name_of_methodNamed B.named B.method).1
  have hk_0 : ows ws k0 h0 7 [.null, .null, .int 0, .null, .int 0, .null, .null, .null, .null, .int 0, .int 0, .int 0, .null, .null, .null] := hk0
  have o_h0 : gC ws h0 7 := ⟨_, _, hk0, rfl⟩
  refine lv_aload_n hx hb dX8_init_0 rfl (lv_at hl 0 rfl) ?_
  refine W.objInit hx hb hown (hts _ kw_1498) (hts _ kw_9) (hts _ kw_10) rfl (by rw [hml]; exact hl.1) rfl dX8_init_1 (Nat.le_of_ble_eq_true rfl) (Nat.le_of_ble_eq_true rfl) ?_
  refine W.eq (g2 := F0 m 4 ls []) rfl ?_
  refine lv_aload_n hx hb dX8_init_4 rfl (lv_at hl 0 rfl) ?_
  refine lv_iload_n hx hb dX8_init_5 rfl (lv_at hl 1 rfl) ?_
  obtain ⟨n_2, en_2⟩ : ∃ y : Nat, (x1 : Int32).toNatClampNeg = y := ⟨_, rfl⟩
  have bn_2 : n_2 ≤ 1296 := i_cl en_2 (by have q_p1 := p1; have g_x1 := i_rg x1; omega)
  have zn_2 : 0 ≤ (x1 : Int32).toInt := (by have q_p1 := p1; have g_x1 := i_rg x1; omega)
  have q_n_2 := i_nn en_2 zn_2
  refine va_newa (atype := .int) (ty := .int) (a0 := (n_2, .inl (fun _ => 0))) (N' := n_2) hx hb (hts (.arrayClass .int) kw_51) rfl hK hP hD hS hA (fun _ => rfl) (i_nl0 zn_2) en_2 (i_by bn_2 (by decide)) (show 0 + 1 ≤ (7) from (by have e0 : (0 : Int32).toInt = 0 := (by decide); have q_p1 := p1; have g_x1 := i_rg x1; omega)) (show 0 + n_2 ≤ (2 * x1.toInt.toNat + x2.toInt.toNat + 4 * x3.toInt.toNat) from (by have e0 : (0 : Int32).toInt = 0 := (by decide); have q_p1 := p1; have g_x1 := i_rg x1; omega)) dX8_init_6 (fun q_1 cA9 H hK9 hP hD hS => ?_)
  obtain rfl := cls_new hK hK9 (k := 1) rfl (fun _ h => by cases h)
  clear hK9
  have hD9 := hD
  obtain ⟨ws_3, e_ws_3⟩ : ∃ z, z = ws ++ [(q_1, .inl (g.cI, n_2, .inl (fun _ => 0)))] := ⟨_, rfl⟩
  have hP : va_P (gD g) cl0 ws_3 H := by rw [e_ws_3]; exact hP
  have hD : va_D A ws_3 := by rw [e_ws_3]; exact hD
  have E_4 : gE ws ws_3 := by rw [e_ws_3]; exact gE_push
  have Fr_5 : gF [] [] none ws ws_3 := by rw [e_ws_3]; exact gF_push
  have fr_q_1 : frs ws_3 q_1 := by rw [e_ws_3]; exact frs_new hD9 hX.u
  have hX : GoodX g k0 ws_3 := by rw [e_ws_3]; exact hX.pushI hD9 (ows_lt hk_0)
  have a_q_1 : gI ws_3 q_1 g.cI n_2 := by rw [e_ws_3]; exact gS_new
  have s_q_1 : n_2 < 2147483648 := Nat.lt_of_le_of_lt bn_2 (by decide)
  have pp_6 := Fr_5.pp
  have Gx_7 : gX k0 ws ws_3 := gX_push e_ws_3
  have hk_0 := get_oldE e_ws_3 hk_0
  have o_h0 := E_4.1 _ _ o_h0
  have hV9 : okv ws_3 7 0 (.ref q_1) := (okv_a a_q_1 fr_q_1)
  refine va_put (D := gD g) (ci := 7) (v := .ref q_1) (ty := (.array .int)) (C := RX8) (T := TX8) (N := 15) hx hb hts inX8 tyX8 tyX8_ok nmX8 hown hK hP hD hS k0 hk_0 rfl 0 (by decide) (hts _ kw_1460) (fun _ h9 => h9) rfl (by decide +kernel) rfl rfl (Nat.le_of_ble_eq_true rfl) dX8_init_8 (fun H locs hP hD hS => ?_)
  obtain ⟨ws_8, e_ws_8⟩ : ∃ z, z = ws_3.set k0 (h0, .inr (7, [.ref q_1, .null, .int 0, .null, .int 0, .null, .null, .null, .null, .int 0, .int 0, .int 0, .null, .null, .null])) := ⟨_, rfl⟩
  have hP : va_P (gD g) cl0 ws_8 H := by rw [e_ws_8]; exact hP
  have hD : va_D A ws_8 := by rw [e_ws_8]; exact hD
  have E_9 : gE ws_3 ws_8 := gE_set e_ws_8 hk_0 (cw_o (fi := 0) (v := .ref q_1) rfl (by decide))
  have hX : GoodX g k0 ws_8 := GoodX.set (fi := 0) (v := .ref q_1) e_ws_8 hk_0 E_9 rfl hV9 hX
  have Fr_10 : gF [(7, 0)] [] (some h0) ws_3 ws_8 := gF_put (fi := 0) (v := .ref q_1) e_ws_8 hk_0 rfl (by decide)
  have Gx_11 : gX k0 ws_3 ws_8 := gX_set e_ws_8 hk_0
  have pp_12 := Fr_10.pp
  have hkN := gset_self e_ws_8 hk_0
  have hk_0 := hkN
  have o_h0 := E_9.1 _ _ o_h0
  have a_q_1 := E_9.1 _ _ a_q_1
  refine lv_aload_n hx hb dX8_init_11 rfl (lv_at hl 0 rfl) ?_
  refine lv_iload_n hx hb dX8_init_12 rfl (lv_at hl 1 rfl) ?_
  obtain ⟨n_14, en_14⟩ : ∃ y : Nat, (x1 : Int32).toNatClampNeg = y := ⟨_, rfl⟩
  have bn_14 : n_14 ≤ 1296 := i_cl en_14 (by have q_p1 := p1; have q_n_2 := i_nn en_2 zn_2; have q2_n_2 := bn_2; have g_x1 := i_rg x1; omega)
  have zn_14 : 0 ≤ (x1 : Int32).toInt := (by have q_p1 := p1; have q_n_2 := i_nn en_2 zn_2; have q2_n_2 := bn_2; have g_x1 := i_rg x1; omega)
  have q_n_14 := i_nn en_14 zn_14
  refine va_newa (atype := .long) (ty := .long) (a0 := (n_14, .inr (.inl (fun _ => 0)))) (N' := n_14) hx hb (hts (.arrayClass .long) kw_564) rfl hK hP hD hS hA (fun _ => rfl) (i_nl0 zn_14) en_14 (i_by bn_14 (by decide)) (show 0 + 1 + 1 ≤ (7) from (by have q_p1 := p1; have q_n_2 := i_nn en_2 zn_2; have q2_n_2 := bn_2; have g_x1 := i_rg x1; omega)) (show 0 + n_2 + n_14 ≤ (2 * x1.toInt.toNat + x2.toInt.toNat + 4 * x3.toInt.toNat) from (by have q_p1 := p1; have q_n_2 := i_nn en_2 zn_2; have q2_n_2 := bn_2; have g_x1 := i_rg x1; omega)) dX8_init_13 (fun q_13 cA9 H hK9 hP hD hS => ?_)
  obtain rfl := cls_new hK hK9 (k := 3) rfl (fun _ h => by cases h)
  clear hK9
  have hD9 := hD
  obtain ⟨ws_15, e_ws_15⟩ : ∃ z, z = ws_8 ++ [(q_13, .inl (g.cL, n_14, .inr (.inl (fun _ => 0))))] := ⟨_, rfl⟩
  have hP : va_P (gD g) cl0 ws_15 H := by rw [e_ws_15]; exact hP
  have hD : va_D A ws_15 := by rw [e_ws_15]; exact hD
  have E_16 : gE ws_8 ws_15 := by rw [e_ws_15]; exact gE_push
  have Fr_17 : gF [] [] none ws_8 ws_15 := by rw [e_ws_15]; exact gF_push
  have fr_q_13 : frs ws_15 q_13 := by rw [e_ws_15]; exact frs_new hD9 hX.u
  have hX : GoodX g k0 ws_15 := by rw [e_ws_15]; exact hX.pushJ hD9 (ows_lt hk_0)
  have a_q_13 : gJ ws_15 q_13 g.cL n_14 := by rw [e_ws_15]; exact gS_new
  have s_q_13 : n_14 < 2147483648 := Nat.lt_of_le_of_lt bn_14 (by decide)
  have pp_18 := Fr_17.pp
  have Gx_19 : gX k0 ws_8 ws_15 := gX_push e_ws_15
  have hk_0 := get_oldE e_ws_15 hk_0
  have o_h0 := E_16.1 _ _ o_h0
  have a_q_1 := E_16.1 _ _ a_q_1
  have hV9 : okv ws_15 7 1 (.ref q_13) := (okv_a a_q_13 fr_q_13)
  refine va_put (D := gD g) (ci := 7) (v := .ref q_13) (ty := (.array .long)) (C := RX8) (T := TX8) (N := 15) hx hb hts inX8 tyX8 tyX8_ok nmX8 hown hK hP hD hS k0 hk_0 rfl 1 (by decide) (hts _ kw_1478) (fun _ h9 => h9) rfl (by decide +kernel) rfl rfl (Nat.le_of_ble_eq_true rfl) dX8_init_15 (fun H locs hP hD hS => ?_)
  obtain ⟨ws_20, e_ws_20⟩ : ∃ z, z = ws_15.set k0 (h0, .inr (7, [.ref q_1, .ref q_13, .int 0, .null, .int 0, .null, .null, .null, .null, .int 0, .int 0, .int 0, .null, .null, .null])) := ⟨_, rfl⟩
  have hP : va_P (gD g) cl0 ws_20 H := by rw [e_ws_20]; exact hP
  have hD : va_D A ws_20 := by rw [e_ws_20]; exact hD
  have E_21 : gE ws_15 ws_20 := gE_set e_ws_20 hk_0 (cw_o (fi := 1) (v := .ref q_13) rfl (by decide))
  have hX : GoodX g k0 ws_20 := GoodX.set (fi := 1) (v := .ref q_13) e_ws_20 hk_0 E_21 rfl hV9 hX
  have Fr_22 : gF [(7, 1)] [] (some h0) ws_15 ws_20 := gF_put (fi := 1) (v := .ref q_13) e_ws_20 hk_0 rfl (by decide)
  have Gx_23 : gX k0 ws_15 ws_20 := gX_set e_ws_20 hk_0
  have pp_24 := Fr_22.pp
  have hkN := gset_self e_ws_20 hk_0
  have hk_0 := hkN
  have o_h0 := E_21.1 _ _ o_h0
  have a_q_1 := E_21.1 _ _ a_q_1
  have a_q_13 := E_21.1 _ _ a_q_13
  refine lv_aload_n hx hb dX8_init_18 rfl (lv_at hl 0 rfl) ?_
  refine lv_iload_n hx hb dX8_init_19 rfl (lv_at hl 2 rfl) ?_
  obtain ⟨n_26, en_26⟩ : ∃ y : Nat, (x2 : Int32).toNatClampNeg = y := ⟨_, rfl⟩
  have bn_26 : n_26 ≤ 1200 := i_cl en_26 (by have q_p2 := p2; have g_x2 := i_rg x2; omega)
  have zn_26 : 0 ≤ (x2 : Int32).toInt := (by have q_p2 := p2; have g_x2 := i_rg x2; omega)
  have q_n_26 := i_nn en_26 zn_26
  refine va_newa (atype := .int) (ty := .int) (a0 := (n_26, .inl (fun _ => 0))) (N' := n_26) hx hb (hts (.arrayClass .int) kw_51) rfl hK hP hD hS hA (fun _ => rfl) (i_nl0 zn_26) en_26 (i_by bn_26 (by decide)) (show 0 + 1 + 1 + 1 ≤ (7) from (by have q_p1 := p1; have q_p2 := p2; have q_n_2 := i_nn en_2 zn_2; have q2_n_2 := bn_2; have q_n_14 := i_nn en_14 zn_14; have q2_n_14 := bn_14; have g_x1 := i_rg x1; have g_x2 := i_rg x2; omega)) (show 0 + n_2 + n_14 + n_26 ≤ (2 * x1.toInt.toNat + x2.toInt.toNat + 4 * x3.toInt.toNat) from (by have q_p1 := p1; have q_p2 := p2; have q_n_2 := i_nn en_2 zn_2; have q2_n_2 := bn_2; have q_n_14 := i_nn en_14 zn_14; have q2_n_14 := bn_14; have g_x1 := i_rg x1; have g_x2 := i_rg x2; omega)) dX8_init_20 (fun q_25 cA9 H hK9 hP hD hS => ?_)
  obtain rfl := cls_new hK hK9 (k := 1) rfl (fun _ h => by cases h)
  clear hK9
  have hD9 := hD
  obtain ⟨ws_27, e_ws_27⟩ : ∃ z, z = ws_20 ++ [(q_25, .inl (g.cI, n_26, .inl (fun _ => 0)))] := ⟨_, rfl⟩
  have hP : va_P (gD g) cl0 ws_27 H := by rw [e_ws_27]; exact hP
  have hD : va_D A ws_27 := by rw [e_ws_27]; exact hD
  have E_28 : gE ws_20 ws_27 := by rw [e_ws_27]; exact gE_push
  have Fr_29 : gF [] [] none ws_20 ws_27 := by rw [e_ws_27]; exact gF_push
  have fr_q_25 : frs ws_27 q_25 := by rw [e_ws_27]; exact frs_new hD9 hX.u
  have hX : GoodX g k0 ws_27 := by rw [e_ws_27]; exact hX.pushI hD9 (ows_lt hk_0)
  have a_q_25 : gI ws_27 q_25 g.cI n_26 := by rw [e_ws_27]; exact gS_new
  have s_q_25 : n_26 < 2147483648 := Nat.lt_of_le_of_lt bn_26 (by decide)
  have pp_30 := Fr_29.pp
  have Gx_31 : gX k0 ws_20 ws_27 := gX_push e_ws_27
  have hk_0 := get_oldE e_ws_27 hk_0
  have o_h0 := E_28.1 _ _ o_h0
  have a_q_1 := E_28.1 _ _ a_q_1
  have a_q_13 := E_28.1 _ _ a_q_13
  have hV9 : okv ws_27 7 3 (.ref q_25) := (okv_a a_q_25 fr_q_25)
  refine va_put (D := gD g) (ci := 7) (v := .ref q_25) (ty := (.array .int)) (C := RX8) (T := TX8) (N := 15) hx hb hts inX8 tyX8 tyX8_ok nmX8 hown hK hP hD hS k0 hk_0 rfl 3 (by decide) (hts _ kw_1474) (fun _ h9 => h9) rfl (by decide +kernel) rfl rfl (Nat.le_of_ble_eq_true rfl) dX8_init_22 (fun H locs hP hD hS => ?_)
  obtain ⟨ws_32, e_ws_32⟩ : ∃ z, z = ws_27.set k0 (h0, .inr (7, [.ref q_1, .ref q_13, .int 0, .ref q_25, .int 0, .null, .null, .null, .null, .int 0, .int 0, .int 0, .null, .null, .null])) := ⟨_, rfl⟩
  have hP : va_P (gD g) cl0 ws_32 H := by rw [e_ws_32]; exact hP
  have hD : va_D A ws_32 := by rw [e_ws_32]; exact hD
  have E_33 : gE ws_27 ws_32 := gE_set e_ws_32 hk_0 (cw_o (fi := 3) (v := .ref q_25) rfl (by decide))
  have hX : GoodX g k0 ws_32 := GoodX.set (fi := 3) (v := .ref q_25) e_ws_32 hk_0 E_33 rfl hV9 hX
  have Fr_34 : gF [(7, 3)] [] (some h0) ws_27 ws_32 := gF_put (fi := 3) (v := .ref q_25) e_ws_32 hk_0 rfl (by decide)
  have Gx_35 : gX k0 ws_27 ws_32 := gX_set e_ws_32 hk_0
  have pp_36 := Fr_34.pp
  have hkN := gset_self e_ws_32 hk_0
  have hk_0 := hkN
  have o_h0 := E_33.1 _ _ o_h0
  have a_q_1 := E_33.1 _ _ a_q_1
  have a_q_13 := E_33.1 _ _ a_q_13
  have a_q_25 := E_33.1 _ _ a_q_25
  refine lv_aload_n hx hb dX8_init_25 rfl (lv_at hl 0 rfl) ?_
  refine lv_iload_n hx hb dX8_init_26 rfl (lv_at hl 3 rfl) ?_
  obtain ⟨n_38, en_38⟩ : ∃ y : Nat, (x3 : Int32).toNatClampNeg = y := ⟨_, rfl⟩
  have bn_38 : n_38 ≤ 16 := i_cl en_38 (by have q_p3 := p3; have g_x3 := i_rg x3; omega)
  have zn_38 : 0 ≤ (x3 : Int32).toInt := (by have q_p3 := p3; have g_x3 := i_rg x3; omega)
  have q_n_38 := i_nn en_38 zn_38
  refine va_newa (atype := .int) (ty := .int) (a0 := (n_38, .inl (fun _ => 0))) (N' := n_38) hx hb (hts (.arrayClass .int) kw_51) rfl hK hP hD hS hA (fun _ => rfl) (i_nl0 zn_38) en_38 (i_by bn_38 (by decide)) (show 0 + 1 + 1 + 1 + 1 ≤ (7) from (by have q_p1 := p1; have q_p2 := p2; have q_p3 := p3; have q_n_2 := i_nn en_2 zn_2; have q2_n_2 := bn_2; have q_n_14 := i_nn en_14 zn_14; have q2_n_14 := bn_14; have q_n_26 := i_nn en_26 zn_26; have q2_n_26 := bn_26; have g_x1 := i_rg x1; have g_x2 := i_rg x2; have g_x3 := i_rg x3; omega)) (show 0 + n_2 + n_14 + n_26 + n_38 ≤ (2 * x1.toInt.toNat + x2.toInt.toNat + 4 * x3.toInt.toNat) from (by have q_p1 := p1; have q_p2 := p2; have q_p3 := p3; have q_n_2 := i_nn en_2 zn_2; have q2_n_2 := bn_2; have q_n_14 := i_nn en_14 zn_14; have q2_n_14 := bn_14; have q_n_26 := i_nn en_26 zn_26; have q2_n_26 := bn_26; have g_x1 := i_rg x1; have g_x2 := i_rg x2; have g_x3 := i_rg x3; omega)) dX8_init_27 (fun q_37 cA9 H hK9 hP hD hS => ?_)
  obtain rfl := cls_new hK hK9 (k := 1) rfl (fun _ h => by cases h)
  clear hK9
  have hD9 := hD
  obtain ⟨ws_39, e_ws_39⟩ : ∃ z, z = ws_32 ++ [(q_37, .inl (g.cI, n_38, .inl (fun _ => 0)))] := ⟨_, rfl⟩
  have hP : va_P (gD g) cl0 ws_39 H := by rw [e_ws_39]; exact hP
  have hD : va_D A ws_39 := by rw [e_ws_39]; exact hD
  have E_40 : gE ws_32 ws_39 := by rw [e_ws_39]; exact gE_push
  have Fr_41 : gF [] [] none ws_32 ws_39 := by rw [e_ws_39]; exact gF_push
  have fr_q_37 : frs ws_39 q_37 := by rw [e_ws_39]; exact frs_new hD9 hX.u
  have hX : GoodX g k0 ws_39 := by rw [e_ws_39]; exact hX.pushI hD9 (ows_lt hk_0)
  have a_q_37 : gI ws_39 q_37 g.cI n_38 := by rw [e_ws_39]; exact gS_new
  have s_q_37 : n_38 < 2147483648 := Nat.lt_of_le_of_lt bn_38 (by decide)
  have pp_42 := Fr_41.pp
  have Gx_43 : gX k0 ws_32 ws_39 := gX_push e_ws_39
  have hk_0 := get_oldE e_ws_39 hk_0
  have o_h0 := E_40.1 _ _ o_h0
  have a_q_1 := E_40.1 _ _ a_q_1
  have a_q_13 := E_40.1 _ _ a_q_13
  have a_q_25 := E_40.1 _ _ a_q_25
  have hV9 : okv ws_39 7 5 (.ref q_37) := (okv_a a_q_37 fr_q_37)
  refine va_put (D := gD g) (ci := 7) (v := .ref q_37) (ty := (.array .int)) (C := RX8) (T := TX8) (N := 15) hx hb hts inX8 tyX8 tyX8_ok nmX8 hown hK hP hD hS k0 hk_0 rfl 5 (by decide) (hts _ kw_1466) (fun _ h9 => h9) rfl (by decide +kernel) rfl rfl (Nat.le_of_ble_eq_true rfl) dX8_init_29 (fun H locs hP hD hS => ?_)
  obtain ⟨ws_44, e_ws_44⟩ : ∃ z, z = ws_39.set k0 (h0, .inr (7, [.ref q_1, .ref q_13, .int 0, .ref q_25, .int 0, .ref q_37, .null, .null, .null, .int 0, .int 0, .int 0, .null, .null, .null])) := ⟨_, rfl⟩
  have hP : va_P (gD g) cl0 ws_44 H := by rw [e_ws_44]; exact hP
  have hD : va_D A ws_44 := by rw [e_ws_44]; exact hD
  have E_45 : gE ws_39 ws_44 := gE_set e_ws_44 hk_0 (cw_o (fi := 5) (v := .ref q_37) rfl (by decide))
  have hX : GoodX g k0 ws_44 := GoodX.set (fi := 5) (v := .ref q_37) e_ws_44 hk_0 E_45 rfl hV9 hX
  have Fr_46 : gF [(7, 5)] [] (some h0) ws_39 ws_44 := gF_put (fi := 5) (v := .ref q_37) e_ws_44 hk_0 rfl (by decide)
  have Gx_47 : gX k0 ws_39 ws_44 := gX_set e_ws_44 hk_0
  have pp_48 := Fr_46.pp
  have hkN := gset_self e_ws_44 hk_0
  have hk_0 := hkN
  have o_h0 := E_45.1 _ _ o_h0
  have a_q_1 := E_45.1 _ _ a_q_1
  have a_q_13 := E_45.1 _ _ a_q_13
  have a_q_25 := E_45.1 _ _ a_q_25
  have a_q_37 := E_45.1 _ _ a_q_37
  refine lv_aload_n hx hb dX8_init_32 rfl (lv_at hl 0 rfl) ?_
  refine lv_iload_n hx hb dX8_init_33 rfl (lv_at hl 3 rfl) ?_
  obtain ⟨n_50, en_50⟩ : ∃ y : Nat, (x3 : Int32).toNatClampNeg = y := ⟨_, rfl⟩
  have bn_50 : n_50 ≤ 16 := i_cl en_50 (by have q_p3 := p3; have q_n_38 := i_nn en_38 zn_38; have q2_n_38 := bn_38; have g_x3 := i_rg x3; omega)
  have zn_50 : 0 ≤ (x3 : Int32).toInt := (by have q_p3 := p3; have q_n_38 := i_nn en_38 zn_38; have q2_n_38 := bn_38; have g_x3 := i_rg x3; omega)
  have q_n_50 := i_nn en_50 zn_50
  refine va_newa (atype := .int) (ty := .int) (a0 := (n_50, .inl (fun _ => 0))) (N' := n_50) hx hb (hts (.arrayClass .int) kw_51) rfl hK hP hD hS hA (fun _ => rfl) (i_nl0 zn_50) en_50 (i_by bn_50 (by decide)) (show 0 + 1 + 1 + 1 + 1 + 1 ≤ (7) from (by have q_p1 := p1; have q_p2 := p2; have q_p3 := p3; have q_n_2 := i_nn en_2 zn_2; have q2_n_2 := bn_2; have q_n_14 := i_nn en_14 zn_14; have q2_n_14 := bn_14; have q_n_26 := i_nn en_26 zn_26; have q2_n_26 := bn_26; have q_n_38 := i_nn en_38 zn_38; have q2_n_38 := bn_38; have g_x1 := i_rg x1; have g_x2 := i_rg x2; have g_x3 := i_rg x3; omega)) (show 0 + n_2 + n_14 + n_26 + n_38 + n_50 ≤ (2 * x1.toInt.toNat + x2.toInt.toNat + 4 * x3.toInt.toNat) from (by have q_p1 := p1; have q_p2 := p2; have q_p3 := p3; have q_n_2 := i_nn en_2 zn_2; have q2_n_2 := bn_2; have q_n_14 := i_nn en_14 zn_14; have q2_n_14 := bn_14; have q_n_26 := i_nn en_26 zn_26; have q2_n_26 := bn_26; have q_n_38 := i_nn en_38 zn_38; have q2_n_38 := bn_38; have g_x1 := i_rg x1; have g_x2 := i_rg x2; have g_x3 := i_rg x3; omega)) dX8_init_34 (fun q_49 cA9 H hK9 hP hD hS => ?_)
  obtain rfl := cls_new hK hK9 (k := 1) rfl (fun _ h => by cases h)
  clear hK9
  have hD9 := hD
  obtain ⟨ws_51, e_ws_51⟩ : ∃ z, z = ws_44 ++ [(q_49, .inl (g.cI, n_50, .inl (fun _ => 0)))] := ⟨_, rfl⟩
  have hP : va_P (gD g) cl0 ws_51 H := by rw [e_ws_51]; exact hP
  have hD : va_D A ws_51 := by rw [e_ws_51]; exact hD
  have E_52 : gE ws_44 ws_51 := by rw [e_ws_51]; exact gE_push
  have Fr_53 : gF [] [] none ws_44 ws_51 := by rw [e_ws_51]; exact gF_push
  have fr_q_49 : frs ws_51 q_49 := by rw [e_ws_51]; exact frs_new hD9 hX.u
  have hX : GoodX g k0 ws_51 := by rw [e_ws_51]; exact hX.pushI hD9 (ows_lt hk_0)
  have a_q_49 : gI ws_51 q_49 g.cI n_50 := by rw [e_ws_51]; exact gS_new
  have s_q_49 : n_50 < 2147483648 := Nat.lt_of_le_of_lt bn_50 (by decide)
  have pp_54 := Fr_53.pp
  have Gx_55 : gX k0 ws_44 ws_51 := gX_push e_ws_51
  have hk_0 := get_oldE e_ws_51 hk_0
  have o_h0 := E_52.1 _ _ o_h0
  have a_q_1 := E_52.1 _ _ a_q_1
  have a_q_13 := E_52.1 _ _ a_q_13
  have a_q_25 := E_52.1 _ _ a_q_25
  have a_q_37 := E_52.1 _ _ a_q_37
  have hV9 : okv ws_51 7 6 (.ref q_49) := (okv_a a_q_49 fr_q_49)
  refine va_put (D := gD g) (ci := 7) (v := .ref q_49) (ty := (.array .int)) (C := RX8) (T := TX8) (N := 15) hx hb hts inX8 tyX8 tyX8_ok nmX8 hown hK hP hD hS k0 hk_0 rfl 6 (by decide) (hts _ kw_1467) (fun _ h9 => h9) rfl (by decide +kernel) rfl rfl (Nat.le_of_ble_eq_true rfl) dX8_init_36 (fun H locs hP hD hS => ?_)
  obtain ⟨ws_56, e_ws_56⟩ : ∃ z, z = ws_51.set k0 (h0, .inr (7, [.ref q_1, .ref q_13, .int 0, .ref q_25, .int 0, .ref q_37, .ref q_49, .null, .null, .int 0, .int 0, .int 0, .null, .null, .null])) := ⟨_, rfl⟩
  have hP : va_P (gD g) cl0 ws_56 H := by rw [e_ws_56]; exact hP
  have hD : va_D A ws_56 := by rw [e_ws_56]; exact hD
  have E_57 : gE ws_51 ws_56 := gE_set e_ws_56 hk_0 (cw_o (fi := 6) (v := .ref q_49) rfl (by decide))
  have hX : GoodX g k0 ws_56 := GoodX.set (fi := 6) (v := .ref q_49) e_ws_56 hk_0 E_57 rfl hV9 hX
  have Fr_58 : gF [(7, 6)] [] (some h0) ws_51 ws_56 := gF_put (fi := 6) (v := .ref q_49) e_ws_56 hk_0 rfl (by decide)
  have Gx_59 : gX k0 ws_51 ws_56 := gX_set e_ws_56 hk_0
  have pp_60 := Fr_58.pp
  have hkN := gset_self e_ws_56 hk_0
  have hk_0 := hkN
  have o_h0 := E_57.1 _ _ o_h0
  have a_q_1 := E_57.1 _ _ a_q_1
  have a_q_13 := E_57.1 _ _ a_q_13
  have a_q_25 := E_57.1 _ _ a_q_25
  have a_q_37 := E_57.1 _ _ a_q_37
  have a_q_49 := E_57.1 _ _ a_q_49
  refine lv_aload_n hx hb dX8_init_39 rfl (lv_at hl 0 rfl) ?_
  refine lv_iload_n hx hb dX8_init_40 rfl (lv_at hl 3 rfl) ?_
  obtain ⟨n_62, en_62⟩ : ∃ y : Nat, (x3 : Int32).toNatClampNeg = y := ⟨_, rfl⟩
  have bn_62 : n_62 ≤ 16 := i_cl en_62 (by have q_p3 := p3; have q_n_38 := i_nn en_38 zn_38; have q_n_50 := i_nn en_50 zn_50; have q2_n_38 := bn_38; have q2_n_50 := bn_50; have g_x3 := i_rg x3; omega)
  have zn_62 : 0 ≤ (x3 : Int32).toInt := (by have q_p3 := p3; have q_n_38 := i_nn en_38 zn_38; have q_n_50 := i_nn en_50 zn_50; have q2_n_38 := bn_38; have q2_n_50 := bn_50; have g_x3 := i_rg x3; omega)
  have q_n_62 := i_nn en_62 zn_62
  refine va_newa (atype := .int) (ty := .int) (a0 := (n_62, .inl (fun _ => 0))) (N' := n_62) hx hb (hts (.arrayClass .int) kw_51) rfl hK hP hD hS hA (fun _ => rfl) (i_nl0 zn_62) en_62 (i_by bn_62 (by decide)) (show 0 + 1 + 1 + 1 + 1 + 1 + 1 ≤ (7) from (by have q_p1 := p1; have q_p2 := p2; have q_p3 := p3; have q_n_2 := i_nn en_2 zn_2; have q2_n_2 := bn_2; have q_n_14 := i_nn en_14 zn_14; have q2_n_14 := bn_14; have q_n_26 := i_nn en_26 zn_26; have q2_n_26 := bn_26; have q_n_38 := i_nn en_38 zn_38; have q2_n_38 := bn_38; have q_n_50 := i_nn en_50 zn_50; have q2_n_50 := bn_50; have g_x1 := i_rg x1; have g_x2 := i_rg x2; have g_x3 := i_rg x3; omega)) (show 0 + n_2 + n_14 + n_26 + n_38 + n_50 + n_62 ≤ (2 * x1.toInt.toNat + x2.toInt.toNat + 4 * x3.toInt.toNat) from (by have q_p1 := p1; have q_p2 := p2; have q_p3 := p3; have q_n_2 := i_nn en_2 zn_2; have q2_n_2 := bn_2; have q_n_14 := i_nn en_14 zn_14; have q2_n_14 := bn_14; have q_n_26 := i_nn en_26 zn_26; have q2_n_26 := bn_26; have q_n_38 := i_nn en_38 zn_38; have q2_n_38 := bn_38; have q_n_50 := i_nn en_50 zn_50; have q2_n_50 := bn_50; have g_x1 := i_rg x1; have g_x2 := i_rg x2; have g_x3 := i_rg x3; omega)) dX8_init_41 (fun q_61 cA9 H hK9 hP hD hS => ?_)
  obtain rfl := cls_new hK hK9 (k := 1) rfl (fun _ h => by cases h)
  clear hK9
  have hD9 := hD
  obtain ⟨ws_63, e_ws_63⟩ : ∃ z, z = ws_56 ++ [(q_61, .inl (g.cI, n_62, .inl (fun _ => 0)))] := ⟨_, rfl⟩
  have hP : va_P (gD g) cl0 ws_63 H := by rw [e_ws_63]; exact hP
  have hD : va_D A ws_63 := by rw [e_ws_63]; exact hD
  have E_64 : gE ws_56 ws_63 := by rw [e_ws_63]; exact gE_push
  have Fr_65 : gF [] [] none ws_56 ws_63 := by rw [e_ws_63]; exact gF_push
  have fr_q_61 : frs ws_63 q_61 := by rw [e_ws_63]; exact frs_new hD9 hX.u
  have hX : GoodX g k0 ws_63 := by rw [e_ws_63]; exact hX.pushI hD9 (ows_lt hk_0)
  have a_q_61 : gI ws_63 q_61 g.cI n_62 := by rw [e_ws_63]; exact gS_new
  have s_q_61 : n_62 < 2147483648 := Nat.lt_of_le_of_lt bn_62 (by decide)
  have pp_66 := Fr_65.pp
  have Gx_67 : gX k0 ws_56 ws_63 := gX_push e_ws_63
  have hk_0 := get_oldE e_ws_63 hk_0
  have o_h0 := E_64.1 _ _ o_h0
  have a_q_1 := E_64.1 _ _ a_q_1
  have a_q_13 := E_64.1 _ _ a_q_13
  have a_q_25 := E_64.1 _ _ a_q_25
  have a_q_37 := E_64.1 _ _ a_q_37
  have a_q_49 := E_64.1 _ _ a_q_49
  have hV9 : okv ws_63 7 7 (.ref q_61) := (okv_a a_q_61 fr_q_61)
  refine va_put (D := gD g) (ci := 7) (v := .ref q_61) (ty := (.array .int)) (C := RX8) (T := TX8) (N := 15) hx hb hts inX8 tyX8 tyX8_ok nmX8 hown hK hP hD hS k0 hk_0 rfl 7 (by decide) (hts _ kw_1468) (fun _ h9 => h9) rfl (by decide +kernel) rfl rfl (Nat.le_of_ble_eq_true rfl) dX8_init_43 (fun H locs hP hD hS => ?_)
  obtain ⟨ws_68, e_ws_68⟩ : ∃ z, z = ws_63.set k0 (h0, .inr (7, [.ref q_1, .ref q_13, .int 0, .ref q_25, .int 0, .ref q_37, .ref q_49, .ref q_61, .null, .int 0, .int 0, .int 0, .null, .null, .null])) := ⟨_, rfl⟩
  have hP : va_P (gD g) cl0 ws_68 H := by rw [e_ws_68]; exact hP
  have hD : va_D A ws_68 := by rw [e_ws_68]; exact hD
  have E_69 : gE ws_63 ws_68 := gE_set e_ws_68 hk_0 (cw_o (fi := 7) (v := .ref q_61) rfl (by decide))
  have hX : GoodX g k0 ws_68 := GoodX.set (fi := 7) (v := .ref q_61) e_ws_68 hk_0 E_69 rfl hV9 hX
  have Fr_70 : gF [(7, 7)] [] (some h0) ws_63 ws_68 := gF_put (fi := 7) (v := .ref q_61) e_ws_68 hk_0 rfl (by decide)
  have Gx_71 : gX k0 ws_63 ws_68 := gX_set e_ws_68 hk_0
  have pp_72 := Fr_70.pp
  have hkN := gset_self e_ws_68 hk_0
  have hk_0 := hkN
  have o_h0 := E_69.1 _ _ o_h0
  have a_q_1 := E_69.1 _ _ a_q_1
  have a_q_13 := E_69.1 _ _ a_q_13
  have a_q_25 := E_69.1 _ _ a_q_25
  have a_q_37 := E_69.1 _ _ a_q_37
  have a_q_49 := E_69.1 _ _ a_q_49
  have a_q_61 := E_69.1 _ _ a_q_61
  refine lv_aload_n hx hb dX8_init_46 rfl (lv_at hl 0 rfl) ?_
  refine lv_iload_n hx hb dX8_init_47 rfl (lv_at hl 3 rfl) ?_
  obtain ⟨n_74, en_74⟩ : ∃ y : Nat, (x3 : Int32).toNatClampNeg = y := ⟨_, rfl⟩
  have bn_74 : n_74 ≤ 16 := i_cl en_74 (by have q_p3 := p3; have q_n_38 := i_nn en_38 zn_38; have q_n_50 := i_nn en_50 zn_50; have q_n_62 := i_nn en_62 zn_62; have q2_n_38 := bn_38; have q2_n_50 := bn_50; have q2_n_62 := bn_62; have g_x3 := i_rg x3; omega)
  have zn_74 : 0 ≤ (x3 : Int32).toInt := (by have q_p3 := p3; have q_n_38 := i_nn en_38 zn_38; have q_n_50 := i_nn en_50 zn_50; have q_n_62 := i_nn en_62 zn_62; have q2_n_38 := bn_38; have q2_n_50 := bn_50; have q2_n_62 := bn_62; have g_x3 := i_rg x3; omega)
  have q_n_74 := i_nn en_74 zn_74
  refine va_newa (atype := .int) (ty := .int) (a0 := (n_74, .inl (fun _ => 0))) (N' := n_74) hx hb (hts (.arrayClass .int) kw_51) rfl hK hP hD hS hA (fun _ => rfl) (i_nl0 zn_74) en_74 (i_by bn_74 (by decide)) (show 0 + 1 + 1 + 1 + 1 + 1 + 1 + 1 ≤ (7) from (by have q_p1 := p1; have q_p2 := p2; have q_p3 := p3; have q_n_2 := i_nn en_2 zn_2; have q2_n_2 := bn_2; have q_n_14 := i_nn en_14 zn_14; have q2_n_14 := bn_14; have q_n_26 := i_nn en_26 zn_26; have q2_n_26 := bn_26; have q_n_38 := i_nn en_38 zn_38; have q2_n_38 := bn_38; have q_n_50 := i_nn en_50 zn_50; have q2_n_50 := bn_50; have q_n_62 := i_nn en_62 zn_62; have q2_n_62 := bn_62; have g_x1 := i_rg x1; have g_x2 := i_rg x2; have g_x3 := i_rg x3; omega)) (show 0 + n_2 + n_14 + n_26 + n_38 + n_50 + n_62 + n_74 ≤ (2 * x1.toInt.toNat + x2.toInt.toNat + 4 * x3.toInt.toNat) from (by have q_p1 := p1; have q_p2 := p2; have q_p3 := p3; have q_n_2 := i_nn en_2 zn_2; have q2_n_2 := bn_2; have q_n_14 := i_nn en_14 zn_14; have q2_n_14 := bn_14; have q_n_26 := i_nn en_26 zn_26; have q2_n_26 := bn_26; have q_n_38 := i_nn en_38 zn_38; have q2_n_38 := bn_38; have q_n_50 := i_nn en_50 zn_50; have q2_n_50 := bn_50; have q_n_62 := i_nn en_62 zn_62; have q2_n_62 := bn_62; have g_x1 := i_rg x1; have g_x2 := i_rg x2; have g_x3 := i_rg x3; omega)) dX8_init_48 (fun q_73 cA9 H hK9 hP hD hS => ?_)
  obtain rfl := cls_new hK hK9 (k := 1) rfl (fun _ h => by cases h)
  clear hK9
  have hD9 := hD
  obtain ⟨ws_75, e_ws_75⟩ : ∃ z, z = ws_68 ++ [(q_73, .inl (g.cI, n_74, .inl (fun _ => 0)))] := ⟨_, rfl⟩
  have hP : va_P (gD g) cl0 ws_75 H := by rw [e_ws_75]; exact hP
  have hD : va_D A ws_75 := by rw [e_ws_75]; exact hD
  have E_76 : gE ws_68 ws_75 := by rw [e_ws_75]; exact gE_push
  have Fr_77 : gF [] [] none ws_68 ws_75 := by rw [e_ws_75]; exact gF_push
  have fr_q_73 : frs ws_75 q_73 := by rw [e_ws_75]; exact frs_new hD9 hX.u
  have hX : GoodX g k0 ws_75 := by rw [e_ws_75]; exact hX.pushI hD9 (ows_lt hk_0)
  have a_q_73 : gI ws_75 q_73 g.cI n_74 := by rw [e_ws_75]; exact gS_new
  have s_q_73 : n_74 < 2147483648 := Nat.lt_of_le_of_lt bn_74 (by decide)
  have pp_78 := Fr_77.pp
  have Gx_79 : gX k0 ws_68 ws_75 := gX_push e_ws_75
  have hk_0 := get_oldE e_ws_75 hk_0
  have o_h0 := E_76.1 _ _ o_h0
  have a_q_1 := E_76.1 _ _ a_q_1
  have a_q_13 := E_76.1 _ _ a_q_13
  have a_q_25 := E_76.1 _ _ a_q_25
  have a_q_37 := E_76.1 _ _ a_q_37
  have a_q_49 := E_76.1 _ _ a_q_49
  have a_q_61 := E_76.1 _ _ a_q_61
  have hV9 : okv ws_75 7 8 (.ref q_73) := (okv_a a_q_73 fr_q_73)
  refine va_put (D := gD g) (ci := 7) (v := .ref q_73) (ty := (.array .int)) (C := RX8) (T := TX8) (N := 15) hx hb hts inX8 tyX8 tyX8_ok nmX8 hown hK hP hD hS k0 hk_0 rfl 8 (by decide) (hts _ kw_1469) (fun _ h9 => h9) rfl (by decide +kernel) rfl rfl (Nat.le_of_ble_eq_true rfl) dX8_init_50 (fun H locs hP hD hS => ?_)
  have f_80 : n_14 = n_2 := (by have q_n_2 := i_nn en_2 zn_2; have q2_n_2 := bn_2; have q_n_14 := i_nn en_14 zn_14; have q2_n_14 := bn_14; have q_p1 := p1; have g_x1 := i_rg x1; omega)
  have f_81 : n_2 ≤ 1296 := (by have q_n_2 := i_nn en_2 zn_2; have q2_n_2 := bn_2; have q_f_80 := f_80; have q_p1 := p1; have q_n_14 := i_nn en_14 zn_14; have q2_n_14 := bn_14; have g_x1 := i_rg x1; omega)
  have f_82 : 0 ≤ (0 : Int32).toInt := (by have e0 : (0 : Int32).toInt = 0 := (by decide); omega)
  have f_83 : (0 : Int32).toInt ≤ n_2 := (by have e0 : (0 : Int32).toInt = 0 := (by decide); have q_n_2 := i_nn en_2 zn_2; have q2_n_2 := bn_2; have q_f_80 := f_80; have q_f_81 := f_81; have q_f_82 := f_82; have q_p1 := p1; have q_n_14 := i_nn en_14 zn_14; have q2_n_14 := bn_14; have g_x1 := i_rg x1; omega)
  have f_84 : 0 ≤ (0 : Int32).toInt := (by have e0 : (0 : Int32).toInt = 0 := (by decide); have q_f_82 := f_82; omega)
  have f_85 : (0 : Int32).toInt ≤ n_26 := (by have e0 : (0 : Int32).toInt = 0 := (by decide); have q_n_26 := i_nn en_26 zn_26; have q2_n_26 := bn_26; have q_f_82 := f_82; have q_f_84 := f_84; have q_p2 := p2; have g_x2 := i_rg x2; omega)
  have f_86 : n_50 = n_38 := (by have e0 : (0 : Int32).toInt = 0 := (by decide); have q_n_38 := i_nn en_38 zn_38; have q2_n_38 := bn_38; have q_n_50 := i_nn en_50 zn_50; have q2_n_50 := bn_50; have q_f_82 := f_82; have q_f_84 := f_84; have q_p3 := p3; have q_n_62 := i_nn en_62 zn_62; have q_n_74 := i_nn en_74 zn_74; have g_x3 := i_rg x3; omega)
  have f_87 : n_62 = n_38 := (by have e0 : (0 : Int32).toInt = 0 := (by decide); have q_n_38 := i_nn en_38 zn_38; have q2_n_38 := bn_38; have q_n_62 := i_nn en_62 zn_62; have q2_n_62 := bn_62; have q_f_82 := f_82; have q_f_84 := f_84; have q_f_86 := f_86; have q_p3 := p3; have q_n_50 := i_nn en_50 zn_50; have q2_n_50 := bn_50; have q_n_74 := i_nn en_74 zn_74; have g_x3 := i_rg x3; omega)
  have f_88 : n_74 = n_38 := (by have e0 : (0 : Int32).toInt = 0 := (by decide); have q_n_38 := i_nn en_38 zn_38; have q2_n_38 := bn_38; have q_n_74 := i_nn en_74 zn_74; have q2_n_74 := bn_74; have q_f_82 := f_82; have q_f_84 := f_84; have q_f_86 := f_86; have q_f_87 := f_87; have q_p3 := p3; have q_n_50 := i_nn en_50 zn_50; have q2_n_50 := bn_50; have q_n_62 := i_nn en_62 zn_62; have q2_n_62 := bn_62; have g_x3 := i_rg x3; omega)
  have f_89 : 0 ≤ (0 : Int32).toInt := (by have e0 : (0 : Int32).toInt = 0 := (by decide); have q_f_82 := f_82; have q_f_84 := f_84; omega)
  have f_90 : (0 : Int32).toInt ≤ n_38 := (by have e0 : (0 : Int32).toInt = 0 := (by decide); have q_n_38 := i_nn en_38 zn_38; have q2_n_38 := bn_38; have q_f_82 := f_82; have q_f_84 := f_84; have q_f_86 := f_86; have q_f_87 := f_87; have q_f_88 := f_88; have q_f_89 := f_89; have q_p3 := p3; have q_n_50 := i_nn en_50 zn_50; have q2_n_50 := bn_50; have q_n_62 := i_nn en_62 zn_62; have q2_n_62 := bn_62; have q_n_74 := i_nn en_74 zn_74; have q2_n_74 := bn_74; have g_x3 := i_rg x3; omega)
  have f_91 : n_26 ≤ 1200 := (by have e0 : (0 : Int32).toInt = 0 := (by decide); have q_n_26 := i_nn en_26 zn_26; have q2_n_26 := bn_26; have q_f_82 := f_82; have q_f_84 := f_84; have q_f_85 := f_85; have q_f_89 := f_89; have q_p2 := p2; have g_x2 := i_rg x2; omega)
  have f_92 : n_38 ≤ 16 := (by have e0 : (0 : Int32).toInt = 0 := (by decide); have q_n_38 := i_nn en_38 zn_38; have q2_n_38 := bn_38; have q_f_82 := f_82; have q_f_84 := f_84; have q_f_86 := f_86; have q_f_87 := f_87; have q_f_88 := f_88; have q_f_89 := f_89; have q_f_90 := f_90; have q_p3 := p3; have q_n_50 := i_nn en_50 zn_50; have q2_n_50 := bn_50; have q_n_62 := i_nn en_62 zn_62; have q2_n_62 := bn_62; have q_n_74 := i_nn en_74 zn_74; have q2_n_74 := bn_74; have g_x3 := i_rg x3; omega)
  have hi_93 : invX8 g ws_75 h0 [.ref q_1, .ref q_13, .int 0, .ref q_25, .int 0, .ref q_37, .ref q_49, .ref q_61, .ref q_73, .int 0, .int 0, .int 0, .null, .null, .null] := ⟨q_1, (n_2), q_13, (n_14), (0), q_25, (n_26), (0), q_37, (n_38), q_49, (n_50), q_61, (n_62), q_73, (n_74), (0), (0), (0), none, none, none, rfl, a_q_1, s_q_1, a_q_13, s_q_13, a_q_25, s_q_25, a_q_37, s_q_37, a_q_49, s_q_49, a_q_61, s_q_61, a_q_73, s_q_73, (fun b h9 => by cases h9), (fun b h9 => by cases h9), (fun b h9 => by cases h9), f_80, f_81, f_82, f_83, f_84, f_85, f_86, f_87, f_88, f_89, f_90, f_91, f_92, trivial⟩
  obtain ⟨ws_94, e_ws_94⟩ : ∃ z, z = ws_75.set k0 (h0, .inr (7, [.ref q_1, .ref q_13, .int 0, .ref q_25, .int 0, .ref q_37, .ref q_49, .ref q_61, .ref q_73, .int 0, .int 0, .int 0, .null, .null, .null])) := ⟨_, rfl⟩
  have hP : va_P (gD g) cl0 ws_94 H := by rw [e_ws_94]; exact hP
  have hD : va_D A ws_94 := by rw [e_ws_94]; exact hD
  have E_95 : gE ws_75 ws_94 := gE_set e_ws_94 hk_0 (cw_o (fi := 8) (v := .ref q_73) rfl (by decide))
  have hG : Good g ws_94 := GoodX.goodS (fi := 8) (v := .ref q_73) e_ws_94 hk_0 E_95 rfl hV9 hX (ivX8 hi_93)
  have Fr_96 : gF [(7, 8)] [] (some h0) ws_75 ws_94 := gF_put (fi := 8) (v := .ref q_73) e_ws_94 hk_0 rfl (by decide)
  have Gx_97 : gX k0 ws_75 ws_94 := gX_set e_ws_94 hk_0
  have pp_98 := Fr_96.pp
  have hkN := gset_self e_ws_94 hk_0
  have hk_0 := hkN
  have o_h0 := E_95.1 _ _ o_h0
  have a_q_1 := E_95.1 _ _ a_q_1
  have a_q_13 := E_95.1 _ _ a_q_13
  have a_q_25 := E_95.1 _ _ a_q_25
  have a_q_37 := E_95.1 _ _ a_q_37
  have a_q_49 := E_95.1 _ _ a_q_49
  have a_q_61 := E_95.1 _ _ a_q_61
  have a_q_73 := E_95.1 _ _ a_q_73
  refine W_led (fun hLd => ?_)
  have hcl : 0 + 1 + 1 + 1 + 1 + 1 + 1 + 1 + PC ws_94 ≤ PC ws + (7) := (by have e0 : (0 : Int32).toInt = 0 := (by decide); have q_p1 := p1; have q_p2 := p2; have q_p3 := p3; have q_n_2 := i_nn en_2 zn_2; have q2_n_2 := bn_2; have q_n_14 := i_nn en_14 zn_14; have q2_n_14 := bn_14; have q_n_26 := i_nn en_26 zn_26; have q2_n_26 := bn_26; have q_n_38 := i_nn en_38 zn_38; have q2_n_38 := bn_38; have q_n_50 := i_nn en_50 zn_50; have q2_n_50 := bn_50; have q_n_62 := i_nn en_62 zn_62; have q2_n_62 := bn_62; have q_n_74 := i_nn en_74 zn_74; have q2_n_74 := bn_74; have q_f_80 := f_80; have q_f_81 := f_81; have q_f_82 := f_82; have q_f_83 := f_83; have q_f_84 := f_84; have q_f_85 := f_85; have q_f_86 := f_86; have q_f_87 := f_87; have q_f_88 := f_88; have q_f_89 := f_89; have q_f_90 := f_90; have q_f_91 := f_91; have q_f_92 := f_92; have g_x1 := i_rg x1; have g_x2 := i_rg x2; have g_x3 := i_rg x3; omega)
  have hsl : 0 + n_2 + n_14 + n_26 + n_38 + n_50 + n_62 + n_74 + PS ws_94 ≤ PS ws + (2 * x1.toInt.toNat + x2.toInt.toNat + 4 * x3.toInt.toNat) := (by have e0 : (0 : Int32).toInt = 0 := (by decide); have q_p1 := p1; have q_p2 := p2; have q_p3 := p3; have q_n_2 := i_nn en_2 zn_2; have q2_n_2 := bn_2; have q_n_14 := i_nn en_14 zn_14; have q2_n_14 := bn_14; have q_n_26 := i_nn en_26 zn_26; have q2_n_26 := bn_26; have q_n_38 := i_nn en_38 zn_38; have q2_n_38 := bn_38; have q_n_50 := i_nn en_50 zn_50; have q2_n_50 := bn_50; have q_n_62 := i_nn en_62 zn_62; have q2_n_62 := bn_62; have q_n_74 := i_nn en_74 zn_74; have q2_n_74 := bn_74; have q_f_80 := f_80; have q_f_81 := f_81; have q_f_82 := f_82; have q_f_83 := f_83; have q_f_84 := f_84; have q_f_85 := f_85; have q_f_86 := f_86; have q_f_87 := f_87; have q_f_88 := f_88; have q_f_89 := f_89; have q_f_90 := f_90; have q_f_91 := f_91; have q_f_92 := f_92; have g_x1 := i_rg x1; have g_x2 := i_rg x2; have g_x3 := i_rg x3; omega)
  refine W.widen (k := (7)) (n := (2 * x1.toInt.toNat + x2.toInt.toNat + 4 * x3.toInt.toNat)) (by omega) (by omega) ?_
  exact W.vret hx hb hr (fun t9 ht9 hW9 => ⟨⟨ws_94, rfl, ⟨(gP_of hD hk_0 (fun p90 q90 e90 g90 => by cases e90; have z90 := gI_n hD a_q_1 g90; subst z90; exact (by have e0 : (0 : Int32).toInt = 0 := (by decide); have q_p1 := p1; have q_n_2 := i_nn en_2 zn_2; have q2_n_2 := bn_2; have q_n_14 := i_nn en_14 zn_14; have q_f_80 := f_80; have q_f_81 := f_81; have q_f_82 := f_82; have q_f_83 := f_83; have q_f_84 := f_84; have q_f_89 := f_89; have q2_n_14 := bn_14; have g_x1 := i_rg x1; omega))), (gP_of hD hk_0 (fun p90 q90 e90 g90 => by cases e90; have z90 := gI_n hD a_q_25 g90; subst z90; exact (by have e0 : (0 : Int32).toInt = 0 := (by decide); have q_p2 := p2; have q_n_26 := i_nn en_26 zn_26; have q2_n_26 := bn_26; have q_f_82 := f_82; have q_f_84 := f_84; have q_f_85 := f_85; have q_f_89 := f_89; have q_f_91 := f_91; have g_x2 := i_rg x2; omega))), (gP_of hD hk_0 (fun p90 q90 e90 g90 => by cases e90; have z90 := gI_n hD a_q_37 g90; subst z90; exact (by have e0 : (0 : Int32).toInt = 0 := (by decide); have q_p3 := p3; have q_n_38 := i_nn en_38 zn_38; have q2_n_38 := bn_38; have q_n_50 := i_nn en_50 zn_50; have q_n_62 := i_nn en_62 zn_62; have q_n_74 := i_nn en_74 zn_74; have q_f_82 := f_82; have q_f_84 := f_84; have q_f_86 := f_86; have q_f_87 := f_87; have q_f_88 := f_88; have q_f_89 := f_89; have q_f_90 := f_90; have q_f_92 := f_92; have q2_n_50 := bn_50; have q2_n_62 := bn_62; have q2_n_74 := bn_74; have g_x3 := i_rg x3; omega))), (gP_of hD hk_0 (fun q90 e90 => by cases e90; exact (by have e0 : (0 : Int32).toInt = 0 := (by decide); have q_f_82 := f_82; have q_f_84 := f_84; have q_f_89 := f_89; omega))), (gP_of hD hk_0 (fun q90 e90 => by cases e90; exact (by have e0 : (0 : Int32).toInt = 0 := (by decide); have q_f_82 := f_82; have q_f_84 := f_84; have q_f_89 := f_89; omega)))⟩, ⟨(E_4.tr (E_9.tr (E_16.tr (E_21.tr (E_28.tr (E_33.tr (E_40.tr (E_45.tr (E_52.tr (E_57.tr (E_64.tr (E_69.tr (E_76.tr E_95))))))))))))), (Gx_7.tr (Gx_11.tr (Gx_19.tr (Gx_23.tr (Gx_31.tr (Gx_35.tr (Gx_43.tr (Gx_47.tr (Gx_55.tr (Gx_59.tr (Gx_67.tr (Gx_71.tr (Gx_79.tr Gx_97))))))))))))), ((gF.tr (gF.mo (F' := [(7, 0), (7, 1), (7, 3), (7, 5), (7, 6), (7, 7), (7, 8)]) (C' := []) (S' := none) Fr_5 (fun _ h => absurd h List.not_mem_nil) (fun _ h => h) (Or.inr rfl)) (gF.tr (gF.mo (F' := [(7, 0), (7, 1), (7, 3), (7, 5), (7, 6), (7, 7), (7, 8)]) (C' := []) (S' := none) Fr_10 (by decide) (fun _ h => h) (Or.inl rfl)) (gF.tr (gF.mo (F' := [(7, 0), (7, 1), (7, 3), (7, 5), (7, 6), (7, 7), (7, 8)]) (C' := []) (S' := none) Fr_17 (fun _ h => absurd h List.not_mem_nil) (fun _ h => h) (Or.inr rfl)) (gF.tr (gF.mo (F' := [(7, 0), (7, 1), (7, 3), (7, 5), (7, 6), (7, 7), (7, 8)]) (C' := []) (S' := none) Fr_22 (by decide) (fun _ h => h) (Or.inl rfl)) (gF.tr (gF.mo (F' := [(7, 0), (7, 1), (7, 3), (7, 5), (7, 6), (7, 7), (7, 8)]) (C' := []) (S' := none) Fr_29 (fun _ h => absurd h List.not_mem_nil) (fun _ h => h) (Or.inr rfl)) (gF.tr (gF.mo (F' := [(7, 0), (7, 1), (7, 3), (7, 5), (7, 6), (7, 7), (7, 8)]) (C' := []) (S' := none) Fr_34 (by decide) (fun _ h => h) (Or.inl rfl)) (gF.tr (gF.mo (F' := [(7, 0), (7, 1), (7, 3), (7, 5), (7, 6), (7, 7), (7, 8)]) (C' := []) (S' := none) Fr_41 (fun _ h => absurd h List.not_mem_nil) (fun _ h => h) (Or.inr rfl)) (gF.tr (gF.mo (F' := [(7, 0), (7, 1), (7, 3), (7, 5), (7, 6), (7, 7), (7, 8)]) (C' := []) (S' := none) Fr_46 (by decide) (fun _ h => h) (Or.inl rfl)) (gF.tr (gF.mo (F' := [(7, 0), (7, 1), (7, 3), (7, 5), (7, 6), (7, 7), (7, 8)]) (C' := []) (S' := none) Fr_53 (fun _ h => absurd h List.not_mem_nil) (fun _ h => h) (Or.inr rfl)) (gF.tr (gF.mo (F' := [(7, 0), (7, 1), (7, 3), (7, 5), (7, 6), (7, 7), (7, 8)]) (C' := []) (S' := none) Fr_58 (by decide) (fun _ h => h) (Or.inl rfl)) (gF.tr (gF.mo (F' := [(7, 0), (7, 1), (7, 3), (7, 5), (7, 6), (7, 7), (7, 8)]) (C' := []) (S' := none) Fr_65 (fun _ h => absurd h List.not_mem_nil) (fun _ h => h) (Or.inr rfl)) (gF.tr (gF.mo (F' := [(7, 0), (7, 1), (7, 3), (7, 5), (7, 6), (7, 7), (7, 8)]) (C' := []) (S' := none) Fr_70 (by decide) (fun _ h => h) (Or.inl rfl)) (gF.tr (gF.mo (F' := [(7, 0), (7, 1), (7, 3), (7, 5), (7, 6), (7, 7), (7, 8)]) (C' := []) (S' := none) Fr_77 (fun _ h => absurd h List.not_mem_nil) (fun _ h => h) (Or.inr rfl)) (gF.mo (F' := [(7, 0), (7, 1), (7, 3), (7, 5), (7, 6), (7, 7), (7, 8)]) (C' := []) (S' := none) Fr_96 (by decide) (fun _ h => h) (Or.inl rfl)))))))))))))))).2.1, hG, by rw [ht9]; exact hP, hD, _, _, by rw [ht9]; exact hLd, hcl, hsl⟩⟩, hS.F ht9⟩) hS.2.2 dX8_init_53
set_option maxHeartbeats 1000000 in
set_option maxRecDepth 100000 in
theorem m_X10_init (l : Launch) (g : Gm) (H0 : Heap) (ws : va_W) (k0 : Nat) (h0 : Nat) (b1 : Nat) (n_b1 : Nat) (x2 : Int32) (x3 : Int32) (hX : GoodX g k0 ws) (hk0 : ows ws k0 h0 9 dfX10) (a_b1 : gI ws b1 g.cB n_b1) (s_b1 : n_b1 < 2147483648) (fr_b1 : frs ws b1) (p2 : 0 ≤ x2.toInt ∧ x2.toInt ≤ 24) (p3 : 0 ≤ x3.toInt ∧ x3.toInt ≤ 24) : Met l yX10_init (wt yX10_init cX10_init 4 none) ({ frames := 1, cells := (8), slots := (3 * x2.toInt.toNat + 5 * x3.toInt.toNat), locals := 12 }) (va_Pc [.ref h0, .ref b1, .int x2, .int x3] (st_H g H0 ws)) (va_Qv (fun (u9 : va_W) => True) (gQ3 g k0 (va_A ws H0.size) ws H0 (8) (3 * x2.toInt.toNat + 5 * x3.toInt.toNat)) (va_A ws H0.size)) ((8)) ((3 * x2.toInt.toNat + 5 * x3.toInt.toNat)) (va_A ws H0.size) := by
  refine Met.ofW (cc := cX10_init) (maxL := 4) (ret := none) (by decide) rfl ?_
  intro p e s m args below meth c s₁ B hml hv
  obtain ⟨rfl, hH0, hsz, hP, hK, hD0, hex, hE⟩ := hv
  have hx := B.exec
  have hb := B.bytes
  have hr := B.returns
  have hts0 := atoms_spec (ws := wt yX10_init cX10_init 4 none) B.pre
  have hts : ∀ w ∈ tb, w.before _ s = true := fun w h => hts0 w (List.mem_cons_of_mem _ h)
  have hown : s.vm.findClass RX10 = some m.cls := findClass_of_methodNamed B.named
  subst hH0
  have hD := hD0.self (sz := s.heap.size)
  generalize hAe : va_A ws s.heap.size = A at hD hE ⊢
  have hA : ∀ q : Nat, s.heap.size ≤ q → A q := fun q h => by rw [← hAe]; exact Or.inr h
  have hS : va_S A s.heap s.heap [] := va_S.rf
  have hl := lv_entry ([.ref h0, .ref b1, .int x2, .int x3]) (n := 4) (Nat.le_of_ble_eq_true rfl)
  rw [lg_entry_eq]
  generalize (lg_sl ([.ref h0, .ref b1, .int x2, .int x3]) ++ List.replicate (4 - (lg_sl ([.ref h0, .ref b1, .int x2, .int x3])).length) Slot.unset).toArray = ls at hl ⊢
  have hl : lv_has ls 4 [(0, .ref h0), (1, .ref b1), (2, .int x2), (3, .int x3)] := hl
  have hin9 : meth.name = "<init>" := (name_of_methodNamed B.named B.method).1
  have hk_0 : ows ws k0 h0 9 [.null, .int 0, .int 0, .int 0, .int 0, .null, .null, .null, .int 0, .null, .null, .null, .null, .null, .int 0, .int 0, .int 0, .int 0] := hk0
  have o_h0 : gC ws h0 9 := ⟨_, _, hk0, rfl⟩
  refine lv_aload_n hx hb dX10_init_0 rfl (lv_at hl 0 rfl) ?_
  refine W.objInit hx hb hown (hts _ kw_46) (hts _ kw_9) (hts _ kw_10) rfl (by rw [hml]; exact hl.1) rfl dX10_init_1 (Nat.le_of_ble_eq_true rfl) (Nat.le_of_ble_eq_true rfl) ?_
  refine W.eq (g2 := F0 m 4 ls []) rfl ?_
  refine lv_aload_n hx hb dX10_init_4 rfl (lv_at hl 0 rfl) ?_
  refine lv_iconst (v := (-1)) hx hb dX10_init_5 (by decide) ?_
  have hV9 : okv ws 9 16 (.int (-1)) := okv_i
  refine va_put (D := gD g) (ci := 9) (v := .int (-1)) (ty := .int) (C := RX10) (T := TX10) (N := 18) hx hb hts inX10 tyX10 tyX10_ok nmX10 hown hK hP hD hS k0 hk_0 rfl 16 (by decide) (hts _ kw_47) (fun _ h9 => h9) rfl (by decide +kernel) rfl rfl (Nat.le_of_ble_eq_true rfl) dX10_init_6 (fun H locs hP hD hS => ?_)
  obtain ⟨ws_1, e_ws_1⟩ : ∃ z, z = ws.set k0 (h0, .inr (9, [.null, .int 0, .int 0, .int 0, .int 0, .null, .null, .null, .int 0, .null, .null, .null, .null, .null, .int 0, .int 0, .int (-1), .int 0])) := ⟨_, rfl⟩
  have hP : va_P (gD g) cl0 ws_1 H := by rw [e_ws_1]; exact hP
  have hD : va_D A ws_1 := by rw [e_ws_1]; exact hD
  have E_2 : gE ws ws_1 := gE_set e_ws_1 hk_0 (cw_o (fi := 16) (v := .int (-1)) rfl (by decide))
  have hX : GoodX g k0 ws_1 := GoodX.set (fi := 16) (v := .int (-1)) e_ws_1 hk_0 E_2 rfl hV9 hX
  have Fr_3 : gF [(9, 16)] [] (some h0) ws ws_1 := gF_put (fi := 16) (v := .int (-1)) e_ws_1 hk_0 rfl (by decide)
  have fr_b1 := frs_set (fi := 16) (v := .int (-1)) e_ws_1 hk_0 rfl (by intro h; cases h) fr_b1
  have Gx_4 : gX k0 ws ws_1 := gX_set e_ws_1 hk_0
  have pp_5 := Fr_3.pp
  have hkN := gset_self e_ws_1 hk_0
  have hk_0 := hkN
  have o_h0 := E_2.1 _ _ o_h0
  have a_b1 := E_2.1 _ _ a_b1
  refine lv_aload_n hx hb dX10_init_9 rfl (lv_at hl 0 rfl) ?_
  refine lv_iconst (v := (-1)) hx hb dX10_init_10 (by decide) ?_
  have hV9 : okv ws_1 9 17 (.int (-1)) := okv_i
  refine va_put (D := gD g) (ci := 9) (v := .int (-1)) (ty := .int) (C := RX10) (T := TX10) (N := 18) hx hb hts inX10 tyX10 tyX10_ok nmX10 hown hK hP hD hS k0 hk_0 rfl 17 (by decide) (hts _ kw_48) (fun _ h9 => h9) rfl (by decide +kernel) rfl rfl (Nat.le_of_ble_eq_true rfl) dX10_init_11 (fun H locs hP hD hS => ?_)
  obtain ⟨ws_6, e_ws_6⟩ : ∃ z, z = ws_1.set k0 (h0, .inr (9, [.null, .int 0, .int 0, .int 0, .int 0, .null, .null, .null, .int 0, .null, .null, .null, .null, .null, .int 0, .int 0, .int (-1), .int (-1)])) := ⟨_, rfl⟩
  have hP : va_P (gD g) cl0 ws_6 H := by rw [e_ws_6]; exact hP
  have hD : va_D A ws_6 := by rw [e_ws_6]; exact hD
  have E_7 : gE ws_1 ws_6 := gE_set e_ws_6 hk_0 (cw_o (fi := 17) (v := .int (-1)) rfl (by decide))
  have hX : GoodX g k0 ws_6 := GoodX.set (fi := 17) (v := .int (-1)) e_ws_6 hk_0 E_7 rfl hV9 hX
  have Fr_8 : gF [(9, 17)] [] (some h0) ws_1 ws_6 := gF_put (fi := 17) (v := .int (-1)) e_ws_6 hk_0 rfl (by decide)
  have fr_b1 := frs_set (fi := 17) (v := .int (-1)) e_ws_6 hk_0 rfl (by intro h; cases h) fr_b1
  have Gx_9 : gX k0 ws_1 ws_6 := gX_set e_ws_6 hk_0
  have pp_10 := Fr_8.pp
  have hkN := gset_self e_ws_6 hk_0
  have hk_0 := hkN
  have o_h0 := E_7.1 _ _ o_h0
  have a_b1 := E_7.1 _ _ a_b1
  refine lv_aload_n hx hb dX10_init_14 rfl (lv_at hl 0 rfl) ?_
  refine lv_aload_n hx hb dX10_init_15 rfl (lv_at hl 1 rfl) ?_
  have hV9 : okv ws_6 9 0 (.ref b1) := (okv_a a_b1 fr_b1)
  refine va_putF (D := gD g) (ci := 9) (v := .ref b1) (ty := (.array .byte)) (C := RX10) (T := TX10) (N := 18) hx hb hts inX10 tyX10 tyX10_ok nmX10 hown hK hP hD hS k0 hk_0 rfl 0 (by decide) (hts _ kw_49) (fun _ h9 => h9) rfl hin9 rfl (by decide +kernel) rfl rfl (Nat.le_of_ble_eq_true rfl) dX10_init_16 (fun H locs hP hD hS => ?_)
  obtain ⟨ws_11, e_ws_11⟩ : ∃ z, z = ws_6.set k0 (h0, .inr (9, [.ref b1, .int 0, .int 0, .int 0, .int 0, .null, .null, .null, .int 0, .null, .null, .null, .null, .null, .int 0, .int 0, .int (-1), .int (-1)])) := ⟨_, rfl⟩
  have hP : va_P (gD g) cl0 ws_11 H := by rw [e_ws_11]; exact hP
  have hD : va_D A ws_11 := by rw [e_ws_11]; exact hD
  have E_12 : gE ws_6 ws_11 := gE_set e_ws_11 hk_0 (cw_o (fi := 0) (v := .ref b1) rfl (by decide))
  have hX : GoodX g k0 ws_11 := GoodX.set (fi := 0) (v := .ref b1) e_ws_11 hk_0 E_12 rfl hV9 hX
  have Fr_13 : gF [(9, 0)] [] (some h0) ws_6 ws_11 := gF_put (fi := 0) (v := .ref b1) e_ws_11 hk_0 rfl (by decide)
  have Gx_14 : gX k0 ws_6 ws_11 := gX_set e_ws_11 hk_0
  have pp_15 := Fr_13.pp
  have hkN := gset_self e_ws_11 hk_0
  have hk_0 := hkN
  have o_h0 := E_12.1 _ _ o_h0
  have a_b1 := E_12.1 _ _ a_b1
  refine lv_aload_n hx hb dX10_init_19 rfl (lv_at hl 0 rfl) ?_
  refine lv_iload_n hx hb dX10_init_20 rfl (lv_at hl 2 rfl) ?_
  have hV9 : okv ws_11 9 4 (.int x2) := okv_i
  refine va_put (D := gD g) (ci := 9) (v := .int x2) (ty := .int) (C := RX10) (T := TX10) (N := 18) hx hb hts inX10 tyX10 tyX10_ok nmX10 hown hK hP hD hS k0 hk_0 rfl 4 (by decide) (hts _ kw_50) (fun _ h9 => h9) rfl (by decide +kernel) rfl rfl (Nat.le_of_ble_eq_true rfl) dX10_init_21 (fun H locs hP hD hS => ?_)
  obtain ⟨ws_16, e_ws_16⟩ : ∃ z, z = ws_11.set k0 (h0, .inr (9, [.ref b1, .int 0, .int 0, .int 0, .int x2, .null, .null, .null, .int 0, .null, .null, .null, .null, .null, .int 0, .int 0, .int (-1), .int (-1)])) := ⟨_, rfl⟩
  have hP : va_P (gD g) cl0 ws_16 H := by rw [e_ws_16]; exact hP
  have hD : va_D A ws_16 := by rw [e_ws_16]; exact hD
  have E_17 : gE ws_11 ws_16 := gE_set e_ws_16 hk_0 (cw_o (fi := 4) (v := .int x2) rfl (by decide))
  have hX : GoodX g k0 ws_16 := GoodX.set (fi := 4) (v := .int x2) e_ws_16 hk_0 E_17 rfl hV9 hX
  have Fr_18 : gF [(9, 4)] [] (some h0) ws_11 ws_16 := gF_put (fi := 4) (v := .int x2) e_ws_16 hk_0 rfl (by decide)
  have Gx_19 : gX k0 ws_11 ws_16 := gX_set e_ws_16 hk_0
  have pp_20 := Fr_18.pp
  have hkN := gset_self e_ws_16 hk_0
  have hk_0 := hkN
  have o_h0 := E_17.1 _ _ o_h0
  have a_b1 := E_17.1 _ _ a_b1
  refine lv_aload_n hx hb dX10_init_24 rfl (lv_at hl 0 rfl) ?_
  refine lv_iload_n hx hb dX10_init_25 rfl (lv_at hl 2 rfl) ?_
  obtain ⟨n_22, en_22⟩ : ∃ y : Nat, (x2 : Int32).toNatClampNeg = y := ⟨_, rfl⟩
  have bn_22 : n_22 ≤ 24 := i_cl en_22 (by have q_p2 := p2; have g_x2 := i_rg x2; omega)
  have zn_22 : 0 ≤ (x2 : Int32).toInt := (by have q_p2 := p2; have g_x2 := i_rg x2; omega)
  have q_n_22 := i_nn en_22 zn_22
  refine va_newa (atype := .int) (ty := .int) (a0 := (n_22, .inl (fun _ => 0))) (N' := n_22) hx hb (hts (.arrayClass .int) kw_51) rfl hK hP hD hS hA (fun _ => rfl) (i_nl0 zn_22) en_22 (i_by bn_22 (by decide)) (show 0 + 1 ≤ (8) from (by have e0 : (0 : Int32).toInt = 0 := (by decide); have q_p2 := p2; have g_x2 := i_rg x2; omega)) (show 0 + n_22 ≤ (3 * x2.toInt.toNat + 5 * x3.toInt.toNat) from (by have e0 : (0 : Int32).toInt = 0 := (by decide); have q_p2 := p2; have g_x2 := i_rg x2; omega)) dX10_init_26 (fun q_21 cA9 H hK9 hP hD hS => ?_)
  obtain rfl := cls_new hK hK9 (k := 1) rfl (fun _ h => by cases h)
  clear hK9
  have hD9 := hD
  obtain ⟨ws_23, e_ws_23⟩ : ∃ z, z = ws_16 ++ [(q_21, .inl (g.cI, n_22, .inl (fun _ => 0)))] := ⟨_, rfl⟩
  have hP : va_P (gD g) cl0 ws_23 H := by rw [e_ws_23]; exact hP
  have hD : va_D A ws_23 := by rw [e_ws_23]; exact hD
  have E_24 : gE ws_16 ws_23 := by rw [e_ws_23]; exact gE_push
  have Fr_25 : gF [] [] none ws_16 ws_23 := by rw [e_ws_23]; exact gF_push
  have fr_q_21 : frs ws_23 q_21 := by rw [e_ws_23]; exact frs_new hD9 hX.u
  have hX : GoodX g k0 ws_23 := by rw [e_ws_23]; exact hX.pushI hD9 (ows_lt hk_0)
  have a_q_21 : gI ws_23 q_21 g.cI n_22 := by rw [e_ws_23]; exact gS_new
  have s_q_21 : n_22 < 2147483648 := Nat.lt_of_le_of_lt bn_22 (by decide)
  have pp_26 := Fr_25.pp
  have Gx_27 : gX k0 ws_16 ws_23 := gX_push e_ws_23
  have hk_0 := get_oldE e_ws_23 hk_0
  have o_h0 := E_24.1 _ _ o_h0
  have a_b1 := E_24.1 _ _ a_b1
  have hV9 : okv ws_23 9 5 (.ref q_21) := (okv_a a_q_21 fr_q_21)
  refine va_putF (D := gD g) (ci := 9) (v := .ref q_21) (ty := (.array .int)) (C := RX10) (T := TX10) (N := 18) hx hb hts inX10 tyX10 tyX10_ok nmX10 hown hK hP hD hS k0 hk_0 rfl 5 (by decide) (hts _ kw_52) (fun _ h9 => h9) rfl hin9 rfl (by decide +kernel) rfl rfl (Nat.le_of_ble_eq_true rfl) dX10_init_28 (fun H locs hP hD hS => ?_)
  obtain ⟨ws_28, e_ws_28⟩ : ∃ z, z = ws_23.set k0 (h0, .inr (9, [.ref b1, .int 0, .int 0, .int 0, .int x2, .ref q_21, .null, .null, .int 0, .null, .null, .null, .null, .null, .int 0, .int 0, .int (-1), .int (-1)])) := ⟨_, rfl⟩
  have hP : va_P (gD g) cl0 ws_28 H := by rw [e_ws_28]; exact hP
  have hD : va_D A ws_28 := by rw [e_ws_28]; exact hD
  have E_29 : gE ws_23 ws_28 := gE_set e_ws_28 hk_0 (cw_o (fi := 5) (v := .ref q_21) rfl (by decide))
  have hX : GoodX g k0 ws_28 := GoodX.set (fi := 5) (v := .ref q_21) e_ws_28 hk_0 E_29 rfl hV9 hX
  have Fr_30 : gF [(9, 5)] [] (some h0) ws_23 ws_28 := gF_put (fi := 5) (v := .ref q_21) e_ws_28 hk_0 rfl (by decide)
  have Gx_31 : gX k0 ws_23 ws_28 := gX_set e_ws_28 hk_0
  have pp_32 := Fr_30.pp
  have hkN := gset_self e_ws_28 hk_0
  have hk_0 := hkN
  have o_h0 := E_29.1 _ _ o_h0
  have a_b1 := E_29.1 _ _ a_b1
  have a_q_21 := E_29.1 _ _ a_q_21
  refine lv_aload_n hx hb dX10_init_31 rfl (lv_at hl 0 rfl) ?_
  refine lv_iload_n hx hb dX10_init_32 rfl (lv_at hl 2 rfl) ?_
  obtain ⟨n_34, en_34⟩ : ∃ y : Nat, (x2 : Int32).toNatClampNeg = y := ⟨_, rfl⟩
  have bn_34 : n_34 ≤ 24 := i_cl en_34 (by have q_p2 := p2; have q_n_22 := i_nn en_22 zn_22; have q2_n_22 := bn_22; have g_x2 := i_rg x2; omega)
  have zn_34 : 0 ≤ (x2 : Int32).toInt := (by have q_p2 := p2; have q_n_22 := i_nn en_22 zn_22; have q2_n_22 := bn_22; have g_x2 := i_rg x2; omega)
  have q_n_34 := i_nn en_34 zn_34
  refine va_newa (atype := .int) (ty := .int) (a0 := (n_34, .inl (fun _ => 0))) (N' := n_34) hx hb (hts (.arrayClass .int) kw_51) rfl hK hP hD hS hA (fun _ => rfl) (i_nl0 zn_34) en_34 (i_by bn_34 (by decide)) (show 0 + 1 + 1 ≤ (8) from (by have q_p2 := p2; have q_n_22 := i_nn en_22 zn_22; have q2_n_22 := bn_22; have g_x2 := i_rg x2; omega)) (show 0 + n_22 + n_34 ≤ (3 * x2.toInt.toNat + 5 * x3.toInt.toNat) from (by have q_p2 := p2; have q_n_22 := i_nn en_22 zn_22; have q2_n_22 := bn_22; have g_x2 := i_rg x2; omega)) dX10_init_33 (fun q_33 cA9 H hK9 hP hD hS => ?_)
  obtain rfl := cls_new hK hK9 (k := 1) rfl (fun _ h => by cases h)
  clear hK9
  have hD9 := hD
  obtain ⟨ws_35, e_ws_35⟩ : ∃ z, z = ws_28 ++ [(q_33, .inl (g.cI, n_34, .inl (fun _ => 0)))] := ⟨_, rfl⟩
  have hP : va_P (gD g) cl0 ws_35 H := by rw [e_ws_35]; exact hP
  have hD : va_D A ws_35 := by rw [e_ws_35]; exact hD
  have E_36 : gE ws_28 ws_35 := by rw [e_ws_35]; exact gE_push
  have Fr_37 : gF [] [] none ws_28 ws_35 := by rw [e_ws_35]; exact gF_push
  have fr_q_33 : frs ws_35 q_33 := by rw [e_ws_35]; exact frs_new hD9 hX.u
  have hX : GoodX g k0 ws_35 := by rw [e_ws_35]; exact hX.pushI hD9 (ows_lt hk_0)
  have a_q_33 : gI ws_35 q_33 g.cI n_34 := by rw [e_ws_35]; exact gS_new
  have s_q_33 : n_34 < 2147483648 := Nat.lt_of_le_of_lt bn_34 (by decide)
  have pp_38 := Fr_37.pp
  have Gx_39 : gX k0 ws_28 ws_35 := gX_push e_ws_35
  have hk_0 := get_oldE e_ws_35 hk_0
  have o_h0 := E_36.1 _ _ o_h0
  have a_b1 := E_36.1 _ _ a_b1
  have a_q_21 := E_36.1 _ _ a_q_21
  have hV9 : okv ws_35 9 6 (.ref q_33) := (okv_a a_q_33 fr_q_33)
  refine va_putF (D := gD g) (ci := 9) (v := .ref q_33) (ty := (.array .int)) (C := RX10) (T := TX10) (N := 18) hx hb hts inX10 tyX10 tyX10_ok nmX10 hown hK hP hD hS k0 hk_0 rfl 6 (by decide) (hts _ kw_53) (fun _ h9 => h9) rfl hin9 rfl (by decide +kernel) rfl rfl (Nat.le_of_ble_eq_true rfl) dX10_init_35 (fun H locs hP hD hS => ?_)
  obtain ⟨ws_40, e_ws_40⟩ : ∃ z, z = ws_35.set k0 (h0, .inr (9, [.ref b1, .int 0, .int 0, .int 0, .int x2, .ref q_21, .ref q_33, .null, .int 0, .null, .null, .null, .null, .null, .int 0, .int 0, .int (-1), .int (-1)])) := ⟨_, rfl⟩
  have hP : va_P (gD g) cl0 ws_40 H := by rw [e_ws_40]; exact hP
  have hD : va_D A ws_40 := by rw [e_ws_40]; exact hD
  have E_41 : gE ws_35 ws_40 := gE_set e_ws_40 hk_0 (cw_o (fi := 6) (v := .ref q_33) rfl (by decide))
  have hX : GoodX g k0 ws_40 := GoodX.set (fi := 6) (v := .ref q_33) e_ws_40 hk_0 E_41 rfl hV9 hX
  have Fr_42 : gF [(9, 6)] [] (some h0) ws_35 ws_40 := gF_put (fi := 6) (v := .ref q_33) e_ws_40 hk_0 rfl (by decide)
  have Gx_43 : gX k0 ws_35 ws_40 := gX_set e_ws_40 hk_0
  have pp_44 := Fr_42.pp
  have hkN := gset_self e_ws_40 hk_0
  have hk_0 := hkN
  have o_h0 := E_41.1 _ _ o_h0
  have a_b1 := E_41.1 _ _ a_b1
  have a_q_21 := E_41.1 _ _ a_q_21
  have a_q_33 := E_41.1 _ _ a_q_33
  refine lv_aload_n hx hb dX10_init_38 rfl (lv_at hl 0 rfl) ?_
  refine lv_iload_n hx hb dX10_init_39 rfl (lv_at hl 2 rfl) ?_
  obtain ⟨n_46, en_46⟩ : ∃ y : Nat, (x2 : Int32).toNatClampNeg = y := ⟨_, rfl⟩
  have bn_46 : n_46 ≤ 24 := i_cl en_46 (by have q_p2 := p2; have q_n_22 := i_nn en_22 zn_22; have q_n_34 := i_nn en_34 zn_34; have q2_n_22 := bn_22; have q2_n_34 := bn_34; have g_x2 := i_rg x2; omega)
  have zn_46 : 0 ≤ (x2 : Int32).toInt := (by have q_p2 := p2; have q_n_22 := i_nn en_22 zn_22; have q_n_34 := i_nn en_34 zn_34; have q2_n_22 := bn_22; have q2_n_34 := bn_34; have g_x2 := i_rg x2; omega)
  have q_n_46 := i_nn en_46 zn_46
  refine va_newa (atype := .int) (ty := .int) (a0 := (n_46, .inl (fun _ => 0))) (N' := n_46) hx hb (hts (.arrayClass .int) kw_51) rfl hK hP hD hS hA (fun _ => rfl) (i_nl0 zn_46) en_46 (i_by bn_46 (by decide)) (show 0 + 1 + 1 + 1 ≤ (8) from (by have q_p2 := p2; have q_n_22 := i_nn en_22 zn_22; have q2_n_22 := bn_22; have q_n_34 := i_nn en_34 zn_34; have q2_n_34 := bn_34; have g_x2 := i_rg x2; omega)) (show 0 + n_22 + n_34 + n_46 ≤ (3 * x2.toInt.toNat + 5 * x3.toInt.toNat) from (by have q_p2 := p2; have q_n_22 := i_nn en_22 zn_22; have q2_n_22 := bn_22; have q_n_34 := i_nn en_34 zn_34; have q2_n_34 := bn_34; have g_x2 := i_rg x2; omega)) dX10_init_40 (fun q_45 cA9 H hK9 hP hD hS => ?_)
  obtain rfl := cls_new hK hK9 (k := 1) rfl (fun _ h => by cases h)
  clear hK9
  have hD9 := hD
  obtain ⟨ws_47, e_ws_47⟩ : ∃ z, z = ws_40 ++ [(q_45, .inl (g.cI, n_46, .inl (fun _ => 0)))] := ⟨_, rfl⟩
  have hP : va_P (gD g) cl0 ws_47 H := by rw [e_ws_47]; exact hP
  have hD : va_D A ws_47 := by rw [e_ws_47]; exact hD
  have E_48 : gE ws_40 ws_47 := by rw [e_ws_47]; exact gE_push
  have Fr_49 : gF [] [] none ws_40 ws_47 := by rw [e_ws_47]; exact gF_push
  have fr_q_45 : frs ws_47 q_45 := by rw [e_ws_47]; exact frs_new hD9 hX.u
  have hX : GoodX g k0 ws_47 := by rw [e_ws_47]; exact hX.pushI hD9 (ows_lt hk_0)
  have a_q_45 : gI ws_47 q_45 g.cI n_46 := by rw [e_ws_47]; exact gS_new
  have s_q_45 : n_46 < 2147483648 := Nat.lt_of_le_of_lt bn_46 (by decide)
  have pp_50 := Fr_49.pp
  have Gx_51 : gX k0 ws_40 ws_47 := gX_push e_ws_47
  have hk_0 := get_oldE e_ws_47 hk_0
  have o_h0 := E_48.1 _ _ o_h0
  have a_b1 := E_48.1 _ _ a_b1
  have a_q_21 := E_48.1 _ _ a_q_21
  have a_q_33 := E_48.1 _ _ a_q_33
  have hV9 : okv ws_47 9 7 (.ref q_45) := (okv_a a_q_45 fr_q_45)
  refine va_putF (D := gD g) (ci := 9) (v := .ref q_45) (ty := (.array .int)) (C := RX10) (T := TX10) (N := 18) hx hb hts inX10 tyX10 tyX10_ok nmX10 hown hK hP hD hS k0 hk_0 rfl 7 (by decide) (hts _ kw_54) (fun _ h9 => h9) rfl hin9 rfl (by decide +kernel) rfl rfl (Nat.le_of_ble_eq_true rfl) dX10_init_42 (fun H locs hP hD hS => ?_)
  obtain ⟨ws_52, e_ws_52⟩ : ∃ z, z = ws_47.set k0 (h0, .inr (9, [.ref b1, .int 0, .int 0, .int 0, .int x2, .ref q_21, .ref q_33, .ref q_45, .int 0, .null, .null, .null, .null, .null, .int 0, .int 0, .int (-1), .int (-1)])) := ⟨_, rfl⟩
  have hP : va_P (gD g) cl0 ws_52 H := by rw [e_ws_52]; exact hP
  have hD : va_D A ws_52 := by rw [e_ws_52]; exact hD
  have E_53 : gE ws_47 ws_52 := gE_set e_ws_52 hk_0 (cw_o (fi := 7) (v := .ref q_45) rfl (by decide))
  have hX : GoodX g k0 ws_52 := GoodX.set (fi := 7) (v := .ref q_45) e_ws_52 hk_0 E_53 rfl hV9 hX
  have Fr_54 : gF [(9, 7)] [] (some h0) ws_47 ws_52 := gF_put (fi := 7) (v := .ref q_45) e_ws_52 hk_0 rfl (by decide)
  have Gx_55 : gX k0 ws_47 ws_52 := gX_set e_ws_52 hk_0
  have pp_56 := Fr_54.pp
  have hkN := gset_self e_ws_52 hk_0
  have hk_0 := hkN
  have o_h0 := E_53.1 _ _ o_h0
  have a_b1 := E_53.1 _ _ a_b1
  have a_q_21 := E_53.1 _ _ a_q_21
  have a_q_33 := E_53.1 _ _ a_q_33
  have a_q_45 := E_53.1 _ _ a_q_45
  refine lv_aload_n hx hb dX10_init_45 rfl (lv_at hl 0 rfl) ?_
  refine lv_iload_n hx hb dX10_init_46 rfl (lv_at hl 3 rfl) ?_
  have hV9 : okv ws_52 9 8 (.int x3) := okv_i
  refine va_put (D := gD g) (ci := 9) (v := .int x3) (ty := .int) (C := RX10) (T := TX10) (N := 18) hx hb hts inX10 tyX10 tyX10_ok nmX10 hown hK hP hD hS k0 hk_0 rfl 8 (by decide) (hts _ kw_55) (fun _ h9 => h9) rfl (by decide +kernel) rfl rfl (Nat.le_of_ble_eq_true rfl) dX10_init_47 (fun H locs hP hD hS => ?_)
  obtain ⟨ws_57, e_ws_57⟩ : ∃ z, z = ws_52.set k0 (h0, .inr (9, [.ref b1, .int 0, .int 0, .int 0, .int x2, .ref q_21, .ref q_33, .ref q_45, .int x3, .null, .null, .null, .null, .null, .int 0, .int 0, .int (-1), .int (-1)])) := ⟨_, rfl⟩
  have hP : va_P (gD g) cl0 ws_57 H := by rw [e_ws_57]; exact hP
  have hD : va_D A ws_57 := by rw [e_ws_57]; exact hD
  have E_58 : gE ws_52 ws_57 := gE_set e_ws_57 hk_0 (cw_o (fi := 8) (v := .int x3) rfl (by decide))
  have hX : GoodX g k0 ws_57 := GoodX.set (fi := 8) (v := .int x3) e_ws_57 hk_0 E_58 rfl hV9 hX
  have Fr_59 : gF [(9, 8)] [] (some h0) ws_52 ws_57 := gF_put (fi := 8) (v := .int x3) e_ws_57 hk_0 rfl (by decide)
  have Gx_60 : gX k0 ws_52 ws_57 := gX_set e_ws_57 hk_0
  have pp_61 := Fr_59.pp
  have hkN := gset_self e_ws_57 hk_0
  have hk_0 := hkN
  have o_h0 := E_58.1 _ _ o_h0
  have a_b1 := E_58.1 _ _ a_b1
  have a_q_21 := E_58.1 _ _ a_q_21
  have a_q_33 := E_58.1 _ _ a_q_33
  have a_q_45 := E_58.1 _ _ a_q_45
  refine lv_aload_n hx hb dX10_init_50 rfl (lv_at hl 0 rfl) ?_
  refine lv_iload_n hx hb dX10_init_51 rfl (lv_at hl 3 rfl) ?_
  obtain ⟨n_63, en_63⟩ : ∃ y : Nat, (x3 : Int32).toNatClampNeg = y := ⟨_, rfl⟩
  have bn_63 : n_63 ≤ 24 := i_cl en_63 (by have q_p3 := p3; have g_x3 := i_rg x3; omega)
  have zn_63 : 0 ≤ (x3 : Int32).toInt := (by have q_p3 := p3; have g_x3 := i_rg x3; omega)
  have q_n_63 := i_nn en_63 zn_63
  refine va_newa (atype := .int) (ty := .int) (a0 := (n_63, .inl (fun _ => 0))) (N' := n_63) hx hb (hts (.arrayClass .int) kw_51) rfl hK hP hD hS hA (fun _ => rfl) (i_nl0 zn_63) en_63 (i_by bn_63 (by decide)) (show 0 + 1 + 1 + 1 + 1 ≤ (8) from (by have q_p2 := p2; have q_p3 := p3; have q_n_22 := i_nn en_22 zn_22; have q2_n_22 := bn_22; have q_n_34 := i_nn en_34 zn_34; have q2_n_34 := bn_34; have q_n_46 := i_nn en_46 zn_46; have q2_n_46 := bn_46; have g_x2 := i_rg x2; have g_x3 := i_rg x3; omega)) (show 0 + n_22 + n_34 + n_46 + n_63 ≤ (3 * x2.toInt.toNat + 5 * x3.toInt.toNat) from (by have q_p2 := p2; have q_p3 := p3; have q_n_22 := i_nn en_22 zn_22; have q2_n_22 := bn_22; have q_n_34 := i_nn en_34 zn_34; have q2_n_34 := bn_34; have q_n_46 := i_nn en_46 zn_46; have q2_n_46 := bn_46; have g_x2 := i_rg x2; have g_x3 := i_rg x3; omega)) dX10_init_52 (fun q_62 cA9 H hK9 hP hD hS => ?_)
  obtain rfl := cls_new hK hK9 (k := 1) rfl (fun _ h => by cases h)
  clear hK9
  have hD9 := hD
  obtain ⟨ws_64, e_ws_64⟩ : ∃ z, z = ws_57 ++ [(q_62, .inl (g.cI, n_63, .inl (fun _ => 0)))] := ⟨_, rfl⟩
  have hP : va_P (gD g) cl0 ws_64 H := by rw [e_ws_64]; exact hP
  have hD : va_D A ws_64 := by rw [e_ws_64]; exact hD
  have E_65 : gE ws_57 ws_64 := by rw [e_ws_64]; exact gE_push
  have Fr_66 : gF [] [] none ws_57 ws_64 := by rw [e_ws_64]; exact gF_push
  have fr_q_62 : frs ws_64 q_62 := by rw [e_ws_64]; exact frs_new hD9 hX.u
  have hX : GoodX g k0 ws_64 := by rw [e_ws_64]; exact hX.pushI hD9 (ows_lt hk_0)
  have a_q_62 : gI ws_64 q_62 g.cI n_63 := by rw [e_ws_64]; exact gS_new
  have s_q_62 : n_63 < 2147483648 := Nat.lt_of_le_of_lt bn_63 (by decide)
  have pp_67 := Fr_66.pp
  have Gx_68 : gX k0 ws_57 ws_64 := gX_push e_ws_64
  have hk_0 := get_oldE e_ws_64 hk_0
  have o_h0 := E_65.1 _ _ o_h0
  have a_b1 := E_65.1 _ _ a_b1
  have a_q_21 := E_65.1 _ _ a_q_21
  have a_q_33 := E_65.1 _ _ a_q_33
  have a_q_45 := E_65.1 _ _ a_q_45
  have hV9 : okv ws_64 9 9 (.ref q_62) := (okv_a a_q_62 fr_q_62)
  refine va_putF (D := gD g) (ci := 9) (v := .ref q_62) (ty := (.array .int)) (C := RX10) (T := TX10) (N := 18) hx hb hts inX10 tyX10 tyX10_ok nmX10 hown hK hP hD hS k0 hk_0 rfl 9 (by decide) (hts _ kw_56) (fun _ h9 => h9) rfl hin9 rfl (by decide +kernel) rfl rfl (Nat.le_of_ble_eq_true rfl) dX10_init_54 (fun H locs hP hD hS => ?_)
  obtain ⟨ws_69, e_ws_69⟩ : ∃ z, z = ws_64.set k0 (h0, .inr (9, [.ref b1, .int 0, .int 0, .int 0, .int x2, .ref q_21, .ref q_33, .ref q_45, .int x3, .ref q_62, .null, .null, .null, .null, .int 0, .int 0, .int (-1), .int (-1)])) := ⟨_, rfl⟩
  have hP : va_P (gD g) cl0 ws_69 H := by rw [e_ws_69]; exact hP
  have hD : va_D A ws_69 := by rw [e_ws_69]; exact hD
  have E_70 : gE ws_64 ws_69 := gE_set e_ws_69 hk_0 (cw_o (fi := 9) (v := .ref q_62) rfl (by decide))
  have hX : GoodX g k0 ws_69 := GoodX.set (fi := 9) (v := .ref q_62) e_ws_69 hk_0 E_70 rfl hV9 hX
  have Fr_71 : gF [(9, 9)] [] (some h0) ws_64 ws_69 := gF_put (fi := 9) (v := .ref q_62) e_ws_69 hk_0 rfl (by decide)
  have Gx_72 : gX k0 ws_64 ws_69 := gX_set e_ws_69 hk_0
  have pp_73 := Fr_71.pp
  have hkN := gset_self e_ws_69 hk_0
  have hk_0 := hkN
  have o_h0 := E_70.1 _ _ o_h0
  have a_b1 := E_70.1 _ _ a_b1
  have a_q_21 := E_70.1 _ _ a_q_21
  have a_q_33 := E_70.1 _ _ a_q_33
  have a_q_45 := E_70.1 _ _ a_q_45
  have a_q_62 := E_70.1 _ _ a_q_62
  refine lv_aload_n hx hb dX10_init_57 rfl (lv_at hl 0 rfl) ?_
  refine lv_iload_n hx hb dX10_init_58 rfl (lv_at hl 3 rfl) ?_
  obtain ⟨n_75, en_75⟩ : ∃ y : Nat, (x3 : Int32).toNatClampNeg = y := ⟨_, rfl⟩
  have bn_75 : n_75 ≤ 24 := i_cl en_75 (by have q_p3 := p3; have q_n_63 := i_nn en_63 zn_63; have q2_n_63 := bn_63; have g_x3 := i_rg x3; omega)
  have zn_75 : 0 ≤ (x3 : Int32).toInt := (by have q_p3 := p3; have q_n_63 := i_nn en_63 zn_63; have q2_n_63 := bn_63; have g_x3 := i_rg x3; omega)
  have q_n_75 := i_nn en_75 zn_75
  refine va_newa (atype := .int) (ty := .int) (a0 := (n_75, .inl (fun _ => 0))) (N' := n_75) hx hb (hts (.arrayClass .int) kw_51) rfl hK hP hD hS hA (fun _ => rfl) (i_nl0 zn_75) en_75 (i_by bn_75 (by decide)) (show 0 + 1 + 1 + 1 + 1 + 1 ≤ (8) from (by have q_p2 := p2; have q_p3 := p3; have q_n_22 := i_nn en_22 zn_22; have q2_n_22 := bn_22; have q_n_34 := i_nn en_34 zn_34; have q2_n_34 := bn_34; have q_n_46 := i_nn en_46 zn_46; have q2_n_46 := bn_46; have q_n_63 := i_nn en_63 zn_63; have q2_n_63 := bn_63; have g_x2 := i_rg x2; have g_x3 := i_rg x3; omega)) (show 0 + n_22 + n_34 + n_46 + n_63 + n_75 ≤ (3 * x2.toInt.toNat + 5 * x3.toInt.toNat) from (by have q_p2 := p2; have q_p3 := p3; have q_n_22 := i_nn en_22 zn_22; have q2_n_22 := bn_22; have q_n_34 := i_nn en_34 zn_34; have q2_n_34 := bn_34; have q_n_46 := i_nn en_46 zn_46; have q2_n_46 := bn_46; have q_n_63 := i_nn en_63 zn_63; have q2_n_63 := bn_63; have g_x2 := i_rg x2; have g_x3 := i_rg x3; omega)) dX10_init_59 (fun q_74 cA9 H hK9 hP hD hS => ?_)
  obtain rfl := cls_new hK hK9 (k := 1) rfl (fun _ h => by cases h)
  clear hK9
  have hD9 := hD
  obtain ⟨ws_76, e_ws_76⟩ : ∃ z, z = ws_69 ++ [(q_74, .inl (g.cI, n_75, .inl (fun _ => 0)))] := ⟨_, rfl⟩
  have hP : va_P (gD g) cl0 ws_76 H := by rw [e_ws_76]; exact hP
  have hD : va_D A ws_76 := by rw [e_ws_76]; exact hD
  have E_77 : gE ws_69 ws_76 := by rw [e_ws_76]; exact gE_push
  have Fr_78 : gF [] [] none ws_69 ws_76 := by rw [e_ws_76]; exact gF_push
  have fr_q_74 : frs ws_76 q_74 := by rw [e_ws_76]; exact frs_new hD9 hX.u
  have hX : GoodX g k0 ws_76 := by rw [e_ws_76]; exact hX.pushI hD9 (ows_lt hk_0)
  have a_q_74 : gI ws_76 q_74 g.cI n_75 := by rw [e_ws_76]; exact gS_new
  have s_q_74 : n_75 < 2147483648 := Nat.lt_of_le_of_lt bn_75 (by decide)
  have pp_79 := Fr_78.pp
  have Gx_80 : gX k0 ws_69 ws_76 := gX_push e_ws_76
  have hk_0 := get_oldE e_ws_76 hk_0
  have o_h0 := E_77.1 _ _ o_h0
  have a_b1 := E_77.1 _ _ a_b1
  have a_q_21 := E_77.1 _ _ a_q_21
  have a_q_33 := E_77.1 _ _ a_q_33
  have a_q_45 := E_77.1 _ _ a_q_45
  have a_q_62 := E_77.1 _ _ a_q_62
  have hV9 : okv ws_76 9 10 (.ref q_74) := (okv_a a_q_74 fr_q_74)
  refine va_putF (D := gD g) (ci := 9) (v := .ref q_74) (ty := (.array .int)) (C := RX10) (T := TX10) (N := 18) hx hb hts inX10 tyX10 tyX10_ok nmX10 hown hK hP hD hS k0 hk_0 rfl 10 (by decide) (hts _ kw_57) (fun _ h9 => h9) rfl hin9 rfl (by decide +kernel) rfl rfl (Nat.le_of_ble_eq_true rfl) dX10_init_61 (fun H locs hP hD hS => ?_)
  obtain ⟨ws_81, e_ws_81⟩ : ∃ z, z = ws_76.set k0 (h0, .inr (9, [.ref b1, .int 0, .int 0, .int 0, .int x2, .ref q_21, .ref q_33, .ref q_45, .int x3, .ref q_62, .ref q_74, .null, .null, .null, .int 0, .int 0, .int (-1), .int (-1)])) := ⟨_, rfl⟩
  have hP : va_P (gD g) cl0 ws_81 H := by rw [e_ws_81]; exact hP
  have hD : va_D A ws_81 := by rw [e_ws_81]; exact hD
  have E_82 : gE ws_76 ws_81 := gE_set e_ws_81 hk_0 (cw_o (fi := 10) (v := .ref q_74) rfl (by decide))
  have hX : GoodX g k0 ws_81 := GoodX.set (fi := 10) (v := .ref q_74) e_ws_81 hk_0 E_82 rfl hV9 hX
  have Fr_83 : gF [(9, 10)] [] (some h0) ws_76 ws_81 := gF_put (fi := 10) (v := .ref q_74) e_ws_81 hk_0 rfl (by decide)
  have Gx_84 : gX k0 ws_76 ws_81 := gX_set e_ws_81 hk_0
  have pp_85 := Fr_83.pp
  have hkN := gset_self e_ws_81 hk_0
  have hk_0 := hkN
  have o_h0 := E_82.1 _ _ o_h0
  have a_b1 := E_82.1 _ _ a_b1
  have a_q_21 := E_82.1 _ _ a_q_21
  have a_q_33 := E_82.1 _ _ a_q_33
  have a_q_45 := E_82.1 _ _ a_q_45
  have a_q_62 := E_82.1 _ _ a_q_62
  have a_q_74 := E_82.1 _ _ a_q_74
  refine lv_aload_n hx hb dX10_init_64 rfl (lv_at hl 0 rfl) ?_
  refine lv_iload_n hx hb dX10_init_65 rfl (lv_at hl 3 rfl) ?_
  obtain ⟨n_87, en_87⟩ : ∃ y : Nat, (x3 : Int32).toNatClampNeg = y := ⟨_, rfl⟩
  have bn_87 : n_87 ≤ 24 := i_cl en_87 (by have q_p3 := p3; have q_n_63 := i_nn en_63 zn_63; have q_n_75 := i_nn en_75 zn_75; have q2_n_63 := bn_63; have q2_n_75 := bn_75; have g_x3 := i_rg x3; omega)
  have zn_87 : 0 ≤ (x3 : Int32).toInt := (by have q_p3 := p3; have q_n_63 := i_nn en_63 zn_63; have q_n_75 := i_nn en_75 zn_75; have q2_n_63 := bn_63; have q2_n_75 := bn_75; have g_x3 := i_rg x3; omega)
  have q_n_87 := i_nn en_87 zn_87
  refine va_newa (atype := .int) (ty := .int) (a0 := (n_87, .inl (fun _ => 0))) (N' := n_87) hx hb (hts (.arrayClass .int) kw_51) rfl hK hP hD hS hA (fun _ => rfl) (i_nl0 zn_87) en_87 (i_by bn_87 (by decide)) (show 0 + 1 + 1 + 1 + 1 + 1 + 1 ≤ (8) from (by have q_p2 := p2; have q_p3 := p3; have q_n_22 := i_nn en_22 zn_22; have q2_n_22 := bn_22; have q_n_34 := i_nn en_34 zn_34; have q2_n_34 := bn_34; have q_n_46 := i_nn en_46 zn_46; have q2_n_46 := bn_46; have q_n_63 := i_nn en_63 zn_63; have q2_n_63 := bn_63; have q_n_75 := i_nn en_75 zn_75; have q2_n_75 := bn_75; have g_x2 := i_rg x2; have g_x3 := i_rg x3; omega)) (show 0 + n_22 + n_34 + n_46 + n_63 + n_75 + n_87 ≤ (3 * x2.toInt.toNat + 5 * x3.toInt.toNat) from (by have q_p2 := p2; have q_p3 := p3; have q_n_22 := i_nn en_22 zn_22; have q2_n_22 := bn_22; have q_n_34 := i_nn en_34 zn_34; have q2_n_34 := bn_34; have q_n_46 := i_nn en_46 zn_46; have q2_n_46 := bn_46; have q_n_63 := i_nn en_63 zn_63; have q2_n_63 := bn_63; have q_n_75 := i_nn en_75 zn_75; have q2_n_75 := bn_75; have g_x2 := i_rg x2; have g_x3 := i_rg x3; omega)) dX10_init_66 (fun q_86 cA9 H hK9 hP hD hS => ?_)
  obtain rfl := cls_new hK hK9 (k := 1) rfl (fun _ h => by cases h)
  clear hK9
  have hD9 := hD
  obtain ⟨ws_88, e_ws_88⟩ : ∃ z, z = ws_81 ++ [(q_86, .inl (g.cI, n_87, .inl (fun _ => 0)))] := ⟨_, rfl⟩
  have hP : va_P (gD g) cl0 ws_88 H := by rw [e_ws_88]; exact hP
  have hD : va_D A ws_88 := by rw [e_ws_88]; exact hD
  have E_89 : gE ws_81 ws_88 := by rw [e_ws_88]; exact gE_push
  have Fr_90 : gF [] [] none ws_81 ws_88 := by rw [e_ws_88]; exact gF_push
  have fr_q_86 : frs ws_88 q_86 := by rw [e_ws_88]; exact frs_new hD9 hX.u
  have hX : GoodX g k0 ws_88 := by rw [e_ws_88]; exact hX.pushI hD9 (ows_lt hk_0)
  have a_q_86 : gI ws_88 q_86 g.cI n_87 := by rw [e_ws_88]; exact gS_new
  have s_q_86 : n_87 < 2147483648 := Nat.lt_of_le_of_lt bn_87 (by decide)
  have pp_91 := Fr_90.pp
  have Gx_92 : gX k0 ws_81 ws_88 := gX_push e_ws_88
  have hk_0 := get_oldE e_ws_88 hk_0
  have o_h0 := E_89.1 _ _ o_h0
  have a_b1 := E_89.1 _ _ a_b1
  have a_q_21 := E_89.1 _ _ a_q_21
  have a_q_33 := E_89.1 _ _ a_q_33
  have a_q_45 := E_89.1 _ _ a_q_45
  have a_q_62 := E_89.1 _ _ a_q_62
  have a_q_74 := E_89.1 _ _ a_q_74
  have hV9 : okv ws_88 9 11 (.ref q_86) := (okv_a a_q_86 fr_q_86)
  refine va_putF (D := gD g) (ci := 9) (v := .ref q_86) (ty := (.array .int)) (C := RX10) (T := TX10) (N := 18) hx hb hts inX10 tyX10 tyX10_ok nmX10 hown hK hP hD hS k0 hk_0 rfl 11 (by decide) (hts _ kw_58) (fun _ h9 => h9) rfl hin9 rfl (by decide +kernel) rfl rfl (Nat.le_of_ble_eq_true rfl) dX10_init_68 (fun H locs hP hD hS => ?_)
  obtain ⟨ws_93, e_ws_93⟩ : ∃ z, z = ws_88.set k0 (h0, .inr (9, [.ref b1, .int 0, .int 0, .int 0, .int x2, .ref q_21, .ref q_33, .ref q_45, .int x3, .ref q_62, .ref q_74, .ref q_86, .null, .null, .int 0, .int 0, .int (-1), .int (-1)])) := ⟨_, rfl⟩
  have hP : va_P (gD g) cl0 ws_93 H := by rw [e_ws_93]; exact hP
  have hD : va_D A ws_93 := by rw [e_ws_93]; exact hD
  have E_94 : gE ws_88 ws_93 := gE_set e_ws_93 hk_0 (cw_o (fi := 11) (v := .ref q_86) rfl (by decide))
  have hX : GoodX g k0 ws_93 := GoodX.set (fi := 11) (v := .ref q_86) e_ws_93 hk_0 E_94 rfl hV9 hX
  have Fr_95 : gF [(9, 11)] [] (some h0) ws_88 ws_93 := gF_put (fi := 11) (v := .ref q_86) e_ws_93 hk_0 rfl (by decide)
  have Gx_96 : gX k0 ws_88 ws_93 := gX_set e_ws_93 hk_0
  have pp_97 := Fr_95.pp
  have hkN := gset_self e_ws_93 hk_0
  have hk_0 := hkN
  have o_h0 := E_94.1 _ _ o_h0
  have a_b1 := E_94.1 _ _ a_b1
  have a_q_21 := E_94.1 _ _ a_q_21
  have a_q_33 := E_94.1 _ _ a_q_33
  have a_q_45 := E_94.1 _ _ a_q_45
  have a_q_62 := E_94.1 _ _ a_q_62
  have a_q_74 := E_94.1 _ _ a_q_74
  have a_q_86 := E_94.1 _ _ a_q_86
  refine lv_aload_n hx hb dX10_init_71 rfl (lv_at hl 0 rfl) ?_
  refine lv_iload_n hx hb dX10_init_72 rfl (lv_at hl 3 rfl) ?_
  obtain ⟨n_99, en_99⟩ : ∃ y : Nat, (x3 : Int32).toNatClampNeg = y := ⟨_, rfl⟩
  have bn_99 : n_99 ≤ 24 := i_cl en_99 (by have q_p3 := p3; have q_n_63 := i_nn en_63 zn_63; have q_n_75 := i_nn en_75 zn_75; have q_n_87 := i_nn en_87 zn_87; have q2_n_63 := bn_63; have q2_n_75 := bn_75; have q2_n_87 := bn_87; have g_x3 := i_rg x3; omega)
  have zn_99 : 0 ≤ (x3 : Int32).toInt := (by have q_p3 := p3; have q_n_63 := i_nn en_63 zn_63; have q_n_75 := i_nn en_75 zn_75; have q_n_87 := i_nn en_87 zn_87; have q2_n_63 := bn_63; have q2_n_75 := bn_75; have q2_n_87 := bn_87; have g_x3 := i_rg x3; omega)
  have q_n_99 := i_nn en_99 zn_99
  refine va_newa (atype := .int) (ty := .int) (a0 := (n_99, .inl (fun _ => 0))) (N' := n_99) hx hb (hts (.arrayClass .int) kw_51) rfl hK hP hD hS hA (fun _ => rfl) (i_nl0 zn_99) en_99 (i_by bn_99 (by decide)) (show 0 + 1 + 1 + 1 + 1 + 1 + 1 + 1 ≤ (8) from (by have q_p2 := p2; have q_p3 := p3; have q_n_22 := i_nn en_22 zn_22; have q2_n_22 := bn_22; have q_n_34 := i_nn en_34 zn_34; have q2_n_34 := bn_34; have q_n_46 := i_nn en_46 zn_46; have q2_n_46 := bn_46; have q_n_63 := i_nn en_63 zn_63; have q2_n_63 := bn_63; have q_n_75 := i_nn en_75 zn_75; have q2_n_75 := bn_75; have q_n_87 := i_nn en_87 zn_87; have q2_n_87 := bn_87; have g_x2 := i_rg x2; have g_x3 := i_rg x3; omega)) (show 0 + n_22 + n_34 + n_46 + n_63 + n_75 + n_87 + n_99 ≤ (3 * x2.toInt.toNat + 5 * x3.toInt.toNat) from (by have q_p2 := p2; have q_p3 := p3; have q_n_22 := i_nn en_22 zn_22; have q2_n_22 := bn_22; have q_n_34 := i_nn en_34 zn_34; have q2_n_34 := bn_34; have q_n_46 := i_nn en_46 zn_46; have q2_n_46 := bn_46; have q_n_63 := i_nn en_63 zn_63; have q2_n_63 := bn_63; have q_n_75 := i_nn en_75 zn_75; have q2_n_75 := bn_75; have q_n_87 := i_nn en_87 zn_87; have q2_n_87 := bn_87; have g_x2 := i_rg x2; have g_x3 := i_rg x3; omega)) dX10_init_73 (fun q_98 cA9 H hK9 hP hD hS => ?_)
  obtain rfl := cls_new hK hK9 (k := 1) rfl (fun _ h => by cases h)
  clear hK9
  have hD9 := hD
  obtain ⟨ws_100, e_ws_100⟩ : ∃ z, z = ws_93 ++ [(q_98, .inl (g.cI, n_99, .inl (fun _ => 0)))] := ⟨_, rfl⟩
  have hP : va_P (gD g) cl0 ws_100 H := by rw [e_ws_100]; exact hP
  have hD : va_D A ws_100 := by rw [e_ws_100]; exact hD
  have E_101 : gE ws_93 ws_100 := by rw [e_ws_100]; exact gE_push
  have Fr_102 : gF [] [] none ws_93 ws_100 := by rw [e_ws_100]; exact gF_push
  have fr_q_98 : frs ws_100 q_98 := by rw [e_ws_100]; exact frs_new hD9 hX.u
  have hX : GoodX g k0 ws_100 := by rw [e_ws_100]; exact hX.pushI hD9 (ows_lt hk_0)
  have a_q_98 : gI ws_100 q_98 g.cI n_99 := by rw [e_ws_100]; exact gS_new
  have s_q_98 : n_99 < 2147483648 := Nat.lt_of_le_of_lt bn_99 (by decide)
  have pp_103 := Fr_102.pp
  have Gx_104 : gX k0 ws_93 ws_100 := gX_push e_ws_100
  have hk_0 := get_oldE e_ws_100 hk_0
  have o_h0 := E_101.1 _ _ o_h0
  have a_b1 := E_101.1 _ _ a_b1
  have a_q_21 := E_101.1 _ _ a_q_21
  have a_q_33 := E_101.1 _ _ a_q_33
  have a_q_45 := E_101.1 _ _ a_q_45
  have a_q_62 := E_101.1 _ _ a_q_62
  have a_q_74 := E_101.1 _ _ a_q_74
  have a_q_86 := E_101.1 _ _ a_q_86
  have hV9 : okv ws_100 9 12 (.ref q_98) := (okv_a a_q_98 fr_q_98)
  refine va_putF (D := gD g) (ci := 9) (v := .ref q_98) (ty := (.array .int)) (C := RX10) (T := TX10) (N := 18) hx hb hts inX10 tyX10 tyX10_ok nmX10 hown hK hP hD hS k0 hk_0 rfl 12 (by decide) (hts _ kw_43) (fun _ h9 => h9) rfl hin9 rfl (by decide +kernel) rfl rfl (Nat.le_of_ble_eq_true rfl) dX10_init_75 (fun H locs hP hD hS => ?_)
  obtain ⟨ws_105, e_ws_105⟩ : ∃ z, z = ws_100.set k0 (h0, .inr (9, [.ref b1, .int 0, .int 0, .int 0, .int x2, .ref q_21, .ref q_33, .ref q_45, .int x3, .ref q_62, .ref q_74, .ref q_86, .ref q_98, .null, .int 0, .int 0, .int (-1), .int (-1)])) := ⟨_, rfl⟩
  have hP : va_P (gD g) cl0 ws_105 H := by rw [e_ws_105]; exact hP
  have hD : va_D A ws_105 := by rw [e_ws_105]; exact hD
  have E_106 : gE ws_100 ws_105 := gE_set e_ws_105 hk_0 (cw_o (fi := 12) (v := .ref q_98) rfl (by decide))
  have hX : GoodX g k0 ws_105 := GoodX.set (fi := 12) (v := .ref q_98) e_ws_105 hk_0 E_106 rfl hV9 hX
  have Fr_107 : gF [(9, 12)] [] (some h0) ws_100 ws_105 := gF_put (fi := 12) (v := .ref q_98) e_ws_105 hk_0 rfl (by decide)
  have Gx_108 : gX k0 ws_100 ws_105 := gX_set e_ws_105 hk_0
  have pp_109 := Fr_107.pp
  have hkN := gset_self e_ws_105 hk_0
  have hk_0 := hkN
  have o_h0 := E_106.1 _ _ o_h0
  have a_b1 := E_106.1 _ _ a_b1
  have a_q_21 := E_106.1 _ _ a_q_21
  have a_q_33 := E_106.1 _ _ a_q_33
  have a_q_45 := E_106.1 _ _ a_q_45
  have a_q_62 := E_106.1 _ _ a_q_62
  have a_q_74 := E_106.1 _ _ a_q_74
  have a_q_86 := E_106.1 _ _ a_q_86
  have a_q_98 := E_106.1 _ _ a_q_98
  refine lv_aload_n hx hb dX10_init_78 rfl (lv_at hl 0 rfl) ?_
  refine lv_iload_n hx hb dX10_init_79 rfl (lv_at hl 3 rfl) ?_
  obtain ⟨n_111, en_111⟩ : ∃ y : Nat, (x3 : Int32).toNatClampNeg = y := ⟨_, rfl⟩
  have bn_111 : n_111 ≤ 24 := i_cl en_111 (by have q_p3 := p3; have q_n_63 := i_nn en_63 zn_63; have q_n_75 := i_nn en_75 zn_75; have q_n_87 := i_nn en_87 zn_87; have q_n_99 := i_nn en_99 zn_99; have q2_n_63 := bn_63; have q2_n_75 := bn_75; have q2_n_87 := bn_87; have q2_n_99 := bn_99; have g_x3 := i_rg x3; omega)
  have zn_111 : 0 ≤ (x3 : Int32).toInt := (by have q_p3 := p3; have q_n_63 := i_nn en_63 zn_63; have q_n_75 := i_nn en_75 zn_75; have q_n_87 := i_nn en_87 zn_87; have q_n_99 := i_nn en_99 zn_99; have q2_n_63 := bn_63; have q2_n_75 := bn_75; have q2_n_87 := bn_87; have q2_n_99 := bn_99; have g_x3 := i_rg x3; omega)
  have q_n_111 := i_nn en_111 zn_111
  refine va_newq (C := "CodeFoundry$Row") (N' := n_111) hx hb hown (hts _ kw_59) (ao_of (by exact ao_CodeFoundry_Row) hex) hK hP hD hS hA (i_nl0 zn_111) en_111 (i_by bn_111 (by decide)) (show 0 + 1 + 1 + 1 + 1 + 1 + 1 + 1 + 1 ≤ (8) from (by have q_p2 := p2; have q_p3 := p3; have q_n_22 := i_nn en_22 zn_22; have q2_n_22 := bn_22; have q_n_34 := i_nn en_34 zn_34; have q2_n_34 := bn_34; have q_n_46 := i_nn en_46 zn_46; have q2_n_46 := bn_46; have q_n_63 := i_nn en_63 zn_63; have q2_n_63 := bn_63; have q_n_75 := i_nn en_75 zn_75; have q2_n_75 := bn_75; have q_n_87 := i_nn en_87 zn_87; have q2_n_87 := bn_87; have q_n_99 := i_nn en_99 zn_99; have q2_n_99 := bn_99; have g_x2 := i_rg x2; have g_x3 := i_rg x3; omega)) (show 0 + n_22 + n_34 + n_46 + n_63 + n_75 + n_87 + n_99 + n_111 ≤ (3 * x2.toInt.toNat + 5 * x3.toInt.toNat) from (by have q_p2 := p2; have q_p3 := p3; have q_n_22 := i_nn en_22 zn_22; have q2_n_22 := bn_22; have q_n_34 := i_nn en_34 zn_34; have q2_n_34 := bn_34; have q_n_46 := i_nn en_46 zn_46; have q2_n_46 := bn_46; have q_n_63 := i_nn en_63 zn_63; have q2_n_63 := bn_63; have q_n_75 := i_nn en_75 zn_75; have q2_n_75 := bn_75; have q_n_87 := i_nn en_87 zn_87; have q2_n_87 := bn_87; have q_n_99 := i_nn en_99 zn_99; have q2_n_99 := bn_99; have g_x2 := i_rg x2; have g_x3 := i_rg x3; omega)) dX10_init_80 (fun q_110 cA9 H hK9 hP hD hS => ?_)
  obtain rfl := cls_newR hK hK9 (k := 5) rfl
  clear hK9
  have hD9 := hD
  obtain ⟨ws_112, e_ws_112⟩ : ∃ z, z = ws_105 ++ [(q_110, .inl (g.cR, n_111, .inr (.inr (.inr (.inr (fun _ => none))))))] := ⟨_, rfl⟩
  have hP : va_P (gD g) cl0 ws_112 H := by rw [e_ws_112]; exact hP
  have hD : va_D A ws_112 := by rw [e_ws_112]; exact hD
  have E_113 : gE ws_105 ws_112 := by rw [e_ws_112]; exact gE_push
  have Fr_114 : gF [] [] none ws_105 ws_112 := by rw [e_ws_112]; exact gF_push
  have fr_q_110 : frs ws_112 q_110 := by rw [e_ws_112]; exact frs_new hD9 hX.u
  have hX : GoodX g k0 ws_112 := by rw [e_ws_112]; exact hX.pushR hD9 (ows_lt hk_0)
  have a_q_110 : gR ws_112 q_110 g.cR n_111 := by rw [e_ws_112]; exact gS_new
  have s_q_110 : n_111 < 2147483648 := Nat.lt_of_le_of_lt bn_111 (by decide)
  have pp_115 := Fr_114.pp
  have Gx_116 : gX k0 ws_105 ws_112 := gX_push e_ws_112
  have hk_0 := get_oldE e_ws_112 hk_0
  have o_h0 := E_113.1 _ _ o_h0
  have a_b1 := E_113.1 _ _ a_b1
  have a_q_21 := E_113.1 _ _ a_q_21
  have a_q_33 := E_113.1 _ _ a_q_33
  have a_q_45 := E_113.1 _ _ a_q_45
  have a_q_62 := E_113.1 _ _ a_q_62
  have a_q_74 := E_113.1 _ _ a_q_74
  have a_q_86 := E_113.1 _ _ a_q_86
  have a_q_98 := E_113.1 _ _ a_q_98
  have hV9 : okv ws_112 9 13 (.ref q_110) := (okv_a a_q_110 fr_q_110)
  refine va_putF (D := gD g) (ci := 9) (v := .ref q_110) (ty := (.array (.object "CodeFoundry$Row"))) (C := RX10) (T := TX10) (N := 18) hx hb hts inX10 tyX10 tyX10_ok nmX10 hown hK hP hD hS k0 hk_0 rfl 13 (by decide) (hts _ kw_60) (fun _ h9 => h9) rfl hin9 rfl (by decide +kernel) rfl rfl (Nat.le_of_ble_eq_true rfl) dX10_init_83 (fun H locs hP hD hS => ?_)
  have f_117 : x2.toInt = n_22 := (by have q_p2 := p2; have q_n_22 := i_nn en_22 zn_22; have q2_n_22 := bn_22; have q_n_34 := i_nn en_34 zn_34; have q_n_46 := i_nn en_46 zn_46; have q2_n_34 := bn_34; have q2_n_46 := bn_46; have g_x2 := i_rg x2; omega)
  have f_118 : n_34 = n_22 := (by have q_n_22 := i_nn en_22 zn_22; have q2_n_22 := bn_22; have q_n_34 := i_nn en_34 zn_34; have q2_n_34 := bn_34; have q_f_117 := f_117; have q_p2 := p2; have q_n_46 := i_nn en_46 zn_46; have g_x2 := i_rg x2; omega)
  have f_119 : n_46 = n_22 := (by have q_n_22 := i_nn en_22 zn_22; have q2_n_22 := bn_22; have q_n_46 := i_nn en_46 zn_46; have q2_n_46 := bn_46; have q_f_117 := f_117; have q_f_118 := f_118; have q_p2 := p2; have q_n_34 := i_nn en_34 zn_34; have q2_n_34 := bn_34; have g_x2 := i_rg x2; omega)
  have f_120 : x3.toInt = n_63 := (by have q_p3 := p3; have q_n_63 := i_nn en_63 zn_63; have q2_n_63 := bn_63; have q_n_75 := i_nn en_75 zn_75; have q_n_87 := i_nn en_87 zn_87; have q_n_99 := i_nn en_99 zn_99; have q_n_111 := i_nn en_111 zn_111; have q2_n_75 := bn_75; have q2_n_87 := bn_87; have q2_n_99 := bn_99; have q2_n_111 := bn_111; have g_x3 := i_rg x3; omega)
  have f_121 : n_75 = n_63 := (by have q_n_63 := i_nn en_63 zn_63; have q2_n_63 := bn_63; have q_n_75 := i_nn en_75 zn_75; have q2_n_75 := bn_75; have q_f_120 := f_120; have q_p3 := p3; have q_n_87 := i_nn en_87 zn_87; have q_n_99 := i_nn en_99 zn_99; have q_n_111 := i_nn en_111 zn_111; have g_x3 := i_rg x3; omega)
  have f_122 : n_87 = n_63 := (by have q_n_63 := i_nn en_63 zn_63; have q2_n_63 := bn_63; have q_n_87 := i_nn en_87 zn_87; have q2_n_87 := bn_87; have q_f_120 := f_120; have q_f_121 := f_121; have q_p3 := p3; have q_n_75 := i_nn en_75 zn_75; have q2_n_75 := bn_75; have q_n_99 := i_nn en_99 zn_99; have q_n_111 := i_nn en_111 zn_111; have g_x3 := i_rg x3; omega)
  have f_123 : n_99 = n_63 := (by have q_n_63 := i_nn en_63 zn_63; have q2_n_63 := bn_63; have q_n_99 := i_nn en_99 zn_99; have q2_n_99 := bn_99; have q_f_120 := f_120; have q_f_121 := f_121; have q_f_122 := f_122; have q_p3 := p3; have q_n_75 := i_nn en_75 zn_75; have q2_n_75 := bn_75; have q_n_87 := i_nn en_87 zn_87; have q2_n_87 := bn_87; have q_n_111 := i_nn en_111 zn_111; have g_x3 := i_rg x3; omega)
  have f_124 : n_111 = n_63 := (by have q_n_63 := i_nn en_63 zn_63; have q2_n_63 := bn_63; have q_n_111 := i_nn en_111 zn_111; have q2_n_111 := bn_111; have q_f_120 := f_120; have q_f_121 := f_121; have q_f_122 := f_122; have q_f_123 := f_123; have q_p3 := p3; have q_n_75 := i_nn en_75 zn_75; have q2_n_75 := bn_75; have q_n_87 := i_nn en_87 zn_87; have q2_n_87 := bn_87; have q_n_99 := i_nn en_99 zn_99; have q2_n_99 := bn_99; have g_x3 := i_rg x3; omega)
  have f_125 : n_63 ≤ 24 := (by have q_n_63 := i_nn en_63 zn_63; have q2_n_63 := bn_63; have q_f_120 := f_120; have q_f_121 := f_121; have q_f_122 := f_122; have q_f_123 := f_123; have q_f_124 := f_124; have q_p3 := p3; have q_n_75 := i_nn en_75 zn_75; have q2_n_75 := bn_75; have q_n_87 := i_nn en_87 zn_87; have q2_n_87 := bn_87; have q_n_99 := i_nn en_99 zn_99; have q2_n_99 := bn_99; have q_n_111 := i_nn en_111 zn_111; have q2_n_111 := bn_111; have g_x3 := i_rg x3; omega)
  have f_126 : n_22 ≤ 24 := (by have q_n_22 := i_nn en_22 zn_22; have q2_n_22 := bn_22; have q_f_117 := f_117; have q_f_118 := f_118; have q_f_119 := f_119; have q_p2 := p2; have q_n_34 := i_nn en_34 zn_34; have q2_n_34 := bn_34; have q_n_46 := i_nn en_46 zn_46; have q2_n_46 := bn_46; have g_x2 := i_rg x2; omega)
  have hi_127 : invX10 g ws_112 h0 [.ref b1, .int 0, .int 0, .int 0, .int x2, .ref q_21, .ref q_33, .ref q_45, .int x3, .ref q_62, .ref q_74, .ref q_86, .ref q_98, .ref q_110, .int 0, .int 0, .int (-1), .int (-1)] := ⟨b1, (n_b1), (0), (0), (0), (x2), q_21, (n_22), q_33, (n_34), q_45, (n_46), (x3), q_62, (n_63), q_74, (n_75), q_86, (n_87), q_98, (n_99), q_110, (n_111), (0), (0), ((-1)), ((-1)), rfl, a_b1, s_b1, a_q_21, s_q_21, a_q_33, s_q_33, a_q_45, s_q_45, a_q_62, s_q_62, a_q_74, s_q_74, a_q_86, s_q_86, a_q_98, s_q_98, a_q_110, s_q_110, (Or.inl rfl), f_117, f_118, f_119, f_120, f_121, f_122, f_123, f_124, f_125, f_126, trivial⟩
  obtain ⟨ws_128, e_ws_128⟩ : ∃ z, z = ws_112.set k0 (h0, .inr (9, [.ref b1, .int 0, .int 0, .int 0, .int x2, .ref q_21, .ref q_33, .ref q_45, .int x3, .ref q_62, .ref q_74, .ref q_86, .ref q_98, .ref q_110, .int 0, .int 0, .int (-1), .int (-1)])) := ⟨_, rfl⟩
  have hP : va_P (gD g) cl0 ws_128 H := by rw [e_ws_128]; exact hP
  have hD : va_D A ws_128 := by rw [e_ws_128]; exact hD
  have E_129 : gE ws_112 ws_128 := gE_set e_ws_128 hk_0 (cw_n (fi := 13) (v := .ref q_110) rfl rfl)
  have hG : Good g ws_128 := GoodX.goodS (fi := 13) (v := .ref q_110) e_ws_128 hk_0 E_129 rfl hV9 hX (ivX10 hi_127)
  have Fr_130 : gF [(9, 13)] [] (some h0) ws_112 ws_128 := gF_put (fi := 13) (v := .ref q_110) e_ws_128 hk_0 rfl (by decide)
  have Gx_131 : gX k0 ws_112 ws_128 := gX_set e_ws_128 hk_0
  have pp_132 := Fr_130.pp
  have hkN := gset_self e_ws_128 hk_0
  have hk_0 := hkN
  have o_h0 := E_129.1 _ _ o_h0
  have a_b1 := E_129.1 _ _ a_b1
  have a_q_21 := E_129.1 _ _ a_q_21
  have a_q_33 := E_129.1 _ _ a_q_33
  have a_q_45 := E_129.1 _ _ a_q_45
  have a_q_62 := E_129.1 _ _ a_q_62
  have a_q_74 := E_129.1 _ _ a_q_74
  have a_q_86 := E_129.1 _ _ a_q_86
  have a_q_98 := E_129.1 _ _ a_q_98
  have a_q_110 := E_129.1 _ _ a_q_110
  refine W_led (fun hLd => ?_)
  have hcl : 0 + 1 + 1 + 1 + 1 + 1 + 1 + 1 + 1 + PC ws_128 ≤ PC ws + (8) := (by have q_p2 := p2; have q_p3 := p3; have q_n_22 := i_nn en_22 zn_22; have q2_n_22 := bn_22; have q_n_34 := i_nn en_34 zn_34; have q2_n_34 := bn_34; have q_n_46 := i_nn en_46 zn_46; have q2_n_46 := bn_46; have q_n_63 := i_nn en_63 zn_63; have q2_n_63 := bn_63; have q_n_75 := i_nn en_75 zn_75; have q2_n_75 := bn_75; have q_n_87 := i_nn en_87 zn_87; have q2_n_87 := bn_87; have q_n_99 := i_nn en_99 zn_99; have q2_n_99 := bn_99; have q_n_111 := i_nn en_111 zn_111; have q2_n_111 := bn_111; have q_f_117 := f_117; have q_f_118 := f_118; have q_f_119 := f_119; have q_f_120 := f_120; have q_f_121 := f_121; have q_f_122 := f_122; have q_f_123 := f_123; have q_f_124 := f_124; have q_f_125 := f_125; have q_f_126 := f_126; have g_x2 := i_rg x2; have g_x3 := i_rg x3; omega)
  have hsl : 0 + n_22 + n_34 + n_46 + n_63 + n_75 + n_87 + n_99 + n_111 + PS ws_128 ≤ PS ws + (3 * x2.toInt.toNat + 5 * x3.toInt.toNat) := (by have q_p2 := p2; have q_p3 := p3; have q_n_22 := i_nn en_22 zn_22; have q2_n_22 := bn_22; have q_n_34 := i_nn en_34 zn_34; have q2_n_34 := bn_34; have q_n_46 := i_nn en_46 zn_46; have q2_n_46 := bn_46; have q_n_63 := i_nn en_63 zn_63; have q2_n_63 := bn_63; have q_n_75 := i_nn en_75 zn_75; have q2_n_75 := bn_75; have q_n_87 := i_nn en_87 zn_87; have q2_n_87 := bn_87; have q_n_99 := i_nn en_99 zn_99; have q2_n_99 := bn_99; have q_n_111 := i_nn en_111 zn_111; have q2_n_111 := bn_111; have q_f_117 := f_117; have q_f_118 := f_118; have q_f_119 := f_119; have q_f_120 := f_120; have q_f_121 := f_121; have q_f_122 := f_122; have q_f_123 := f_123; have q_f_124 := f_124; have q_f_125 := f_125; have q_f_126 := f_126; have g_x2 := i_rg x2; have g_x3 := i_rg x3; omega)
  refine W.widen (k := (8)) (n := (3 * x2.toInt.toNat + 5 * x3.toInt.toNat)) (by omega) (by omega) ?_
  exact W.vret hx hb hr (fun t9 ht9 hW9 => ⟨⟨ws_128, rfl, trivial, ⟨(E_2.tr (E_7.tr (E_12.tr (E_17.tr (E_24.tr (E_29.tr (E_36.tr (E_41.tr (E_48.tr (E_53.tr (E_58.tr (E_65.tr (E_70.tr (E_77.tr (E_82.tr (E_89.tr (E_94.tr (E_101.tr (E_106.tr (E_113.tr E_129)))))))))))))))))))), (Gx_4.tr (Gx_9.tr (Gx_14.tr (Gx_19.tr (Gx_27.tr (Gx_31.tr (Gx_39.tr (Gx_43.tr (Gx_51.tr (Gx_55.tr (Gx_60.tr (Gx_68.tr (Gx_72.tr (Gx_80.tr (Gx_84.tr (Gx_92.tr (Gx_96.tr (Gx_104.tr (Gx_108.tr (Gx_116.tr Gx_131)))))))))))))))))))), ((gF.tr (gF.mo (F' := [(9, 0), (9, 4), (9, 5), (9, 6), (9, 7), (9, 8), (9, 9), (9, 10), (9, 11), (9, 12), (9, 13), (9, 16), (9, 17)]) (C' := []) (S' := none) Fr_3 (by decide) (fun _ h => h) (Or.inl rfl)) (gF.tr (gF.mo (F' := [(9, 0), (9, 4), (9, 5), (9, 6), (9, 7), (9, 8), (9, 9), (9, 10), (9, 11), (9, 12), (9, 13), (9, 16), (9, 17)]) (C' := []) (S' := none) Fr_8 (by decide) (fun _ h => h) (Or.inl rfl)) (gF.tr (gF.mo (F' := [(9, 0), (9, 4), (9, 5), (9, 6), (9, 7), (9, 8), (9, 9), (9, 10), (9, 11), (9, 12), (9, 13), (9, 16), (9, 17)]) (C' := []) (S' := none) Fr_13 (by decide) (fun _ h => h) (Or.inl rfl)) (gF.tr (gF.mo (F' := [(9, 0), (9, 4), (9, 5), (9, 6), (9, 7), (9, 8), (9, 9), (9, 10), (9, 11), (9, 12), (9, 13), (9, 16), (9, 17)]) (C' := []) (S' := none) Fr_18 (by decide) (fun _ h => h) (Or.inl rfl)) (gF.tr (gF.mo (F' := [(9, 0), (9, 4), (9, 5), (9, 6), (9, 7), (9, 8), (9, 9), (9, 10), (9, 11), (9, 12), (9, 13), (9, 16), (9, 17)]) (C' := []) (S' := none) Fr_25 (fun _ h => absurd h List.not_mem_nil) (fun _ h => h) (Or.inr rfl)) (gF.tr (gF.mo (F' := [(9, 0), (9, 4), (9, 5), (9, 6), (9, 7), (9, 8), (9, 9), (9, 10), (9, 11), (9, 12), (9, 13), (9, 16), (9, 17)]) (C' := []) (S' := none) Fr_30 (by decide) (fun _ h => h) (Or.inl rfl)) (gF.tr (gF.mo (F' := [(9, 0), (9, 4), (9, 5), (9, 6), (9, 7), (9, 8), (9, 9), (9, 10), (9, 11), (9, 12), (9, 13), (9, 16), (9, 17)]) (C' := []) (S' := none) Fr_37 (fun _ h => absurd h List.not_mem_nil) (fun _ h => h) (Or.inr rfl)) (gF.tr (gF.mo (F' := [(9, 0), (9, 4), (9, 5), (9, 6), (9, 7), (9, 8), (9, 9), (9, 10), (9, 11), (9, 12), (9, 13), (9, 16), (9, 17)]) (C' := []) (S' := none) Fr_42 (by decide) (fun _ h => h) (Or.inl rfl)) (gF.tr (gF.mo (F' := [(9, 0), (9, 4), (9, 5), (9, 6), (9, 7), (9, 8), (9, 9), (9, 10), (9, 11), (9, 12), (9, 13), (9, 16), (9, 17)]) (C' := []) (S' := none) Fr_49 (fun _ h => absurd h List.not_mem_nil) (fun _ h => h) (Or.inr rfl)) (gF.tr (gF.mo (F' := [(9, 0), (9, 4), (9, 5), (9, 6), (9, 7), (9, 8), (9, 9), (9, 10), (9, 11), (9, 12), (9, 13), (9, 16), (9, 17)]) (C' := []) (S' := none) Fr_54 (by decide) (fun _ h => h) (Or.inl rfl)) (gF.tr (gF.mo (F' := [(9, 0), (9, 4), (9, 5), (9, 6), (9, 7), (9, 8), (9, 9), (9, 10), (9, 11), (9, 12), (9, 13), (9, 16), (9, 17)]) (C' := []) (S' := none) Fr_59 (by decide) (fun _ h => h) (Or.inl rfl)) (gF.tr (gF.mo (F' := [(9, 0), (9, 4), (9, 5), (9, 6), (9, 7), (9, 8), (9, 9), (9, 10), (9, 11), (9, 12), (9, 13), (9, 16), (9, 17)]) (C' := []) (S' := none) Fr_66 (fun _ h => absurd h List.not_mem_nil) (fun _ h => h) (Or.inr rfl)) (gF.tr (gF.mo (F' := [(9, 0), (9, 4), (9, 5), (9, 6), (9, 7), (9, 8), (9, 9), (9, 10), (9, 11), (9, 12), (9, 13), (9, 16), (9, 17)]) (C' := []) (S' := none) Fr_71 (by decide) (fun _ h => h) (Or.inl rfl)) (gF.tr (gF.mo (F' := [(9, 0), (9, 4), (9, 5), (9, 6), (9, 7), (9, 8), (9, 9), (9, 10), (9, 11), (9, 12), (9, 13), (9, 16), (9, 17)]) (C' := []) (S' := none) Fr_78 (fun _ h => absurd h List.not_mem_nil) (fun _ h => h) (Or.inr rfl)) (gF.tr (gF.mo (F' := [(9, 0), (9, 4), (9, 5), (9, 6), (9, 7), (9, 8), (9, 9), (9, 10), (9, 11), (9, 12), (9, 13), (9, 16), (9, 17)]) (C' := []) (S' := none) Fr_83 (by decide) (fun _ h => h) (Or.inl rfl)) (gF.tr (gF.mo (F' := [(9, 0), (9, 4), (9, 5), (9, 6), (9, 7), (9, 8), (9, 9), (9, 10), (9, 11), (9, 12), (9, 13), (9, 16), (9, 17)]) (C' := []) (S' := none) Fr_90 (fun _ h => absurd h List.not_mem_nil) (fun _ h => h) (Or.inr rfl)) (gF.tr (gF.mo (F' := [(9, 0), (9, 4), (9, 5), (9, 6), (9, 7), (9, 8), (9, 9), (9, 10), (9, 11), (9, 12), (9, 13), (9, 16), (9, 17)]) (C' := []) (S' := none) Fr_95 (by decide) (fun _ h => h) (Or.inl rfl)) (gF.tr (gF.mo (F' := [(9, 0), (9, 4), (9, 5), (9, 6), (9, 7), (9, 8), (9, 9), (9, 10), (9, 11), (9, 12), (9, 13), (9, 16), (9, 17)]) (C' := []) (S' := none) Fr_102 (fun _ h => absurd h List.not_mem_nil) (fun _ h => h) (Or.inr rfl)) (gF.tr (gF.mo (F' := [(9, 0), (9, 4), (9, 5), (9, 6), (9, 7), (9, 8), (9, 9), (9, 10), (9, 11), (9, 12), (9, 13), (9, 16), (9, 17)]) (C' := []) (S' := none) Fr_107 (by decide) (fun _ h => h) (Or.inl rfl)) (gF.tr (gF.mo (F' := [(9, 0), (9, 4), (9, 5), (9, 6), (9, 7), (9, 8), (9, 9), (9, 10), (9, 11), (9, 12), (9, 13), (9, 16), (9, 17)]) (C' := []) (S' := none) Fr_114 (fun _ h => absurd h List.not_mem_nil) (fun _ h => h) (Or.inr rfl)) (gF.mo (F' := [(9, 0), (9, 4), (9, 5), (9, 6), (9, 7), (9, 8), (9, 9), (9, 10), (9, 11), (9, 12), (9, 13), (9, 16), (9, 17)]) (C' := []) (S' := none) Fr_130 (by decide) (fun _ h => h) (Or.inl rfl))))))))))))))))))))))).2.1, hG, by rw [ht9]; exact hP, hD, _, _, by rw [ht9]; exact hLd, hcl, hsl⟩⟩, hS.F ht9⟩) hS.2.2 dX10_init_86
set_option maxHeartbeats 1000000 in
set_option maxRecDepth 100000 in
theorem m_X0_put (l : Launch) (g : Gm) (H0 : Heap) (ws : va_W) (h0 : Nat) (x1 : Int32) (q1 : Int32) (hG : Good g ws) (o_h0 : gC ws h0 0) (fp_c : gP ws h0 (fun fs => ∀ c : Int32, fs[1]? = some (.int c) → c.toInt ≤ 131071)) (fp_gq1 : gP ws h0 (fun fs => ∀ c : Int32, fs[1]? = some (.int c) → c.toInt = q1.toInt)) : Met l yX0_put (wt yX0_put cX0_put 2 none) ({ frames := 2, cells := PC ws + (0), slots := PS ws + (0), locals := 62 }) (va_Pc [.ref h0, .int x1] (st_H g H0 ws)) (va_Qv (fun (u9 : va_W) => gP u9 h0 (fun fs => ∀ c : Int32, fs[1]? = some (.int c) → c.toInt = q1.toInt + 1)) (gQ2 g [(0, 0), (0, 1)] [(0, 0), (6, 0)] (some h0) (va_A ws H0.size) ws H0 (0) (0)) (va_A ws H0.size)) (PC ws + (0)) (PS ws + (0)) (va_A ws H0.size) := by
  refine Met.ofW (cc := cX0_put) (maxL := 2) (ret := none) (by decide) rfl ?_
  intro p e s m args below meth c s₁ B hml hv
  obtain ⟨rfl, hH0, hsz, hP, hK, hD0, hex, hE⟩ := hv
  have hx := B.exec
  have hb := B.bytes
  have hr := B.returns
  have hts0 := atoms_spec (ws := wt yX0_put cX0_put 2 none) B.pre
  have hts : ∀ w ∈ tb, w.before _ s = true := fun w h => hts0 w (List.mem_cons_of_mem _ h)
  have hown : s.vm.findClass RX0 = some m.cls := findClass_of_methodNamed B.named
  subst hH0
  have hD := hD0.self (sz := s.heap.size)
  generalize hAe : va_A ws s.heap.size = A at hD hE ⊢
  have hA : ∀ q : Nat, s.heap.size ≤ q → A q := fun q h => by rw [← hAe]; exact Or.inr h
  have hS : va_S A s.heap s.heap [] := va_S.rf
  have hl := lv_entry ([.ref h0, .int x1]) (n := 2) (Nat.le_of_ble_eq_true rfl)
  rw [lg_entry_eq]
  generalize (lg_sl ([.ref h0, .int x1]) ++ List.replicate (2 - (lg_sl ([.ref h0, .int x1])).length) Slot.unset).toArray = ls at hl ⊢
  have hl : lv_has ls 2 [(0, .ref h0), (1, .int x1)] := hl
  obtain ⟨k_1, fs9, hk_1⟩ := gC_of o_h0
  obtain ⟨r0_1, n0_1, c1_1, rfl, a_r0_1, f1_1, f2_1, f3_1, f4_1, f5_1, -⟩ := (hG.1 _ _ _ _ hk_1).hX0 rfl
  have fq_c := fp_c _ _ _ hk_1 _ rfl
  have fq_gq1 := fp_gq1 _ _ _ hk_1 _ rfl
  refine lv_aload_n hx hb dX0_put_0 rfl (lv_at hl 0 rfl) ?_
  refine va_get (D := gD g) (ci := 0) (v := .int c1_1) (C := RX0) (T := TX0) (N := 2) hx hb hts inX0 hown hK hP k_1 hk_1 rfl 1 (by decide) (hts _ kw_4) (fun _ h9 => h9) rfl dX0_put_1 ?_
  refine lv_aload_n hx hb dX0_put_4 rfl (lv_at hl 0 rfl) ?_
  refine va_get (D := gD g) (ci := 0) (v := .ref r0_1) (C := RX0) (T := TX0) (N := 2) hx hb hts inX0 hown hK hP k_1 hk_1 rfl 0 (by decide) (hts _ kw_5) (fun _ h9 => h9) rfl dX0_put_5 ?_
  obtain ⟨k_2, f_2, hk_2⟩ := gI_of a_r0_1
  obtain ⟨z_3, ez_3⟩ : ∃ z : Int32, Int32.ofNat n0_1 = z := ⟨_, rfl⟩
  refine va_alen (v := z_3) hx hb hK hP k_2 0 hk_2 rfl ez_3 dX0_put_8 ?_
  have J_30 : ∀ (dc_30_1 : Nat) (ds_30_1 : Nat) (ws_4 : va_W) (H : Heap) (locs : List Loc) (ls : Array Slot), gE ws ws_4 → gF [(0, 0)] [] (some h0) ws ws_4 → Good g ws_4 → dc_30_1 + PC ws_4 ≤ PC ws + (0) → ds_30_1 + PS ws_4 ≤ PS ws + (0) → gP ws_4 h0 (fun fs => ∀ c : Int32, fs[1]? = some (.int c) → ∀ (rn n : Nat), fs[0]? = some (.ref rn) → gI ws_4 rn g.cB n → c.toInt < n) → va_P (gD g) cl0 ws_4 H → va_D A ws_4 → va_S A s.heap H locs → lv_has ls 2 [(0, .ref h0), (1, .int x1)] → W p l e (headSpec (wt yX0_put cX0_put 2 none) ({ frames := 2, cells := PC ws + (0), slots := PS ws + (0), locals := 62 })).room s m ([.ref h0, .int x1] : List Value).toArray below meth c H locs (dc_30_1) (ds_30_1) (MQ below (va_Qv (fun (u9 : va_W) => gP u9 h0 (fun fs => ∀ c : Int32, fs[1]? = some (.int c) → c.toInt = q1.toInt + 1)) (gQ2 g [(0, 0), (0, 1)] [(0, 0), (6, 0)] (some h0) A ws s.heap (0) (0)) A) ([.ref h0, .int x1] : List Value).toArray s (PC ws + (0)) (PS ws + (0)) A) (F0 m 30 ls []) := by
    intro dc_30_1 ds_30_1 ws_4 H locs ls  E_5 Fr_6 hG hc9 hs9 jf_30_c hP hD hS hl
    have aa_7 := a_r0_1
    have o_h0 := E_5.1 _ _ o_h0
    refine lv_aload_n hx hb dX0_put_30 rfl (lv_at hl 0 rfl) ?_
    obtain ⟨fs9, hk_8, hq_8⟩ := ((gF.a (F' := [(0, 0)]) Fr_6 (fun _ h => h))) _ _ _ hk_1
    obtain ⟨r0_8, n0_8, c1_8, rfl, a_r0_8, f1_8, f2_8, f3_8, f4_8, f5_8, -⟩ := (hG.1 _ _ _ _ hk_8).hX0 rfl
    obtain rfl := fe_i (hq_8 1 (by decide))
    have kq_9 := jf_30_c _ _ _ hk_8 _ rfl _ _ rfl a_r0_8
    refine va_get (D := gD g) (ci := 0) (v := .ref r0_8) (C := RX0) (T := TX0) (N := 2) hx hb hts inX0 hown hK hP k_1 hk_8 rfl 0 (by decide) (hts _ kw_5) (fun _ h9 => h9) rfl dX0_put_31 ?_
    refine lv_aload_n hx hb dX0_put_34 rfl (lv_at hl 0 rfl) ?_
    refine va_get (D := gD g) (ci := 0) (v := .int c1_1) (C := RX0) (T := TX0) (N := 2) hx hb hts inX0 hown hK hP k_1 hk_8 rfl 1 (by decide) (hts _ kw_4) (fun _ h9 => h9) rfl dX0_put_35 ?_
    refine lv_iload_n hx hb dX0_put_38 rfl (lv_at hl 1 rfl) ?_
    obtain ⟨z_10, ez_10⟩ : ∃ y : Int32, (x1 : Int32).toInt8.toInt32 = y := ⟨_, rfl⟩
    refine lv_i2b (v := z_10) hx hb dX0_put_39 ez_10 ?_
    obtain ⟨k_11, f_11, hk_11⟩ := gI_of a_r0_8
    have hC9 : hol ws_4 r0_8 [(0, 0), (6, 0)] := (hol_b hG.u hk_8 (j := 0) rfl a_r0_8 (by decide))
    have hS9 : holS ws_4 r0_8 (some h0) := holS_u hG.u hk_8 (j := 0) rfl a_r0_8
    refine va_bast hx hb hK hP hD hS k_11 0 hk_11 rfl (i_in2 (by have q_f2_1 := f2_1; have q_f3_1 := f3_1; have q_fq_c := fq_c; have q_fq_gq1 := fq_gq1; have q_f1_8 := f1_8; have q_f3_8 := f3_8; have q_f4_8 := f4_8; have q_f5_8 := f5_8; have q_kq_9 := kq_9; have q_f1_1 := f1_1; have q_f4_1 := f4_1; have q_f5_1 := f5_1; have q_z_3 := i_len ez_3 f1_1; have g_c1_1 := i_rg c1_1; have g_q1 := i_rg q1; have g_z_3 := i_rg z_3; omega)) dX0_put_40 (fun H locs hP hD hS => ?_)
    obtain ⟨ws_12, e_ws_12⟩ : ∃ z, z = ws_4.set k_11 (r0_8, .inl (g.cB, n0_8, .inl (upd f_11 (c1_1 : Int32).toNatClampNeg (vp_nar .byte z_10)))) := ⟨_, rfl⟩
    have hP : va_P (gD g) cl0 ws_12 H := by rw [e_ws_12]; exact hP
    have hD : va_D A ws_12 := by rw [e_ws_12]; exact hD
    have E_13 : gE ws_4 ws_12 := gE_ari e_ws_12 hk_11
    have hG : Good g ws_12 := Good_arB e_ws_12 hk_11 hG
    have Fr_14 : gF [] [(0, 0), (6, 0)] (some h0) ws_4 ws_12 := gF_ar e_ws_12 hk_11 rfl hC9 hS9
    have pp_15 := Fr_14.pp
    have hk_8 := gset_arO e_ws_12 hk_11 hk_8
    have o_h0 := E_13.1 _ _ o_h0
    have a_r0_8 := E_13.1 _ _ a_r0_8
    refine lv_aload_n hx hb dX0_put_41 rfl (lv_at hl 0 rfl) ?_
    refine lv_dup hx hb dX0_put_42 rfl ?_
    refine va_get (D := gD g) (ci := 0) (v := .int c1_1) (C := RX0) (T := TX0) (N := 2) hx hb hts inX0 hown hK hP k_1 hk_8 rfl 1 (by decide) (hts _ kw_4) (fun _ h9 => h9) rfl dX0_put_43 ?_
    refine lv_iconst (v := 1) hx hb dX0_put_46 (by decide) ?_
    refine lv_iadd hx hb dX0_put_47 ?_
    refine lv_topi (fun z_16 ez_16 => ?_)
    have hV9 : okv ws_12 0 1 (.int z_16) := okv_i
    refine va_put (D := gD g) (ci := 0) (v := .int z_16) (ty := .int) (C := RX0) (T := TX0) (N := 2) hx hb hts inX0 tyX0 tyX0_ok nmX0 hown hK hP hD hS k_1 hk_8 rfl 1 (by decide) (hts _ kw_4) (fun _ h9 => h9) rfl (by decide +kernel) rfl rfl (Nat.le_of_ble_eq_true rfl) dX0_put_48 (fun H locs hP hD hS => ?_)
    have f_17 : 0 ≤ z_16.toInt := (by have e1 : (1 : Int32).toInt = 1 := (by decide); obtain ⟨u_z_16, q_z_16⟩ := i_add ez_16; have q_f2_1 := f2_1; have q_f3_1 := f3_1; have q_fq_c := fq_c; have q_fq_gq1 := fq_gq1; have q_f3_8 := f3_8; have q_kq_9 := kq_9; have q_f1_1 := f1_1; have q_f4_1 := f4_1; have q_f5_1 := f5_1; have q_z_3 := i_len ez_3 f1_1; have q_f1_8 := f1_8; have q_f4_8 := f4_8; have q_f5_8 := f5_8; have g_c1_1 := i_rg c1_1; have g_q1 := i_rg q1; have g_z_16 := i_rg z_16; have g_z_3 := i_rg z_3; omega)
    have f_18 : z_16.toInt ≤ n0_8 := (by have e1 : (1 : Int32).toInt = 1 := (by decide); have q_f1_8 := f1_8; have q_f3_8 := f3_8; have q_f4_8 := f4_8; have q_f5_8 := f5_8; have q_kq_9 := kq_9; obtain ⟨u_z_16, q_z_16⟩ := i_add ez_16; have q_f_17 := f_17; have q_f2_1 := f2_1; have q_f3_1 := f3_1; have q_fq_c := fq_c; have q_fq_gq1 := fq_gq1; have q_f1_1 := f1_1; have q_f4_1 := f4_1; have q_f5_1 := f5_1; have q_z_3 := i_len ez_3 f1_1; have g_c1_1 := i_rg c1_1; have g_q1 := i_rg q1; have g_z_16 := i_rg z_16; have g_z_3 := i_rg z_3; omega)
    have hi_19 : invX0 g ws_12 h0 [.ref r0_8, .int z_16] := ⟨r0_8, (n0_8), (z_16), rfl, a_r0_8, f1_8, f_17, f_18, f4_8, f5_8, trivial⟩
    obtain ⟨ws_20, e_ws_20⟩ : ∃ z, z = ws_12.set k_1 (h0, .inr (0, [.ref r0_8, .int z_16])) := ⟨_, rfl⟩
    have hP : va_P (gD g) cl0 ws_20 H := by rw [e_ws_20]; exact hP
    have hD : va_D A ws_20 := by rw [e_ws_20]; exact hD
    have E_21 : gE ws_12 ws_20 := gE_set e_ws_20 hk_8 (cw_o (fi := 1) (v := .int z_16) rfl (by decide))
    have hG : Good g ws_20 := Good_set (fi := 1) (v := .int z_16) e_ws_20 hk_8 E_21 rfl hV9 hG (ivX0 hi_19)
    have Fr_22 : gF [(0, 1)] [] (some h0) ws_12 ws_20 := gF_put (fi := 1) (v := .int z_16) e_ws_20 hk_8 rfl (by decide)
    have pp_23 := Fr_22.pp
    have hkN := gset_self e_ws_20 hk_8
    have hk_8 := hkN
    have o_h0 := E_21.1 _ _ o_h0
    have a_r0_8 := E_21.1 _ _ a_r0_8
    refine W_led (fun hLd => ?_)
    have hcl : dc_30_1 + PC ws_20 ≤ PC ws + (0) := (by omega)
    have hsl : ds_30_1 + PS ws_20 ≤ PS ws + (0) := (by omega)
    refine W.widen (k := PC ws + (0)) (n := PS ws + (0)) (by omega) (by omega) ?_
    exact W.vret hx hb hr (fun t9 ht9 hW9 => ⟨⟨ws_20, rfl, (gP_of hD hk_8 (fun q90 e90 => by cases e90; exact (by have e1 : (1 : Int32).toInt = 1 := (by decide); have q_fq_gq1 := fq_gq1; obtain ⟨u_z_16, q_z_16⟩ := i_add ez_16; have q_f_17 := f_17; have q_f_18 := f_18; have q_f2_1 := f2_1; have q_f3_1 := f3_1; have q_fq_c := fq_c; have q_f1_8 := f1_8; have q_f3_8 := f3_8; have q_f4_8 := f4_8; have q_f5_8 := f5_8; have q_kq_9 := kq_9; have q_f1_1 := f1_1; have q_f4_1 := f4_1; have q_f5_1 := f5_1; have q_z_3 := i_len ez_3 f1_1; have g_c1_1 := i_rg c1_1; have g_q1 := i_rg q1; have g_z_16 := i_rg z_16; have g_z_3 := i_rg z_3; omega))), ⟨(E_5.tr (E_13.tr E_21)), (gF.tr (gF.mo (F' := [(0, 0), (0, 1)]) (C' := [(0, 0), (6, 0)]) (S' := (some h0)) Fr_6 (by decide) (fun _ h => absurd h List.not_mem_nil) (Or.inr rfl)) (gF.tr (gF.mo (F' := [(0, 0), (0, 1)]) (C' := [(0, 0), (6, 0)]) (S' := (some h0)) Fr_14 (fun _ h => absurd h List.not_mem_nil) (fun _ h => h) (Or.inr rfl)) (gF.mo (F' := [(0, 0), (0, 1)]) (C' := [(0, 0), (6, 0)]) (S' := (some h0)) Fr_22 (by decide) (fun _ h => absurd h List.not_mem_nil) (Or.inr rfl)))), hG, by rw [ht9]; exact hP, hD, _, _, by rw [ht9]; exact hLd, hcl, hsl⟩⟩, hS.F ht9⟩) hS.2.2 dX0_put_51
  refine lv_icmp_lt (tgt := 30) hx hb dX0_put_9 (by decide) (fun c_24 => ?_) (fun c_24 => ?_)
  · exact J_30 (0) (0) ws _ _ ls (gE.rf) (gF.rf) hG (by have e0 : (0 : Int32).toInt = 0 := (by decide); omega) (by have e0 : (0 : Int32).toInt = 0 := (by decide); omega) (gP_of hD hk_1 (fun q90 e90 p91 q91 e91 g91 => by cases e90; cases e91; have z91 := gI_n hD a_r0_1 g91; subst z91; exact (by have q_f1_1 := f1_1; have q_f2_1 := f2_1; have q_f3_1 := f3_1; have q_f4_1 := f4_1; have q_f5_1 := f5_1; have q_fq_c := fq_c; have q_fq_gq1 := fq_gq1; have q_z_3 := i_len ez_3 f1_1; have q_c_24 := i_lt c_24; have g_c1_1 := i_rg c1_1; have g_q1 := i_rg q1; have g_z_3 := i_rg z_3; omega))) hP hD hS (lv_sub hl [0, 1] rfl)
  · refine lv_aload_n hx hb dX0_put_12 rfl (lv_at hl 0 rfl) ?_
    refine lv_aload_n hx hb dX0_put_13 rfl (lv_at hl 0 rfl) ?_
    refine va_get (D := gD g) (ci := 0) (v := .ref r0_1) (C := RX0) (T := TX0) (N := 2) hx hb hts inX0 hown hK hP k_1 hk_1 rfl 0 (by decide) (hts _ kw_5) (fun _ h9 => h9) rfl dX0_put_14 ?_
    refine lv_iconst (v := 2) hx hb dX0_put_17 (by decide) ?_
    refine lv_aload_n hx hb dX0_put_18 rfl (lv_at hl 0 rfl) ?_
    refine va_get (D := gD g) (ci := 0) (v := .ref r0_1) (C := RX0) (T := TX0) (N := 2) hx hb hts inX0 hown hK hP k_1 hk_1 rfl 0 (by decide) (hts _ kw_5) (fun _ h9 => h9) rfl dX0_put_19 ?_
    obtain ⟨z_25, ez_25⟩ : ∃ z : Int32, Int32.ofNat n0_1 = z := ⟨_, rfl⟩
    refine va_alen (v := z_25) hx hb hK hP k_2 0 hk_2 rfl ez_25 dX0_put_22 ?_
    refine lv_imul hx hb dX0_put_23 ?_
    refine lv_topi (fun z_26 ez_26 => ?_)
    have hFc := gfree hD hS hA
    have pg_27 := ge_0_0 hD hk_1 rfl a_r0_1
    refine W_led (fun hL0 => ?_)
    refine va_callq (va_runS (As := [.ref r0_1, .int z_26]) (rest := [.ref h0]) ⟨hx, hb, hml, hown, hts⟩ (m_J7_copyOf_9075b l g s.heap ws r0_1 (n0_1) (z_26) (some h0) hG a_r0_1 f1_1 (by have q_z_26 := i_mulL (c := 2) (K := 1073741823) ez_26 (by decide) (by decide) (by decide) (by decide); have q_z_25 := i_len ez_25 f1_1; have q_f1_1 := f1_1; have q_f3_1 := f3_1; have q_f4_1 := f4_1; have q_f5_1 := f5_1; have q_z_3 := i_len ez_3 f1_1; have q_f2_1 := f2_1; have q_fq_c := fq_c; have q_fq_gq1 := fq_gq1; have q_c_24 := i_nlt c_24; have g_c1_1 := i_rg c1_1; have g_q1 := i_rg q1; have g_z_25 := i_rg z_25; have g_z_26 := i_rg z_26; have g_z_3 := i_rg z_3; omega) (by have q_z_26 := i_mulL (c := 2) (K := 1073741823) ez_26 (by decide) (by decide) (by decide) (by decide); have q_z_25 := i_len ez_25 f1_1; have q_f1_1 := f1_1; have q_f3_1 := f3_1; have q_f4_1 := f4_1; have q_f5_1 := f5_1; have q_z_3 := i_len ez_3 f1_1; have q_f2_1 := f2_1; have q_fq_c := fq_c; have q_fq_gq1 := fq_gq1; have q_c_24 := i_nlt c_24; have g_c1_1 := i_rg c1_1; have g_q1 := i_rg q1; have g_z_25 := i_rg z_25; have g_z_26 := i_rg z_26; have g_z_3 := i_rg z_3; omega) (by have q_f1_1 := f1_1; have q_f3_1 := f3_1; have q_f4_1 := f4_1; have q_f5_1 := f5_1; have q_z_3 := i_len ez_3 f1_1; have q_z_25 := i_len ez_25 f1_1; have q_z_26 := i_mulL (c := 2) (K := 1073741823) ez_26 (by decide) (by decide) (by decide) (by decide); have q_f2_1 := f2_1; have q_fq_c := fq_c; have q_fq_gq1 := fq_gq1; have q_c_24 := i_nlt c_24; have g_c1_1 := i_rg c1_1; have g_q1 := i_rg q1; have g_z_25 := i_rg z_25; have g_z_26 := i_rg z_26; have g_z_3 := i_rg z_3; omega)) (va_cwS 2 hts (gd_S kw_15 kw_1741 kw_1723 kw_1740) rfl rfl rfl (by decide +kernel) ⟨Nat.le_of_ble_eq_true rfl, Nat.le_of_ble_eq_true rfl⟩) ⟨gblindH, fun U hU hW9 => gmkH hU hW9 hP hK hD hex hE hS hFc⟩ rfl rfl hl.1 rfl (lv_room (Nat.le_of_ble_eq_true rfl)) dX0_put_24 ⟨(show 0 + (1) ≤ PC ws + (0) from (by have e0 : (0 : Int32).toInt = 0 := (by decide); have e1 : (1 : Int32).toInt = 1 := (by decide); have q_z_26 := i_mulL (c := 2) (K := 1073741823) ez_26 (by decide) (by decide) (by decide) (by decide); have q_z_25 := i_len ez_25 f1_1; have q_f1_1 := f1_1; have q_f3_1 := f3_1; have q_f4_1 := f4_1; have q_f5_1 := f5_1; have q_z_3 := i_len ez_3 f1_1; have q_f2_1 := f2_1; have q_fq_c := fq_c; have q_fq_gq1 := fq_gq1; have q_c_24 := i_nlt c_24; have g_c1_1 := i_rg c1_1; have g_q1 := i_rg q1; have g_z_25 := i_rg z_25; have g_z_26 := i_rg z_26; have g_z_3 := i_rg z_3; omega)), (show 0 + (z_26.toInt.toNat) ≤ PS ws + (0) from (by have e0 : (0 : Int32).toInt = 0 := (by decide); have e1 : (1 : Int32).toInt = 1 := (by decide); have q_z_26 := i_mulL (c := 2) (K := 1073741823) ez_26 (by decide) (by decide) (by decide) (by decide); have q_z_25 := i_len ez_25 f1_1; have q_f1_1 := f1_1; have q_f3_1 := f3_1; have q_f4_1 := f4_1; have q_f5_1 := f5_1; have q_z_3 := i_len ez_3 f1_1; have q_f2_1 := f2_1; have q_fq_c := fq_c; have q_fq_gq1 := fq_gq1; have q_c_24 := i_nlt c_24; have g_c1_1 := i_rg c1_1; have g_q1 := i_rg q1; have g_z_25 := i_rg z_25; have g_z_26 := i_rg z_26; have g_z_3 := i_rg z_3; omega))⟩) hS (fun q _ h => hFc q h) hFc (fun r_28 ws_29 t9 H1 locs ht9 hvm9 hw9 hB9 hz9 hk9 hS => ?_)
    obtain ⟨E_30, Fr_31, hG, hP1, hD1, dc_32, ds_33, hLd, hdc_32, hds_33⟩ := hB9
    rw [ht9] at hLd
    refine W_tight (hL0.tr hLd).1 (hL0.tr hLd).2.1 ?_
    clear hL0 hLd
    have hP : va_P (gD g) cl0 ws_29 H1 := by rw [← ht9]; exact hP1
    have hD : va_D A ws_29 := hD1.weaken (fun _ _ _ h => hFc _ h)
    have o_r_28 := hw9
    clear hP1 hD1 hz9 hk9 hvm9 ht9 hw9
    generalize H1 = H at hP hS ⊢
    have aa_34 := a_r0_1
    have o_h0 := E_30.1 _ _ o_h0
    obtain ⟨b_35, n_36, rfl, a_b_35, s_b_35, fr_b_35, h_b_35⟩ := o_r_28
    obtain ⟨fs9, hk_37, hq_37⟩ := ((gF.a (F' := []) Fr_31 (fun _ h => h))) _ _ _ hk_1
    obtain ⟨r0_37, n0_37, c1_37, rfl, a_r0_37, f1_37, f2_37, f3_37, f4_37, f5_37, -⟩ := (hG.1 _ _ _ _ hk_37).hX0 rfl
    obtain rfl := fe_r (hq_37 0 (by decide))
    have hn9 := gI_n hD ((E_30).1 _ _ aa_34) a_r0_37
    subst hn9
    have a_r0_1 := a_r0_37
    obtain rfl := fe_i (hq_37 1 (by decide))
    have hV9 : okv ws_29 0 0 (.ref b_35) := (okv_a a_b_35 fr_b_35)
    have hD8 := hD
    refine va_put (D := gD g) (ci := 0) (v := .ref b_35) (ty := (.array .byte)) (C := RX0) (T := TX0) (N := 2) hx hb hts inX0 tyX0 tyX0_ok nmX0 hown hK hP hD hS k_1 hk_37 rfl 0 (by decide) (hts _ kw_5) (fun _ h9 => h9) rfl (by decide +kernel) rfl rfl (Nat.le_of_ble_eq_true rfl) dX0_put_27 (fun H locs hP hD hS => ?_)
    have f_38 : c1_1.toInt ≤ n_36 := (by have q_f2_1 := f2_1; have q_f3_1 := f3_1; have q_fq_c := fq_c; have q_fq_gq1 := fq_gq1; have q_c_24 := i_nlt c_24; have q_s_b_35 := s_b_35; have q_b_35 := h_b_35; have q_f1_1 := f1_1; have q_f4_1 := f4_1; have q_f5_1 := f5_1; have q_z_3 := i_len ez_3 f1_1; have q_z_25 := i_len ez_25 f1_1; have q_z_26 := i_mulL (c := 2) (K := 1073741823) ez_26 (by decide) (by decide) (by decide) (by decide); have g_c1_1 := i_rg c1_1; have g_q1 := i_rg q1; have g_z_25 := i_rg z_25; have g_z_26 := i_rg z_26; have g_z_3 := i_rg z_3; omega)
    have f_39 : 64 ≤ n_36 := (by have q_s_b_35 := s_b_35; have q_b_35 := h_b_35; have q_f_38 := f_38; have q_f2_1 := f2_1; have q_f3_1 := f3_1; have q_fq_c := fq_c; have q_fq_gq1 := fq_gq1; have q_c_24 := i_nlt c_24; have q_z_26 := i_mulL (c := 2) (K := 1073741823) ez_26 (by decide) (by decide) (by decide) (by decide); have q_f1_1 := f1_1; have q_f4_1 := f4_1; have q_f5_1 := f5_1; have q_z_3 := i_len ez_3 f1_1; have q_z_25 := i_len ez_25 f1_1; have g_c1_1 := i_rg c1_1; have g_q1 := i_rg q1; have g_z_25 := i_rg z_25; have g_z_26 := i_rg z_26; have g_z_3 := i_rg z_3; omega)
    have f_40 : n_36 ≤ 262144 := (by have q_s_b_35 := s_b_35; have q_b_35 := h_b_35; have q_f_38 := f_38; have q_f_39 := f_39; have q_f2_1 := f2_1; have q_f3_1 := f3_1; have q_fq_c := fq_c; have q_fq_gq1 := fq_gq1; have q_c_24 := i_nlt c_24; have q_z_26 := i_mulL (c := 2) (K := 1073741823) ez_26 (by decide) (by decide) (by decide) (by decide); have q_f1_1 := f1_1; have q_f4_1 := f4_1; have q_f5_1 := f5_1; have q_z_3 := i_len ez_3 f1_1; have q_z_25 := i_len ez_25 f1_1; have g_c1_1 := i_rg c1_1; have g_q1 := i_rg q1; have g_z_25 := i_rg z_25; have g_z_26 := i_rg z_26; have g_z_3 := i_rg z_3; omega)
    have hi_41 : invX0 g ws_29 h0 [.ref b_35, .int c1_1] := ⟨b_35, (n_36), (c1_1), rfl, a_b_35, s_b_35, f2_37, f_38, f_39, f_40, trivial⟩
    obtain ⟨ws_43, e_ws_43⟩ : ∃ z, z = ws_29.set k_1 (h0, .inr (0, [.ref b_35, .int c1_1])) := ⟨_, rfl⟩
    have hP : va_P (gD g) cl0 ws_43 H := by rw [e_ws_43]; exact hP
    have hD : va_D A ws_43 := by rw [e_ws_43]; exact hD
    have E_44 : gE ws_29 ws_43 := gE_set e_ws_43 hk_37 (cw_o (fi := 0) (v := .ref b_35) rfl (by decide))
    have hG : Good g ws_43 := Good_set (fi := 0) (v := .ref b_35) e_ws_43 hk_37 E_44 rfl hV9 hG (ivX0 hi_41)
    have Fr_45 : gF [(0, 0)] [] (some h0) ws_29 ws_43 := gF_put0 (fi := 0) (v := .ref b_35) e_ws_43 hk_37 rfl (gr_0_0 hD8 hk_37 rfl a_r0_1 e_ws_43 rfl a_b_35 (by have q_f1_1 := f1_1; have q_f3_1 := f3_1; have q_f4_1 := f4_1; have q_f5_1 := f5_1; have q_z_3 := i_len ez_3 f1_1; have q_z_25 := i_len ez_25 f1_1; have q_s_b_35 := s_b_35; have q_b_35 := h_b_35; have q_f_38 := f_38; have q_f_39 := f_39; have q_f_40 := f_40; have q_f2_1 := f2_1; have q_fq_c := fq_c; have q_fq_gq1 := fq_gq1; have q_c_24 := i_nlt c_24; have q_z_26 := i_mulL (c := 2) (K := 1073741823) ez_26 (by decide) (by decide) (by decide) (by decide); have g_c1_1 := i_rg c1_1; have g_q1 := i_rg q1; have g_z_25 := i_rg z_25; have g_z_26 := i_rg z_26; have g_z_3 := i_rg z_3; omega)).1
    have pg_42 := (gr_0_0 (ws := ws_29) hD8 hk_37 rfl a_r0_1 e_ws_43 rfl a_b_35 (by have q_f1_1 := f1_1; have q_f3_1 := f3_1; have q_f4_1 := f4_1; have q_f5_1 := f5_1; have q_z_3 := i_len ez_3 f1_1; have q_z_25 := i_len ez_25 f1_1; have q_s_b_35 := s_b_35; have q_b_35 := h_b_35; have q_f_38 := f_38; have q_f_39 := f_39; have q_f_40 := f_40; have q_f2_1 := f2_1; have q_fq_c := fq_c; have q_fq_gq1 := fq_gq1; have q_c_24 := i_nlt c_24; have q_z_26 := i_mulL (c := 2) (K := 1073741823) ez_26 (by decide) (by decide) (by decide) (by decide); have g_c1_1 := i_rg c1_1; have g_q1 := i_rg q1; have g_z_25 := i_rg z_25; have g_z_26 := i_rg z_26; have g_z_3 := i_rg z_3; omega)).2
    have hkN := gset_self e_ws_43 hk_37
    have hk_37 := hkN
    have o_h0 := E_44.1 _ _ o_h0
    have a_b_35 := E_44.1 _ _ a_b_35
    exact J_30 (0 + dc_32) (0 + ds_33) ws_43 H locs ls ((E_30.tr E_44)) ((gF.tr (gF.mo (F' := [(0, 0)]) (C' := []) (S' := (some h0)) Fr_31 (fun _ h => absurd h List.not_mem_nil) (fun _ h => h) (Or.inr rfl)) Fr_45)) hG (by have q_f1_1 := f1_1; have q_f3_1 := f3_1; have q_f4_1 := f4_1; have q_f5_1 := f5_1; have q_z_3 := i_len ez_3 f1_1; have q_z_25 := i_len ez_25 f1_1; have q_z_26 := i_mulL (c := 2) (K := 1073741823) ez_26 (by decide) (by decide) (by decide) (by decide); have q_s_b_35 := s_b_35; have q_b_35 := h_b_35; have q_f_38 := f_38; have q_f_39 := f_39; have q_f_40 := f_40; have q_f2_1 := f2_1; have q_fq_c := fq_c; have q_fq_gq1 := fq_gq1; have q_c_24 := i_nlt c_24; have g_c1_1 := i_rg c1_1; have g_q1 := i_rg q1; have g_z_25 := i_rg z_25; have g_z_26 := i_rg z_26; have g_z_3 := i_rg z_3; omega) (by have q_f1_1 := f1_1; have q_f3_1 := f3_1; have q_f4_1 := f4_1; have q_f5_1 := f5_1; have q_z_3 := i_len ez_3 f1_1; have q_z_25 := i_len ez_25 f1_1; have q_z_26 := i_mulL (c := 2) (K := 1073741823) ez_26 (by decide) (by decide) (by decide) (by decide); have q_s_b_35 := s_b_35; have q_b_35 := h_b_35; have q_f_38 := f_38; have q_f_39 := f_39; have q_f_40 := f_40; have q_f2_1 := f2_1; have q_fq_c := fq_c; have q_fq_gq1 := fq_gq1; have q_c_24 := i_nlt c_24; have g_c1_1 := i_rg c1_1; have g_q1 := i_rg q1; have g_z_25 := i_rg z_25; have g_z_26 := i_rg z_26; have g_z_3 := i_rg z_3; omega) (gP_of hD hk_37 (fun q90 e90 p91 q91 e91 g91 => by cases e90; cases e91; have z91 := gI_n hD a_b_35 g91; subst z91; exact (by have q_f2_1 := f2_1; have q_f3_1 := f3_1; have q_fq_c := fq_c; have q_fq_gq1 := fq_gq1; have q_c_24 := i_nlt c_24; have q_s_b_35 := s_b_35; have q_b_35 := h_b_35; have q_f_38 := f_38; have q_f_39 := f_39; have q_f_40 := f_40; have q_f1_1 := f1_1; have q_f4_1 := f4_1; have q_f5_1 := f5_1; have q_z_3 := i_len ez_3 f1_1; have q_z_25 := i_len ez_25 f1_1; have q_z_26 := i_mulL (c := 2) (K := 1073741823) ez_26 (by decide) (by decide) (by decide) (by decide); have g_c1_1 := i_rg c1_1; have g_q1 := i_rg q1; have g_z_25 := i_rg z_25; have g_z_26 := i_rg z_26; have g_z_3 := i_rg z_3; omega))) hP hD hS (lv_sub hl [0, 1] rfl)
set_option maxHeartbeats 1000000 in
set_option maxRecDepth 100000 in
theorem m_X0_put2 (l : Launch) (g : Gm) (H0 : Heap) (ws : va_W) (h0 : Nat) (x1 : Int32) (q1 : Int32) (hG : Good g ws) (o_h0 : gC ws h0 0) (fp_c : gP ws h0 (fun fs => ∀ c : Int32, fs[1]? = some (.int c) → c.toInt ≤ 131070)) (fp_gq1 : gP ws h0 (fun fs => ∀ c : Int32, fs[1]? = some (.int c) → c.toInt = q1.toInt)) : Met l yX0_put2 (wt yX0_put2 cX0_put2 2 none) ({ frames := 3, cells := PC ws + (0), slots := PS ws + (0), locals := 83 }) (va_Pc [.ref h0, .int x1] (st_H g H0 ws)) (va_Qv (fun (u9 : va_W) => gP u9 h0 (fun fs => ∀ c : Int32, fs[1]? = some (.int c) → c.toInt = q1.toInt + 2)) (gQ2 g [(0, 0), (0, 1)] [(0, 0), (6, 0)] (some h0) (va_A ws H0.size) ws H0 (0) (0)) (va_A ws H0.size)) (PC ws + (0)) (PS ws + (0)) (va_A ws H0.size) := by
  refine Met.ofW (cc := cX0_put2) (maxL := 2) (ret := none) (by decide) rfl ?_
  intro p e s m args below meth c s₁ B hml hv
  obtain ⟨rfl, hH0, hsz, hP, hK, hD0, hex, hE⟩ := hv
  have hx := B.exec
  have hb := B.bytes
  have hr := B.returns
  have hts0 := atoms_spec (ws := wt yX0_put2 cX0_put2 2 none) B.pre
  have hts : ∀ w ∈ tb, w.before _ s = true := fun w h => hts0 w (List.mem_cons_of_mem _ h)
  have hown : s.vm.findClass RX0 = some m.cls := findClass_of_methodNamed B.named
  subst hH0
  have hD := hD0.self (sz := s.heap.size)
  generalize hAe : va_A ws s.heap.size = A at hD hE ⊢
  have hA : ∀ q : Nat, s.heap.size ≤ q → A q := fun q h => by rw [← hAe]; exact Or.inr h
  have hS : va_S A s.heap s.heap [] := va_S.rf
  have hl := lv_entry ([.ref h0, .int x1]) (n := 2) (Nat.le_of_ble_eq_true rfl)
  rw [lg_entry_eq]
  generalize (lg_sl ([.ref h0, .int x1]) ++ List.replicate (2 - (lg_sl ([.ref h0, .int x1])).length) Slot.unset).toArray = ls at hl ⊢
  have hl : lv_has ls 2 [(0, .ref h0), (1, .int x1)] := hl
  obtain ⟨k_1, fs9, hk_1⟩ := gC_of o_h0
  obtain ⟨r0_1, n0_1, c1_1, rfl, a_r0_1, f1_1, f2_1, f3_1, f4_1, f5_1, -⟩ := (hG.1 _ _ _ _ hk_1).hX0 rfl
  have fq_c := fp_c _ _ _ hk_1 _ rfl
  have fq_gq1 := fp_gq1 _ _ _ hk_1 _ rfl
  refine lv_aload_n hx hb dX0_put2_0 rfl (lv_at hl 0 rfl) ?_
  refine lv_iload_n hx hb dX0_put2_1 rfl (lv_at hl 1 rfl) ?_
  refine lv_bipush (v := 8) hx hb dX0_put2_2 (by decide) ?_
  refine lv_ishr hx hb dX0_put2_4 ?_
  refine lv_topi (fun z_2 ez_2 => ?_)
  have hFc := gfree hD hS hA
  have pg_3 := ge_0_0 hD hk_1 rfl a_r0_1
  refine W_led (fun hL0 => ?_)
  refine va_callv (va_runV (As := [.int z_2]) (rest := []) ⟨hx, hb, hml, hown, hts⟩ (m_X0_put l g s.heap ws h0 (z_2) (c1_1) hG o_h0 (gP_of hD hk_1 (fun q90 e90 => by cases e90; exact (by have q_f2_1 := f2_1; have q_f3_1 := f3_1; have q_fq_c := fq_c; have q_fq_gq1 := fq_gq1; have q_f1_1 := f1_1; have q_f4_1 := f4_1; have q_f5_1 := f5_1; have g_c1_1 := i_rg c1_1; have g_q1 := i_rg q1; omega))) (gP_of hD hk_1 (fun q90 e90 => by cases e90; exact (by have q_f2_1 := f2_1; have q_f3_1 := f3_1; have q_fq_c := fq_c; have q_fq_gq1 := fq_gq1; have q_f1_1 := f1_1; have q_f4_1 := f4_1; have q_f5_1 := f5_1; have g_c1_1 := i_rg c1_1; have g_q1 := i_rg q1; omega)))) (cwV 1 hts (gd_V kw_19 kw_13 kw_14 kw_3 kw_12) rfl rfl rfl (by decide +kernel) ⟨Nat.le_of_ble_eq_true rfl, Nat.le_of_ble_eq_true rfl⟩) ⟨gblindH, va_recv hK hP (ci := 0) (q0 := k_1) rfl hk_1, fun U hU hW9 => gmkH hU hW9 hP hK hD hex hE hS hFc⟩ rfl rfl hl.1 rfl (lv_room (Nat.le_of_ble_eq_true rfl)) dX0_put2_5 ⟨(show 0 + (PC ws + (0)) ≤ PC ws + (0) from (by have e0 : (0 : Int32).toInt = 0 := (by decide); omega)), (show 0 + (PS ws + (0)) ≤ PS ws + (0) from (by have e0 : (0 : Int32).toInt = 0 := (by decide); omega))⟩) hS (fun q _ h => hFc q h) hFc (fun  ws_4 t9 H1 locs ht9 hvm9 hw9 hB9 hz9 hk9 hS => ?_)
  obtain ⟨E_5, Fr_6, hG, hP1, hD1, dc_7, ds_8, hLd, hdc_7, hds_8⟩ := hB9
  rw [ht9] at hLd
  refine W_tight (hL0.tr hLd).1 (hL0.tr hLd).2.1 ?_
  clear hL0 hLd
  have hP : va_P (gD g) cl0 ws_4 H1 := by rw [← ht9]; exact hP1
  have hD : va_D A ws_4 := hD1.weaken (fun _ _ _ h => hFc _ h)
  have kf_9 := hw9
  clear hP1 hD1 hz9 hk9 hvm9 ht9 hw9
  generalize H1 = H at hP hS ⊢
  have aa_10 := a_r0_1
  have o_h0 := E_5.1 _ _ o_h0
  refine lv_aload_n hx hb dX0_put2_8 rfl (lv_at hl 0 rfl) ?_
  refine lv_iload_n hx hb dX0_put2_9 rfl (lv_at hl 1 rfl) ?_
  obtain ⟨fs9, hk_11, hq_11⟩ := ((gF.a (F' := [(0, 0), (0, 1)]) Fr_6 (fun _ h => h))) _ _ _ hk_1
  obtain ⟨r0_11, n0_11, c1_11, rfl, a_r0_11, f1_11, f2_11, f3_11, f4_11, f5_11, -⟩ := (hG.1 _ _ _ _ hk_11).hX0 rfl
  have kq_12 := kf_9 _ _ _ hk_11 _ rfl
  have hFc := gfree hD hS hA
  have pg_13 := ge_0_0 hD hk_11 rfl a_r0_11
  refine W_led (fun hL0 => ?_)
  refine va_callv (va_runV (As := [.int x1]) (rest := []) ⟨hx, hb, hml, hown, hts⟩ (m_X0_put l g H ws_4 h0 (x1) (c1_11) hG o_h0 (gP_of hD hk_11 (fun q90 e90 => by cases e90; exact (by have q_f2_11 := f2_11; have q_f3_11 := f3_11; have q_kq_12 := kq_12; have q_f2_1 := f2_1; have q_f3_1 := f3_1; have q_fq_c := fq_c; have q_fq_gq1 := fq_gq1; have q_f1_11 := f1_11; have q_f4_11 := f4_11; have q_f5_11 := f5_11; have q_f1_1 := f1_1; have q_f4_1 := f4_1; have q_f5_1 := f5_1; have g_c1_1 := i_rg c1_1; have g_c1_11 := i_rg c1_11; have g_q1 := i_rg q1; omega))) (gP_of hD hk_11 (fun q90 e90 => by cases e90; exact (by have q_f2_11 := f2_11; have q_f3_11 := f3_11; have q_kq_12 := kq_12; have q_f2_1 := f2_1; have q_f3_1 := f3_1; have q_fq_c := fq_c; have q_fq_gq1 := fq_gq1; have q_f1_11 := f1_11; have q_f4_11 := f4_11; have q_f5_11 := f5_11; have q_f1_1 := f1_1; have q_f4_1 := f4_1; have q_f5_1 := f5_1; have g_c1_1 := i_rg c1_1; have g_c1_11 := i_rg c1_11; have g_q1 := i_rg q1; omega)))) (cwV 1 hts (gd_V kw_19 kw_13 kw_14 kw_3 kw_12) rfl rfl rfl (by decide +kernel) ⟨Nat.le_of_ble_eq_true rfl, Nat.le_of_ble_eq_true rfl⟩) ⟨gblindH, va_recv hK hP (ci := 0) (q0 := k_1) rfl hk_11, fun U hU hW9 => gmkH hU hW9 hP hK hD hex hE hS hFc⟩ rfl rfl hl.1 rfl (lv_room (Nat.le_of_ble_eq_true rfl)) dX0_put2_10 ⟨(show 0 + dc_7 + (PC ws_4 + (0)) ≤ PC ws + (0) from (by have e0 : (0 : Int32).toInt = 0 := (by decide); omega)), (show 0 + ds_8 + (PS ws_4 + (0)) ≤ PS ws + (0) from (by have e0 : (0 : Int32).toInt = 0 := (by decide); omega))⟩) hS (fun q _ h => hFc q h) hFc (fun  ws_14 t9 H1 locs ht9 hvm9 hw9 hB9 hz9 hk9 hS => ?_)
  obtain ⟨E_15, Fr_16, hG, hP1, hD1, dc_17, ds_18, hLd, hdc_17, hds_18⟩ := hB9
  rw [ht9] at hLd
  refine W_tight (hL0.tr hLd).1 (hL0.tr hLd).2.1 ?_
  clear hL0 hLd
  have hP : va_P (gD g) cl0 ws_14 H1 := by rw [← ht9]; exact hP1
  have hD : va_D A ws_14 := hD1.weaken (fun _ _ _ h => hFc _ h)
  have kf_19 := hw9
  clear hP1 hD1 hz9 hk9 hvm9 ht9 hw9
  generalize H1 = H at hP hS ⊢
  have aa_20 := a_r0_11
  have o_h0 := E_15.1 _ _ o_h0
  refine W_led (fun hLd => ?_)
  have hcl : 0 + dc_7 + dc_17 + PC ws_14 ≤ PC ws + (0) := (by omega)
  have hsl : 0 + ds_8 + ds_18 + PS ws_14 ≤ PS ws + (0) := (by omega)
  refine W.widen (k := PC ws + (0)) (n := PS ws + (0)) (by omega) (by omega) ?_
  obtain ⟨fs9, hk_21, hq_21⟩ := ((gF.a (F' := [(0, 0), (0, 1)]) Fr_16 (fun _ h => h))) _ _ _ hk_11
  obtain ⟨r0_21, n0_21, c1_21, rfl, a_r0_21, f1_21, f2_21, f3_21, f4_21, f5_21, -⟩ := (hG.1 _ _ _ _ hk_21).hX0 rfl
  have kq_22 := kf_19 _ _ _ hk_21 _ rfl
  exact W.vret hx hb hr (fun t9 ht9 hW9 => ⟨⟨ws_14, rfl, (gP_of hD hk_21 (fun q90 e90 => by cases e90; exact (by have q_fq_gq1 := fq_gq1; have q_f2_21 := f2_21; have q_f3_21 := f3_21; have q_kq_22 := kq_22; have q_f2_1 := f2_1; have q_f3_1 := f3_1; have q_fq_c := fq_c; have q_f2_11 := f2_11; have q_f3_11 := f3_11; have q_kq_12 := kq_12; have q_f1_21 := f1_21; have q_f4_21 := f4_21; have q_f5_21 := f5_21; have q_f1_1 := f1_1; have q_f4_1 := f4_1; have q_f5_1 := f5_1; have q_f1_11 := f1_11; have q_f4_11 := f4_11; have q_f5_11 := f5_11; have g_c1_1 := i_rg c1_1; have g_c1_11 := i_rg c1_11; have g_c1_21 := i_rg c1_21; have g_q1 := i_rg q1; omega))), ⟨(E_5.tr E_15), (gF.tr Fr_6 Fr_16), hG, by rw [ht9]; exact hP, hD, _, _, by rw [ht9]; exact hLd, hcl, hsl⟩⟩, hS.F ht9⟩) hS.2.2 dX0_put2_13
set_option maxHeartbeats 1000000 in
set_option maxRecDepth 100000 in
theorem m_X0_put4 (l : Launch) (g : Gm) (H0 : Heap) (ws : va_W) (h0 : Nat) (x1 : Int32) (q1 : Int32) (hG : Good g ws) (o_h0 : gC ws h0 0) (fp_c : gP ws h0 (fun fs => ∀ c : Int32, fs[1]? = some (.int c) → c.toInt ≤ 131068)) (fp_gq1 : gP ws h0 (fun fs => ∀ c : Int32, fs[1]? = some (.int c) → c.toInt = q1.toInt)) : Met l yX0_put4 (wt yX0_put4 cX0_put4 2 none) ({ frames := 4, cells := PC ws + (0), slots := PS ws + (0), locals := 104 }) (va_Pc [.ref h0, .int x1] (st_H g H0 ws)) (va_Qv (fun (u9 : va_W) => gP u9 h0 (fun fs => ∀ c : Int32, fs[1]? = some (.int c) → c.toInt = q1.toInt + 4)) (gQ2 g [(0, 0), (0, 1)] [(0, 0), (6, 0)] (some h0) (va_A ws H0.size) ws H0 (0) (0)) (va_A ws H0.size)) (PC ws + (0)) (PS ws + (0)) (va_A ws H0.size) := by
  refine Met.ofW (cc := cX0_put4) (maxL := 2) (ret := none) (by decide) rfl ?_
  intro p e s m args below meth c s₁ B hml hv
  obtain ⟨rfl, hH0, hsz, hP, hK, hD0, hex, hE⟩ := hv
  have hx := B.exec
  have hb := B.bytes
  have hr := B.returns
  have hts0 := atoms_spec (ws := wt yX0_put4 cX0_put4 2 none) B.pre
  have hts : ∀ w ∈ tb, w.before _ s = true := fun w h => hts0 w (List.mem_cons_of_mem _ h)
  have hown : s.vm.findClass RX0 = some m.cls := findClass_of_methodNamed B.named
  subst hH0
  have hD := hD0.self (sz := s.heap.size)
  generalize hAe : va_A ws s.heap.size = A at hD hE ⊢
  have hA : ∀ q : Nat, s.heap.size ≤ q → A q := fun q h => by rw [← hAe]; exact Or.inr h
  have hS : va_S A s.heap s.heap [] := va_S.rf
  have hl := lv_entry ([.ref h0, .int x1]) (n := 2) (Nat.le_of_ble_eq_true rfl)
  rw [lg_entry_eq]
  generalize (lg_sl ([.ref h0, .int x1]) ++ List.replicate (2 - (lg_sl ([.ref h0, .int x1])).length) Slot.unset).toArray = ls at hl ⊢
  have hl : lv_has ls 2 [(0, .ref h0), (1, .int x1)] := hl
  obtain ⟨k_1, fs9, hk_1⟩ := gC_of o_h0
  obtain ⟨r0_1, n0_1, c1_1, rfl, a_r0_1, f1_1, f2_1, f3_1, f4_1, f5_1, -⟩ := (hG.1 _ _ _ _ hk_1).hX0 rfl
  have fq_c := fp_c _ _ _ hk_1 _ rfl
  have fq_gq1 := fp_gq1 _ _ _ hk_1 _ rfl
  refine lv_aload_n hx hb dX0_put4_0 rfl (lv_at hl 0 rfl) ?_
  refine lv_iload_n hx hb dX0_put4_1 rfl (lv_at hl 1 rfl) ?_
  refine lv_bipush (v := 16) hx hb dX0_put4_2 (by decide) ?_
  refine lv_ishr hx hb dX0_put4_4 ?_
  refine lv_topi (fun z_2 ez_2 => ?_)
  have hFc := gfree hD hS hA
  have pg_3 := ge_0_0 hD hk_1 rfl a_r0_1
  refine W_led (fun hL0 => ?_)
  refine va_callv (va_runV (As := [.int z_2]) (rest := []) ⟨hx, hb, hml, hown, hts⟩ (m_X0_put2 l g s.heap ws h0 (z_2) (c1_1) hG o_h0 (gP_of hD hk_1 (fun q90 e90 => by cases e90; exact (by have q_f2_1 := f2_1; have q_f3_1 := f3_1; have q_fq_c := fq_c; have q_fq_gq1 := fq_gq1; have q_f1_1 := f1_1; have q_f4_1 := f4_1; have q_f5_1 := f5_1; have g_c1_1 := i_rg c1_1; have g_q1 := i_rg q1; omega))) (gP_of hD hk_1 (fun q90 e90 => by cases e90; exact (by have q_f2_1 := f2_1; have q_f3_1 := f3_1; have q_fq_c := fq_c; have q_fq_gq1 := fq_gq1; have q_f1_1 := f1_1; have q_f4_1 := f4_1; have q_f5_1 := f5_1; have g_c1_1 := i_rg c1_1; have g_q1 := i_rg q1; omega)))) (cwV 1 hts (gd_V kw_23 kw_17 kw_18 kw_3 kw_16) rfl rfl rfl (by decide +kernel) ⟨Nat.le_of_ble_eq_true rfl, Nat.le_of_ble_eq_true rfl⟩) ⟨gblindH, va_recv hK hP (ci := 0) (q0 := k_1) rfl hk_1, fun U hU hW9 => gmkH hU hW9 hP hK hD hex hE hS hFc⟩ rfl rfl hl.1 rfl (lv_room (Nat.le_of_ble_eq_true rfl)) dX0_put4_5 ⟨(show 0 + (PC ws + (0)) ≤ PC ws + (0) from (by have e0 : (0 : Int32).toInt = 0 := (by decide); omega)), (show 0 + (PS ws + (0)) ≤ PS ws + (0) from (by have e0 : (0 : Int32).toInt = 0 := (by decide); omega))⟩) hS (fun q _ h => hFc q h) hFc (fun  ws_4 t9 H1 locs ht9 hvm9 hw9 hB9 hz9 hk9 hS => ?_)
  obtain ⟨E_5, Fr_6, hG, hP1, hD1, dc_7, ds_8, hLd, hdc_7, hds_8⟩ := hB9
  rw [ht9] at hLd
  refine W_tight (hL0.tr hLd).1 (hL0.tr hLd).2.1 ?_
  clear hL0 hLd
  have hP : va_P (gD g) cl0 ws_4 H1 := by rw [← ht9]; exact hP1
  have hD : va_D A ws_4 := hD1.weaken (fun _ _ _ h => hFc _ h)
  have kf_9 := hw9
  clear hP1 hD1 hz9 hk9 hvm9 ht9 hw9
  generalize H1 = H at hP hS ⊢
  have aa_10 := a_r0_1
  have o_h0 := E_5.1 _ _ o_h0
  refine lv_aload_n hx hb dX0_put4_8 rfl (lv_at hl 0 rfl) ?_
  refine lv_iload_n hx hb dX0_put4_9 rfl (lv_at hl 1 rfl) ?_
  obtain ⟨fs9, hk_11, hq_11⟩ := ((gF.a (F' := [(0, 0), (0, 1)]) Fr_6 (fun _ h => h))) _ _ _ hk_1
  obtain ⟨r0_11, n0_11, c1_11, rfl, a_r0_11, f1_11, f2_11, f3_11, f4_11, f5_11, -⟩ := (hG.1 _ _ _ _ hk_11).hX0 rfl
  have kq_12 := kf_9 _ _ _ hk_11 _ rfl
  have hFc := gfree hD hS hA
  have pg_13 := ge_0_0 hD hk_11 rfl a_r0_11
  refine W_led (fun hL0 => ?_)
  refine va_callv (va_runV (As := [.int x1]) (rest := []) ⟨hx, hb, hml, hown, hts⟩ (m_X0_put2 l g H ws_4 h0 (x1) (c1_11) hG o_h0 (gP_of hD hk_11 (fun q90 e90 => by cases e90; exact (by have q_f2_11 := f2_11; have q_f3_11 := f3_11; have q_kq_12 := kq_12; have q_f2_1 := f2_1; have q_f3_1 := f3_1; have q_fq_c := fq_c; have q_fq_gq1 := fq_gq1; have q_f1_11 := f1_11; have q_f4_11 := f4_11; have q_f5_11 := f5_11; have q_f1_1 := f1_1; have q_f4_1 := f4_1; have q_f5_1 := f5_1; have g_c1_1 := i_rg c1_1; have g_c1_11 := i_rg c1_11; have g_q1 := i_rg q1; omega))) (gP_of hD hk_11 (fun q90 e90 => by cases e90; exact (by have q_f2_11 := f2_11; have q_f3_11 := f3_11; have q_kq_12 := kq_12; have q_f2_1 := f2_1; have q_f3_1 := f3_1; have q_fq_c := fq_c; have q_fq_gq1 := fq_gq1; have q_f1_11 := f1_11; have q_f4_11 := f4_11; have q_f5_11 := f5_11; have q_f1_1 := f1_1; have q_f4_1 := f4_1; have q_f5_1 := f5_1; have g_c1_1 := i_rg c1_1; have g_c1_11 := i_rg c1_11; have g_q1 := i_rg q1; omega)))) (cwV 1 hts (gd_V kw_23 kw_17 kw_18 kw_3 kw_16) rfl rfl rfl (by decide +kernel) ⟨Nat.le_of_ble_eq_true rfl, Nat.le_of_ble_eq_true rfl⟩) ⟨gblindH, va_recv hK hP (ci := 0) (q0 := k_1) rfl hk_11, fun U hU hW9 => gmkH hU hW9 hP hK hD hex hE hS hFc⟩ rfl rfl hl.1 rfl (lv_room (Nat.le_of_ble_eq_true rfl)) dX0_put4_10 ⟨(show 0 + dc_7 + (PC ws_4 + (0)) ≤ PC ws + (0) from (by have e0 : (0 : Int32).toInt = 0 := (by decide); omega)), (show 0 + ds_8 + (PS ws_4 + (0)) ≤ PS ws + (0) from (by have e0 : (0 : Int32).toInt = 0 := (by decide); omega))⟩) hS (fun q _ h => hFc q h) hFc (fun  ws_14 t9 H1 locs ht9 hvm9 hw9 hB9 hz9 hk9 hS => ?_)
  obtain ⟨E_15, Fr_16, hG, hP1, hD1, dc_17, ds_18, hLd, hdc_17, hds_18⟩ := hB9
  rw [ht9] at hLd
  refine W_tight (hL0.tr hLd).1 (hL0.tr hLd).2.1 ?_
  clear hL0 hLd
  have hP : va_P (gD g) cl0 ws_14 H1 := by rw [← ht9]; exact hP1
  have hD : va_D A ws_14 := hD1.weaken (fun _ _ _ h => hFc _ h)
  have kf_19 := hw9
  clear hP1 hD1 hz9 hk9 hvm9 ht9 hw9
  generalize H1 = H at hP hS ⊢
  have aa_20 := a_r0_11
  have o_h0 := E_15.1 _ _ o_h0
  refine W_led (fun hLd => ?_)
  have hcl : 0 + dc_7 + dc_17 + PC ws_14 ≤ PC ws + (0) := (by omega)
  have hsl : 0 + ds_8 + ds_18 + PS ws_14 ≤ PS ws + (0) := (by omega)
  refine W.widen (k := PC ws + (0)) (n := PS ws + (0)) (by omega) (by omega) ?_
  obtain ⟨fs9, hk_21, hq_21⟩ := ((gF.a (F' := [(0, 0), (0, 1)]) Fr_16 (fun _ h => h))) _ _ _ hk_11
  obtain ⟨r0_21, n0_21, c1_21, rfl, a_r0_21, f1_21, f2_21, f3_21, f4_21, f5_21, -⟩ := (hG.1 _ _ _ _ hk_21).hX0 rfl
  have kq_22 := kf_19 _ _ _ hk_21 _ rfl
  exact W.vret hx hb hr (fun t9 ht9 hW9 => ⟨⟨ws_14, rfl, (gP_of hD hk_21 (fun q90 e90 => by cases e90; exact (by have q_fq_gq1 := fq_gq1; have q_f2_21 := f2_21; have q_f3_21 := f3_21; have q_kq_22 := kq_22; have q_f2_1 := f2_1; have q_f3_1 := f3_1; have q_fq_c := fq_c; have q_f2_11 := f2_11; have q_f3_11 := f3_11; have q_kq_12 := kq_12; have q_f1_21 := f1_21; have q_f4_21 := f4_21; have q_f5_21 := f5_21; have q_f1_1 := f1_1; have q_f4_1 := f4_1; have q_f5_1 := f5_1; have q_f1_11 := f1_11; have q_f4_11 := f4_11; have q_f5_11 := f5_11; have g_c1_1 := i_rg c1_1; have g_c1_11 := i_rg c1_11; have g_c1_21 := i_rg c1_21; have g_q1 := i_rg q1; omega))), ⟨(E_5.tr E_15), (gF.tr Fr_6 Fr_16), hG, by rw [ht9]; exact hP, hD, _, _, by rw [ht9]; exact hLd, hcl, hsl⟩⟩, hS.F ht9⟩) hS.2.2 dX0_put4_13
set_option maxHeartbeats 1000000 in
set_option maxRecDepth 100000 in
theorem m_X0_putAll (l : Launch) (g : Gm) (H0 : Heap) (ws : va_W) (h0 : Nat) (b1 : Nat) (q1 : Int32) (q2 : Int32) (hG : Good g ws) (o_h0 : gC ws h0 0) (o_b1 : gC ws b1 0) (fp_gq1 : gP ws h0 (fun fs => ∀ c : Int32, fs[1]? = some (.int c) → c.toInt = q1.toInt)) (fp_gq2 : gP ws b1 (fun fs => ∀ c : Int32, fs[1]? = some (.int c) → c.toInt = q2.toInt)) (ps : q1.toInt + q2.toInt ≤ 131072) : Met l yX0_putAll (wt yX0_putAll cX0_putAll 4 none) ({ frames := 2, cells := PC ws + (0), slots := PS ws + (0), locals := 62 }) (va_Pc [.ref h0, .ref b1] (st_H g H0 ws)) (va_Qv (fun (u9 : va_W) => gP u9 h0 (fun fs => ∀ c : Int32, fs[1]? = some (.int c) → c.toInt = q1.toInt + q2.toInt)) (gQ2 g [(0, 0), (0, 1)] [(0, 0), (6, 0)] (some h0) (va_A ws H0.size) ws H0 (0) (0)) (va_A ws H0.size)) (PC ws + (0)) (PS ws + (0)) (va_A ws H0.size) := by
  refine Met.ofW (cc := cX0_putAll) (maxL := 4) (ret := none) (by decide) rfl ?_
  intro p e s m args below meth c s₁ B hml hv
  obtain ⟨rfl, hH0, hsz, hP, hK, hD0, hex, hE⟩ := hv
  have hx := B.exec
  have hb := B.bytes
  have hr := B.returns
  have hts0 := atoms_spec (ws := wt yX0_putAll cX0_putAll 4 none) B.pre
  have hts : ∀ w ∈ tb, w.before _ s = true := fun w h => hts0 w (List.mem_cons_of_mem _ h)
  have hown : s.vm.findClass RX0 = some m.cls := findClass_of_methodNamed B.named
  subst hH0
  have hD := hD0.self (sz := s.heap.size)
  generalize hAe : va_A ws s.heap.size = A at hD hE ⊢
  have hA : ∀ q : Nat, s.heap.size ≤ q → A q := fun q h => by rw [← hAe]; exact Or.inr h
  have hS : va_S A s.heap s.heap [] := va_S.rf
  have hl := lv_entry ([.ref h0, .ref b1]) (n := 4) (Nat.le_of_ble_eq_true rfl)
  rw [lg_entry_eq]
  generalize (lg_sl ([.ref h0, .ref b1]) ++ List.replicate (4 - (lg_sl ([.ref h0, .ref b1])).length) Slot.unset).toArray = ls at hl ⊢
  have hl : lv_has ls 4 [(0, .ref h0), (1, .ref b1)] := hl
  obtain ⟨k_1, fs9, hk_1⟩ := gC_of o_h0
  obtain ⟨r0_1, n0_1, c1_1, rfl, a_r0_1, f1_1, f2_1, f3_1, f4_1, f5_1, -⟩ := (hG.1 _ _ _ _ hk_1).hX0 rfl
  have fq_gq1 := fp_gq1 _ _ _ hk_1 _ rfl
  obtain ⟨k_2, fs9, hk_2⟩ := gC_of o_b1
  obtain ⟨r0_2, n0_2, c1_2, rfl, a_r0_2, f1_2, f2_2, f3_2, f4_2, f5_2, -⟩ := (hG.1 _ _ _ _ hk_2).hX0 rfl
  have fq_gq2 := fp_gq2 _ _ _ hk_2 _ rfl
  refine lv_aload_n hx hb dX0_putAll_0 rfl (lv_at hl 0 rfl) ?_
  refine va_get (D := gD g) (ci := 0) (v := .ref r0_1) (C := RX0) (T := TX0) (N := 2) hx hb hts inX0 hown hK hP k_1 hk_1 rfl 0 (by decide) (hts _ kw_5) (fun _ h9 => h9) rfl dX0_putAll_1 ?_
  obtain ⟨k_3, f_3, hk_3⟩ := gI_of a_r0_1
  obtain ⟨z_4, ez_4⟩ : ∃ z : Int32, Int32.ofNat n0_1 = z := ⟨_, rfl⟩
  refine va_alen (v := z_4) hx hb hK hP k_3 0 hk_3 rfl ez_4 dX0_putAll_4 ?_
  refine lv_istore_n (lv' := [(2, .int z_4), (0, .ref h0), (1, .ref b1)]) hx hb dX0_putAll_5 rfl hl (by decide) rfl (fun ls hl => ?_)
  refine lv_iconst (v := 0) hx hb dX0_putAll_6 (by decide) ?_
  refine lv_istore_n (lv' := [(3, .int 0), (2, .int z_4), (0, .ref h0), (1, .ref b1)]) hx hb dX0_putAll_7 rfl hl (by decide) rfl (fun ls hl => ?_)
  have J_8 : ∀ (n9 : Nat) (v2_5 : Int32) (v3_6 : Int32) (dc_8_1 : Nat) (ds_8_1 : Nat) (H : Heap) (locs : List Loc) (ls : Array Slot), (2147483647 - v3_6.toInt).toNat = n9 → 0 ≤ v3_6.toInt → (v2_5.toInt = n0_1 ∨ 2 * n0_1 ≤ v2_5.toInt) ∧ v2_5.toInt ≤ 262144 → ((64 * 2 ^ v3_6.toInt.toNat : Nat) : Int) ≤ v2_5.toInt → dc_8_1 + PC ws ≤ PC ws + (0) → ds_8_1 + PS ws ≤ PS ws + (0) → va_P (gD g) cl0 ws H → va_D A ws → va_S A s.heap H locs → lv_has ls 4 [(0, .ref h0), (1, .ref b1), (2, .int v2_5), (3, .int v3_6)] → W p l e (headSpec (wt yX0_putAll cX0_putAll 4 none) ({ frames := 2, cells := PC ws + (0), slots := PS ws + (0), locals := 62 })).room s m ([.ref h0, .ref b1] : List Value).toArray below meth c H locs (dc_8_1) (ds_8_1) (MQ below (va_Qv (fun (u9 : va_W) => gP u9 h0 (fun fs => ∀ c : Int32, fs[1]? = some (.int c) → c.toInt = q1.toInt + q2.toInt)) (gQ2 g [(0, 0), (0, 1)] [(0, 0), (6, 0)] (some h0) A ws s.heap (0) (0)) A) ([.ref h0, .ref b1] : List Value).toArray s (PC ws + (0)) (PS ws + (0)) A) (F0 m 8 ls []) := by
    intro n9
    induction n9 using Nat.strongRecOn with
    | ind n9 ih_8 =>
      intro v2_5 v3_6 dc_8_1 ds_8_1 H locs ls hm9 iv_7 iv_8 iv_9 hc9 hs9 hP hD hS hl
      subst hm9
      refine lv_iload_n hx hb dX0_putAll_8 rfl (lv_at hl 2 rfl) ?_
      refine lv_aload_n hx hb dX0_putAll_9 rfl (lv_at hl 0 rfl) ?_
      refine va_get (D := gD g) (ci := 0) (v := .int c1_1) (C := RX0) (T := TX0) (N := 2) hx hb hts inX0 hown hK hP k_1 hk_1 rfl 1 (by decide) (hts _ kw_4) (fun _ h9 => h9) rfl dX0_putAll_10 ?_
      refine lv_aload_n hx hb dX0_putAll_13 rfl (lv_at hl 1 rfl) ?_
      refine va_get (D := gD g) (ci := 0) (v := .int c1_2) (C := RX0) (T := TX0) (N := 2) hx hb hts inX0 hown hK hP k_2 hk_2 rfl 1 (by decide) (hts _ kw_4) (fun _ h9 => h9) rfl dX0_putAll_14 ?_
      refine lv_iadd hx hb dX0_putAll_17 ?_
      refine lv_topi (fun z_12 ez_12 => ?_)
      have J_37 : ∀ (dc_37_2 : Nat) (ds_37_2 : Nat) (H : Heap) (locs : List Loc) (ls : Array Slot), (v2_5.toInt = n0_1 ∨ 2 * n0_1 ≤ v2_5.toInt) ∧ v2_5.toInt ≤ 262144 ∧ q1.toInt + q2.toInt ≤ v2_5.toInt → dc_37_2 + PC ws ≤ PC ws + (0) → ds_37_2 + PS ws ≤ PS ws + (0) → va_P (gD g) cl0 ws H → va_D A ws → va_S A s.heap H locs → lv_has ls 4 [(0, .ref h0), (1, .ref b1), (2, .int v2_5)] → W p l e (headSpec (wt yX0_putAll cX0_putAll 4 none) ({ frames := 2, cells := PC ws + (0), slots := PS ws + (0), locals := 62 })).room s m ([.ref h0, .ref b1] : List Value).toArray below meth c H locs (dc_37_2) (ds_37_2) (MQ below (va_Qv (fun (u9 : va_W) => gP u9 h0 (fun fs => ∀ c : Int32, fs[1]? = some (.int c) → c.toInt = q1.toInt + q2.toInt)) (gQ2 g [(0, 0), (0, 1)] [(0, 0), (6, 0)] (some h0) A ws s.heap (0) (0)) A) ([.ref h0, .ref b1] : List Value).toArray s (PC ws + (0)) (PS ws + (0)) A) (F0 m 37 ls []) := by
        intro dc_37_2 ds_37_2 H locs ls iv_13 hc9 hs9 hP hD hS hl
        refine lv_iload_n hx hb dX0_putAll_37 rfl (lv_at hl 2 rfl) ?_
        refine lv_aload_n hx hb dX0_putAll_38 rfl (lv_at hl 0 rfl) ?_
        refine va_get (D := gD g) (ci := 0) (v := .ref r0_1) (C := RX0) (T := TX0) (N := 2) hx hb hts inX0 hown hK hP k_1 hk_1 rfl 0 (by decide) (hts _ kw_5) (fun _ h9 => h9) rfl dX0_putAll_39 ?_
        obtain ⟨z_16, ez_16⟩ : ∃ z : Int32, Int32.ofNat n0_1 = z := ⟨_, rfl⟩
        refine va_alen (v := z_16) hx hb hK hP k_3 0 hk_3 rfl ez_16 dX0_putAll_42 ?_
        have J_58 : ∀ (dc_58_3 : Nat) (ds_58_3 : Nat) (ws_17 : va_W) (H : Heap) (locs : List Loc) (ls : Array Slot), gE ws ws_17 → gF [(0, 0)] [] (some h0) ws ws_17 → Good g ws_17 → dc_58_3 + PC ws_17 ≤ PC ws + (0) → ds_58_3 + PS ws_17 ≤ PS ws + (0) → gP ws_17 h0 (fun fs => ∀ (rn n : Nat), fs[0]? = some (.ref rn) → gI ws_17 rn g.cB n → q1.toInt + q2.toInt ≤ n) → va_P (gD g) cl0 ws_17 H → va_D A ws_17 → va_S A s.heap H locs → lv_has ls 4 [(0, .ref h0), (1, .ref b1)] → W p l e (headSpec (wt yX0_putAll cX0_putAll 4 none) ({ frames := 2, cells := PC ws + (0), slots := PS ws + (0), locals := 62 })).room s m ([.ref h0, .ref b1] : List Value).toArray below meth c H locs (dc_58_3) (ds_58_3) (MQ below (va_Qv (fun (u9 : va_W) => gP u9 h0 (fun fs => ∀ c : Int32, fs[1]? = some (.int c) → c.toInt = q1.toInt + q2.toInt)) (gQ2 g [(0, 0), (0, 1)] [(0, 0), (6, 0)] (some h0) A ws s.heap (0) (0)) A) ([.ref h0, .ref b1] : List Value).toArray s (PC ws + (0)) (PS ws + (0)) A) (F0 m 58 ls []) := by
          intro dc_58_3 ds_58_3 ws_17 H locs ls  E_18 Fr_19 hG hc9 hs9 jf_58_c hP hD hS hl
          have aa_20 := a_r0_1
          have aa_21 := a_r0_2
          have o_h0 := E_18.1 _ _ o_h0
          have o_b1 := E_18.1 _ _ o_b1
          refine lv_aload_n hx hb dX0_putAll_58 rfl (lv_at hl 1 rfl) ?_
          obtain ⟨fs9, hk_22, hq_22⟩ := ((gF.a (F' := [(0, 0)]) Fr_19 (fun _ h => h))) _ _ _ hk_2
          obtain ⟨r0_22, n0_22, c1_22, rfl, a_r0_22, f1_22, f2_22, f3_22, f4_22, f5_22, -⟩ := (hG.1 _ _ _ _ hk_22).hX0 rfl
          obtain rfl := fe_i (hq_22 1 (by decide))
          refine va_get (D := gD g) (ci := 0) (v := .ref r0_22) (C := RX0) (T := TX0) (N := 2) hx hb hts inX0 hown hK hP k_2 hk_22 rfl 0 (by decide) (hts _ kw_5) (fun _ h9 => h9) rfl dX0_putAll_59 ?_
          refine lv_iconst (v := 0) hx hb dX0_putAll_62 (by decide) ?_
          refine lv_aload_n hx hb dX0_putAll_63 rfl (lv_at hl 0 rfl) ?_
          obtain ⟨fs9, hk_23, hq_23⟩ := ((gF.a (F' := [(0, 0)]) Fr_19 (fun _ h => h))) _ _ _ hk_1
          obtain ⟨r0_23, n0_23, c1_23, rfl, a_r0_23, f1_23, f2_23, f3_23, f4_23, f5_23, -⟩ := (hG.1 _ _ _ _ hk_23).hX0 rfl
          obtain rfl := fe_i (hq_23 1 (by decide))
          have kq_24 := jf_58_c _ _ _ hk_23 _ _ rfl a_r0_23
          refine va_get (D := gD g) (ci := 0) (v := .ref r0_23) (C := RX0) (T := TX0) (N := 2) hx hb hts inX0 hown hK hP k_1 hk_23 rfl 0 (by decide) (hts _ kw_5) (fun _ h9 => h9) rfl dX0_putAll_64 ?_
          refine lv_aload_n hx hb dX0_putAll_67 rfl (lv_at hl 0 rfl) ?_
          refine va_get (D := gD g) (ci := 0) (v := .int c1_1) (C := RX0) (T := TX0) (N := 2) hx hb hts inX0 hown hK hP k_1 hk_23 rfl 1 (by decide) (hts _ kw_4) (fun _ h9 => h9) rfl dX0_putAll_68 ?_
          refine lv_aload_n hx hb dX0_putAll_71 rfl (lv_at hl 1 rfl) ?_
          refine va_get (D := gD g) (ci := 0) (v := .int c1_2) (C := RX0) (T := TX0) (N := 2) hx hb hts inX0 hown hK hP k_2 hk_22 rfl 1 (by decide) (hts _ kw_4) (fun _ h9 => h9) rfl dX0_putAll_72 ?_
          obtain ⟨k_25, f_25, hk_25⟩ := gI_of a_r0_22
          obtain ⟨k_26, f_26, hk_26⟩ := gI_of a_r0_23
          have hC9 : hol ws_17 r0_23 [(0, 0), (6, 0)] := (hol_b hG.u hk_23 (j := 0) rfl a_r0_23 (by decide))
          have hS9 : holS ws_17 r0_23 (some h0) := holS_u hG.u hk_23 (j := 0) rfl a_r0_23
          refine va_copyi hx hb (by rw [hml]; exact hl.1.symm) hown (hts _ kw_27) (hts _ kw_28) (hts _ kw_29) (hts _ kw_30) hK hP hD hS k_25 k_26 0 0 hk_25 hk_26 rfl rfl rfl (by decide) (i_nl0 (by have q_f2_1 := f2_1; have q_f3_1 := f3_1; have q_fq_gq1 := fq_gq1; obtain ⟨u_z_12, q_z_12⟩ := i_add ez_12; have q_f3_23 := f3_23; have q_ps := ps; have q_f1_1 := f1_1; have q_f4_1 := f4_1; have q_f5_1 := f5_1; have q_f2_2 := f2_2; have q_f3_2 := f3_2; have q_fq_gq2 := fq_gq2; have q_z_4 := i_len ez_4 f1_1; have q_iv_8 := iv_8; have q_iv_13 := iv_13; have q_z_16 := i_len ez_16 f1_1; have q_f3_22 := f3_22; have q_f1_23 := f1_23; have q_f4_23 := f4_23; have q_f5_23 := f5_23; have q_kq_24 := kq_24; have q_f1_2 := f1_2; have q_f4_2 := f4_2; have q_f5_2 := f5_2; have q_iv_9 := dbl_le iv_9; have q_f1_22 := f1_22; have q_f4_22 := f4_22; have q_f5_22 := f5_22; have q_iv_7 := iv_7; have g_c1_1 := i_rg c1_1; have g_c1_2 := i_rg c1_2; have g_q1 := i_rg q1; have g_q2 := i_rg q2; have g_v2_5 := i_rg v2_5; have g_v3_6 := i_rg v3_6; have g_z_12 := i_rg z_12; have g_z_16 := i_rg z_16; have g_z_4 := i_rg z_4; omega)) (i_nl0 (by have q_f2_2 := f2_2; have q_f3_2 := f3_2; have q_fq_gq2 := fq_gq2; obtain ⟨u_z_12, q_z_12⟩ := i_add ez_12; have q_f3_22 := f3_22; have q_ps := ps; have q_f2_1 := f2_1; have q_f3_1 := f3_1; have q_fq_gq1 := fq_gq1; have q_f1_2 := f1_2; have q_f4_2 := f4_2; have q_f5_2 := f5_2; have q_iv_13 := iv_13; have q_f1_22 := f1_22; have q_f4_22 := f4_22; have q_f5_22 := f5_22; have q_f3_23 := f3_23; have q_kq_24 := kq_24; have q_f1_1 := f1_1; have q_f4_1 := f4_1; have q_f5_1 := f5_1; have q_z_4 := i_len ez_4 f1_1; have q_iv_8 := iv_8; have q_iv_9 := dbl_le iv_9; have q_z_16 := i_len ez_16 f1_1; have q_f1_23 := f1_23; have q_f4_23 := f4_23; have q_f5_23 := f5_23; have q_iv_7 := iv_7; have g_c1_1 := i_rg c1_1; have g_c1_2 := i_rg c1_2; have g_q1 := i_rg q1; have g_q2 := i_rg q2; have g_v2_5 := i_rg v2_5; have g_v3_6 := i_rg v3_6; have g_z_12 := i_rg z_12; have g_z_16 := i_rg z_16; have g_z_4 := i_rg z_4; omega)) (i_cp (by have e0 : (0 : Int32).toInt = 0 := (by decide); have q_f2_2 := f2_2; have q_f3_2 := f3_2; have q_fq_gq2 := fq_gq2; obtain ⟨u_z_12, q_z_12⟩ := i_add ez_12; have q_f1_22 := f1_22; have q_f3_22 := f3_22; have q_f4_22 := f4_22; have q_f5_22 := f5_22; have q_ps := ps; have q_f2_1 := f2_1; have q_f3_1 := f3_1; have q_fq_gq1 := fq_gq1; have q_f1_2 := f1_2; have q_f4_2 := f4_2; have q_f5_2 := f5_2; have q_iv_13 := iv_13; have q_f3_23 := f3_23; have q_kq_24 := kq_24; have q_f1_1 := f1_1; have q_f4_1 := f4_1; have q_f5_1 := f5_1; have q_z_4 := i_len ez_4 f1_1; have q_iv_8 := iv_8; have q_iv_9 := dbl_le iv_9; have q_z_16 := i_len ez_16 f1_1; have q_f1_23 := f1_23; have q_f4_23 := f4_23; have q_f5_23 := f5_23; have q_iv_7 := iv_7; have g_c1_1 := i_rg c1_1; have g_c1_2 := i_rg c1_2; have g_q1 := i_rg q1; have g_q2 := i_rg q2; have g_v2_5 := i_rg v2_5; have g_v3_6 := i_rg v3_6; have g_z_12 := i_rg z_12; have g_z_16 := i_rg z_16; have g_z_4 := i_rg z_4; omega)) (i_cp (by have q_f2_1 := f2_1; have q_f3_1 := f3_1; have q_fq_gq1 := fq_gq1; have q_f2_2 := f2_2; have q_f3_2 := f3_2; have q_fq_gq2 := fq_gq2; obtain ⟨u_z_12, q_z_12⟩ := i_add ez_12; have q_f3_22 := f3_22; have q_f1_23 := f1_23; have q_f3_23 := f3_23; have q_f4_23 := f4_23; have q_f5_23 := f5_23; have q_kq_24 := kq_24; have q_ps := ps; have q_f1_1 := f1_1; have q_f4_1 := f4_1; have q_f5_1 := f5_1; have q_f1_2 := f1_2; have q_f4_2 := f4_2; have q_f5_2 := f5_2; have q_z_4 := i_len ez_4 f1_1; have q_iv_8 := iv_8; have q_iv_13 := iv_13; have q_z_16 := i_len ez_16 f1_1; have q_f1_22 := f1_22; have q_f4_22 := f4_22; have q_f5_22 := f5_22; have q_iv_9 := dbl_le iv_9; have q_iv_7 := iv_7; have g_c1_1 := i_rg c1_1; have g_c1_2 := i_rg c1_2; have g_q1 := i_rg q1; have g_q2 := i_rg q2; have g_v2_5 := i_rg v2_5; have g_v3_6 := i_rg v3_6; have g_z_12 := i_rg z_12; have g_z_16 := i_rg z_16; have g_z_4 := i_rg z_4; omega)) (fun i _ => hG.2.2.1 _ _ _ _ hk_25 _) (Nat.le_of_ble_eq_true rfl) (Nat.le_of_ble_eq_true rfl) dX0_putAll_75 (fun H locs hP hD hS => ?_)
          obtain ⟨ws_27, e_ws_27⟩ : ∃ z, z = ws_17.set k_26 (r0_23, .inl (g.cB, n0_23, .inl (va_cpy f_25 f_26 (0 : Int32).toNatClampNeg (c1_1 : Int32).toNatClampNeg (c1_2 : Int32).toNatClampNeg))) := ⟨_, rfl⟩
          have hP : va_P (gD g) cl0 ws_27 H := by rw [e_ws_27]; exact hP
          have hD : va_D A ws_27 := by rw [e_ws_27]; exact hD
          have E_28 : gE ws_17 ws_27 := gE_ari e_ws_27 hk_26
          have hG : Good g ws_27 := Good_arC e_ws_27 hk_26 hG hk_25
          have Fr_29 : gF [] [(0, 0), (6, 0)] (some h0) ws_17 ws_27 := gF_ar e_ws_27 hk_26 rfl hC9 hS9
          have pp_30 := Fr_29.pp
          have hk_22 := gset_arO e_ws_27 hk_26 hk_22
          have hk_23 := gset_arO e_ws_27 hk_26 hk_23
          have o_h0 := E_28.1 _ _ o_h0
          have o_b1 := E_28.1 _ _ o_b1
          have a_r0_22 := E_28.1 _ _ a_r0_22
          have a_r0_23 := E_28.1 _ _ a_r0_23
          refine lv_aload_n hx hb dX0_putAll_78 rfl (lv_at hl 0 rfl) ?_
          refine lv_dup hx hb dX0_putAll_79 rfl ?_
          refine va_get (D := gD g) (ci := 0) (v := .int c1_1) (C := RX0) (T := TX0) (N := 2) hx hb hts inX0 hown hK hP k_1 hk_23 rfl 1 (by decide) (hts _ kw_4) (fun _ h9 => h9) rfl dX0_putAll_80 ?_
          refine lv_aload_n hx hb dX0_putAll_83 rfl (lv_at hl 1 rfl) ?_
          refine va_get (D := gD g) (ci := 0) (v := .int c1_2) (C := RX0) (T := TX0) (N := 2) hx hb hts inX0 hown hK hP k_2 hk_22 rfl 1 (by decide) (hts _ kw_4) (fun _ h9 => h9) rfl dX0_putAll_84 ?_
          refine lv_iadd hx hb dX0_putAll_87 ?_
          refine lv_topi (fun z_31 ez_31 => ?_)
          have hV9 : okv ws_27 0 1 (.int z_31) := okv_i
          refine va_put (D := gD g) (ci := 0) (v := .int z_31) (ty := .int) (C := RX0) (T := TX0) (N := 2) hx hb hts inX0 tyX0 tyX0_ok nmX0 hown hK hP hD hS k_1 hk_23 rfl 1 (by decide) (hts _ kw_4) (fun _ h9 => h9) rfl (by decide +kernel) rfl rfl (Nat.le_of_ble_eq_true rfl) dX0_putAll_88 (fun H locs hP hD hS => ?_)
          have f_32 : 0 ≤ z_31.toInt := (by obtain ⟨u_z_31, q_z_31⟩ := i_add ez_31; have q_f2_1 := f2_1; have q_f3_1 := f3_1; have q_fq_gq1 := fq_gq1; have q_f2_2 := f2_2; have q_f3_2 := f3_2; have q_fq_gq2 := fq_gq2; obtain ⟨u_z_12, q_z_12⟩ := i_add ez_12; have q_f3_22 := f3_22; have q_f3_23 := f3_23; have q_ps := ps; have q_f1_1 := f1_1; have q_f4_1 := f4_1; have q_f5_1 := f5_1; have q_f1_2 := f1_2; have q_f4_2 := f4_2; have q_f5_2 := f5_2; have q_z_4 := i_len ez_4 f1_1; have q_iv_8 := iv_8; have q_iv_13 := iv_13; have q_z_16 := i_len ez_16 f1_1; have q_f1_22 := f1_22; have q_f4_22 := f4_22; have q_f5_22 := f5_22; have q_f1_23 := f1_23; have q_f4_23 := f4_23; have q_f5_23 := f5_23; have q_kq_24 := kq_24; have q_iv_9 := dbl_le iv_9; have g_c1_1 := i_rg c1_1; have g_c1_2 := i_rg c1_2; have g_q1 := i_rg q1; have g_q2 := i_rg q2; have g_v2_5 := i_rg v2_5; have g_v3_6 := i_rg v3_6; have g_z_12 := i_rg z_12; have g_z_16 := i_rg z_16; have g_z_31 := i_rg z_31; have g_z_4 := i_rg z_4; omega)
          have f_33 : z_31.toInt ≤ n0_23 := (by have q_f1_23 := f1_23; have q_f3_23 := f3_23; have q_f4_23 := f4_23; have q_f5_23 := f5_23; have q_kq_24 := kq_24; obtain ⟨u_z_31, q_z_31⟩ := i_add ez_31; have q_f_32 := f_32; have q_ps := ps; have q_f2_1 := f2_1; have q_f3_1 := f3_1; have q_fq_gq1 := fq_gq1; have q_f2_2 := f2_2; have q_f3_2 := f3_2; have q_fq_gq2 := fq_gq2; obtain ⟨u_z_12, q_z_12⟩ := i_add ez_12; have q_iv_13 := iv_13; have q_f3_22 := f3_22; have q_f1_1 := f1_1; have q_f4_1 := f4_1; have q_f5_1 := f5_1; have q_f1_2 := f1_2; have q_f4_2 := f4_2; have q_f5_2 := f5_2; have q_z_4 := i_len ez_4 f1_1; have q_iv_8 := iv_8; have q_iv_9 := dbl_le iv_9; have q_z_16 := i_len ez_16 f1_1; have q_f1_22 := f1_22; have q_f4_22 := f4_22; have q_f5_22 := f5_22; have q_iv_7 := iv_7; have g_c1_1 := i_rg c1_1; have g_c1_2 := i_rg c1_2; have g_q1 := i_rg q1; have g_q2 := i_rg q2; have g_v2_5 := i_rg v2_5; have g_v3_6 := i_rg v3_6; have g_z_12 := i_rg z_12; have g_z_16 := i_rg z_16; have g_z_31 := i_rg z_31; have g_z_4 := i_rg z_4; omega)
          have hi_34 : invX0 g ws_27 h0 [.ref r0_23, .int z_31] := ⟨r0_23, (n0_23), (z_31), rfl, a_r0_23, f1_23, f_32, f_33, f4_23, f5_23, trivial⟩
          obtain ⟨ws_35, e_ws_35⟩ : ∃ z, z = ws_27.set k_1 (h0, .inr (0, [.ref r0_23, .int z_31])) := ⟨_, rfl⟩
          have hP : va_P (gD g) cl0 ws_35 H := by rw [e_ws_35]; exact hP
          have hD : va_D A ws_35 := by rw [e_ws_35]; exact hD
          have E_36 : gE ws_27 ws_35 := gE_set e_ws_35 hk_23 (cw_o (fi := 1) (v := .int z_31) rfl (by decide))
          have hG : Good g ws_35 := Good_set (fi := 1) (v := .int z_31) e_ws_35 hk_23 E_36 rfl hV9 hG (ivX0 hi_34)
          have Fr_37 : gF [(0, 1)] [] (some h0) ws_27 ws_35 := gF_put (fi := 1) (v := .int z_31) e_ws_35 hk_23 rfl (by decide)
          have pp_38 := Fr_37.pp
          have hkN := gset_self e_ws_35 hk_23
          have aa_39 := a_r0_22
          have hk_23 := hkN
          have o_h0 := E_36.1 _ _ o_h0
          have o_b1 := E_36.1 _ _ o_b1
          have a_r0_23 := E_36.1 _ _ a_r0_23
          refine W_led (fun hLd => ?_)
          have hcl : dc_58_3 + PC ws_35 ≤ PC ws + (0) := (by omega)
          have hsl : ds_58_3 + PS ws_35 ≤ PS ws + (0) := (by omega)
          refine W.widen (k := PC ws + (0)) (n := PS ws + (0)) (by omega) (by omega) ?_
          exact W.vret hx hb hr (fun t9 ht9 hW9 => ⟨⟨ws_35, rfl, (gP_of hD hk_23 (fun q90 e90 => by cases e90; exact (by have q_ps := ps; have q_fq_gq1 := fq_gq1; have q_fq_gq2 := fq_gq2; have q_iv_13 := iv_13; have q_kq_24 := kq_24; obtain ⟨u_z_31, q_z_31⟩ := i_add ez_31; have q_f_32 := f_32; have q_f_33 := f_33; have q_f1_1 := f1_1; have q_f2_1 := f2_1; have q_f3_1 := f3_1; have q_f4_1 := f4_1; have q_f5_1 := f5_1; have q_f2_2 := f2_2; have q_f3_2 := f3_2; have q_z_4 := i_len ez_4 f1_1; have q_iv_8 := iv_8; have q_iv_9 := dbl_le iv_9; obtain ⟨u_z_12, q_z_12⟩ := i_add ez_12; have q_z_16 := i_len ez_16 f1_1; have q_f3_22 := f3_22; have q_f1_23 := f1_23; have q_f3_23 := f3_23; have q_f4_23 := f4_23; have q_f5_23 := f5_23; have q_f1_2 := f1_2; have q_f4_2 := f4_2; have q_f5_2 := f5_2; have q_iv_7 := iv_7; have q_f1_22 := f1_22; have q_f4_22 := f4_22; have q_f5_22 := f5_22; have g_c1_1 := i_rg c1_1; have g_c1_2 := i_rg c1_2; have g_q1 := i_rg q1; have g_q2 := i_rg q2; have g_v2_5 := i_rg v2_5; have g_v3_6 := i_rg v3_6; have g_z_12 := i_rg z_12; have g_z_16 := i_rg z_16; have g_z_31 := i_rg z_31; have g_z_4 := i_rg z_4; omega))), ⟨(E_18.tr (E_28.tr E_36)), (gF.tr (gF.mo (F' := [(0, 0), (0, 1)]) (C' := [(0, 0), (6, 0)]) (S' := (some h0)) Fr_19 (by decide) (fun _ h => absurd h List.not_mem_nil) (Or.inr rfl)) (gF.tr (gF.mo (F' := [(0, 0), (0, 1)]) (C' := [(0, 0), (6, 0)]) (S' := (some h0)) Fr_29 (fun _ h => absurd h List.not_mem_nil) (fun _ h => h) (Or.inr rfl)) (gF.mo (F' := [(0, 0), (0, 1)]) (C' := [(0, 0), (6, 0)]) (S' := (some h0)) Fr_37 (by decide) (fun _ h => absurd h List.not_mem_nil) (Or.inr rfl)))), hG, by rw [ht9]; exact hP, hD, _, _, by rw [ht9]; exact hLd, hcl, hsl⟩⟩, hS.F ht9⟩) hS.2.2 dX0_putAll_91
        refine lv_icmp_le (tgt := 58) hx hb dX0_putAll_43 (by decide) (fun c_40 => ?_) (fun c_40 => ?_)
        · exact J_58 (dc_37_2) (ds_37_2) ws H locs ls (gE.rf) (gF.rf) hG (by omega) (by omega) (gP_of hD hk_1 (fun p90 q90 e90 g90 => by cases e90; have z90 := gI_n hD a_r0_1 g90; subst z90; exact (by have q_ps := ps; have q_f1_1 := f1_1; have q_f3_1 := f3_1; have q_f4_1 := f4_1; have q_f5_1 := f5_1; have q_fq_gq1 := fq_gq1; have q_fq_gq2 := fq_gq2; have q_z_4 := i_len ez_4 f1_1; have q_iv_8 := iv_8; have q_iv_13 := iv_13; have q_z_16 := i_len ez_16 f1_1; have q_f2_1 := f2_1; have q_f2_2 := f2_2; have q_f3_2 := f3_2; have q_iv_9 := dbl_le iv_9; obtain ⟨u_z_12, q_z_12⟩ := i_add ez_12; have q_c_40 := i_le c_40; have q_f1_2 := f1_2; have q_f4_2 := f4_2; have q_f5_2 := f5_2; have q_iv_7 := iv_7; have g_c1_1 := i_rg c1_1; have g_c1_2 := i_rg c1_2; have g_q1 := i_rg q1; have g_q2 := i_rg q2; have g_v2_5 := i_rg v2_5; have g_v3_6 := i_rg v3_6; have g_z_12 := i_rg z_12; have g_z_16 := i_rg z_16; have g_z_4 := i_rg z_4; omega))) hP hD hS (lv_sub hl [0, 1] rfl)
        · refine lv_aload_n hx hb dX0_putAll_46 rfl (lv_at hl 0 rfl) ?_
          refine lv_aload_n hx hb dX0_putAll_47 rfl (lv_at hl 0 rfl) ?_
          refine va_get (D := gD g) (ci := 0) (v := .ref r0_1) (C := RX0) (T := TX0) (N := 2) hx hb hts inX0 hown hK hP k_1 hk_1 rfl 0 (by decide) (hts _ kw_5) (fun _ h9 => h9) rfl dX0_putAll_48 ?_
          refine lv_iload_n hx hb dX0_putAll_51 rfl (lv_at hl 2 rfl) ?_
          have hFc := gfree hD hS hA
          have pg_41 := ge_0_0 hD hk_1 rfl a_r0_1
          have pg_42 := ge_0_0 hD hk_2 rfl a_r0_2
          refine W_led (fun hL0 => ?_)
          refine va_callq (va_runS (As := [.ref r0_1, .int v2_5]) (rest := [.ref h0]) ⟨hx, hb, hml, hown, hts⟩ (m_J7_copyOf_9075b l g H ws r0_1 (n0_1) (v2_5) (some h0) hG a_r0_1 f1_1 (by have q_iv_8 := iv_8; have q_iv_9 := dbl_le iv_9; have q_iv_13 := iv_13; have q_c_40 := i_nle c_40; have q_ps := ps; have q_f1_1 := f1_1; have q_f3_1 := f3_1; have q_f4_1 := f4_1; have q_f5_1 := f5_1; have q_fq_gq1 := fq_gq1; have q_fq_gq2 := fq_gq2; have q_z_4 := i_len ez_4 f1_1; have q_iv_7 := iv_7; have q_z_16 := i_len ez_16 f1_1; have q_f2_1 := f2_1; have q_f2_2 := f2_2; have q_f3_2 := f3_2; obtain ⟨u_z_12, q_z_12⟩ := i_add ez_12; have q_f1_2 := f1_2; have q_f4_2 := f4_2; have q_f5_2 := f5_2; have g_c1_1 := i_rg c1_1; have g_c1_2 := i_rg c1_2; have g_q1 := i_rg q1; have g_q2 := i_rg q2; have g_v2_5 := i_rg v2_5; have g_v3_6 := i_rg v3_6; have g_z_12 := i_rg z_12; have g_z_16 := i_rg z_16; have g_z_4 := i_rg z_4; omega) (by have q_iv_8 := iv_8; have q_iv_9 := dbl_le iv_9; have q_iv_13 := iv_13; have q_c_40 := i_nle c_40; have q_ps := ps; have q_f1_1 := f1_1; have q_f3_1 := f3_1; have q_f4_1 := f4_1; have q_f5_1 := f5_1; have q_fq_gq1 := fq_gq1; have q_fq_gq2 := fq_gq2; have q_z_4 := i_len ez_4 f1_1; have q_iv_7 := iv_7; have q_z_16 := i_len ez_16 f1_1; have q_f2_1 := f2_1; have q_f2_2 := f2_2; have q_f3_2 := f3_2; obtain ⟨u_z_12, q_z_12⟩ := i_add ez_12; have q_f1_2 := f1_2; have q_f4_2 := f4_2; have q_f5_2 := f5_2; have g_c1_1 := i_rg c1_1; have g_c1_2 := i_rg c1_2; have g_q1 := i_rg q1; have g_q2 := i_rg q2; have g_v2_5 := i_rg v2_5; have g_v3_6 := i_rg v3_6; have g_z_12 := i_rg z_12; have g_z_16 := i_rg z_16; have g_z_4 := i_rg z_4; omega) (by have q_f1_1 := f1_1; have q_f3_1 := f3_1; have q_f4_1 := f4_1; have q_f5_1 := f5_1; have q_z_4 := i_len ez_4 f1_1; have q_iv_8 := iv_8; have q_iv_9 := dbl_le iv_9; have q_iv_13 := iv_13; have q_z_16 := i_len ez_16 f1_1; have q_c_40 := i_nle c_40; have q_ps := ps; have q_f2_1 := f2_1; have q_fq_gq1 := fq_gq1; have q_fq_gq2 := fq_gq2; have q_iv_7 := iv_7; obtain ⟨u_z_12, q_z_12⟩ := i_add ez_12; have q_f2_2 := f2_2; have q_f3_2 := f3_2; have q_f1_2 := f1_2; have q_f4_2 := f4_2; have q_f5_2 := f5_2; have g_c1_1 := i_rg c1_1; have g_c1_2 := i_rg c1_2; have g_q1 := i_rg q1; have g_q2 := i_rg q2; have g_v2_5 := i_rg v2_5; have g_v3_6 := i_rg v3_6; have g_z_12 := i_rg z_12; have g_z_16 := i_rg z_16; have g_z_4 := i_rg z_4; omega)) (va_cwS 2 hts (gd_S kw_15 kw_1741 kw_1723 kw_1740) rfl rfl rfl (by decide +kernel) ⟨Nat.le_of_ble_eq_true rfl, Nat.le_of_ble_eq_true rfl⟩) ⟨gblindH, fun U hU hW9 => gmkH hU hW9 hP hK hD hex hE hS hFc⟩ rfl rfl hl.1 rfl (lv_room (Nat.le_of_ble_eq_true rfl)) dX0_putAll_52 ⟨(show dc_37_2 + (1) ≤ PC ws + (0) from (by have e1 : (1 : Int32).toInt = 1 := (by decide); have q_iv_8 := iv_8; have q_iv_9 := dbl_le iv_9; have q_iv_13 := iv_13; have q_c_40 := i_nle c_40; have q_ps := ps; have q_f1_1 := f1_1; have q_f3_1 := f3_1; have q_f4_1 := f4_1; have q_f5_1 := f5_1; have q_fq_gq1 := fq_gq1; have q_fq_gq2 := fq_gq2; have q_z_4 := i_len ez_4 f1_1; have q_iv_7 := iv_7; have q_z_16 := i_len ez_16 f1_1; have q_f2_1 := f2_1; have q_f2_2 := f2_2; have q_f3_2 := f3_2; obtain ⟨u_z_12, q_z_12⟩ := i_add ez_12; have q_f1_2 := f1_2; have q_f4_2 := f4_2; have q_f5_2 := f5_2; have g_c1_1 := i_rg c1_1; have g_c1_2 := i_rg c1_2; have g_q1 := i_rg q1; have g_q2 := i_rg q2; have g_v2_5 := i_rg v2_5; have g_v3_6 := i_rg v3_6; have g_z_12 := i_rg z_12; have g_z_16 := i_rg z_16; have g_z_4 := i_rg z_4; omega)), (show ds_37_2 + (v2_5.toInt.toNat) ≤ PS ws + (0) from (by have e1 : (1 : Int32).toInt = 1 := (by decide); have q_iv_8 := iv_8; have q_iv_9 := dbl_le iv_9; have q_iv_13 := iv_13; have q_c_40 := i_nle c_40; have q_ps := ps; have q_f1_1 := f1_1; have q_f3_1 := f3_1; have q_f4_1 := f4_1; have q_f5_1 := f5_1; have q_fq_gq1 := fq_gq1; have q_fq_gq2 := fq_gq2; have q_z_4 := i_len ez_4 f1_1; have q_iv_7 := iv_7; have q_z_16 := i_len ez_16 f1_1; have q_f2_1 := f2_1; have q_f2_2 := f2_2; have q_f3_2 := f3_2; obtain ⟨u_z_12, q_z_12⟩ := i_add ez_12; have q_f1_2 := f1_2; have q_f4_2 := f4_2; have q_f5_2 := f5_2; have g_c1_1 := i_rg c1_1; have g_c1_2 := i_rg c1_2; have g_q1 := i_rg q1; have g_q2 := i_rg q2; have g_v2_5 := i_rg v2_5; have g_v3_6 := i_rg v3_6; have g_z_12 := i_rg z_12; have g_z_16 := i_rg z_16; have g_z_4 := i_rg z_4; omega))⟩) hS (fun q _ h => hFc q h) hFc (fun r_43 ws_44 t9 H1 locs ht9 hvm9 hw9 hB9 hz9 hk9 hS => ?_)
          obtain ⟨E_45, Fr_46, hG, hP1, hD1, dc_47, ds_48, hLd, hdc_47, hds_48⟩ := hB9
          rw [ht9] at hLd
          refine W_tight (hL0.tr hLd).1 (hL0.tr hLd).2.1 ?_
          clear hL0 hLd
          have hP : va_P (gD g) cl0 ws_44 H1 := by rw [← ht9]; exact hP1
          have hD : va_D A ws_44 := hD1.weaken (fun _ _ _ h => hFc _ h)
          have o_r_43 := hw9
          clear hP1 hD1 hz9 hk9 hvm9 ht9 hw9
          generalize H1 = H at hP hS ⊢
          have aa_49 := a_r0_1
          have aa_50 := a_r0_2
          have o_h0 := E_45.1 _ _ o_h0
          have o_b1 := E_45.1 _ _ o_b1
          obtain ⟨b_51, n_52, rfl, a_b_51, s_b_51, fr_b_51, h_b_51⟩ := o_r_43
          obtain ⟨fs9, hk_53, hq_53⟩ := ((gF.a (F' := []) Fr_46 (fun _ h => h))) _ _ _ hk_1
          obtain ⟨r0_53, n0_53, c1_53, rfl, a_r0_53, f1_53, f2_53, f3_53, f4_53, f5_53, -⟩ := (hG.1 _ _ _ _ hk_53).hX0 rfl
          obtain rfl := fe_r (hq_53 0 (by decide))
          have hn9 := gI_n hD ((E_45).1 _ _ aa_49) a_r0_53
          subst hn9
          have a_r0_1 := a_r0_53
          obtain rfl := fe_i (hq_53 1 (by decide))
          have hV9 : okv ws_44 0 0 (.ref b_51) := (okv_a a_b_51 fr_b_51)
          have hD8 := hD
          refine va_put (D := gD g) (ci := 0) (v := .ref b_51) (ty := (.array .byte)) (C := RX0) (T := TX0) (N := 2) hx hb hts inX0 tyX0 tyX0_ok nmX0 hown hK hP hD hS k_1 hk_53 rfl 0 (by decide) (hts _ kw_5) (fun _ h9 => h9) rfl (by decide +kernel) rfl rfl (Nat.le_of_ble_eq_true rfl) dX0_putAll_55 (fun H locs hP hD hS => ?_)
          have f_54 : c1_1.toInt ≤ n_52 := (by have q_f2_1 := f2_1; have q_f3_1 := f3_1; have q_fq_gq1 := fq_gq1; obtain ⟨u_z_12, q_z_12⟩ := i_add ez_12; have q_s_b_51 := s_b_51; have q_b_51 := h_b_51; have q_ps := ps; have q_f1_1 := f1_1; have q_f4_1 := f4_1; have q_f5_1 := f5_1; have q_f2_2 := f2_2; have q_f3_2 := f3_2; have q_fq_gq2 := fq_gq2; have q_z_4 := i_len ez_4 f1_1; have q_iv_8 := iv_8; have q_iv_9 := dbl_le iv_9; have q_iv_13 := iv_13; have q_z_16 := i_len ez_16 f1_1; have q_c_40 := i_nle c_40; have q_f1_2 := f1_2; have q_f4_2 := f4_2; have q_f5_2 := f5_2; have q_iv_7 := iv_7; have g_c1_1 := i_rg c1_1; have g_c1_2 := i_rg c1_2; have g_q1 := i_rg q1; have g_q2 := i_rg q2; have g_v2_5 := i_rg v2_5; have g_v3_6 := i_rg v3_6; have g_z_12 := i_rg z_12; have g_z_16 := i_rg z_16; have g_z_4 := i_rg z_4; omega)
          have f_55 : 64 ≤ n_52 := (by have q_s_b_51 := s_b_51; have q_b_51 := h_b_51; have q_f_54 := f_54; have q_f2_1 := f2_1; have q_f3_1 := f3_1; have q_fq_gq1 := fq_gq1; have q_iv_8 := iv_8; have q_iv_9 := dbl_le iv_9; obtain ⟨u_z_12, q_z_12⟩ := i_add ez_12; have q_iv_13 := iv_13; have q_c_40 := i_nle c_40; have q_ps := ps; have q_f1_1 := f1_1; have q_f4_1 := f4_1; have q_f5_1 := f5_1; have q_f2_2 := f2_2; have q_f3_2 := f3_2; have q_fq_gq2 := fq_gq2; have q_z_4 := i_len ez_4 f1_1; have q_iv_7 := iv_7; have q_z_16 := i_len ez_16 f1_1; have q_f1_2 := f1_2; have q_f4_2 := f4_2; have q_f5_2 := f5_2; have g_c1_1 := i_rg c1_1; have g_c1_2 := i_rg c1_2; have g_q1 := i_rg q1; have g_q2 := i_rg q2; have g_v2_5 := i_rg v2_5; have g_v3_6 := i_rg v3_6; have g_z_12 := i_rg z_12; have g_z_16 := i_rg z_16; have g_z_4 := i_rg z_4; omega)
          have f_56 : n_52 ≤ 262144 := (by have q_s_b_51 := s_b_51; have q_b_51 := h_b_51; have q_f_54 := f_54; have q_f_55 := f_55; have q_f2_1 := f2_1; have q_f3_1 := f3_1; have q_fq_gq1 := fq_gq1; have q_iv_8 := iv_8; have q_iv_9 := dbl_le iv_9; obtain ⟨u_z_12, q_z_12⟩ := i_add ez_12; have q_iv_13 := iv_13; have q_c_40 := i_nle c_40; have q_ps := ps; have q_f1_1 := f1_1; have q_f4_1 := f4_1; have q_f5_1 := f5_1; have q_f2_2 := f2_2; have q_f3_2 := f3_2; have q_fq_gq2 := fq_gq2; have q_z_4 := i_len ez_4 f1_1; have q_iv_7 := iv_7; have q_z_16 := i_len ez_16 f1_1; have q_f1_2 := f1_2; have q_f4_2 := f4_2; have q_f5_2 := f5_2; have g_c1_1 := i_rg c1_1; have g_c1_2 := i_rg c1_2; have g_q1 := i_rg q1; have g_q2 := i_rg q2; have g_v2_5 := i_rg v2_5; have g_v3_6 := i_rg v3_6; have g_z_12 := i_rg z_12; have g_z_16 := i_rg z_16; have g_z_4 := i_rg z_4; omega)
          have hi_57 : invX0 g ws_44 h0 [.ref b_51, .int c1_1] := ⟨b_51, (n_52), (c1_1), rfl, a_b_51, s_b_51, f2_53, f_54, f_55, f_56, trivial⟩
          obtain ⟨ws_59, e_ws_59⟩ : ∃ z, z = ws_44.set k_1 (h0, .inr (0, [.ref b_51, .int c1_1])) := ⟨_, rfl⟩
          have hP : va_P (gD g) cl0 ws_59 H := by rw [e_ws_59]; exact hP
          have hD : va_D A ws_59 := by rw [e_ws_59]; exact hD
          have E_60 : gE ws_44 ws_59 := gE_set e_ws_59 hk_53 (cw_o (fi := 0) (v := .ref b_51) rfl (by decide))
          have hG : Good g ws_59 := Good_set (fi := 0) (v := .ref b_51) e_ws_59 hk_53 E_60 rfl hV9 hG (ivX0 hi_57)
          have Fr_61 : gF [(0, 0)] [] (some h0) ws_44 ws_59 := gF_put0 (fi := 0) (v := .ref b_51) e_ws_59 hk_53 rfl (gr_0_0 hD8 hk_53 rfl a_r0_1 e_ws_59 rfl a_b_51 (by have q_f1_1 := f1_1; have q_f3_1 := f3_1; have q_f4_1 := f4_1; have q_f5_1 := f5_1; have q_z_4 := i_len ez_4 f1_1; have q_iv_8 := iv_8; have q_iv_13 := iv_13; have q_z_16 := i_len ez_16 f1_1; have q_s_b_51 := s_b_51; have q_b_51 := h_b_51; have q_f_54 := f_54; have q_f_55 := f_55; have q_f_56 := f_56; have q_ps := ps; have q_f2_1 := f2_1; have q_fq_gq1 := fq_gq1; have q_fq_gq2 := fq_gq2; have q_iv_9 := dbl_le iv_9; obtain ⟨u_z_12, q_z_12⟩ := i_add ez_12; have q_c_40 := i_nle c_40; have q_f2_2 := f2_2; have q_f3_2 := f3_2; have q_iv_7 := iv_7; have q_f1_2 := f1_2; have q_f4_2 := f4_2; have q_f5_2 := f5_2; have g_c1_1 := i_rg c1_1; have g_c1_2 := i_rg c1_2; have g_q1 := i_rg q1; have g_q2 := i_rg q2; have g_v2_5 := i_rg v2_5; have g_v3_6 := i_rg v3_6; have g_z_12 := i_rg z_12; have g_z_16 := i_rg z_16; have g_z_4 := i_rg z_4; omega)).1
          have pg_58 := (gr_0_0 (ws := ws_44) hD8 hk_53 rfl a_r0_1 e_ws_59 rfl a_b_51 (by have q_f1_1 := f1_1; have q_f3_1 := f3_1; have q_f4_1 := f4_1; have q_f5_1 := f5_1; have q_z_4 := i_len ez_4 f1_1; have q_iv_8 := iv_8; have q_iv_13 := iv_13; have q_z_16 := i_len ez_16 f1_1; have q_s_b_51 := s_b_51; have q_b_51 := h_b_51; have q_f_54 := f_54; have q_f_55 := f_55; have q_f_56 := f_56; have q_ps := ps; have q_f2_1 := f2_1; have q_fq_gq1 := fq_gq1; have q_fq_gq2 := fq_gq2; have q_iv_9 := dbl_le iv_9; obtain ⟨u_z_12, q_z_12⟩ := i_add ez_12; have q_c_40 := i_nle c_40; have q_f2_2 := f2_2; have q_f3_2 := f3_2; have q_iv_7 := iv_7; have q_f1_2 := f1_2; have q_f4_2 := f4_2; have q_f5_2 := f5_2; have g_c1_1 := i_rg c1_1; have g_c1_2 := i_rg c1_2; have g_q1 := i_rg q1; have g_q2 := i_rg q2; have g_v2_5 := i_rg v2_5; have g_v3_6 := i_rg v3_6; have g_z_12 := i_rg z_12; have g_z_16 := i_rg z_16; have g_z_4 := i_rg z_4; omega)).2
          have hkN := gset_self e_ws_59 hk_53
          have hk_53 := hkN
          have o_h0 := E_60.1 _ _ o_h0
          have o_b1 := E_60.1 _ _ o_b1
          have a_b_51 := E_60.1 _ _ a_b_51
          exact J_58 (dc_37_2 + dc_47) (ds_37_2 + ds_48) ws_59 H locs ls ((E_45.tr E_60)) ((gF.tr (gF.mo (F' := [(0, 0)]) (C' := []) (S' := (some h0)) Fr_46 (fun _ h => absurd h List.not_mem_nil) (fun _ h => h) (Or.inr rfl)) Fr_61)) hG (by have q_f1_1 := f1_1; have q_f3_1 := f3_1; have q_f4_1 := f4_1; have q_f5_1 := f5_1; have q_z_4 := i_len ez_4 f1_1; have q_iv_8 := iv_8; have q_iv_9 := dbl_le iv_9; have q_iv_13 := iv_13; have q_z_16 := i_len ez_16 f1_1; have q_c_40 := i_nle c_40; have q_s_b_51 := s_b_51; have q_b_51 := h_b_51; have q_f_54 := f_54; have q_f_55 := f_55; have q_f_56 := f_56; have q_ps := ps; have q_f2_1 := f2_1; have q_fq_gq1 := fq_gq1; have q_fq_gq2 := fq_gq2; have q_iv_7 := iv_7; obtain ⟨u_z_12, q_z_12⟩ := i_add ez_12; have q_f2_2 := f2_2; have q_f3_2 := f3_2; have q_f1_2 := f1_2; have q_f4_2 := f4_2; have q_f5_2 := f5_2; have g_c1_1 := i_rg c1_1; have g_c1_2 := i_rg c1_2; have g_q1 := i_rg q1; have g_q2 := i_rg q2; have g_v2_5 := i_rg v2_5; have g_v3_6 := i_rg v3_6; have g_z_12 := i_rg z_12; have g_z_16 := i_rg z_16; have g_z_4 := i_rg z_4; omega) (by have q_f1_1 := f1_1; have q_f3_1 := f3_1; have q_f4_1 := f4_1; have q_f5_1 := f5_1; have q_z_4 := i_len ez_4 f1_1; have q_iv_8 := iv_8; have q_iv_9 := dbl_le iv_9; have q_iv_13 := iv_13; have q_z_16 := i_len ez_16 f1_1; have q_c_40 := i_nle c_40; have q_s_b_51 := s_b_51; have q_b_51 := h_b_51; have q_f_54 := f_54; have q_f_55 := f_55; have q_f_56 := f_56; have q_ps := ps; have q_f2_1 := f2_1; have q_fq_gq1 := fq_gq1; have q_fq_gq2 := fq_gq2; have q_iv_7 := iv_7; obtain ⟨u_z_12, q_z_12⟩ := i_add ez_12; have q_f2_2 := f2_2; have q_f3_2 := f3_2; have q_f1_2 := f1_2; have q_f4_2 := f4_2; have q_f5_2 := f5_2; have g_c1_1 := i_rg c1_1; have g_c1_2 := i_rg c1_2; have g_q1 := i_rg q1; have g_q2 := i_rg q2; have g_v2_5 := i_rg v2_5; have g_v3_6 := i_rg v3_6; have g_z_12 := i_rg z_12; have g_z_16 := i_rg z_16; have g_z_4 := i_rg z_4; omega) (gP_of hD hk_53 (fun p90 q90 e90 g90 => by cases e90; have z90 := gI_n hD a_b_51 g90; subst z90; exact (by have q_ps := ps; have q_fq_gq1 := fq_gq1; have q_fq_gq2 := fq_gq2; have q_iv_13 := iv_13; have q_s_b_51 := s_b_51; have q_b_51 := h_b_51; have q_f_54 := f_54; have q_f_55 := f_55; have q_f_56 := f_56; have q_f1_1 := f1_1; have q_f2_1 := f2_1; have q_f3_1 := f3_1; have q_f4_1 := f4_1; have q_f5_1 := f5_1; have q_f2_2 := f2_2; have q_f3_2 := f3_2; have q_z_4 := i_len ez_4 f1_1; have q_iv_8 := iv_8; have q_iv_9 := dbl_le iv_9; obtain ⟨u_z_12, q_z_12⟩ := i_add ez_12; have q_z_16 := i_len ez_16 f1_1; have q_c_40 := i_nle c_40; have q_f1_2 := f1_2; have q_f4_2 := f4_2; have q_f5_2 := f5_2; have q_iv_7 := iv_7; have g_c1_1 := i_rg c1_1; have g_c1_2 := i_rg c1_2; have g_q1 := i_rg q1; have g_q2 := i_rg q2; have g_v2_5 := i_rg v2_5; have g_v3_6 := i_rg v3_6; have g_z_12 := i_rg z_12; have g_z_16 := i_rg z_16; have g_z_4 := i_rg z_4; omega))) hP hD hS (lv_sub hl [0, 1] rfl)
      refine lv_icmp_ge (tgt := 37) hx hb dX0_putAll_18 (by decide) (fun c_62 => ?_) (fun c_62 => ?_)
      · exact J_37 (dc_8_1) (ds_8_1) H locs ls (by have q_ps := ps; have q_f1_1 := f1_1; have q_f3_1 := f3_1; have q_f4_1 := f4_1; have q_f5_1 := f5_1; have q_fq_gq1 := fq_gq1; have q_fq_gq2 := fq_gq2; have q_z_4 := i_len ez_4 f1_1; have q_iv_8 := iv_8; have q_iv_9 := dbl_le iv_9; have q_c_62 := i_le c_62; have q_f2_1 := f2_1; have q_f2_2 := f2_2; have q_f3_2 := f3_2; have q_iv_7 := iv_7; obtain ⟨u_z_12, q_z_12⟩ := i_add ez_12; have q_f1_2 := f1_2; have q_f4_2 := f4_2; have q_f5_2 := f5_2; have g_c1_1 := i_rg c1_1; have g_c1_2 := i_rg c1_2; have g_q1 := i_rg q1; have g_q2 := i_rg q2; have g_v2_5 := i_rg v2_5; have g_v3_6 := i_rg v3_6; have g_z_12 := i_rg z_12; have g_z_4 := i_rg z_4; omega) (by omega) (by omega) hP hD hS (lv_sub hl [0, 1, 2] rfl)
      · refine lv_iload_n hx hb dX0_putAll_21 rfl (lv_at hl 3 rfl) ?_
        refine lv_bipush (v := 31) hx hb dX0_putAll_22 (by decide) ?_
        refine lv_icmp_ge (tgt := 37) hx hb dX0_putAll_24 (by decide) (fun c_63 => ?_) (fun c_63 => ?_)
        · exact False.elim (by have e31 : (31 : Int32).toInt = 31 := (by decide); have q_iv_7 := iv_7; have q_iv_9 := dbl_le iv_9; have q_c_63 := i_le c_63; have q_iv_8 := iv_8; have q_c_62 := i_nle c_62; have q_f1_1 := f1_1; have q_f3_1 := f3_1; have q_f4_1 := f4_1; have q_f5_1 := f5_1; have q_z_4 := i_len ez_4 f1_1; obtain ⟨u_z_12, q_z_12⟩ := i_add ez_12; have q_f2_1 := f2_1; have q_fq_gq1 := fq_gq1; have q_f2_2 := f2_2; have q_f3_2 := f3_2; have q_fq_gq2 := fq_gq2; have g_c1_1 := i_rg c1_1; have g_c1_2 := i_rg c1_2; have g_q1 := i_rg q1; have g_q2 := i_rg q2; have g_v2_5 := i_rg v2_5; have g_v3_6 := i_rg v3_6; have g_z_12 := i_rg z_12; have g_z_4 := i_rg z_4; omega)
        · refine lv_iload_n hx hb dX0_putAll_27 rfl (lv_at hl 2 rfl) ?_
          refine lv_iconst (v := 2) hx hb dX0_putAll_28 (by decide) ?_
          refine lv_imul hx hb dX0_putAll_29 ?_
          refine lv_topi (fun z_64 ez_64 => ?_)
          refine lv_istore_n (lv' := [(2, .int z_64), (0, .ref h0), (1, .ref b1), (3, .int v3_6)]) hx hb dX0_putAll_30 rfl hl (by decide) rfl (fun ls hl => ?_)
          obtain ⟨z_65, ez_65⟩ : ∃ z : Int32, v3_6 + Int32.ofInt 1 = z := ⟨_, rfl⟩
          refine lv_iinc (v := z_65) (lv' := [(3, .int z_65), (2, .int z_64), (0, .ref h0), (1, .ref b1)]) hx hb dX0_putAll_31 hl (k := 3) rfl ez_65 (by decide) rfl (fun ls hl => ?_)
          refine lv_goto (tgt := 8) hx hb dX0_putAll_34 (by decide) ?_
          exact ih_8 _ (by have e31 : (31 : Int32).toInt = 31 := (by decide); have q_z_64 := i_mulR (c := 2) (K := 1073741823) ez_64 (by decide) (by decide) (by decide) (by decide); obtain ⟨u_z_65, q_z_65⟩ := i_iz ez_65 (by decide) (by decide); have q_iv_7 := iv_7; have q_iv_8 := iv_8; have q_iv_9 := dbl_le iv_9; have q_c_62 := i_nle c_62; have q_c_63 := i_nle c_63; have q_f1_1 := f1_1; have q_f3_1 := f3_1; have q_f4_1 := f4_1; have q_f5_1 := f5_1; have q_z_4 := i_len ez_4 f1_1; obtain ⟨u_z_12, q_z_12⟩ := i_add ez_12; have q_f2_1 := f2_1; have q_fq_gq1 := fq_gq1; have q_f2_2 := f2_2; have q_f3_2 := f3_2; have q_fq_gq2 := fq_gq2; have g_c1_1 := i_rg c1_1; have g_c1_2 := i_rg c1_2; have g_q1 := i_rg q1; have g_q2 := i_rg q2; have g_v2_5 := i_rg v2_5; have g_v3_6 := i_rg v3_6; have g_z_12 := i_rg z_12; have g_z_4 := i_rg z_4; have g_z_64 := i_rg z_64; have g_z_65 := i_rg z_65; omega) (z_64) (z_65) (dc_8_1) (ds_8_1) H locs ls rfl (by have e31 : (31 : Int32).toInt = 31 := (by decide); obtain ⟨u_z_65, q_z_65⟩ := i_iz ez_65 (by decide) (by decide); have q_iv_7 := iv_7; have q_iv_9 := dbl_le iv_9; have q_c_63 := i_nle c_63; have q_iv_8 := iv_8; have q_c_62 := i_nle c_62; have q_z_64 := i_mulR (c := 2) (K := 1073741823) ez_64 (by decide) (by decide) (by decide) (by decide); have q_f1_1 := f1_1; have q_f3_1 := f3_1; have q_f4_1 := f4_1; have q_f5_1 := f5_1; have q_z_4 := i_len ez_4 f1_1; obtain ⟨u_z_12, q_z_12⟩ := i_add ez_12; have g_c1_1 := i_rg c1_1; have g_c1_2 := i_rg c1_2; have g_v2_5 := i_rg v2_5; have g_v3_6 := i_rg v3_6; have g_z_12 := i_rg z_12; have g_z_4 := i_rg z_4; have g_z_64 := i_rg z_64; have g_z_65 := i_rg z_65; omega) (by have e31 : (31 : Int32).toInt = 31 := (by decide); have q_f1_1 := f1_1; have q_f3_1 := f3_1; have q_f4_1 := f4_1; have q_f5_1 := f5_1; have q_z_4 := i_len ez_4 f1_1; have q_iv_8 := iv_8; have q_z_64 := i_mulR (c := 2) (K := 1073741823) ez_64 (by decide) (by decide) (by decide) (by decide); obtain ⟨u_z_65, q_z_65⟩ := i_iz ez_65 (by decide) (by decide); have q_f2_1 := f2_1; have q_fq_gq1 := fq_gq1; have q_iv_7 := iv_7; have q_iv_9 := dbl_le iv_9; obtain ⟨u_z_12, q_z_12⟩ := i_add ez_12; have q_c_62 := i_nle c_62; have q_c_63 := i_nle c_63; have q_ps := ps; have q_f2_2 := f2_2; have q_f3_2 := f3_2; have q_fq_gq2 := fq_gq2; have q_f1_2 := f1_2; have q_f4_2 := f4_2; have q_f5_2 := f5_2; have g_c1_1 := i_rg c1_1; have g_c1_2 := i_rg c1_2; have g_q1 := i_rg q1; have g_q2 := i_rg q2; have g_v2_5 := i_rg v2_5; have g_v3_6 := i_rg v3_6; have g_z_12 := i_rg z_12; have g_z_4 := i_rg z_4; have g_z_64 := i_rg z_64; have g_z_65 := i_rg z_65; omega) (dbl_st iv_9 (by have e31 : (31 : Int32).toInt = 31 := (by decide); have q_z_64 := i_mulR (c := 2) (K := 1073741823) ez_64 (by decide) (by decide) (by decide) (by decide); have q_iv_8 := iv_8; have q_iv_9 := dbl_le iv_9; have q_c_62 := i_nle c_62; have q_f1_1 := f1_1; have q_f3_1 := f3_1; have q_f4_1 := f4_1; have q_f5_1 := f5_1; have q_z_4 := i_len ez_4 f1_1; have q_iv_7 := iv_7; obtain ⟨u_z_12, q_z_12⟩ := i_add ez_12; have q_c_63 := i_nle c_63; obtain ⟨u_z_65, q_z_65⟩ := i_iz ez_65 (by decide) (by decide); have q_f2_1 := f2_1; have q_fq_gq1 := fq_gq1; have q_f2_2 := f2_2; have q_f3_2 := f3_2; have q_fq_gq2 := fq_gq2; have g_c1_1 := i_rg c1_1; have g_c1_2 := i_rg c1_2; have g_q1 := i_rg q1; have g_q2 := i_rg q2; have g_v2_5 := i_rg v2_5; have g_v3_6 := i_rg v3_6; have g_z_12 := i_rg z_12; have g_z_4 := i_rg z_4; have g_z_64 := i_rg z_64; have g_z_65 := i_rg z_65; omega) (by have e31 : (31 : Int32).toInt = 31 := (by decide); obtain ⟨u_z_65, q_z_65⟩ := i_iz ez_65 (by decide) (by decide); have q_iv_7 := iv_7; have q_iv_9 := dbl_le iv_9; have q_c_63 := i_nle c_63; have q_iv_8 := iv_8; have q_c_62 := i_nle c_62; have q_z_64 := i_mulR (c := 2) (K := 1073741823) ez_64 (by decide) (by decide) (by decide) (by decide); have q_f1_1 := f1_1; have q_f3_1 := f3_1; have q_f4_1 := f4_1; have q_f5_1 := f5_1; have q_z_4 := i_len ez_4 f1_1; obtain ⟨u_z_12, q_z_12⟩ := i_add ez_12; have g_c1_1 := i_rg c1_1; have g_c1_2 := i_rg c1_2; have g_v2_5 := i_rg v2_5; have g_v3_6 := i_rg v3_6; have g_z_12 := i_rg z_12; have g_z_4 := i_rg z_4; have g_z_64 := i_rg z_64; have g_z_65 := i_rg z_65; omega) (by have e31 : (31 : Int32).toInt = 31 := (by decide); obtain ⟨u_z_65, q_z_65⟩ := i_iz ez_65 (by decide) (by decide); have q_iv_7 := iv_7; have q_iv_9 := dbl_le iv_9; have q_c_63 := i_nle c_63; have q_iv_8 := iv_8; have q_c_62 := i_nle c_62; have q_z_64 := i_mulR (c := 2) (K := 1073741823) ez_64 (by decide) (by decide) (by decide) (by decide); have q_f1_1 := f1_1; have q_f3_1 := f3_1; have q_f4_1 := f4_1; have q_f5_1 := f5_1; have q_z_4 := i_len ez_4 f1_1; obtain ⟨u_z_12, q_z_12⟩ := i_add ez_12; have g_c1_1 := i_rg c1_1; have g_c1_2 := i_rg c1_2; have g_v2_5 := i_rg v2_5; have g_v3_6 := i_rg v3_6; have g_z_12 := i_rg z_12; have g_z_4 := i_rg z_4; have g_z_64 := i_rg z_64; have g_z_65 := i_rg z_65; omega)) (by omega) (by omega) hP hD hS (lv_sub hl [2, 3, 1, 0] rfl)
  exact J_8 _ (z_4) (0) (0) (0) _ _ ls rfl (by have e0 : (0 : Int32).toInt = 0 := (by decide); omega) (by have e0 : (0 : Int32).toInt = 0 := (by decide); have q_f1_1 := f1_1; have q_f3_1 := f3_1; have q_f4_1 := f4_1; have q_f5_1 := f5_1; have q_z_4 := i_len ez_4 f1_1; have q_f2_1 := f2_1; have q_fq_gq1 := fq_gq1; have q_ps := ps; have q_fq_gq2 := fq_gq2; have g_c1_1 := i_rg c1_1; have g_c1_2 := i_rg c1_2; have g_q1 := i_rg q1; have g_q2 := i_rg q2; have g_z_4 := i_rg z_4; omega) (dbl_0 (by have q_z_4 := i_len ez_4 f1_1; have q_f1_1 := f1_1; have q_f3_1 := f3_1; have q_f4_1 := f4_1; have q_f5_1 := f5_1; have q_f2_1 := f2_1; have q_fq_gq1 := fq_gq1; have q_ps := ps; have g_c1_1 := i_rg c1_1; have g_q1 := i_rg q1; have g_q2 := i_rg q2; have g_z_4 := i_rg z_4; omega)) (by have e0 : (0 : Int32).toInt = 0 := (by decide); omega) (by have e0 : (0 : Int32).toInt = 0 := (by decide); omega) hP hD hS (lv_sub hl [2, 3, 1, 0] rfl)
set_option maxHeartbeats 1000000 in
set_option maxRecDepth 100000 in
theorem m_X0_get (l : Launch) (g : Gm) (sz : Nat) (ws : va_W) (h0 : Nat) (x1 : Int32) (hG : Good g ws) (o_h0 : gC ws h0 0) : Met l yX0_get (wt yX0_get cX0_get 2 (some .int)) ({ frames := 0, cells := 0, slots := 0, locals := 0 }) (va_Pc [.ref h0, .int x1] (st_G g sz ws)) (va_Qi (fun (r : Int32) (u9 : Unit) => True) (gQ0 g (va_A ws sz) ws) (va_A ws sz)) (0) (0) (va_A ws sz) := by
  refine Met.ofW (cc := cX0_get) (maxL := 2) (ret := (some .int)) (by decide) rfl ?_
  intro p e s m args below meth c s₁ B hml hv
  obtain ⟨rfl, hsz, hP, hK, hD0, hex, hE⟩ := hv
  have hx := B.exec
  have hb := B.bytes
  have hr := B.returns
  have hts0 := atoms_spec (ws := wt yX0_get cX0_get 2 (some .int)) B.pre
  have hts : ∀ w ∈ tb, w.before _ s = true := fun w h => hts0 w (List.mem_cons_of_mem _ h)
  have hown : s.vm.findClass RX0 = some m.cls := findClass_of_methodNamed B.named
  subst hsz
  have hD := hD0.self (sz := s.heap.size)
  generalize hAe : va_A ws s.heap.size = A at hD hE ⊢
  have hA : ∀ q : Nat, s.heap.size ≤ q → A q := fun q h => by rw [← hAe]; exact Or.inr h
  have hS : va_S A s.heap s.heap [] := va_S.rf
  have hl := lv_entry ([.ref h0, .int x1]) (n := 2) (Nat.le_of_ble_eq_true rfl)
  rw [lg_entry_eq]
  generalize (lg_sl ([.ref h0, .int x1]) ++ List.replicate (2 - (lg_sl ([.ref h0, .int x1])).length) Slot.unset).toArray = ls at hl ⊢
  have hl : lv_has ls 2 [(0, .ref h0), (1, .int x1)] := hl
  refine lv_iload_n hx hb dX0_get_0 rfl (lv_at hl 1 rfl) ?_
  have J_26 : ∀ (t_1 : Int32) (H : Heap) (locs : List Loc) (ls : Array Slot), va_P (gD g) cl0 ws H → va_D A ws → va_S A s.heap H locs → lv_has ls 2 [] → W p l e (headSpec (wt yX0_get cX0_get 2 (some .int)) ({ frames := 0, cells := 0, slots := 0, locals := 0 })).room s m ([.ref h0, .int x1] : List Value).toArray below meth c H locs (0) (0) (MQ below (va_Qi (fun (r : Int32) (u9 : Unit) => True) (gQ0 g A ws) A) ([.ref h0, .int x1] : List Value).toArray s (0) (0) A) (F0 m 26 ls [.int t_1]) := by
    intro t_1 H locs ls  hP hD hS hl
    refine W.widen (k := 0) (n := 0) (Nat.le_of_ble_eq_true rfl) (Nat.le_of_ble_eq_true rfl) ?_
    exact W.iret (v := t_1) hx hb hr (fun t9 ht9 hW9 => ⟨⟨_, (), rfl, trivial, ⟨by rw [ht9]; exact hP, hD⟩⟩, hS.F ht9⟩) hS.2.2 dX0_get_26
  have J_12 : ∀  (H : Heap) (locs : List Loc) (ls : Array Slot), va_P (gD g) cl0 ws H → va_D A ws → va_S A s.heap H locs → lv_has ls 2 [] → W p l e (headSpec (wt yX0_get cX0_get 2 (some .int)) ({ frames := 0, cells := 0, slots := 0, locals := 0 })).room s m ([.ref h0, .int x1] : List Value).toArray below meth c H locs (0) (0) (MQ below (va_Qi (fun (r : Int32) (u9 : Unit) => True) (gQ0 g A ws) A) ([.ref h0, .int x1] : List Value).toArray s (0) (0) A) (F0 m 12 ls []) := by
    intro  H locs ls  hP hD hS hl
    refine lv_iconst (v := 0) hx hb dX0_get_12 (by decide) ?_
    refine lv_goto (tgt := 26) hx hb dX0_get_13 (by decide) ?_
    exact J_26 (0) H locs ls  hP hD hS (lv_sub hl [] rfl)
  refine lv_if_lt (tgt := 12) hx hb dX0_get_1 (by decide) (fun c_6 => ?_) (fun c_6 => ?_)
  · exact J_12  _ _ ls  hP hD hS (lv_sub hl [] rfl)
  · refine lv_iload_n hx hb dX0_get_4 rfl (lv_at hl 1 rfl) ?_
    refine lv_aload_n hx hb dX0_get_5 rfl (lv_at hl 0 rfl) ?_
    obtain ⟨k_7, fs9, hk_7⟩ := gC_of o_h0
    obtain ⟨r0_7, n0_7, c1_7, rfl, a_r0_7, f1_7, f2_7, f3_7, f4_7, f5_7, -⟩ := (hG.1 _ _ _ _ hk_7).hX0 rfl
    refine va_get (D := gD g) (ci := 0) (v := .int c1_7) (C := RX0) (T := TX0) (N := 2) hx hb hts inX0 hown hK hP k_7 hk_7 rfl 1 (by decide) (hts _ kw_4) (fun _ h9 => h9) rfl dX0_get_6 ?_
    refine lv_icmp_lt (tgt := 16) hx hb dX0_get_9 (by decide) (fun c_8 => ?_) (fun c_8 => ?_)
    · refine lv_aload_n hx hb dX0_get_16 rfl (lv_at hl 0 rfl) ?_
      refine va_get (D := gD g) (ci := 0) (v := .ref r0_7) (C := RX0) (T := TX0) (N := 2) hx hb hts inX0 hown hK hP k_7 hk_7 rfl 0 (by decide) (hts _ kw_5) (fun _ h9 => h9) rfl dX0_get_17 ?_
      refine lv_iload_n hx hb dX0_get_20 rfl (lv_at hl 1 rfl) ?_
      obtain ⟨k_9, f_9, hk_9⟩ := gI_of a_r0_7
      refine va_bald hx hb hK hP k_9 0 hk_9 rfl (i_in2 (by have e0 : (0 : Int32).toInt = 0 := (by decide); have q_c_6 := i_nlt c_6; have q_f1_7 := f1_7; have q_f3_7 := f3_7; have q_f4_7 := f4_7; have q_f5_7 := f5_7; have q_c_8 := i_lt c_8; have q_f2_7 := f2_7; have g_c1_7 := i_rg c1_7; have g_x1 := i_rg x1; omega)) dX0_get_21 ?_
      refine lv_topi (fun z_10 ez_10 => ?_)
      refine lv_sipush (v := 255) hx hb dX0_get_22 (by decide) ?_
      refine lv_iand hx hb dX0_get_25 ?_
      refine lv_topi (fun z_11 ez_11 => ?_)
      exact J_26 (z_11) _ _ ls  hP hD hS (lv_sub hl [] rfl)
    · exact J_12  _ _ ls  hP hD hS (lv_sub hl [] rfl)
