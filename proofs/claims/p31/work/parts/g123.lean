def w_file (S : MS) (Q : Int32 → MS → Prop) : Prop := (((qI S 0 1).toInt = 12 → Q (-2 : Int32) S) ∧ (¬ (qI S 0 1).toInt = 12 → (∀ a2 : Int32, a2 = (qI S 0 4) → (∀ S3, S3 = wI S 0 4 0 → (∀ S4, S4 = wI S3 0 9 0 → (∀ S5, S5 = wI S4 0 10 (-1) → (∃ Q6 EQ6, w_readFile S5 2 a2 Q6 EQ6 ∧ (∀ b13 S8, Q6 b13 S8 → (∃ Q14, w_kept S8 b13 Q14 ∧ ∀ r15 S16, Q14 r15 S16 → Q r15 S16)) ∧ (∀ u9, EQ6 u9 → (∀ S9, S9 = wI u9 0 9 (qI u9 0 7) → (∀ S10, S10 = wI S9 0 10 (qI S9 0 8) → Q (-1 : Int32) S10))))))))))
set_option maxHeartbeats 2000000 in
set_option maxRecDepth 100000 in
theorem r_file (l : Launch) (g : Gr) (ad : Nat → Nat) (H0 : Heap) (S : MS) (hw : wfM S) (Q : Int32 → MS → Prop) (h : w_file S Q) : vx_Met l yX14_file (wtw2 yX14_file cX14_file 3 (some .int) [(32, 45, 46, 19)]) ({ frames := 9, cells := KC - qn S, slots := KS - qu S, locals := 205 }) (va_Pc [.ref (ad 0)] (st_RH g ad H0 S)) (va_Qi (fun (r : Int32) (u : MS × (Nat → Nat)) => Q r u.1 ∧ wfM u.1 ∧ shx S u.1 ∧ adk ad u.2 S) (fun (u : MS × (Nat → Nat)) (t : State) => qEH g (va_A (Wd g ad S) H0.size) S H0 u t) (va_A (Wd g ad S) H0.size)) (vx_X (fun _ : Unit => False) (fun _ _ _ => True) (va_A (Wd g ad S) H0.size)) (KC - qn S) (KS - qu S) (va_A (Wd g ad S) H0.size) := by
  refine vx_ofWH (cc := cX14_file) (maxL := 3) (ret := (some .int)) (hh := [(32, 45, 46, 19)]) (by decide) rfl ?_
  intro p e s m args below meth c s₁ B hml hv
  obtain ⟨rfl, hH0, hsz, hP, hK, hD0, hex, hE⟩ := hv
  have hx := B.exec
  have hb := B.bytes
  have hr := B.returns
  have hts0 := atoms_spec (ws := wtw2 yX14_file cX14_file 3 (some .int) [(32, 45, 46, 19)]) B.pre
  have hts : ∀ w ∈ tb2, w.before _ s = true := fun w h => hts0 w (List.mem_cons_of_mem _ h)
  have hown : s.vm.findClass RX14 = some m.cls := findClass_of_methodNamed B.named
  subst hH0
  have hD := hD0.self (sz := s.heap.size)
  generalize hAe : va_A (Wd g ad S) s.heap.size = A at hD hE ⊢
  have hA : ∀ q : Nat, s.heap.size ≤ q → A q := fun q h => by rw [← hAe]; exact Or.inr h
  have hR : Rep g ad A s S s.heap [] := ⟨hK, hP, hD, va_S.rf, hw⟩
  clear hK hP hD hD0
  have hl := lv_entry ([.ref (ad 0)]) (n := 3) (Nat.le_of_ble_eq_true rfl)
  rw [lg_entry_eq]
  generalize (lg_sl ([.ref (ad 0)]) ++ List.replicate (3 - (lg_sl ([.ref (ad 0)])).length) Slot.unset).toArray = ls at hl ⊢
  have hlg : lg S S 0 0 := lg.rf
  have hak : adk ad ad S := adk.rf
  have hl : lv_has ls 3 [(0, .ref (ad 0))] := hl
  have hsh : shx S S := shx.rf
  unfold w_file at h
  refine lv_aload_n hx hb dX14_file_0 rfl (lv_at hl 0 rfl) ?_
  refine va_get (D := rD g) (ci := 13) (v := .int (qI S 0 1)) (C := RX14) (T := TX14) (N := 143) hx hb hts in2X14 hown hR.K hR.P 0 (hR.at14 hR.w.1) rfl 1 (by decide) (hts _ kx_348) (fun _ h9 => h9) rfl dX14_file_1 ?_
  refine lv_bipush (v := 12) hx hb dX14_file_4 (by decide) ?_
  refine lv_icmp_ne (tgt := 12) hx hb dX14_file_6 (by decide) (fun c1 => ?_) (fun c1 => ?_)
  · replace h := h.2 (k_ne rfl (by decide) c1)
    refine lv_aload_n hx hb dX14_file_12 rfl (lv_at hl 0 rfl) ?_
    refine va_get (D := rD g) (ci := 13) (v := .int (qI S 0 4)) (C := RX14) (T := TX14) (N := 143) hx hb hts in2X14 hown hR.K hR.P 0 (hR.at14 hR.w.1) rfl 4 (by decide) (hts _ kx_167) (fun _ h9 => h9) rfl dX14_file_13 ?_
    obtain ⟨a2, ea2⟩ : ∃ z, z = (qI S 0 4) := ⟨_, rfl⟩
    rw [← ea2]
    replace h := h a2 ea2
    refine lv_istore_n (lv' := [(1, .int a2), (0, .ref (ad 0))]) hx hb dX14_file_16 rfl hl (by decide) rfl (fun ls hl => ?_)
    refine lv_aload_n hx hb dX14_file_17 rfl (lv_at hl 1 rfl) ?_
    refine lv_iconst (v := 0) hx hb dX14_file_18 (by decide) ?_
    refine va_put (D := rD g) (ci := 13) (v := .int 0) (ty := .int) (C := RX14) (T := TX14) (N := 143) hx hb hts in2X14 tyX14 tyX14_ok nmX14 hown hR.K hR.P hR.D hR.sS 0 (hR.at14 hR.w.1) rfl 4 (by decide) (hts _ kx_167) (fun _ h9 => h9) rfl (by decide +kernel) rfl rfl (Nat.le_of_ble_eq_true rfl) dX14_file_19 (fun H locs hP hD hS => ?_)
    have hR : Rep g ad A s (wI S 0 4 0) H locs := hR.pI hR.w.1 F14_s4 hP hD hS
    obtain ⟨S3, eS3⟩ : ∃ z, z = wI S 0 4 0 := ⟨_, rfl⟩
    rw [← eS3] at hR
    replace h := h S3 eS3
    have hsh : shx S S3 := by rw [eS3]; exact hsh
    have hlg : lg S S3 (0) (0) := by rw [eS3]; exact hlg
    refine lv_aload_n hx hb dX14_file_22 rfl (lv_at hl 1 rfl) ?_
    refine lv_iconst (v := 0) hx hb dX14_file_23 (by decide) ?_
    refine va_put (D := rD g) (ci := 13) (v := .int 0) (ty := .int) (C := RX14) (T := TX14) (N := 143) hx hb hts in2X14 tyX14 tyX14_ok nmX14 hown hR.K hR.P hR.D hR.sS 0 (hR.at14 hR.w.1) rfl 9 (by decide) (hts _ kx_179) (fun _ h9 => h9) rfl (by decide +kernel) rfl rfl (Nat.le_of_ble_eq_true rfl) dX14_file_24 (fun H locs hP hD hS => ?_)
    have hR : Rep g ad A s (wI S3 0 9 0) H locs := hR.pI hR.w.1 F14_s9 hP hD hS
    obtain ⟨S4, eS4⟩ : ∃ z, z = wI S3 0 9 0 := ⟨_, rfl⟩
    rw [← eS4] at hR
    replace h := h S4 eS4
    have hsh : shx S S4 := by rw [eS4]; exact hsh
    have hlg : lg S S4 (0) (0) := by rw [eS4]; exact hlg
    refine lv_aload_n hx hb dX14_file_27 rfl (lv_at hl 1 rfl) ?_
    refine lv_iconst (v := (-1)) hx hb dX14_file_28 (by decide) ?_
    refine va_put (D := rD g) (ci := 13) (v := .int (-1)) (ty := .int) (C := RX14) (T := TX14) (N := 143) hx hb hts in2X14 tyX14 tyX14_ok nmX14 hown hR.K hR.P hR.D hR.sS 0 (hR.at14 hR.w.1) rfl 10 (by decide) (hts _ kx_180) (fun _ h9 => h9) rfl (by decide +kernel) rfl rfl (Nat.le_of_ble_eq_true rfl) dX14_file_29 (fun H locs hP hD hS => ?_)
    have hR : Rep g ad A s (wI S4 0 10 (-1)) H locs := hR.pI hR.w.1 F14_s10 hP hD hS
    obtain ⟨S5, eS5⟩ : ∃ z, z = wI S4 0 10 (-1) := ⟨_, rfl⟩
    rw [← eS5] at hR
    replace h := h S5 eS5
    have hsh : shx S S5 := by rw [eS5]; exact hsh
    have hlg : lg S S5 (0) (0) := by rw [eS5]; exact hlg
    refine lv_aload_n hx hb dX14_file_32 rfl (lv_at hl 1 rfl) ?_
    refine lv_aload_n hx hb dX14_file_33 rfl (lv_at hl 1 rfl) ?_
    refine lv_aload_n hx hb dX14_file_34 rfl (lv_at hl 1 rfl) ?_
    refine va_get (D := rD g) (ci := 13) (v := .ref (ad 2)) (C := RX14) (T := TX14) (N := 143) hx hb hts in2X14 hown hR.K hR.P 0 (hR.at14 hR.w.1) rfl 3 (by decide) (hts _ kx_170) (fun _ h9 => h9) (congrArg (fun z => some (vf ad z)) (hR.w.2.1 _ fin_3).1) dX14_file_35 ?_
    refine lv_iload_n hx hb dX14_file_38 rfl (lv_at hl 0 rfl) ?_
    obtain ⟨Q6, EQ6, h0, h⟩ := h
    have hFc := rfree hR hA
    refine W_led2 (fun hL0 => ?_)
    refine vx_callq (vx_runV (As := [.ref (ad 2), .int a2]) (rest := [.ref (ad 0)]) ⟨hx, hb, hml, hown, hts⟩ (r_readFile l g ad H S5 2 a2 hR.w (hR.w.2.1 _ fin_3).2.1 Q6 EQ6 h0) (cwV 2 hts (gd2_V kx_1093 kx_1094 kx_1095 kx_177 kx_1096) rfl rfl rfl (by decide +kernel) ⟨Nat.le_of_ble_eq_true rfl, Nat.le_of_ble_eq_true rfl⟩) ⟨rblindH, va_recv hR.K hR.P (ci := 13) (q0 := 0) rfl (hR.at14 hR.w.1), fun U hU hW9 => rmkH hU hW9 hR hex hE hFc⟩ rfl rfl hl.1 rfl (lv_room (Nat.le_of_ble_eq_true rfl)) dX14_file_39 ⟨(show 0 + (KC - qn S5) ≤ KC - qn S from hlg.cm), (show 0 + (KS - qu S5) ≤ KS - qu S from hlg.sm)⟩) hR.sS (fun q _ h => hFc q h) hFc (fun q _ h => hFc q h) (fun E9 ce9 q9 u9 t9 H1 locs ht9 hvm9 hp9 hB9 hz9 hk9 hS hce9 hcv9 hcl9 => ?_) (fun r7 S8 t9 H1 locs ht9 hvm9 hw9 hB9 hz9 hk9 hS => ?_)
    · obtain ⟨ux, adx9⟩ := u9
      obtain ⟨hp9, hwx, hsx, hakx⟩ := hp9
      obtain ⟨rfl, hBx, dcx, dsx, hLx, hlx⟩ := hB9
      replace h := h.2 ux hp9
      dsimp only at hp9 hwx hsx hakx hBx hlx h
      rw [ht9] at hLx
      have hw8 := hR.w
      have hak := hak.tr hakx hlg.2.2.1
      have hE := hE.ad hakx
      have hR : Rep g adx9 A s ux H1 locs := hR.callH ht9 hBx hwx hS hFc
      have hsh := hsh.tr hsx
      have hlg := hlg.call hlx
      have ea_0 : adx9 0 = ad 0 := hakx _ (hw8.hd hw8.1 (by decide) (by decide))
      have hl : lv_has ls 3 [(1, .int a2), (0, .ref (adx9 0))] := by simp only [ea_0]; exact hl
      refine vx_catch (own := RX14) (name := RJxb5711) (E := RJxb5711) hown [] ⟨32, 45, 46, 19⟩ [] (by rw [vx_table (x := yX14_file) B (hts0 _ List.mem_cons_self)]; rfl) (fun z h9 => absurd h9 List.not_mem_nil) (by decide) (by decide) (hts _ kx_1019) (va_Nw.use rfl (nw_of nn_cast hex)) hce9 hcv9 hcl9 ?_
      refine W_tight2 (hL0.tr hLx).1 (hL0.tr hLx).2.1 ?_
      refine W.eq (g2 := F0 m 46 ls [.ref q9]) rfl ?_
      clear hce9
      clear ht9 hk9 hz9 hS hvm9 hLx hL0
      generalize H1 = H at hR ⊢
      refine lv_astore_n (lv' := [(2, .ref q9), (1, .int a2), (0, .ref (adx9 0))]) hx hb dX14_file_46 rfl hl (by decide) rfl (fun ls hl => ?_)
      refine lv_aload_n hx hb dX14_file_47 rfl (lv_at hl 2 rfl) ?_
      refine lv_aload_n hx hb dX14_file_48 rfl (lv_at hl 2 rfl) ?_
      refine va_get (D := rD g) (ci := 13) (v := .int (qI ux 0 7)) (C := RX14) (T := TX14) (N := 143) hx hb hts in2X14 hown hR.K hR.P 0 (hR.at14 hR.w.1) rfl 7 (by decide) (hts _ kx_171) (fun _ h9 => h9) rfl dX14_file_49 ?_
      refine va_put (D := rD g) (ci := 13) (v := .int (qI ux 0 7)) (ty := .int) (C := RX14) (T := TX14) (N := 143) hx hb hts in2X14 tyX14 tyX14_ok nmX14 hown hR.K hR.P hR.D hR.sS 0 (hR.at14 hR.w.1) rfl 9 (by decide) (hts _ kx_179) (fun _ h9 => h9) rfl (by decide +kernel) rfl rfl (Nat.le_of_ble_eq_true rfl) dX14_file_52 (fun H locs hP hD hS => ?_)
      have hR : Rep g adx9 A s (wI ux 0 9 (qI ux 0 7)) H locs := hR.pI hR.w.1 F14_s9 hP hD hS
      obtain ⟨S9, eS9⟩ : ∃ z, z = wI ux 0 9 (qI ux 0 7) := ⟨_, rfl⟩
      rw [← eS9] at hR
      replace h := h S9 eS9
      have hsh : shx S S9 := by rw [eS9]; exact hsh
      have hlg : lg S S9 (0 + dcx) (0 + dsx) := by rw [eS9]; exact hlg
      refine lv_aload_n hx hb dX14_file_55 rfl (lv_at hl 2 rfl) ?_
      refine lv_aload_n hx hb dX14_file_56 rfl (lv_at hl 2 rfl) ?_
      refine va_get (D := rD g) (ci := 13) (v := .int (qI S9 0 8)) (C := RX14) (T := TX14) (N := 143) hx hb hts in2X14 hown hR.K hR.P 0 (hR.at14 hR.w.1) rfl 8 (by decide) (hts _ kx_172) (fun _ h9 => h9) rfl dX14_file_57 ?_
      refine va_put (D := rD g) (ci := 13) (v := .int (qI S9 0 8)) (ty := .int) (C := RX14) (T := TX14) (N := 143) hx hb hts in2X14 tyX14 tyX14_ok nmX14 hown hR.K hR.P hR.D hR.sS 0 (hR.at14 hR.w.1) rfl 10 (by decide) (hts _ kx_180) (fun _ h9 => h9) rfl (by decide +kernel) rfl rfl (Nat.le_of_ble_eq_true rfl) dX14_file_60 (fun H locs hP hD hS => ?_)
      have hR : Rep g adx9 A s (wI S9 0 10 (qI S9 0 8)) H locs := hR.pI hR.w.1 F14_s10 hP hD hS
      obtain ⟨S10, eS10⟩ : ∃ z, z = wI S9 0 10 (qI S9 0 8) := ⟨_, rfl⟩
      rw [← eS10] at hR
      replace h := h S10 eS10
      have hsh : shx S S10 := by rw [eS10]; exact hsh
      have hlg : lg S S10 (0 + dcx) (0 + dsx) := by rw [eS10]; exact hlg
      refine lv_iconst (v := (-1)) hx hb dX14_file_63 (by decide) ?_
      refine W_led2 (fun hLd => ?_)
      refine W.widen (k := KC - qn S) (n := KS - qu S) hlg.c hlg.s ?_
      exact vx_ret (W.iret (v := (-1)) hx hb hr (fun t9 ht9 hW9 => ⟨⟨_, (S10, adx9), rfl, ⟨h, hR.w, hsh, hak⟩, ⟨⟨by rw [ht9]; exact hR.P, hR.D⟩, _, _, by rw [ht9]; exact hLd, hlg⟩⟩, hR.sS.F ht9⟩) hR.sS.2.2 dX14_file_64)
    · rcases S8 with ⟨S8, ak12⟩
      obtain ⟨hB9, dc9, ds9, hL9, hl9⟩ := hB9
      dsimp only at hw9 hB9 hl9
      rw [ht9] at hL9
      obtain ⟨b13, rfl, hq11, hw9, hs9, hk8, hT_b13⟩ := hw9
      have hw8 := hR.w
      have hak := hak.tr hk8 hlg.2.2.1
      have hE := hE.ad hk8
      have hR : Rep g ak12 A s S8 H1 locs := hR.callH ht9 hB9 hw9 hS hFc
      have hsh := hsh.tr hs9
      refine W_tight2 (hL0.tr hL9).1 (hL0.tr hL9).2.1 ?_
      have hlg := hlg.call hl9
      replace h := h.1 b13 S8 hq11
      have ea_0 : ak12 0 = ad 0 := hk8 _ (hw8.hd hw8.1 (by decide) (by decide))
      have hl : lv_has ls 3 [(1, .int a2), (0, .ref (ak12 0))] := by simp only [ea_0]; exact hl
      refine W.eq (g2 := F0 m 42 ls (.ref (ak12 b13) :: [.ref (ak12 0)])) (by first | (simp only [ea_0]; rfl) | simp only [ea_0]) ?_
      clear hB9 hz9 hk9 hvm9 ht9 hw9 hs9 hS hL0 hL9
      generalize H1 = H at hR ⊢
      generalize dc9 = dc_ak12, ds9 = ds_ak12 at hlg ⊢
      obtain ⟨Q14, h0, h⟩ := h
      have hFc := rfree hR hA
      refine va_calli (va_runV (As := [.ref (ak12 b13)]) (rest := []) ⟨hx, hb, hml, hown, hts⟩ (r_kept l g ak12 H.size S8 b13 hR.w hT_b13 Q14 h0) (cwV 1 hts (gd2_V kx_1097 kx_1098 kx_1099 kx_177 kx_1100) rfl rfl rfl (by decide +kernel) ⟨Nat.le_of_ble_eq_true rfl, Nat.le_of_ble_eq_true rfl⟩) ⟨rblind, va_recv hR.K hR.P (ci := 13) (q0 := 0) rfl (hR.at14 hR.w.1), fun U hU hW9 => rmk hU hW9 hR hex hE hFc⟩ rfl rfl hl.1 rfl (lv_room (Nat.le_of_ble_eq_true rfl)) dX14_file_42 ⟨(show 0 + dc_ak12 + 0 ≤ KC - qn S from hlg.c), (show 0 + ds_ak12 + 0 ≤ KS - qu S from hlg.s)⟩) hR.sS (fun q _ h => hFc q h) hFc (fun r15 S16 t9 H1 locs ht9 hvm9 hw9 hB9 hz9 hk9 hS => ?_)
      obtain ⟨hq17, hw9, hs9⟩ := hw9
      have hR : Rep g ak12 A s S16 H1 locs := hR.call ht9 hB9 hw9 hS hFc
      have hsh := hsh.tr hs9.1
      have hlg : lg S S16 (0 + dc_ak12) (0 + ds_ak12) := hlg.same hs9
      replace h := h r15 S16 hq17
      clear hB9 hz9 hk9 hvm9 ht9 hw9 hs9 hS
      generalize H1 = H at hR ⊢
      refine W_led2 (fun hLd => ?_)
      refine W.widen (k := KC - qn S) (n := KS - qu S) hlg.c hlg.s ?_
      exact vx_ret (W.iret (v := r15) hx hb hr (fun t9 ht9 hW9 => ⟨⟨_, (S16, ak12), rfl, ⟨h, hR.w, hsh, hak⟩, ⟨⟨by rw [ht9]; exact hR.P, hR.D⟩, _, _, by rw [ht9]; exact hLd, hlg⟩⟩, hR.sS.F ht9⟩) hR.sS.2.2 dX14_file_45)
  · replace h := h.1 (k_eq rfl (by decide) c1)
    refine lv_bipush (v := (-2)) hx hb dX14_file_9 (by decide) ?_
    refine W_led2 (fun hLd => ?_)
    refine W.widen (k := KC - qn S) (n := KS - qu S) hlg.c hlg.s ?_
    exact vx_ret (W.iret (v := (-2)) hx hb hr (fun t9 ht9 hW9 => ⟨⟨_, (S, ad), rfl, ⟨h, hR.w, hsh, hak⟩, ⟨⟨by rw [ht9]; exact hR.P, hR.D⟩, _, _, by rw [ht9]; exact hLd, hlg⟩⟩, hR.sS.F ht9⟩) hR.sS.2.2 dX14_file_11)
def w_onArrays_J135 (Q : Int32 → MS → Prop) (U135 : MS) : Prop := (∃ Q9, w_throwError U135 (2 : Int32) Q9 ∧ ∀ S10, Q9 S10 → Q (0 : Int32) S10)
def w_onArrays_J81 (Q : Int32 → MS → Prop) (U81 : MS) (t81_0 : Int32) (v81_1 : Int32) (v81_2 : Int32) : Prop := (∃ Q3, w_gotInt U81 Q3 ∧ ∀ r4 S5, Q3 r4 S5 → ((r4.toInt = 0 → (∃ Q35, w_throwError S5 (1 : Int32) Q35 ∧ ∀ S36, Q35 S36 → Q (0 : Int32) S36)) ∧ (¬ r4.toInt = 0 → ((v81_1.toInt = 190 → (((0 : Int) ≤ r4.toInt ∧ r4.toInt < 401) ∧ (∃ Q32, w_putInt S5 (qI S5 40 r4.toInt.toNat) Q32 ∧ ∀ S33, Q32 S33 → Q (1 : Int32) S33))) ∧ (¬ v81_1.toInt = 190 → ((t81_0.toInt < 0 → w_onArrays_J135 Q S5) ∧ (¬ t81_0.toInt < 0 → (((0 : Int) ≤ r4.toInt ∧ r4.toInt < 401) ∧ ((t81_0.toInt < (qI S5 40 r4.toInt.toNat).toInt → ((v81_1.toInt = 79 → (((0 : Int) ≤ r4.toInt ∧ r4.toInt < 401) ∧ (((0 : Int) ≤ ((qI S5 39 r4.toInt.toNat) + t81_0).toInt ∧ ((qI S5 39 r4.toInt.toNat) + t81_0).toInt < 20000) ∧ (∀ S29, S29 = wI S5 38 ((((qI S5 39 r4.toInt.toNat) + t81_0).toInt).toNat) v81_2 → Q (1 : Int32) S29)))) ∧ (¬ v81_1.toInt = 79 → (((0 : Int) ≤ r4.toInt ∧ r4.toInt < 401) ∧ (((0 : Int) ≤ ((qI S5 39 r4.toInt.toNat) + t81_0).toInt ∧ ((qI S5 39 r4.toInt.toNat) + t81_0).toInt < 20000) ∧ (∃ Q22, w_putInt S5 (qI S5 38 ((((qI S5 39 r4.toInt.toNat) + t81_0).toInt).toNat)) Q22 ∧ ∀ S23, Q22 S23 → Q (1 : Int32) S23)))))) ∧ (¬ t81_0.toInt < (qI S5 40 r4.toInt.toNat).toInt → w_onArrays_J135 Q S5))))))))))
def w_onArrays_J65 (Q : Int32 → MS → Prop) (U65 : MS) (t65_0 : Int32) (v65_1 : Int32) : Prop := ((v65_1.toInt = 190 → w_onArrays_J81 Q U65 0 v65_1 t65_0) ∧ (¬ v65_1.toInt = 190 → (∃ Q39, w_gotInt U65 Q39 ∧ ∀ r40 S41, Q39 r40 S41 → w_onArrays_J81 Q S41 r40 v65_1 t65_0)))
def w_onArrays (S : MS) (x1 : Int32) (Q : Int32 → MS → Prop) : Prop := ((x1.toInt = 188 → (∃ Q61, w_gotInt S Q61 ∧ ∀ r62 S63, Q61 r62 S63 → (∃ Q65, w_made S63 r62 Q65 ∧ ∀ r66 S67, Q65 r66 S67 → Q r66 S67))) ∧ (¬ x1.toInt = 188 → ((x1.toInt = 191 → (∃ Q48, w_got S (1 : Int32) Q48 ∧ ∀ r49 S50, Q48 r49 S50 → (((lg_cmp r49 0).toInt = 0 → (∃ Q58, w_throwError S50 (1 : Int32) Q58 ∧ ∀ S59, Q58 S59 → Q (0 : Int32) S59)) ∧ (¬ (lg_cmp r49 0).toInt = 0 → (∃ Q55, w_throwError S50 (((-1 : Int64) - r49).toInt32) Q55 ∧ ∀ S56, Q55 S56 → Q (0 : Int32) S56))))) ∧ (¬ x1.toInt = 191 → ((x1.toInt = 79 → (∃ Q44, w_gotInt S Q44 ∧ ∀ r45 S46, Q44 r45 S46 → w_onArrays_J65 Q S46 r45 x1)) ∧ (¬ x1.toInt = 79 → w_onArrays_J65 Q S 0 x1))))))
set_option maxHeartbeats 2000000 in
set_option maxRecDepth 100000 in
theorem r_onArrays (l : Launch) (g : Gr) (ad : Nat → Nat) (sz : Nat) (S : MS) (x1 : Int32) (hw : wfM S) (Q : Int32 → MS → Prop) (h : w_onArrays S x1 Q) : Met l yX14_onArrays (wt2 yX14_onArrays cX14_onArrays 5 (some .boolean)) ({ frames := 4, cells := 0, slots := 0, locals := 92 }) (va_Pc [.ref (ad 0), .int x1] (st_R g ad sz S)) (va_Qi (fun (r : Int32) (u : MS) => Q r u ∧ wfM u ∧ shy S u ∧ (r = 0 ∨ r = 1)) (fun (u : MS) (t : State) => qE g ad (va_A (Wd g ad S) sz) u t) (va_A (Wd g ad S) sz)) 0 0 (va_A (Wd g ad S) sz) := by
  refine Met.ofW (cc := cX14_onArrays) (maxL := 5) (ret := (some .boolean)) (by decide) rfl ?_
  intro p e s m args below meth c s₁ B hml hv
  obtain ⟨rfl, hsz, hP, hK, hD0, hex, hE⟩ := hv
  have hx := B.exec
  have hb := B.bytes
  have hr := B.returns
  have hts0 := atoms_spec (ws := wt2 yX14_onArrays cX14_onArrays 5 (some .boolean)) B.pre
  have hts : ∀ w ∈ tb2, w.before _ s = true := fun w h => hts0 w (List.mem_cons_of_mem _ h)
  have hown : s.vm.findClass RX14 = some m.cls := findClass_of_methodNamed B.named
  subst hsz
  have hD := hD0.self (sz := s.heap.size)
  generalize hAe : va_A (Wd g ad S) s.heap.size = A at hD hE ⊢
  have hA : ∀ q : Nat, s.heap.size ≤ q → A q := fun q h => by rw [← hAe]; exact Or.inr h
  have hR : Rep g ad A s S s.heap [] := ⟨hK, hP, hD, va_S.rf, hw⟩
  clear hK hP hD hD0
  have hl := lv_entry ([.ref (ad 0), .int x1]) (n := 5) (Nat.le_of_ble_eq_true rfl)
  rw [lg_entry_eq]
  generalize (lg_sl ([.ref (ad 0), .int x1]) ++ List.replicate (5 - (lg_sl ([.ref (ad 0), .int x1])).length) Slot.unset).toArray = ls at hl ⊢
  have hl : lv_has ls 5 [(0, .ref (ad 0)), (1, .int x1)] := hl
  have hsh : shy S S := shy.rf
  unfold w_onArrays at h
  refine lv_iload_n hx hb dX14_onArrays_0 rfl (lv_at hl 1 rfl) ?_
  refine lv_sipush (v := 188) hx hb dX14_onArrays_1 (by decide) ?_
  refine lv_icmp_ne (tgt := 16) hx hb dX14_onArrays_4 (by decide) (fun c1 => ?_) (fun c1 => ?_)
  · replace h := h.2 (k_ne rfl (by decide) c1)
    refine lv_iload_n hx hb dX14_onArrays_16 rfl (lv_at hl 1 rfl) ?_
    refine lv_sipush (v := 191) hx hb dX14_onArrays_17 (by decide) ?_
    refine lv_icmp_ne (tgt := 51) hx hb dX14_onArrays_20 (by decide) (fun c2 => ?_) (fun c2 => ?_)
    · replace h := h.2 (k_ne rfl (by decide) c2)
      refine lv_iload_n hx hb dX14_onArrays_51 rfl (lv_at hl 1 rfl) ?_
      refine lv_bipush (v := 79) hx hb dX14_onArrays_52 (by decide) ?_
      have J_65 : ∀ (U65 : MS) (t65_0 : Int32) (v65_1 : Int32) (H : Heap) (locs : List Loc) (ls : Array Slot), w_onArrays_J65 Q U65 t65_0 v65_1 → shy S U65 → Rep g ad A s U65 H locs → lv_has ls 5 [(0, .ref (ad 0)), (1, .int v65_1)] → W p l e (headSpec (wt2 yX14_onArrays cX14_onArrays 5 (some .boolean)) ({ frames := 4, cells := 0, slots := 0, locals := 92 })).room s m ([.ref (ad 0), .int x1] : List Value).toArray below meth c H locs 0 0 (MQ below (va_Qi (fun (r : Int32) (u : MS) => Q r u ∧ wfM u ∧ shy S u ∧ (r = 0 ∨ r = 1)) (fun (u : MS) (t : State) => qE g ad A u t) A) ([.ref (ad 0), .int x1] : List Value).toArray s 0 0 A) (F0 m 65 ls [.int t65_0]) := by
        intro U65 t65_0 v65_1 H locs ls h hsh hR hl
        unfold w_onArrays_J65 at h
        refine lv_istore_n (lv' := [(2, .int t65_0), (0, .ref (ad 0)), (1, .int v65_1)]) hx hb dX14_onArrays_65 rfl hl (by decide) rfl (fun ls hl => ?_)
        refine lv_iload_n hx hb dX14_onArrays_66 rfl (lv_at hl 2 rfl) ?_
        refine lv_sipush (v := 190) hx hb dX14_onArrays_67 (by decide) ?_
        have J_81 : ∀ (U81 : MS) (t81_0 : Int32) (v81_1 : Int32) (v81_2 : Int32) (H : Heap) (locs : List Loc) (ls : Array Slot), w_onArrays_J81 Q U81 t81_0 v81_1 v81_2 → shy S U81 → Rep g ad A s U81 H locs → lv_has ls 5 [(0, .ref (ad 0)), (1, .int v81_1), (2, .int v81_2)] → W p l e (headSpec (wt2 yX14_onArrays cX14_onArrays 5 (some .boolean)) ({ frames := 4, cells := 0, slots := 0, locals := 92 })).room s m ([.ref (ad 0), .int x1] : List Value).toArray below meth c H locs 0 0 (MQ below (va_Qi (fun (r : Int32) (u : MS) => Q r u ∧ wfM u ∧ shy S u ∧ (r = 0 ∨ r = 1)) (fun (u : MS) (t : State) => qE g ad A u t) A) ([.ref (ad 0), .int x1] : List Value).toArray s 0 0 A) (F0 m 81 ls [.int t81_0]) := by
          intro U81 t81_0 v81_1 v81_2 H locs ls h hsh hR hl
          unfold w_onArrays_J81 at h
          refine lv_istore_n (lv' := [(3, .int t81_0), (0, .ref (ad 0)), (1, .int v81_1), (2, .int v81_2)]) hx hb dX14_onArrays_81 rfl hl (by decide) rfl (fun ls hl => ?_)
          refine lv_aload_n hx hb dX14_onArrays_82 rfl (lv_at hl 1 rfl) ?_
          obtain ⟨Q3, h0, h⟩ := h
          have hFc := rfree hR hA
          refine va_calli (va_runV (As := []) (rest := []) ⟨hx, hb, hml, hown, hts⟩ (r_gotInt l g ad H.size U81 hR.w  Q3 h0) (cwV 0 hts (gd2_V kx_648 kx_649 kx_650 kx_177 kx_651) rfl rfl rfl (by decide +kernel) ⟨Nat.le_of_ble_eq_true rfl, Nat.le_of_ble_eq_true rfl⟩) ⟨rblind, va_recv hR.K hR.P (ci := 13) (q0 := 0) rfl (hR.at14 hR.w.1), fun U hU hW9 => rmk hU hW9 hR hex hE hFc⟩ rfl rfl hl.1 rfl (lv_room (Nat.le_of_ble_eq_true rfl)) dX14_onArrays_83 ⟨Nat.le_of_ble_eq_true rfl, Nat.le_of_ble_eq_true rfl⟩) hR.sS (fun q _ h => hFc q h) hFc (fun r4 S5 t9 H1 locs ht9 hvm9 hw9 hB9 hz9 hk9 hS => ?_)
          obtain ⟨hq6, hw9, hs9⟩ := hw9
          have hR : Rep g ad A s S5 H1 locs := hR.call ht9 hB9 hw9 hS hFc
          have hsh := hsh.tr hs9
          replace h := h r4 S5 hq6
          clear hB9 hz9 hk9 hvm9 ht9 hw9 hs9 hS
          generalize H1 = H at hR ⊢
          refine lv_istore (lv' := [(4, .int r4), (3, .int t81_0), (0, .ref (ad 0)), (1, .int v81_1), (2, .int v81_2)]) hx hb dX14_onArrays_86 hl (by decide) rfl (fun ls hl => ?_)
          refine lv_iload hx hb dX14_onArrays_88 (lv_at hl 0 rfl) ?_
          refine lv_if_ne (tgt := 100) hx hb dX14_onArrays_90 (by decide) (fun c7 => ?_) (fun c7 => ?_)
          · replace h := h.2 (k_ne rfl (by decide) c7)
            refine lv_iload_n hx hb dX14_onArrays_100 rfl (lv_at hl 3 rfl) ?_
            refine lv_sipush (v := 190) hx hb dX14_onArrays_101 (by decide) ?_
            refine lv_icmp_ne (tgt := 120) hx hb dX14_onArrays_104 (by decide) (fun c8 => ?_) (fun c8 => ?_)
            · replace h := h.2 (k_ne rfl (by decide) c8)
              refine lv_iload_n hx hb dX14_onArrays_120 rfl (lv_at hl 1 rfl) ?_
              have J_135 : ∀ (U135 : MS) (H : Heap) (locs : List Loc) (ls : Array Slot), w_onArrays_J135 Q U135 → shy S U135 → Rep g ad A s U135 H locs → lv_has ls 5 [(0, .ref (ad 0))] → W p l e (headSpec (wt2 yX14_onArrays cX14_onArrays 5 (some .boolean)) ({ frames := 4, cells := 0, slots := 0, locals := 92 })).room s m ([.ref (ad 0), .int x1] : List Value).toArray below meth c H locs 0 0 (MQ below (va_Qi (fun (r : Int32) (u : MS) => Q r u ∧ wfM u ∧ shy S u ∧ (r = 0 ∨ r = 1)) (fun (u : MS) (t : State) => qE g ad A u t) A) ([.ref (ad 0), .int x1] : List Value).toArray s 0 0 A) (F0 m 135 ls []) := by
                intro U135 H locs ls h hsh hR hl
                unfold w_onArrays_J135 at h
                refine lv_aload_n hx hb dX14_onArrays_135 rfl (lv_at hl 0 rfl) ?_
                refine lv_iconst (v := 2) hx hb dX14_onArrays_136 (by decide) ?_
                obtain ⟨Q9, h0, h⟩ := h
                have hFc := rfree hR hA
                refine va_callv (va_runV (As := [.int 2]) (rest := []) ⟨hx, hb, hml, hown, hts⟩ (r_throwError l g ad H.size U135 (2 : Int32) hR.w  Q9 h0) (cwV 1 hts (gd2_V kx_962 kx_963 kx_964 kx_177 kx_965) rfl rfl rfl (by decide +kernel) ⟨Nat.le_of_ble_eq_true rfl, Nat.le_of_ble_eq_true rfl⟩) ⟨rblind, va_recv hR.K hR.P (ci := 13) (q0 := 0) rfl (hR.at14 hR.w.1), fun U hU hW9 => rmk hU hW9 hR hex hE hFc⟩ rfl rfl hl.1 rfl (lv_room (Nat.le_of_ble_eq_true rfl)) dX14_onArrays_137 ⟨Nat.le_of_ble_eq_true rfl, Nat.le_of_ble_eq_true rfl⟩) hR.sS (fun q _ h => hFc q h) hFc (fun  S10 t9 H1 locs ht9 hvm9 hw9 hB9 hz9 hk9 hS => ?_)
                obtain ⟨hq11, hw9, hs9⟩ := hw9
                have hR : Rep g ad A s S10 H1 locs := hR.call ht9 hB9 hw9 hS hFc
                have hsh := hsh.tr hs9
                replace h := h  S10 hq11
                clear hB9 hz9 hk9 hvm9 ht9 hw9 hs9 hS
                generalize H1 = H at hR ⊢
                refine lv_iconst (v := 0) hx hb dX14_onArrays_140 (by decide) ?_
                exact W.zret (v := 0) hx hb hr (nz (Or.inl rfl)) (fun t9 ht9 hW9 => ⟨⟨_, S10, rfl, ⟨h, hR.w, hsh, (Or.inl rfl)⟩, ⟨by rw [ht9]; exact hR.P, hR.D⟩⟩, hR.sS.F ht9⟩) hR.sS.2.2 dX14_onArrays_141
              refine lv_if_lt (tgt := 135) hx hb dX14_onArrays_121 (by decide) (fun c12 => ?_) (fun c12 => ?_)
              · replace h := h.1 (k_lt rfl (by decide) c12)
                exact J_135 S5 _ _ ls h  hsh hR (lv_sub hl [2] rfl)
              · replace h := h.2 (k_nlt rfl (by decide) c12)
                refine lv_iload_n hx hb dX14_onArrays_124 rfl (lv_at hl 1 rfl) ?_
                refine lv_aload_n hx hb dX14_onArrays_125 rfl (lv_at hl 2 rfl) ?_
                refine va_get (D := rD g) (ci := 13) (v := .ref (ad 40)) (C := RX14) (T := TX14) (N := 143) hx hb hts in2X14 hown hR.K hR.P 0 (hR.at14 hR.w.1) rfl 84 (by decide) (hts _ kx_668) (fun _ h9 => h9) (congrArg (fun z => some (vf ad z)) (hR.w.2.1 _ fin_84).1) dX14_onArrays_126 ?_
                refine lv_iload hx hb dX14_onArrays_129 (lv_at hl 0 rfl) ?_
                obtain ⟨hv13, h⟩ := h
                refine va_iald hx hb hR.K hR.P 40 1 (hR.atI (hR.w.2.1 _ fin_84).2.1) rfl (k_ixN (k_ix (n := 401) (x := r4) (a := r4.toInt) rfl hv13) (hR.w.2.1 _ fin_84).2.2) dX14_onArrays_131 ?_
                refine lv_topi (fun z14 ez14 => ?_)
                obtain rfl : z14 = (qI S5 40 r4.toInt.toNat) := ez14
                refine lv_icmp_lt (tgt := 142) hx hb dX14_onArrays_132 (by decide) (fun c15 => ?_) (fun c15 => ?_)
                · replace h := h.1 (k_lt rfl rfl c15)
                  refine lv_iload_n hx hb dX14_onArrays_142 rfl (lv_at hl 3 rfl) ?_
                  refine lv_bipush (v := 79) hx hb dX14_onArrays_143 (by decide) ?_
                  refine lv_icmp_ne (tgt := 166) hx hb dX14_onArrays_145 (by decide) (fun c16 => ?_) (fun c16 => ?_)
                  · replace h := h.2 (k_ne rfl (by decide) c16)
                    refine lv_aload_n hx hb dX14_onArrays_166 rfl (lv_at hl 2 rfl) ?_
                    refine lv_aload_n hx hb dX14_onArrays_167 rfl (lv_at hl 2 rfl) ?_
                    refine va_get (D := rD g) (ci := 13) (v := .ref (ad 38)) (C := RX14) (T := TX14) (N := 143) hx hb hts in2X14 hown hR.K hR.P 0 (hR.at14 hR.w.1) rfl 82 (by decide) (hts _ kx_611) (fun _ h9 => h9) (congrArg (fun z => some (vf ad z)) (hR.w.2.1 _ fin_82).1) dX14_onArrays_168 ?_
                    refine lv_aload_n hx hb dX14_onArrays_171 rfl (lv_at hl 2 rfl) ?_
                    refine va_get (D := rD g) (ci := 13) (v := .ref (ad 39)) (C := RX14) (T := TX14) (N := 143) hx hb hts in2X14 hown hR.K hR.P 0 (hR.at14 hR.w.1) rfl 83 (by decide) (hts _ kx_667) (fun _ h9 => h9) (congrArg (fun z => some (vf ad z)) (hR.w.2.1 _ fin_83).1) dX14_onArrays_172 ?_
                    refine lv_iload hx hb dX14_onArrays_175 (lv_at hl 0 rfl) ?_
                    obtain ⟨hv17, h⟩ := h
                    refine va_iald hx hb hR.K hR.P 39 1 (hR.atI (hR.w.2.1 _ fin_83).2.1) rfl (k_ixN (k_ix (n := 401) (x := r4) (a := r4.toInt) rfl hv17) (hR.w.2.1 _ fin_83).2.2) dX14_onArrays_177 ?_
                    refine lv_topi (fun z18 ez18 => ?_)
                    obtain rfl : z18 = (qI S5 39 r4.toInt.toNat) := ez18
                    refine lv_iload_n hx hb dX14_onArrays_178 rfl (lv_at hl 1 rfl) ?_
                    refine lv_iadd hx hb dX14_onArrays_179 ?_
                    refine lv_topi (fun z19 ez19 => ?_)
                    obtain rfl : z19 = ((qI S5 39 r4.toInt.toNat) + t81_0) := ez19
                    obtain ⟨hv20, h⟩ := h
                    refine va_iald hx hb hR.K hR.P 38 1 (hR.atI (hR.w.2.1 _ fin_82).2.1) rfl (k_ixN (k_ix (n := 20000) (x := ((qI S5 39 r4.toInt.toNat) + t81_0)) (a := ((qI S5 39 r4.toInt.toNat) + t81_0).toInt) rfl hv20) (hR.w.2.1 _ fin_82).2.2) dX14_onArrays_180 ?_
                    refine lv_topi (fun z21 ez21 => ?_)
                    obtain rfl : z21 = (qI S5 38 ((((qI S5 39 r4.toInt.toNat) + t81_0).toInt).toNat)) := ez21
                    obtain ⟨Q22, h0, h⟩ := h
                    have hFc := rfree hR hA
                    refine va_callv (va_runV (As := [.int (qI S5 38 ((((qI S5 39 r4.toInt.toNat) + t81_0).toInt).toNat))]) (rest := []) ⟨hx, hb, hml, hown, hts⟩ (r_putInt l g ad H.size S5 (qI S5 38 ((((qI S5 39 r4.toInt.toNat) + t81_0).toInt).toNat)) hR.w  Q22 h0) (cwV 1 hts (gd2_V kx_652 kx_653 kx_654 kx_177 kx_655) rfl rfl rfl (by decide +kernel) ⟨Nat.le_of_ble_eq_true rfl, Nat.le_of_ble_eq_true rfl⟩) ⟨rblind, va_recv hR.K hR.P (ci := 13) (q0 := 0) rfl (hR.at14 hR.w.1), fun U hU hW9 => rmk hU hW9 hR hex hE hFc⟩ rfl rfl hl.1 rfl (lv_room (Nat.le_of_ble_eq_true rfl)) dX14_onArrays_181 ⟨Nat.le_of_ble_eq_true rfl, Nat.le_of_ble_eq_true rfl⟩) hR.sS (fun q _ h => hFc q h) hFc (fun  S23 t9 H1 locs ht9 hvm9 hw9 hB9 hz9 hk9 hS => ?_)
                    obtain ⟨hq24, hw9, hs9⟩ := hw9
                    have hR : Rep g ad A s S23 H1 locs := hR.call ht9 hB9 hw9 hS hFc
                    have hsh := hsh.tr hs9
                    replace h := h  S23 hq24
                    clear hB9 hz9 hk9 hvm9 ht9 hw9 hs9 hS
                    generalize H1 = H at hR ⊢
                    refine lv_iconst (v := 1) hx hb dX14_onArrays_184 (by decide) ?_
                    exact W.zret (v := 1) hx hb hr (nz (Or.inr rfl)) (fun t9 ht9 hW9 => ⟨⟨_, S23, rfl, ⟨h, hR.w, hsh, (Or.inr rfl)⟩, ⟨by rw [ht9]; exact hR.P, hR.D⟩⟩, hR.sS.F ht9⟩) hR.sS.2.2 dX14_onArrays_185
                  · replace h := h.1 (k_eq rfl (by decide) c16)
                    refine lv_aload_n hx hb dX14_onArrays_148 rfl (lv_at hl 2 rfl) ?_
                    refine va_get (D := rD g) (ci := 13) (v := .ref (ad 38)) (C := RX14) (T := TX14) (N := 143) hx hb hts in2X14 hown hR.K hR.P 0 (hR.at14 hR.w.1) rfl 82 (by decide) (hts _ kx_611) (fun _ h9 => h9) (congrArg (fun z => some (vf ad z)) (hR.w.2.1 _ fin_82).1) dX14_onArrays_149 ?_
                    refine lv_aload_n hx hb dX14_onArrays_152 rfl (lv_at hl 2 rfl) ?_
                    refine va_get (D := rD g) (ci := 13) (v := .ref (ad 39)) (C := RX14) (T := TX14) (N := 143) hx hb hts in2X14 hown hR.K hR.P 0 (hR.at14 hR.w.1) rfl 83 (by decide) (hts _ kx_667) (fun _ h9 => h9) (congrArg (fun z => some (vf ad z)) (hR.w.2.1 _ fin_83).1) dX14_onArrays_153 ?_
                    refine lv_iload hx hb dX14_onArrays_156 (lv_at hl 0 rfl) ?_
                    obtain ⟨hv25, h⟩ := h
                    refine va_iald hx hb hR.K hR.P 39 1 (hR.atI (hR.w.2.1 _ fin_83).2.1) rfl (k_ixN (k_ix (n := 401) (x := r4) (a := r4.toInt) rfl hv25) (hR.w.2.1 _ fin_83).2.2) dX14_onArrays_158 ?_
                    refine lv_topi (fun z26 ez26 => ?_)
                    obtain rfl : z26 = (qI S5 39 r4.toInt.toNat) := ez26
                    refine lv_iload_n hx hb dX14_onArrays_159 rfl (lv_at hl 1 rfl) ?_
                    refine lv_iadd hx hb dX14_onArrays_160 ?_
                    refine lv_topi (fun z27 ez27 => ?_)
                    obtain rfl : z27 = ((qI S5 39 r4.toInt.toNat) + t81_0) := ez27
                    refine lv_iload_n hx hb dX14_onArrays_161 rfl (lv_at hl 4 rfl) ?_
                    obtain ⟨hv28, h⟩ := h
                    refine va_iast hx hb hR.K hR.P hR.D hR.sS 38 1 (hR.atI (hR.w.2.1 _ fin_82).2.1) rfl (k_ixN (k_ix (n := 20000) (x := ((qI S5 39 r4.toInt.toNat) + t81_0)) (a := ((qI S5 39 r4.toInt.toNat) + t81_0).toInt) rfl hv28) (hR.w.2.1 _ fin_82).2.2) dX14_onArrays_162 (fun H locs hP hD hS => ?_)
                    have hR : Rep g ad A s (wI S5 38 ((((qI S5 39 r4.toInt.toNat) + t81_0).toInt).toNat) v81_2) H locs := hR.aI (hR.w.2.1 _ fin_82).2.1 hP hD hS
                    obtain ⟨S29, eS29⟩ : ∃ z, z = wI S5 38 ((((qI S5 39 r4.toInt.toNat) + t81_0).toInt).toNat) v81_2 := ⟨_, rfl⟩
                    rw [← eS29] at hR
                    replace h := h S29 eS29
                    have hsh : shy S S29 := by rw [eS29]; exact hsh
                    refine lv_goto (tgt := 184) hx hb dX14_onArrays_163 (by decide) ?_
                    refine lv_iconst (v := 1) hx hb dX14_onArrays_184 (by decide) ?_
                    exact W.zret (v := 1) hx hb hr (nz (Or.inr rfl)) (fun t9 ht9 hW9 => ⟨⟨_, S29, rfl, ⟨h, hR.w, hsh, (Or.inr rfl)⟩, ⟨by rw [ht9]; exact hR.P, hR.D⟩⟩, hR.sS.F ht9⟩) hR.sS.2.2 dX14_onArrays_185
                · replace h := h.2 (k_nlt rfl rfl c15)
                  exact J_135 S5 _ _ ls h  hsh hR (lv_sub hl [2] rfl)
            · replace h := h.1 (k_eq rfl (by decide) c8)
              refine lv_aload_n hx hb dX14_onArrays_107 rfl (lv_at hl 2 rfl) ?_
              refine lv_aload_n hx hb dX14_onArrays_108 rfl (lv_at hl 2 rfl) ?_
              refine va_get (D := rD g) (ci := 13) (v := .ref (ad 40)) (C := RX14) (T := TX14) (N := 143) hx hb hts in2X14 hown hR.K hR.P 0 (hR.at14 hR.w.1) rfl 84 (by decide) (hts _ kx_668) (fun _ h9 => h9) (congrArg (fun z => some (vf ad z)) (hR.w.2.1 _ fin_84).1) dX14_onArrays_109 ?_
              refine lv_iload hx hb dX14_onArrays_112 (lv_at hl 0 rfl) ?_
              obtain ⟨hv30, h⟩ := h
              refine va_iald hx hb hR.K hR.P 40 1 (hR.atI (hR.w.2.1 _ fin_84).2.1) rfl (k_ixN (k_ix (n := 401) (x := r4) (a := r4.toInt) rfl hv30) (hR.w.2.1 _ fin_84).2.2) dX14_onArrays_114 ?_
              refine lv_topi (fun z31 ez31 => ?_)
              obtain rfl : z31 = (qI S5 40 r4.toInt.toNat) := ez31
              obtain ⟨Q32, h0, h⟩ := h
              have hFc := rfree hR hA
              refine va_callv (va_runV (As := [.int (qI S5 40 r4.toInt.toNat)]) (rest := []) ⟨hx, hb, hml, hown, hts⟩ (r_putInt l g ad H.size S5 (qI S5 40 r4.toInt.toNat) hR.w  Q32 h0) (cwV 1 hts (gd2_V kx_652 kx_653 kx_654 kx_177 kx_655) rfl rfl rfl (by decide +kernel) ⟨Nat.le_of_ble_eq_true rfl, Nat.le_of_ble_eq_true rfl⟩) ⟨rblind, va_recv hR.K hR.P (ci := 13) (q0 := 0) rfl (hR.at14 hR.w.1), fun U hU hW9 => rmk hU hW9 hR hex hE hFc⟩ rfl rfl hl.1 rfl (lv_room (Nat.le_of_ble_eq_true rfl)) dX14_onArrays_115 ⟨Nat.le_of_ble_eq_true rfl, Nat.le_of_ble_eq_true rfl⟩) hR.sS (fun q _ h => hFc q h) hFc (fun  S33 t9 H1 locs ht9 hvm9 hw9 hB9 hz9 hk9 hS => ?_)
              obtain ⟨hq34, hw9, hs9⟩ := hw9
              have hR : Rep g ad A s S33 H1 locs := hR.call ht9 hB9 hw9 hS hFc
              have hsh := hsh.tr hs9
              replace h := h  S33 hq34
              clear hB9 hz9 hk9 hvm9 ht9 hw9 hs9 hS
              generalize H1 = H at hR ⊢
              refine lv_iconst (v := 1) hx hb dX14_onArrays_118 (by decide) ?_
              exact W.zret (v := 1) hx hb hr (nz (Or.inr rfl)) (fun t9 ht9 hW9 => ⟨⟨_, S33, rfl, ⟨h, hR.w, hsh, (Or.inr rfl)⟩, ⟨by rw [ht9]; exact hR.P, hR.D⟩⟩, hR.sS.F ht9⟩) hR.sS.2.2 dX14_onArrays_119
          · replace h := h.1 (k_eq rfl (by decide) c7)
            refine lv_aload_n hx hb dX14_onArrays_93 rfl (lv_at hl 2 rfl) ?_
            refine lv_iconst (v := 1) hx hb dX14_onArrays_94 (by decide) ?_
            obtain ⟨Q35, h0, h⟩ := h
            have hFc := rfree hR hA
            refine va_callv (va_runV (As := [.int 1]) (rest := []) ⟨hx, hb, hml, hown, hts⟩ (r_throwError l g ad H.size S5 (1 : Int32) hR.w  Q35 h0) (cwV 1 hts (gd2_V kx_962 kx_963 kx_964 kx_177 kx_965) rfl rfl rfl (by decide +kernel) ⟨Nat.le_of_ble_eq_true rfl, Nat.le_of_ble_eq_true rfl⟩) ⟨rblind, va_recv hR.K hR.P (ci := 13) (q0 := 0) rfl (hR.at14 hR.w.1), fun U hU hW9 => rmk hU hW9 hR hex hE hFc⟩ rfl rfl hl.1 rfl (lv_room (Nat.le_of_ble_eq_true rfl)) dX14_onArrays_95 ⟨Nat.le_of_ble_eq_true rfl, Nat.le_of_ble_eq_true rfl⟩) hR.sS (fun q _ h => hFc q h) hFc (fun  S36 t9 H1 locs ht9 hvm9 hw9 hB9 hz9 hk9 hS => ?_)
            obtain ⟨hq37, hw9, hs9⟩ := hw9
            have hR : Rep g ad A s S36 H1 locs := hR.call ht9 hB9 hw9 hS hFc
            have hsh := hsh.tr hs9
            replace h := h  S36 hq37
            clear hB9 hz9 hk9 hvm9 ht9 hw9 hs9 hS
            generalize H1 = H at hR ⊢
            refine lv_iconst (v := 0) hx hb dX14_onArrays_98 (by decide) ?_
            exact W.zret (v := 0) hx hb hr (nz (Or.inl rfl)) (fun t9 ht9 hW9 => ⟨⟨_, S36, rfl, ⟨h, hR.w, hsh, (Or.inl rfl)⟩, ⟨by rw [ht9]; exact hR.P, hR.D⟩⟩, hR.sS.F ht9⟩) hR.sS.2.2 dX14_onArrays_99
        refine lv_icmp_ne (tgt := 77) hx hb dX14_onArrays_70 (by decide) (fun c38 => ?_) (fun c38 => ?_)
        · replace h := h.2 (k_ne rfl (by decide) c38)
          refine lv_aload_n hx hb dX14_onArrays_77 rfl (lv_at hl 1 rfl) ?_
          obtain ⟨Q39, h0, h⟩ := h
          have hFc := rfree hR hA
          refine va_calli (va_runV (As := []) (rest := []) ⟨hx, hb, hml, hown, hts⟩ (r_gotInt l g ad H.size U65 hR.w  Q39 h0) (cwV 0 hts (gd2_V kx_648 kx_649 kx_650 kx_177 kx_651) rfl rfl rfl (by decide +kernel) ⟨Nat.le_of_ble_eq_true rfl, Nat.le_of_ble_eq_true rfl⟩) ⟨rblind, va_recv hR.K hR.P (ci := 13) (q0 := 0) rfl (hR.at14 hR.w.1), fun U hU hW9 => rmk hU hW9 hR hex hE hFc⟩ rfl rfl hl.1 rfl (lv_room (Nat.le_of_ble_eq_true rfl)) dX14_onArrays_78 ⟨Nat.le_of_ble_eq_true rfl, Nat.le_of_ble_eq_true rfl⟩) hR.sS (fun q _ h => hFc q h) hFc (fun r40 S41 t9 H1 locs ht9 hvm9 hw9 hB9 hz9 hk9 hS => ?_)
          obtain ⟨hq42, hw9, hs9⟩ := hw9
          have hR : Rep g ad A s S41 H1 locs := hR.call ht9 hB9 hw9 hS hFc
          have hsh := hsh.tr hs9
          replace h := h r40 S41 hq42
          clear hB9 hz9 hk9 hvm9 ht9 hw9 hs9 hS
          generalize H1 = H at hR ⊢
          exact J_81 S41 r40 v65_1 t65_0 _ _ ls h  hsh hR (lv_sub hl [1, 2, 0] rfl)
        · replace h := h.1 (k_eq rfl (by decide) c38)
          refine lv_iconst (v := 0) hx hb dX14_onArrays_73 (by decide) ?_
          refine lv_goto (tgt := 81) hx hb dX14_onArrays_74 (by decide) ?_
          exact J_81 U65 0 v65_1 t65_0 _ _ ls h  hsh hR (lv_sub hl [1, 2, 0] rfl)
      refine lv_icmp_ne (tgt := 64) hx hb dX14_onArrays_54 (by decide) (fun c43 => ?_) (fun c43 => ?_)
      · replace h := h.2 (k_ne rfl (by decide) c43)
        refine lv_iconst (v := 0) hx hb dX14_onArrays_64 (by decide) ?_
        exact J_65 S 0 x1 _ _ ls h  hsh hR (lv_sub hl [0, 1] rfl)
      · replace h := h.1 (k_eq rfl (by decide) c43)
        refine lv_aload_n hx hb dX14_onArrays_57 rfl (lv_at hl 0 rfl) ?_
        obtain ⟨Q44, h0, h⟩ := h
        have hFc := rfree hR hA
        refine va_calli (va_runV (As := []) (rest := []) ⟨hx, hb, hml, hown, hts⟩ (r_gotInt l g ad s.heap.size S hR.w  Q44 h0) (cwV 0 hts (gd2_V kx_648 kx_649 kx_650 kx_177 kx_651) rfl rfl rfl (by decide +kernel) ⟨Nat.le_of_ble_eq_true rfl, Nat.le_of_ble_eq_true rfl⟩) ⟨rblind, va_recv hR.K hR.P (ci := 13) (q0 := 0) rfl (hR.at14 hR.w.1), fun U hU hW9 => rmk hU hW9 hR hex hE hFc⟩ rfl rfl hl.1 rfl (lv_room (Nat.le_of_ble_eq_true rfl)) dX14_onArrays_58 ⟨Nat.le_of_ble_eq_true rfl, Nat.le_of_ble_eq_true rfl⟩) hR.sS (fun q _ h => hFc q h) hFc (fun r45 S46 t9 H1 locs ht9 hvm9 hw9 hB9 hz9 hk9 hS => ?_)
        obtain ⟨hq47, hw9, hs9⟩ := hw9
        have hR : Rep g ad A s S46 H1 locs := hR.call ht9 hB9 hw9 hS hFc
        have hsh := hsh.tr hs9
        replace h := h r45 S46 hq47
        clear hB9 hz9 hk9 hvm9 ht9 hw9 hs9 hS
        generalize H1 = H at hR ⊢
        refine lv_goto (tgt := 65) hx hb dX14_onArrays_61 (by decide) ?_
        exact J_65 S46 r45 x1 _ _ ls h  hsh hR (lv_sub hl [0, 1] rfl)
    · replace h := h.1 (k_eq rfl (by decide) c2)
      refine lv_aload_n hx hb dX14_onArrays_23 rfl (lv_at hl 0 rfl) ?_
      refine lv_iconst (v := 1) hx hb dX14_onArrays_24 (by decide) ?_
      obtain ⟨Q48, h0, h⟩ := h
      have hFc := rfree hR hA
      refine va_calll (va_runV (As := [.int 1]) (rest := []) ⟨hx, hb, hml, hown, hts⟩ (r_got l g ad s.heap.size S (1 : Int32) hR.w  Q48 h0) (cwV 1 hts (gd2_V kx_635 kx_636 kx_637 kx_177 kx_638) rfl rfl rfl (by decide +kernel) ⟨Nat.le_of_ble_eq_true rfl, Nat.le_of_ble_eq_true rfl⟩) ⟨rblind, va_recv hR.K hR.P (ci := 13) (q0 := 0) rfl (hR.at14 hR.w.1), fun U hU hW9 => rmk hU hW9 hR hex hE hFc⟩ rfl rfl hl.1 rfl (lv_room (Nat.le_of_ble_eq_true rfl)) dX14_onArrays_25 ⟨Nat.le_of_ble_eq_true rfl, Nat.le_of_ble_eq_true rfl⟩) hR.sS (fun q _ h => hFc q h) hFc (fun r49 S50 t9 H1 locs ht9 hvm9 hw9 hB9 hz9 hk9 hS => ?_)
      obtain ⟨hq51, hw9, hs9⟩ := hw9
      have hR : Rep g ad A s S50 H1 locs := hR.call ht9 hB9 hw9 hS hFc
      have hsh := hsh.tr hs9
      replace h := h r49 S50 hq51
      clear hB9 hz9 hk9 hvm9 ht9 hw9 hs9 hS
      generalize H1 = H at hR ⊢
      refine lv_lstore_n (lv' := [(2, .long r49), (0, .ref (ad 0)), (1, .int x1)]) hx hb dX14_onArrays_28 rfl hl (by decide) rfl (fun ls hl => ?_)
      refine lv_aload_n hx hb dX14_onArrays_29 rfl (lv_at hl 1 rfl) ?_
      refine lv_lload_n hx hb dX14_onArrays_30 rfl (lv_at hl 0 rfl) ?_
      refine lv_lconst (v := 0) hx hb dX14_onArrays_31 (by decide) ?_
      refine W.lcmp hx hb dX14_onArrays_32 ?_
      refine lv_topi (fun z52 ez52 => ?_)
      obtain rfl : z52 = (lg_cmp r49 0) := ez52
      refine lv_if_ne (tgt := 40) hx hb dX14_onArrays_33 (by decide) (fun c53 => ?_) (fun c53 => ?_)
      · replace h := h.2 (k_ne rfl (by decide) c53)
        refine lv_ldc2 hx hb hown (hts _ kx_656) dX14_onArrays_40 ?_
        refine lv_lload_n hx hb dX14_onArrays_43 rfl (lv_at hl 0 rfl) ?_
        refine lv_lsub hx hb dX14_onArrays_44 ?_
        refine lv_topl (fun z54 ez54 => ?_)
        obtain rfl : z54 = ((-1 : Int64) - r49) := ez54
        refine lv_l2i (v := (((-1 : Int64) - r49).toInt32)) hx hb dX14_onArrays_45 rfl ?_
        obtain ⟨Q55, h0, h⟩ := h
        have hFc := rfree hR hA
        refine va_callv (va_runV (As := [.int (((-1 : Int64) - r49).toInt32)]) (rest := []) ⟨hx, hb, hml, hown, hts⟩ (r_throwError l g ad H.size S50 (((-1 : Int64) - r49).toInt32) hR.w  Q55 h0) (cwV 1 hts (gd2_V kx_962 kx_963 kx_964 kx_177 kx_965) rfl rfl rfl (by decide +kernel) ⟨Nat.le_of_ble_eq_true rfl, Nat.le_of_ble_eq_true rfl⟩) ⟨rblind, va_recv hR.K hR.P (ci := 13) (q0 := 0) rfl (hR.at14 hR.w.1), fun U hU hW9 => rmk hU hW9 hR hex hE hFc⟩ rfl rfl hl.1 rfl (lv_room (Nat.le_of_ble_eq_true rfl)) dX14_onArrays_46 ⟨Nat.le_of_ble_eq_true rfl, Nat.le_of_ble_eq_true rfl⟩) hR.sS (fun q _ h => hFc q h) hFc (fun  S56 t9 H1 locs ht9 hvm9 hw9 hB9 hz9 hk9 hS => ?_)
        obtain ⟨hq57, hw9, hs9⟩ := hw9
        have hR : Rep g ad A s S56 H1 locs := hR.call ht9 hB9 hw9 hS hFc
        have hsh := hsh.tr hs9
        replace h := h  S56 hq57
        clear hB9 hz9 hk9 hvm9 ht9 hw9 hs9 hS
        generalize H1 = H at hR ⊢
        refine lv_iconst (v := 0) hx hb dX14_onArrays_49 (by decide) ?_
        exact W.zret (v := 0) hx hb hr (nz (Or.inl rfl)) (fun t9 ht9 hW9 => ⟨⟨_, S56, rfl, ⟨h, hR.w, hsh, (Or.inl rfl)⟩, ⟨by rw [ht9]; exact hR.P, hR.D⟩⟩, hR.sS.F ht9⟩) hR.sS.2.2 dX14_onArrays_50
      · replace h := h.1 (k_eq rfl (by decide) c53)
        refine lv_iconst (v := 1) hx hb dX14_onArrays_36 (by decide) ?_
        refine lv_goto (tgt := 46) hx hb dX14_onArrays_37 (by decide) ?_
        obtain ⟨Q58, h0, h⟩ := h
        have hFc := rfree hR hA
        refine va_callv (va_runV (As := [.int 1]) (rest := []) ⟨hx, hb, hml, hown, hts⟩ (r_throwError l g ad H.size S50 (1 : Int32) hR.w  Q58 h0) (cwV 1 hts (gd2_V kx_962 kx_963 kx_964 kx_177 kx_965) rfl rfl rfl (by decide +kernel) ⟨Nat.le_of_ble_eq_true rfl, Nat.le_of_ble_eq_true rfl⟩) ⟨rblind, va_recv hR.K hR.P (ci := 13) (q0 := 0) rfl (hR.at14 hR.w.1), fun U hU hW9 => rmk hU hW9 hR hex hE hFc⟩ rfl rfl hl.1 rfl (lv_room (Nat.le_of_ble_eq_true rfl)) dX14_onArrays_46 ⟨Nat.le_of_ble_eq_true rfl, Nat.le_of_ble_eq_true rfl⟩) hR.sS (fun q _ h => hFc q h) hFc (fun  S59 t9 H1 locs ht9 hvm9 hw9 hB9 hz9 hk9 hS => ?_)
        obtain ⟨hq60, hw9, hs9⟩ := hw9
        have hR : Rep g ad A s S59 H1 locs := hR.call ht9 hB9 hw9 hS hFc
        have hsh := hsh.tr hs9
        replace h := h  S59 hq60
        clear hB9 hz9 hk9 hvm9 ht9 hw9 hs9 hS
        generalize H1 = H at hR ⊢
        refine lv_iconst (v := 0) hx hb dX14_onArrays_49 (by decide) ?_
        exact W.zret (v := 0) hx hb hr (nz (Or.inl rfl)) (fun t9 ht9 hW9 => ⟨⟨_, S59, rfl, ⟨h, hR.w, hsh, (Or.inl rfl)⟩, ⟨by rw [ht9]; exact hR.P, hR.D⟩⟩, hR.sS.F ht9⟩) hR.sS.2.2 dX14_onArrays_50
  · replace h := h.1 (k_eq rfl (by decide) c1)
    refine lv_aload_n hx hb dX14_onArrays_7 rfl (lv_at hl 0 rfl) ?_
    refine lv_aload_n hx hb dX14_onArrays_8 rfl (lv_at hl 0 rfl) ?_
    obtain ⟨Q61, h0, h⟩ := h
    have hFc := rfree hR hA
    refine va_calli (va_runV (As := []) (rest := [.ref (ad 0)]) ⟨hx, hb, hml, hown, hts⟩ (r_gotInt l g ad s.heap.size S hR.w  Q61 h0) (cwV 0 hts (gd2_V kx_648 kx_649 kx_650 kx_177 kx_651) rfl rfl rfl (by decide +kernel) ⟨Nat.le_of_ble_eq_true rfl, Nat.le_of_ble_eq_true rfl⟩) ⟨rblind, va_recv hR.K hR.P (ci := 13) (q0 := 0) rfl (hR.at14 hR.w.1), fun U hU hW9 => rmk hU hW9 hR hex hE hFc⟩ rfl rfl hl.1 rfl (lv_room (Nat.le_of_ble_eq_true rfl)) dX14_onArrays_9 ⟨Nat.le_of_ble_eq_true rfl, Nat.le_of_ble_eq_true rfl⟩) hR.sS (fun q _ h => hFc q h) hFc (fun r62 S63 t9 H1 locs ht9 hvm9 hw9 hB9 hz9 hk9 hS => ?_)
    obtain ⟨hq64, hw9, hs9⟩ := hw9
    have hR : Rep g ad A s S63 H1 locs := hR.call ht9 hB9 hw9 hS hFc
    have hsh := hsh.tr hs9
    replace h := h r62 S63 hq64
    clear hB9 hz9 hk9 hvm9 ht9 hw9 hs9 hS
    generalize H1 = H at hR ⊢
    obtain ⟨Q65, h0, h⟩ := h
    have hFc := rfree hR hA
    refine va_calli (va_runV (As := [.int r62]) (rest := []) ⟨hx, hb, hml, hown, hts⟩ (r_made l g ad H.size S63 r62 hR.w  Q65 h0) (cwV 1 hts (gd2_V kx_1113 kx_1114 kx_1115 kx_177 kx_1116) rfl rfl rfl (by decide +kernel) ⟨Nat.le_of_ble_eq_true rfl, Nat.le_of_ble_eq_true rfl⟩) ⟨rblind, va_recv hR.K hR.P (ci := 13) (q0 := 0) rfl (hR.at14 hR.w.1), fun U hU hW9 => rmk hU hW9 hR hex hE hFc⟩ rfl rfl hl.1 rfl (lv_room (Nat.le_of_ble_eq_true rfl)) dX14_onArrays_12 ⟨Nat.le_of_ble_eq_true rfl, Nat.le_of_ble_eq_true rfl⟩) hR.sS (fun q _ h => hFc q h) hFc (fun r66 S67 t9 H1 locs ht9 hvm9 hw9 hB9 hz9 hk9 hS => ?_)
    obtain ⟨hq68, hw9, hs9, hz_r66⟩ := hw9
    have hR : Rep g ad A s S67 H1 locs := hR.call ht9 hB9 hw9 hS hFc
    have hsh := hsh.tr hs9
    replace h := h r66 S67 hq68
    clear hB9 hz9 hk9 hvm9 ht9 hw9 hs9 hS
    generalize H1 = H at hR ⊢
    exact W.zret (v := r66) hx hb hr (nz hz_r66) (fun t9 ht9 hW9 => ⟨⟨_, S67, rfl, ⟨h, hR.w, hsh, hz_r66⟩, ⟨by rw [ht9]; exact hR.P, hR.D⟩⟩, hR.sS.F ht9⟩) hR.sS.2.2 dX14_onArrays_15
def w_apply_J365 (Q : Int32 → MS → Prop) (U365 : MS) (v365_1 : Int32) (v365_6 : Int32) : Prop := ((v365_6.toInt = 0 → Q v365_6 U365) ∧ (¬ v365_6.toInt = 0 → (((0 : Int) ≤ v365_1.toInt ∧ v365_1.toInt < 12) ∧ (((0 : Int) ≤ v365_1.toInt ∧ v365_1.toInt < 12) ∧ (∀ S16, S16 = wI U365 77 v365_1.toInt.toNat ((qI U365 77 v365_1.toInt.toNat) + (1 : Int32)) → Q v365_6 S16)))))
def w_apply_J128 (Q : Int32 → MS → Prop) (U128 : MS) (t128_0 : Int32) (v128_1 : Int32) (v128_2 : Int32) : Prop := ((t128_0.toInt = 0 → w_apply_J365 Q U128 v128_1 t128_0) ∧ (¬ t128_0.toInt = 0 → (((0 : Int) ≤ v128_2.toInt ∧ v128_2.toInt < 1200) ∧ (∀ S21, S21 = wI U128 81 v128_2.toInt.toNat (vp_nar .boolean (1 : Int32)) → w_apply_J365 Q S21 v128_1 t128_0))))
def w_apply_J127 (Q : Int32 → MS → Prop) (U127 : MS) (v127_1 : Int32) (v127_2 : Int32) : Prop := w_apply_J128 Q U127 0 v127_1 v127_2
def w_apply_J159 (Q : Int32 → MS → Prop) (U159 : MS) (t159_0 : Int32) (v159_1 : Int32) (v159_2 : Int32) : Prop := ((t159_0.toInt = 0 → w_apply_J365 Q U159 v159_1 t159_0) ∧ (¬ t159_0.toInt = 0 → (((0 : Int) ≤ v159_2.toInt ∧ v159_2.toInt < 1200) ∧ (∀ S32, S32 = wI U159 81 v159_2.toInt.toNat (vp_nar .boolean (1 : Int32)) → w_apply_J365 Q S32 v159_1 t159_0))))
def w_apply_J197 (Q : Int32 → MS → Prop) (U197 : MS) (t197_0 : Int32) (v197_1 : Int32) : Prop := w_apply_J365 Q U197 v197_1 t197_0
def w_apply_J196 (Q : Int32 → MS → Prop) (U196 : MS) (v196_1 : Int32) : Prop := w_apply_J197 Q U196 0 v196_1
def w_apply_J222 (Q : Int32 → MS → Prop) (U222 : MS) (t222_0 : Int32) (v222_1 : Int32) : Prop := w_apply_J365 Q U222 v222_1 t222_0
def w_apply_J221 (Q : Int32 → MS → Prop) (U221 : MS) (v221_1 : Int32) : Prop := w_apply_J222 Q U221 0 v221_1
def w_apply_J248 (Q : Int32 → MS → Prop) (U248 : MS) (t248_0 : Int32) (v248_1 : Int32) : Prop := w_apply_J365 Q U248 v248_1 t248_0
def w_apply_J247 (Q : Int32 → MS → Prop) (U247 : MS) (v247_1 : Int32) : Prop := w_apply_J248 Q U247 0 v247_1
def w_apply_J283 (Q : Int32 → MS → Prop) (U283 : MS) (t283_0 : Int32) (v283_1 : Int32) : Prop := w_apply_J365 Q U283 v283_1 t283_0
def w_apply_J282 (Q : Int32 → MS → Prop) (U282 : MS) (v282_1 : Int32) : Prop := w_apply_J283 Q U282 0 v282_1
def w_apply_J318 (Q : Int32 → MS → Prop) (U318 : MS) (t318_0 : Int32) (v318_1 : Int32) : Prop := w_apply_J365 Q U318 v318_1 t318_0
def w_apply_J317 (Q : Int32 → MS → Prop) (U317 : MS) (v317_1 : Int32) : Prop := w_apply_J318 Q U317 0 v317_1
def w_apply_J353 (Q : Int32 → MS → Prop) (U353 : MS) (t353_0 : Int32) (v353_1 : Int32) : Prop := w_apply_J365 Q U353 v353_1 t353_0
def w_apply_J352 (Q : Int32 → MS → Prop) (U352 : MS) (v352_1 : Int32) : Prop := w_apply_J353 Q U352 0 v352_1
def w_apply_J51 (Q : Int32 → MS → Prop) (U51 : MS) (t51_0 : Int32) (v51_1 : Int32) (v51_2 : Int32) (v51_3 : Int32) (v51_4 : Int32) : Prop := ((v51_1.toInt = 3 → (((0 : Int) ≤ v51_2.toInt ∧ v51_2.toInt < 1200) ∧ (((qI U51 78 v51_2.toInt.toNat).toInt = 167 → (∃ Q23, w_wayOf U51 v51_2 (0 : Int32) Q23 ∧ ∀ r24 S25, Q23 r24 S25 → ((r24.toInt = v51_4.toInt → w_apply_J128 Q S25 1 v51_1 v51_2) ∧ (¬ r24.toInt = v51_4.toInt → w_apply_J127 Q S25 v51_1 v51_2)))) ∧ (¬ (qI U51 78 v51_2.toInt.toNat).toInt = 167 → w_apply_J127 Q U51 v51_1 v51_2)))) ∧ (¬ v51_1.toInt = 3 → ((v51_1.toInt = 4 → (((0 : Int) ≤ v51_2.toInt ∧ v51_2.toInt < 1200) ∧ (((qI U51 78 v51_2.toInt.toNat).toInt = 0 → w_apply_J159 Q U51 1 v51_1 v51_2) ∧ (¬ (qI U51 78 v51_2.toInt.toNat).toInt = 0 → w_apply_J159 Q U51 0 v51_1 v51_2)))) ∧ (¬ v51_1.toInt = 4 → ((v51_1.toInt = 5 → ((t51_0.toInt = 0 → w_apply_J196 Q U51 v51_1) ∧ (¬ t51_0.toInt = 0 → (∃ Q35, w_folded U51 v51_2 v51_4 v51_3 Q35 ∧ ∀ r36 S37, Q35 r36 S37 → ((r36.toInt = 0 → w_apply_J196 Q S37 v51_1) ∧ (¬ r36.toInt = 0 → w_apply_J197 Q S37 1 v51_1)))))) ∧ (¬ v51_1.toInt = 5 → ((v51_1.toInt = 6 → ((t51_0.toInt = 0 → w_apply_J221 Q U51 v51_1) ∧ (¬ t51_0.toInt = 0 → (∃ Q41, w_turnedRow U51 v51_2 v51_4 Q41 ∧ ∀ r42 S43, Q41 r42 S43 → ((r42.toInt = 0 → w_apply_J221 Q S43 v51_1) ∧ (¬ r42.toInt = 0 → w_apply_J222 Q S43 1 v51_1)))))) ∧ (¬ v51_1.toInt = 6 → ((v51_1.toInt = 7 → ((t51_0.toInt = 0 → w_apply_J247 Q U51 v51_1) ∧ (¬ t51_0.toInt = 0 → (∃ Q47, w_decided U51 v51_2 v51_4 v51_3 Q47 ∧ ∀ r48 S49, Q47 r48 S49 → ((r48.toInt = 0 → w_apply_J247 Q S49 v51_1) ∧ (¬ r48.toInt = 0 → w_apply_J248 Q S49 1 v51_1)))))) ∧ (¬ v51_1.toInt = 7 → ((v51_1.toInt = 8 → ((t51_0.toInt = 0 → w_apply_J282 Q U51 v51_1) ∧ (¬ t51_0.toInt = 0 → (d_isIdle U51 v51_2 v51_4 ∧ (((f_isIdle U51 v51_2 v51_4).toInt = 0 → w_apply_J282 Q U51 v51_1) ∧ (¬ (f_isIdle U51 v51_2 v51_4).toInt = 0 → (∃ Q57, w_goBoth U51 v51_2 v51_4 Q57 ∧ ∀ r58 S59, Q57 r58 S59 → ((r58.toInt = 0 → w_apply_J282 Q S59 v51_1) ∧ (¬ r58.toInt = 0 → w_apply_J283 Q S59 1 v51_1))))))))) ∧ (¬ v51_1.toInt = 8 → ((v51_1.toInt = 9 → ((t51_0.toInt = 0 → w_apply_J317 Q U51 v51_1) ∧ (¬ t51_0.toInt = 0 → (d_isDropped U51 v51_2 v51_4 ∧ (((f_isDropped U51 v51_2 v51_4).toInt = 0 → w_apply_J317 Q U51 v51_1) ∧ (¬ (f_isDropped U51 v51_2 v51_4).toInt = 0 → (∃ Q67, w_goBoth U51 v51_2 v51_4 Q67 ∧ ∀ r68 S69, Q67 r68 S69 → ((r68.toInt = 0 → w_apply_J317 Q S69 v51_1) ∧ (¬ r68.toInt = 0 → w_apply_J318 Q S69 1 v51_1))))))))) ∧ (¬ v51_1.toInt = 9 → ((v51_1.toInt = 10 → ((t51_0.toInt = 0 → w_apply_J352 Q U51 v51_1) ∧ (¬ t51_0.toInt = 0 → (∃ Q73, w_isBack U51 v51_2 v51_4 Q73 ∧ ∀ r74 S75, Q73 r74 S75 → ((r74.toInt = 0 → w_apply_J352 Q S75 v51_1) ∧ (¬ r74.toInt = 0 → (∃ Q78, w_goBoth S75 v51_2 v51_4 Q78 ∧ ∀ r79 S80, Q78 r79 S80 → ((r79.toInt = 0 → w_apply_J352 Q S80 v51_1) ∧ (¬ r79.toInt = 0 → w_apply_J353 Q S80 1 v51_1))))))))) ∧ (¬ v51_1.toInt = 10 → (∃ Q83, w_dead U51 v51_2 Q83 ∧ ∀ r84 S85, Q83 r84 S85 → w_apply_J365 Q S85 v51_1 r84)))))))))))))))))
def w_apply_J50 (Q : Int32 → MS → Prop) (U50 : MS) (v50_1 : Int32) (v50_2 : Int32) (v50_3 : Int32) (v50_4 : Int32) : Prop := w_apply_J51 Q U50 0 v50_1 v50_2 v50_3 v50_4
def w_apply (S : MS) (x1 : Int32) (x2 : Int32) (Q : Int32 → MS → Prop) : Prop := ((x1.toInt = 2 → (∃ Q91, w_threaded S x2 Q91 ∧ ∀ r92 S93, Q91 r92 S93 → Q r92 S93)) ∧ (¬ x1.toInt = 2 → (∃ Q2, w_lastOne S Q2 ∧ ∀ r3 S4, Q2 r3 S4 → ((x2.toInt = r3.toInt → Q (0 : Int32) S4) ∧ (¬ x2.toInt = r3.toInt → (∃ Q7, w_behind S4 x2 Q7 ∧ ∀ r8 S9, Q7 r8 S9 → ((r8.toInt = r3.toInt → w_apply_J50 Q S9 x1 x2 r3 r8) ∧ (¬ r8.toInt = r3.toInt → (((0 : Int) ≤ r8.toInt ∧ r8.toInt < 1201) ∧ (((qI S9 87 r8.toInt.toNat).toInt = 0 → w_apply_J51 Q S9 1 x1 x2 r3 r8) ∧ (¬ (qI S9 87 r8.toInt.toNat).toInt = 0 → w_apply_J50 Q S9 x1 x2 r3 r8)))))))))))
set_option maxHeartbeats 2000000 in
set_option maxRecDepth 100000 in
theorem r_apply (l : Launch) (g : Gr) (ad : Nat → Nat) (sz : Nat) (S : MS) (x1 : Int32) (x2 : Int32) (hw : wfM S) (Q : Int32 → MS → Prop) (h : w_apply S x1 x2 Q) : Met l yX14_apply (wt2 yX14_apply cX14_apply 7 (some .boolean)) ({ frames := 4, cells := 0, slots := 0, locals := 91 }) (va_Pc [.ref (ad 0), .int x1, .int x2] (st_R g ad sz S)) (va_Qi (fun (r : Int32) (u : MS) => Q r u ∧ wfM u ∧ shy S u ∧ (r = 0 ∨ r = 1)) (fun (u : MS) (t : State) => qE g ad (va_A (Wd g ad S) sz) u t) (va_A (Wd g ad S) sz)) 0 0 (va_A (Wd g ad S) sz) := by
  refine Met.ofW (cc := cX14_apply) (maxL := 7) (ret := (some .boolean)) (by decide) rfl ?_
  intro p e s m args below meth c s₁ B hml hv
  obtain ⟨rfl, hsz, hP, hK, hD0, hex, hE⟩ := hv
  have hx := B.exec
  have hb := B.bytes
  have hr := B.returns
  have hts0 := atoms_spec (ws := wt2 yX14_apply cX14_apply 7 (some .boolean)) B.pre
  have hts : ∀ w ∈ tb2, w.before _ s = true := fun w h => hts0 w (List.mem_cons_of_mem _ h)
  have hown : s.vm.findClass RX14 = some m.cls := findClass_of_methodNamed B.named
  subst hsz
  have hD := hD0.self (sz := s.heap.size)
  generalize hAe : va_A (Wd g ad S) s.heap.size = A at hD hE ⊢
  have hA : ∀ q : Nat, s.heap.size ≤ q → A q := fun q h => by rw [← hAe]; exact Or.inr h
  have hR : Rep g ad A s S s.heap [] := ⟨hK, hP, hD, va_S.rf, hw⟩
  clear hK hP hD hD0
  have hl := lv_entry ([.ref (ad 0), .int x1, .int x2]) (n := 7) (Nat.le_of_ble_eq_true rfl)
  rw [lg_entry_eq]
  generalize (lg_sl ([.ref (ad 0), .int x1, .int x2]) ++ List.replicate (7 - (lg_sl ([.ref (ad 0), .int x1, .int x2])).length) Slot.unset).toArray = ls at hl ⊢
  have hl : lv_has ls 7 [(0, .ref (ad 0)), (1, .int x1), (2, .int x2)] := hl
  have hsh : shy S S := shy.rf
  unfold w_apply at h
  refine lv_iload_n hx hb dX14_apply_0 rfl (lv_at hl 1 rfl) ?_
  refine lv_iconst (v := 2) hx hb dX14_apply_1 (by decide) ?_
  refine lv_icmp_ne (tgt := 11) hx hb dX14_apply_2 (by decide) (fun c1 => ?_) (fun c1 => ?_)
  · replace h := h.2 (k_ne rfl (by decide) c1)
    refine lv_aload_n hx hb dX14_apply_11 rfl (lv_at hl 0 rfl) ?_
    obtain ⟨Q2, h0, h⟩ := h
    have hFc := rfree hR hA
    refine va_calli (va_runV (As := []) (rest := []) ⟨hx, hb, hml, hown, hts⟩ (r_lastOne l g ad s.heap.size S hR.w  Q2 h0) (cwV 0 hts (gd2_V kx_720 kx_721 kx_722 kx_177 kx_723) rfl rfl rfl (by decide +kernel) ⟨Nat.le_of_ble_eq_true rfl, Nat.le_of_ble_eq_true rfl⟩) ⟨rblind, va_recv hR.K hR.P (ci := 13) (q0 := 0) rfl (hR.at14 hR.w.1), fun U hU hW9 => rmk hU hW9 hR hex hE hFc⟩ rfl rfl hl.1 rfl (lv_room (Nat.le_of_ble_eq_true rfl)) dX14_apply_12 ⟨Nat.le_of_ble_eq_true rfl, Nat.le_of_ble_eq_true rfl⟩) hR.sS (fun q _ h => hFc q h) hFc (fun r3 S4 t9 H1 locs ht9 hvm9 hw9 hB9 hz9 hk9 hS => ?_)
    obtain ⟨hq5, hw9, hs9⟩ := hw9
    have hR : Rep g ad A s S4 H1 locs := hR.call ht9 hB9 hw9 hS hFc
    have hsh := hsh.tr hs9
    replace h := h r3 S4 hq5
    clear hB9 hz9 hk9 hvm9 ht9 hw9 hs9 hS
    generalize H1 = H at hR ⊢
    refine lv_istore_n (lv' := [(3, .int r3), (0, .ref (ad 0)), (1, .int x1), (2, .int x2)]) hx hb dX14_apply_15 rfl hl (by decide) rfl (fun ls hl => ?_)
    refine lv_iload_n hx hb dX14_apply_16 rfl (lv_at hl 3 rfl) ?_
    refine lv_iload_n hx hb dX14_apply_17 rfl (lv_at hl 0 rfl) ?_
    refine lv_icmp_ne (tgt := 23) hx hb dX14_apply_18 (by decide) (fun c6 => ?_) (fun c6 => ?_)
    · replace h := h.2 (k_ne rfl rfl c6)
      refine lv_aload_n hx hb dX14_apply_23 rfl (lv_at hl 1 rfl) ?_
      refine lv_iload_n hx hb dX14_apply_24 rfl (lv_at hl 3 rfl) ?_
      obtain ⟨Q7, h0, h⟩ := h
      have hFc := rfree hR hA
      refine va_calli (va_runV (As := [.int x2]) (rest := []) ⟨hx, hb, hml, hown, hts⟩ (r_behind l g ad H.size S4 x2 hR.w  Q7 h0) (cwV 1 hts (gd2_V kx_724 kx_725 kx_726 kx_177 kx_727) rfl rfl rfl (by decide +kernel) ⟨Nat.le_of_ble_eq_true rfl, Nat.le_of_ble_eq_true rfl⟩) ⟨rblind, va_recv hR.K hR.P (ci := 13) (q0 := 0) rfl (hR.at14 hR.w.1), fun U hU hW9 => rmk hU hW9 hR hex hE hFc⟩ rfl rfl hl.1 rfl (lv_room (Nat.le_of_ble_eq_true rfl)) dX14_apply_25 ⟨Nat.le_of_ble_eq_true rfl, Nat.le_of_ble_eq_true rfl⟩) hR.sS (fun q _ h => hFc q h) hFc (fun r8 S9 t9 H1 locs ht9 hvm9 hw9 hB9 hz9 hk9 hS => ?_)
      obtain ⟨hq10, hw9, hs9⟩ := hw9
      have hR : Rep g ad A s S9 H1 locs := hR.call ht9 hB9 hw9 hS hFc
      have hsh := hsh.tr hs9
      replace h := h r8 S9 hq10
      clear hB9 hz9 hk9 hvm9 ht9 hw9 hs9 hS
      generalize H1 = H at hR ⊢
      refine lv_istore (lv' := [(4, .int r8), (3, .int r3), (0, .ref (ad 0)), (1, .int x1), (2, .int x2)]) hx hb dX14_apply_28 hl (by decide) rfl (fun ls hl => ?_)
      refine lv_iload hx hb dX14_apply_30 (lv_at hl 0 rfl) ?_
      refine lv_iload_n hx hb dX14_apply_32 rfl (lv_at hl 1 rfl) ?_
      have J_51 : ∀ (U51 : MS) (t51_0 : Int32) (v51_1 : Int32) (v51_2 : Int32) (v51_3 : Int32) (v51_4 : Int32) (H : Heap) (locs : List Loc) (ls : Array Slot), w_apply_J51 Q U51 t51_0 v51_1 v51_2 v51_3 v51_4 → (t51_0 = 0 ∨ t51_0 = 1) → shy S U51 → Rep g ad A s U51 H locs → lv_has ls 7 [(0, .ref (ad 0)), (1, .int v51_1), (2, .int v51_2), (3, .int v51_3), (4, .int v51_4)] → W p l e (headSpec (wt2 yX14_apply cX14_apply 7 (some .boolean)) ({ frames := 4, cells := 0, slots := 0, locals := 91 })).room s m ([.ref (ad 0), .int x1, .int x2] : List Value).toArray below meth c H locs 0 0 (MQ below (va_Qi (fun (r : Int32) (u : MS) => Q r u ∧ wfM u ∧ shy S u ∧ (r = 0 ∨ r = 1)) (fun (u : MS) (t : State) => qE g ad A u t) A) ([.ref (ad 0), .int x1, .int x2] : List Value).toArray s 0 0 A) (F0 m 51 ls [.int t51_0]) := by
        intro U51 t51_0 v51_1 v51_2 v51_3 v51_4 H locs ls h hz_t51_0 hsh hR hl
        unfold w_apply_J51 at h
        refine lv_istore (lv' := [(5, .int t51_0), (0, .ref (ad 0)), (1, .int v51_1), (2, .int v51_2), (3, .int v51_3), (4, .int v51_4)]) hx hb dX14_apply_51 hl (by decide) rfl (fun ls hl => ?_)
        refine lv_iload_n hx hb dX14_apply_53 rfl (lv_at hl 2 rfl) ?_
        have J_365 : ∀ (U365 : MS) (v365_1 : Int32) (v365_6 : Int32) (H : Heap) (locs : List Loc) (ls : Array Slot), w_apply_J365 Q U365 v365_1 v365_6 → (v365_6 = 0 ∨ v365_6 = 1) → shy S U365 → Rep g ad A s U365 H locs → lv_has ls 7 [(0, .ref (ad 0)), (1, .int v365_1), (6, .int v365_6)] → W p l e (headSpec (wt2 yX14_apply cX14_apply 7 (some .boolean)) ({ frames := 4, cells := 0, slots := 0, locals := 91 })).room s m ([.ref (ad 0), .int x1, .int x2] : List Value).toArray below meth c H locs 0 0 (MQ below (va_Qi (fun (r : Int32) (u : MS) => Q r u ∧ wfM u ∧ shy S u ∧ (r = 0 ∨ r = 1)) (fun (u : MS) (t : State) => qE g ad A u t) A) ([.ref (ad 0), .int x1, .int x2] : List Value).toArray s 0 0 A) (F0 m 365 ls []) := by
          intro U365 v365_1 v365_6 H locs ls h hz_v365_6 hsh hR hl
          unfold w_apply_J365 at h
          refine lv_iload hx hb dX14_apply_365 (lv_at hl 2 rfl) ?_
          refine lv_if_eq (tgt := 380) hx hb dX14_apply_367 (by decide) (fun c11 => ?_) (fun c11 => ?_)
          · replace h := h.1 (k_eq rfl (by decide) c11)
            refine lv_iload hx hb dX14_apply_380 (lv_at hl 2 rfl) ?_
            exact W.zret (v := v365_6) hx hb hr (nz hz_v365_6) (fun t9 ht9 hW9 => ⟨⟨_, U365, rfl, ⟨h, hR.w, hsh, hz_v365_6⟩, ⟨by rw [ht9]; exact hR.P, hR.D⟩⟩, hR.sS.F ht9⟩) hR.sS.2.2 dX14_apply_382
          · replace h := h.2 (k_ne rfl (by decide) c11)
            refine lv_aload_n hx hb dX14_apply_370 rfl (lv_at hl 0 rfl) ?_
            refine va_get (D := rD g) (ci := 13) (v := .ref (ad 77)) (C := RX14) (T := TX14) (N := 143) hx hb hts in2X14 hown hR.K hR.P 0 (hR.at14 hR.w.1) rfl 124 (by decide) (hts _ kx_728) (fun _ h9 => h9) (congrArg (fun z => some (vf ad z)) (hR.w.2.1 _ fin_124).1) dX14_apply_371 ?_
            refine lv_iload_n hx hb dX14_apply_374 rfl (lv_at hl 1 rfl) ?_
            refine lv_dup2_11 hx hb dX14_apply_375 rfl rfl ?_
            obtain ⟨hv12, h⟩ := h
            refine va_iald hx hb hR.K hR.P 77 1 (hR.atI (hR.w.2.1 _ fin_124).2.1) rfl (k_ixN (k_ix (n := 12) (x := v365_1) (a := v365_1.toInt) rfl hv12) (hR.w.2.1 _ fin_124).2.2) dX14_apply_376 ?_
            refine lv_topi (fun z13 ez13 => ?_)
            obtain rfl : z13 = (qI U365 77 v365_1.toInt.toNat) := ez13
            refine lv_iconst (v := 1) hx hb dX14_apply_377 (by decide) ?_
            refine lv_iadd hx hb dX14_apply_378 ?_
            refine lv_topi (fun z14 ez14 => ?_)
            obtain rfl : z14 = ((qI U365 77 v365_1.toInt.toNat) + (1 : Int32)) := ez14
            obtain ⟨hv15, h⟩ := h
            refine va_iast hx hb hR.K hR.P hR.D hR.sS 77 1 (hR.atI (hR.w.2.1 _ fin_124).2.1) rfl (k_ixN (k_ix (n := 12) (x := v365_1) (a := v365_1.toInt) rfl hv15) (hR.w.2.1 _ fin_124).2.2) dX14_apply_379 (fun H locs hP hD hS => ?_)
            have hR : Rep g ad A s (wI U365 77 v365_1.toInt.toNat ((qI U365 77 v365_1.toInt.toNat) + (1 : Int32))) H locs := hR.aI (hR.w.2.1 _ fin_124).2.1 hP hD hS
            obtain ⟨S16, eS16⟩ : ∃ z, z = wI U365 77 v365_1.toInt.toNat ((qI U365 77 v365_1.toInt.toNat) + (1 : Int32)) := ⟨_, rfl⟩
            rw [← eS16] at hR
            replace h := h S16 eS16
            have hsh : shy S S16 := by rw [eS16]; exact hsh
            refine lv_iload hx hb dX14_apply_380 (lv_at hl 2 rfl) ?_
            exact W.zret (v := v365_6) hx hb hr (nz hz_v365_6) (fun t9 ht9 hW9 => ⟨⟨_, S16, rfl, ⟨h, hR.w, hsh, hz_v365_6⟩, ⟨by rw [ht9]; exact hR.P, hR.D⟩⟩, hR.sS.F ht9⟩) hR.sS.2.2 dX14_apply_382
        by_cases c9_3 : v51_1.toInt = 3
        · refine lv_tableIn (off := 46) (tgt := 100) hx hb dX14_apply_54 (by rw [c9_3]; decide) (by rw [c9_3]; decide) (by rw [c9_3]; rfl) (by decide) ?_
          replace h := h.1 (c9_3)
          refine lv_aload_n hx hb dX14_apply_100 rfl (lv_at hl 1 rfl) ?_
          refine va_get (D := rD g) (ci := 13) (v := .ref (ad 78)) (C := RX14) (T := TX14) (N := 143) hx hb hts in2X14 hown hR.K hR.P 0 (hR.at14 hR.w.1) rfl 125 (by decide) (hts _ kx_697) (fun _ h9 => h9) (congrArg (fun z => some (vf ad z)) (hR.w.2.1 _ fin_125).1) dX14_apply_101 ?_
          refine lv_iload_n hx hb dX14_apply_104 rfl (lv_at hl 3 rfl) ?_
          obtain ⟨hv17, h⟩ := h
          refine va_iald hx hb hR.K hR.P 78 1 (hR.atI (hR.w.2.1 _ fin_125).2.1) rfl (k_ixN (k_ix (n := 1200) (x := v51_2) (a := v51_2.toInt) rfl hv17) (hR.w.2.1 _ fin_125).2.2) dX14_apply_105 ?_
          refine lv_topi (fun z18 ez18 => ?_)
          obtain rfl : z18 = (qI U51 78 v51_2.toInt.toNat) := ez18
          refine lv_sipush (v := 167) hx hb dX14_apply_106 (by decide) ?_
          have J_128 : ∀ (U128 : MS) (t128_0 : Int32) (v128_1 : Int32) (v128_2 : Int32) (H : Heap) (locs : List Loc) (ls : Array Slot), w_apply_J128 Q U128 t128_0 v128_1 v128_2 → (t128_0 = 0 ∨ t128_0 = 1) → shy S U128 → Rep g ad A s U128 H locs → lv_has ls 7 [(0, .ref (ad 0)), (1, .int v128_1), (2, .int v128_2)] → W p l e (headSpec (wt2 yX14_apply cX14_apply 7 (some .boolean)) ({ frames := 4, cells := 0, slots := 0, locals := 91 })).room s m ([.ref (ad 0), .int x1, .int x2] : List Value).toArray below meth c H locs 0 0 (MQ below (va_Qi (fun (r : Int32) (u : MS) => Q r u ∧ wfM u ∧ shy S u ∧ (r = 0 ∨ r = 1)) (fun (u : MS) (t : State) => qE g ad A u t) A) ([.ref (ad 0), .int x1, .int x2] : List Value).toArray s 0 0 A) (F0 m 128 ls [.int t128_0]) := by
            intro U128 t128_0 v128_1 v128_2 H locs ls h hz_t128_0 hsh hR hl
            unfold w_apply_J128 at h
            refine lv_istore (lv' := [(6, .int t128_0), (0, .ref (ad 0)), (1, .int v128_1), (2, .int v128_2)]) hx hb dX14_apply_128 hl (by decide) rfl (fun ls hl => ?_)
            refine lv_iload hx hb dX14_apply_130 (lv_at hl 0 rfl) ?_
            refine lv_if_eq (tgt := 365) hx hb dX14_apply_132 (by decide) (fun c19 => ?_) (fun c19 => ?_)
            · replace h := h.1 (k_eq rfl (by decide) c19)
              exact J_365 U128 v128_1 t128_0 _ _ ls h hz_t128_0 hsh hR (lv_sub hl [1, 2, 0] rfl)
            · replace h := h.2 (k_ne rfl (by decide) c19)
              refine lv_aload_n hx hb dX14_apply_135 rfl (lv_at hl 1 rfl) ?_
              refine va_get (D := rD g) (ci := 13) (v := .ref (ad 81)) (C := RX14) (T := TX14) (N := 143) hx hb hts in2X14 hown hR.K hR.P 0 (hR.at14 hR.w.1) rfl 128 (by decide) (hts _ kx_692) (fun _ h9 => h9) (congrArg (fun z => some (vf ad z)) (hR.w.2.1 _ fin_128).1) dX14_apply_136 ?_
              refine lv_iload_n hx hb dX14_apply_139 rfl (lv_at hl 3 rfl) ?_
              refine lv_iconst (v := 1) hx hb dX14_apply_140 (by decide) ?_
              obtain ⟨hv20, h⟩ := h
              refine va_zast hx hb hR.K hR.P hR.D hR.sS 81 2 (hR.atZ (hR.w.2.1 _ fin_128).2.1) rfl (k_ixN (k_ix (n := 1200) (x := v128_2) (a := v128_2.toInt) rfl hv20) (hR.w.2.1 _ fin_128).2.2) dX14_apply_141 (fun H locs hP hD hS => ?_)
              have hR : Rep g ad A s (wI U128 81 v128_2.toInt.toNat (vp_nar .boolean (1 : Int32))) H locs := hR.aZ (hR.w.2.1 _ fin_128).2.1 hP hD hS
              obtain ⟨S21, eS21⟩ : ∃ z, z = wI U128 81 v128_2.toInt.toNat (vp_nar .boolean (1 : Int32)) := ⟨_, rfl⟩
              rw [← eS21] at hR
              replace h := h S21 eS21
              have hsh : shy S S21 := by rw [eS21]; exact hsh
              refine lv_goto (tgt := 365) hx hb dX14_apply_142 (by decide) ?_
              exact J_365 S21 v128_1 t128_0 _ _ ls h hz_t128_0 hsh hR (lv_sub hl [1, 2, 0] rfl)
          have J_127 : ∀ (U127 : MS) (v127_1 : Int32) (v127_2 : Int32) (H : Heap) (locs : List Loc) (ls : Array Slot), w_apply_J127 Q U127 v127_1 v127_2 → shy S U127 → Rep g ad A s U127 H locs → lv_has ls 7 [(0, .ref (ad 0)), (1, .int v127_1), (2, .int v127_2)] → W p l e (headSpec (wt2 yX14_apply cX14_apply 7 (some .boolean)) ({ frames := 4, cells := 0, slots := 0, locals := 91 })).room s m ([.ref (ad 0), .int x1, .int x2] : List Value).toArray below meth c H locs 0 0 (MQ below (va_Qi (fun (r : Int32) (u : MS) => Q r u ∧ wfM u ∧ shy S u ∧ (r = 0 ∨ r = 1)) (fun (u : MS) (t : State) => qE g ad A u t) A) ([.ref (ad 0), .int x1, .int x2] : List Value).toArray s 0 0 A) (F0 m 127 ls []) := by
            intro U127 v127_1 v127_2 H locs ls h hsh hR hl
            unfold w_apply_J127 at h
            refine lv_iconst (v := 0) hx hb dX14_apply_127 (by decide) ?_
            exact J_128 U127 0 v127_1 v127_2 _ _ ls h (Or.inl rfl) hsh hR (lv_sub hl [0, 1, 2] rfl)
          refine lv_icmp_ne (tgt := 127) hx hb dX14_apply_109 (by decide) (fun c22 => ?_) (fun c22 => ?_)
          · replace h := h.2 (k_ne rfl (by decide) c22)
            exact J_127 U51 v51_1 v51_2 _ _ ls h  hsh hR (lv_sub hl [1, 2, 3] rfl)
          · replace h := h.1 (k_eq rfl (by decide) c22)
            refine lv_aload_n hx hb dX14_apply_112 rfl (lv_at hl 1 rfl) ?_
            refine lv_iload_n hx hb dX14_apply_113 rfl (lv_at hl 3 rfl) ?_
            refine lv_iconst (v := 0) hx hb dX14_apply_114 (by decide) ?_
            obtain ⟨Q23, h0, h⟩ := h
            have hFc := rfree hR hA
            refine va_calli (va_runV (As := [.int v51_2, .int 0]) (rest := []) ⟨hx, hb, hml, hown, hts⟩ (r_wayOf l g ad H.size U51 v51_2 (0 : Int32) hR.w  Q23 h0) (cwV 2 hts (gd2_V kx_711 kx_712 kx_713 kx_177 kx_714) rfl rfl rfl (by decide +kernel) ⟨Nat.le_of_ble_eq_true rfl, Nat.le_of_ble_eq_true rfl⟩) ⟨rblind, va_recv hR.K hR.P (ci := 13) (q0 := 0) rfl (hR.at14 hR.w.1), fun U hU hW9 => rmk hU hW9 hR hex hE hFc⟩ rfl rfl hl.1 rfl (lv_room (Nat.le_of_ble_eq_true rfl)) dX14_apply_115 ⟨Nat.le_of_ble_eq_true rfl, Nat.le_of_ble_eq_true rfl⟩) hR.sS (fun q _ h => hFc q h) hFc (fun r24 S25 t9 H1 locs ht9 hvm9 hw9 hB9 hz9 hk9 hS => ?_)
            obtain ⟨hq26, hw9, hs9⟩ := hw9
            have hR : Rep g ad A s S25 H1 locs := hR.call ht9 hB9 hw9 hS hFc
            have hsh := hsh.tr hs9
            replace h := h r24 S25 hq26
            clear hB9 hz9 hk9 hvm9 ht9 hw9 hs9 hS
            generalize H1 = H at hR ⊢
            refine lv_iload hx hb dX14_apply_118 (lv_at hl 5 rfl) ?_
            refine lv_icmp_ne (tgt := 127) hx hb dX14_apply_120 (by decide) (fun c27 => ?_) (fun c27 => ?_)
            · replace h := h.2 (k_ne rfl rfl c27)
              exact J_127 S25 v51_1 v51_2 _ _ ls h  hsh hR (lv_sub hl [1, 2, 3] rfl)
            · replace h := h.1 (k_eq rfl rfl c27)
              refine lv_iconst (v := 1) hx hb dX14_apply_123 (by decide) ?_
              refine lv_goto (tgt := 128) hx hb dX14_apply_124 (by decide) ?_
              exact J_128 S25 1 v51_1 v51_2 _ _ ls h (Or.inr rfl) hsh hR (lv_sub hl [1, 2, 3] rfl)
        replace h := h.2 c9_3
        by_cases c9_4 : v51_1.toInt = 4
        · refine lv_tableIn (off := 91) (tgt := 145) hx hb dX14_apply_54 (by rw [c9_4]; decide) (by rw [c9_4]; decide) (by rw [c9_4]; rfl) (by decide) ?_
          replace h := h.1 (c9_4)
          refine lv_aload_n hx hb dX14_apply_145 rfl (lv_at hl 1 rfl) ?_
          refine va_get (D := rD g) (ci := 13) (v := .ref (ad 78)) (C := RX14) (T := TX14) (N := 143) hx hb hts in2X14 hown hR.K hR.P 0 (hR.at14 hR.w.1) rfl 125 (by decide) (hts _ kx_697) (fun _ h9 => h9) (congrArg (fun z => some (vf ad z)) (hR.w.2.1 _ fin_125).1) dX14_apply_146 ?_
          refine lv_iload_n hx hb dX14_apply_149 rfl (lv_at hl 3 rfl) ?_
          obtain ⟨hv28, h⟩ := h
          refine va_iald hx hb hR.K hR.P 78 1 (hR.atI (hR.w.2.1 _ fin_125).2.1) rfl (k_ixN (k_ix (n := 1200) (x := v51_2) (a := v51_2.toInt) rfl hv28) (hR.w.2.1 _ fin_125).2.2) dX14_apply_150 ?_
          refine lv_topi (fun z29 ez29 => ?_)
          obtain rfl : z29 = (qI U51 78 v51_2.toInt.toNat) := ez29
          have J_159 : ∀ (U159 : MS) (t159_0 : Int32) (v159_1 : Int32) (v159_2 : Int32) (H : Heap) (locs : List Loc) (ls : Array Slot), w_apply_J159 Q U159 t159_0 v159_1 v159_2 → (t159_0 = 0 ∨ t159_0 = 1) → shy S U159 → Rep g ad A s U159 H locs → lv_has ls 7 [(0, .ref (ad 0)), (1, .int v159_1), (2, .int v159_2)] → W p l e (headSpec (wt2 yX14_apply cX14_apply 7 (some .boolean)) ({ frames := 4, cells := 0, slots := 0, locals := 91 })).room s m ([.ref (ad 0), .int x1, .int x2] : List Value).toArray below meth c H locs 0 0 (MQ below (va_Qi (fun (r : Int32) (u : MS) => Q r u ∧ wfM u ∧ shy S u ∧ (r = 0 ∨ r = 1)) (fun (u : MS) (t : State) => qE g ad A u t) A) ([.ref (ad 0), .int x1, .int x2] : List Value).toArray s 0 0 A) (F0 m 159 ls [.int t159_0]) := by
            intro U159 t159_0 v159_1 v159_2 H locs ls h hz_t159_0 hsh hR hl
            unfold w_apply_J159 at h
            refine lv_istore (lv' := [(6, .int t159_0), (0, .ref (ad 0)), (1, .int v159_1), (2, .int v159_2)]) hx hb dX14_apply_159 hl (by decide) rfl (fun ls hl => ?_)
            refine lv_iload hx hb dX14_apply_161 (lv_at hl 0 rfl) ?_
            refine lv_if_eq (tgt := 365) hx hb dX14_apply_163 (by decide) (fun c30 => ?_) (fun c30 => ?_)
            · replace h := h.1 (k_eq rfl (by decide) c30)
              exact J_365 U159 v159_1 t159_0 _ _ ls h hz_t159_0 hsh hR (lv_sub hl [1, 2, 0] rfl)
            · replace h := h.2 (k_ne rfl (by decide) c30)
              refine lv_aload_n hx hb dX14_apply_166 rfl (lv_at hl 1 rfl) ?_
              refine va_get (D := rD g) (ci := 13) (v := .ref (ad 81)) (C := RX14) (T := TX14) (N := 143) hx hb hts in2X14 hown hR.K hR.P 0 (hR.at14 hR.w.1) rfl 128 (by decide) (hts _ kx_692) (fun _ h9 => h9) (congrArg (fun z => some (vf ad z)) (hR.w.2.1 _ fin_128).1) dX14_apply_167 ?_
              refine lv_iload_n hx hb dX14_apply_170 rfl (lv_at hl 3 rfl) ?_
              refine lv_iconst (v := 1) hx hb dX14_apply_171 (by decide) ?_
              obtain ⟨hv31, h⟩ := h
              refine va_zast hx hb hR.K hR.P hR.D hR.sS 81 2 (hR.atZ (hR.w.2.1 _ fin_128).2.1) rfl (k_ixN (k_ix (n := 1200) (x := v159_2) (a := v159_2.toInt) rfl hv31) (hR.w.2.1 _ fin_128).2.2) dX14_apply_172 (fun H locs hP hD hS => ?_)
              have hR : Rep g ad A s (wI U159 81 v159_2.toInt.toNat (vp_nar .boolean (1 : Int32))) H locs := hR.aZ (hR.w.2.1 _ fin_128).2.1 hP hD hS
              obtain ⟨S32, eS32⟩ : ∃ z, z = wI U159 81 v159_2.toInt.toNat (vp_nar .boolean (1 : Int32)) := ⟨_, rfl⟩
              rw [← eS32] at hR
              replace h := h S32 eS32
              have hsh : shy S S32 := by rw [eS32]; exact hsh
              refine lv_goto (tgt := 365) hx hb dX14_apply_173 (by decide) ?_
              exact J_365 S32 v159_1 t159_0 _ _ ls h hz_t159_0 hsh hR (lv_sub hl [1, 2, 0] rfl)
          refine lv_if_ne (tgt := 158) hx hb dX14_apply_151 (by decide) (fun c33 => ?_) (fun c33 => ?_)
          · replace h := h.2 (k_ne rfl (by decide) c33)
            refine lv_iconst (v := 0) hx hb dX14_apply_158 (by decide) ?_
            exact J_159 U51 0 v51_1 v51_2 _ _ ls h (Or.inl rfl) hsh hR (lv_sub hl [1, 2, 3] rfl)
          · replace h := h.1 (k_eq rfl (by decide) c33)
            refine lv_iconst (v := 1) hx hb dX14_apply_154 (by decide) ?_
            refine lv_goto (tgt := 159) hx hb dX14_apply_155 (by decide) ?_
            exact J_159 U51 1 v51_1 v51_2 _ _ ls h (Or.inr rfl) hsh hR (lv_sub hl [1, 2, 3] rfl)
        replace h := h.2 c9_4
        by_cases c9_5 : v51_1.toInt = 5
        · refine lv_tableIn (off := 122) (tgt := 176) hx hb dX14_apply_54 (by rw [c9_5]; decide) (by rw [c9_5]; decide) (by rw [c9_5]; rfl) (by decide) ?_
          replace h := h.1 (c9_5)
          refine lv_iload hx hb dX14_apply_176 (lv_at hl 0 rfl) ?_
          have J_197 : ∀ (U197 : MS) (t197_0 : Int32) (v197_1 : Int32) (H : Heap) (locs : List Loc) (ls : Array Slot), w_apply_J197 Q U197 t197_0 v197_1 → (t197_0 = 0 ∨ t197_0 = 1) → shy S U197 → Rep g ad A s U197 H locs → lv_has ls 7 [(0, .ref (ad 0)), (1, .int v197_1)] → W p l e (headSpec (wt2 yX14_apply cX14_apply 7 (some .boolean)) ({ frames := 4, cells := 0, slots := 0, locals := 91 })).room s m ([.ref (ad 0), .int x1, .int x2] : List Value).toArray below meth c H locs 0 0 (MQ below (va_Qi (fun (r : Int32) (u : MS) => Q r u ∧ wfM u ∧ shy S u ∧ (r = 0 ∨ r = 1)) (fun (u : MS) (t : State) => qE g ad A u t) A) ([.ref (ad 0), .int x1, .int x2] : List Value).toArray s 0 0 A) (F0 m 197 ls [.int t197_0]) := by
            intro U197 t197_0 v197_1 H locs ls h hz_t197_0 hsh hR hl
            unfold w_apply_J197 at h
            refine lv_istore (lv' := [(6, .int t197_0), (0, .ref (ad 0)), (1, .int v197_1)]) hx hb dX14_apply_197 hl (by decide) rfl (fun ls hl => ?_)
            refine lv_goto (tgt := 365) hx hb dX14_apply_199 (by decide) ?_
            exact J_365 U197 v197_1 t197_0 _ _ ls h hz_t197_0 hsh hR (lv_sub hl [1, 2, 0] rfl)
          have J_196 : ∀ (U196 : MS) (v196_1 : Int32) (H : Heap) (locs : List Loc) (ls : Array Slot), w_apply_J196 Q U196 v196_1 → shy S U196 → Rep g ad A s U196 H locs → lv_has ls 7 [(0, .ref (ad 0)), (1, .int v196_1)] → W p l e (headSpec (wt2 yX14_apply cX14_apply 7 (some .boolean)) ({ frames := 4, cells := 0, slots := 0, locals := 91 })).room s m ([.ref (ad 0), .int x1, .int x2] : List Value).toArray below meth c H locs 0 0 (MQ below (va_Qi (fun (r : Int32) (u : MS) => Q r u ∧ wfM u ∧ shy S u ∧ (r = 0 ∨ r = 1)) (fun (u : MS) (t : State) => qE g ad A u t) A) ([.ref (ad 0), .int x1, .int x2] : List Value).toArray s 0 0 A) (F0 m 196 ls []) := by
            intro U196 v196_1 H locs ls h hsh hR hl
            unfold w_apply_J196 at h
            refine lv_iconst (v := 0) hx hb dX14_apply_196 (by decide) ?_
            exact J_197 U196 0 v196_1 _ _ ls h (Or.inl rfl) hsh hR (lv_sub hl [0, 1] rfl)
          refine lv_if_eq (tgt := 196) hx hb dX14_apply_178 (by decide) (fun c34 => ?_) (fun c34 => ?_)
          · replace h := h.1 (k_eq rfl (by decide) c34)
            exact J_196 U51 v51_1 _ _ ls h  hsh hR (lv_sub hl [1, 2] rfl)
          · replace h := h.2 (k_ne rfl (by decide) c34)
            refine lv_aload_n hx hb dX14_apply_181 rfl (lv_at hl 1 rfl) ?_
            refine lv_iload_n hx hb dX14_apply_182 rfl (lv_at hl 3 rfl) ?_
            refine lv_iload hx hb dX14_apply_183 (lv_at hl 5 rfl) ?_
            refine lv_iload_n hx hb dX14_apply_185 rfl (lv_at hl 4 rfl) ?_
            obtain ⟨Q35, h0, h⟩ := h
            have hFc := rfree hR hA
            refine va_calli (va_runV (As := [.int v51_2, .int v51_4, .int v51_3]) (rest := []) ⟨hx, hb, hml, hown, hts⟩ (r_folded l g ad H.size U51 v51_2 v51_4 v51_3 hR.w  Q35 h0) (cwV 3 hts (gd2_V kx_1007 kx_1008 kx_1009 kx_177 kx_1010) rfl rfl rfl (by decide +kernel) ⟨Nat.le_of_ble_eq_true rfl, Nat.le_of_ble_eq_true rfl⟩) ⟨rblind, va_recv hR.K hR.P (ci := 13) (q0 := 0) rfl (hR.at14 hR.w.1), fun U hU hW9 => rmk hU hW9 hR hex hE hFc⟩ rfl rfl hl.1 rfl (lv_room (Nat.le_of_ble_eq_true rfl)) dX14_apply_186 ⟨Nat.le_of_ble_eq_true rfl, Nat.le_of_ble_eq_true rfl⟩) hR.sS (fun q _ h => hFc q h) hFc (fun r36 S37 t9 H1 locs ht9 hvm9 hw9 hB9 hz9 hk9 hS => ?_)
            obtain ⟨hq38, hw9, hs9, hz_r36⟩ := hw9
            have hR : Rep g ad A s S37 H1 locs := hR.call ht9 hB9 hw9 hS hFc
            have hsh := hsh.tr hs9
            replace h := h r36 S37 hq38
            clear hB9 hz9 hk9 hvm9 ht9 hw9 hs9 hS
            generalize H1 = H at hR ⊢
            refine lv_if_eq (tgt := 196) hx hb dX14_apply_189 (by decide) (fun c39 => ?_) (fun c39 => ?_)
            · replace h := h.1 (k_eq rfl (by decide) c39)
              exact J_196 S37 v51_1 _ _ ls h  hsh hR (lv_sub hl [1, 2] rfl)
            · replace h := h.2 (k_ne rfl (by decide) c39)
              refine lv_iconst (v := 1) hx hb dX14_apply_192 (by decide) ?_
              refine lv_goto (tgt := 197) hx hb dX14_apply_193 (by decide) ?_
              exact J_197 S37 1 v51_1 _ _ ls h (Or.inr rfl) hsh hR (lv_sub hl [1, 2] rfl)
        replace h := h.2 c9_5
        by_cases c9_6 : v51_1.toInt = 6
        · refine lv_tableIn (off := 148) (tgt := 202) hx hb dX14_apply_54 (by rw [c9_6]; decide) (by rw [c9_6]; decide) (by rw [c9_6]; rfl) (by decide) ?_
          replace h := h.1 (c9_6)
          refine lv_iload hx hb dX14_apply_202 (lv_at hl 0 rfl) ?_
          have J_222 : ∀ (U222 : MS) (t222_0 : Int32) (v222_1 : Int32) (H : Heap) (locs : List Loc) (ls : Array Slot), w_apply_J222 Q U222 t222_0 v222_1 → (t222_0 = 0 ∨ t222_0 = 1) → shy S U222 → Rep g ad A s U222 H locs → lv_has ls 7 [(0, .ref (ad 0)), (1, .int v222_1)] → W p l e (headSpec (wt2 yX14_apply cX14_apply 7 (some .boolean)) ({ frames := 4, cells := 0, slots := 0, locals := 91 })).room s m ([.ref (ad 0), .int x1, .int x2] : List Value).toArray below meth c H locs 0 0 (MQ below (va_Qi (fun (r : Int32) (u : MS) => Q r u ∧ wfM u ∧ shy S u ∧ (r = 0 ∨ r = 1)) (fun (u : MS) (t : State) => qE g ad A u t) A) ([.ref (ad 0), .int x1, .int x2] : List Value).toArray s 0 0 A) (F0 m 222 ls [.int t222_0]) := by
            intro U222 t222_0 v222_1 H locs ls h hz_t222_0 hsh hR hl
            unfold w_apply_J222 at h
            refine lv_istore (lv' := [(6, .int t222_0), (0, .ref (ad 0)), (1, .int v222_1)]) hx hb dX14_apply_222 hl (by decide) rfl (fun ls hl => ?_)
            refine lv_goto (tgt := 365) hx hb dX14_apply_224 (by decide) ?_
            exact J_365 U222 v222_1 t222_0 _ _ ls h hz_t222_0 hsh hR (lv_sub hl [1, 2, 0] rfl)
          have J_221 : ∀ (U221 : MS) (v221_1 : Int32) (H : Heap) (locs : List Loc) (ls : Array Slot), w_apply_J221 Q U221 v221_1 → shy S U221 → Rep g ad A s U221 H locs → lv_has ls 7 [(0, .ref (ad 0)), (1, .int v221_1)] → W p l e (headSpec (wt2 yX14_apply cX14_apply 7 (some .boolean)) ({ frames := 4, cells := 0, slots := 0, locals := 91 })).room s m ([.ref (ad 0), .int x1, .int x2] : List Value).toArray below meth c H locs 0 0 (MQ below (va_Qi (fun (r : Int32) (u : MS) => Q r u ∧ wfM u ∧ shy S u ∧ (r = 0 ∨ r = 1)) (fun (u : MS) (t : State) => qE g ad A u t) A) ([.ref (ad 0), .int x1, .int x2] : List Value).toArray s 0 0 A) (F0 m 221 ls []) := by
            intro U221 v221_1 H locs ls h hsh hR hl
            unfold w_apply_J221 at h
            refine lv_iconst (v := 0) hx hb dX14_apply_221 (by decide) ?_
            exact J_222 U221 0 v221_1 _ _ ls h (Or.inl rfl) hsh hR (lv_sub hl [0, 1] rfl)
          refine lv_if_eq (tgt := 221) hx hb dX14_apply_204 (by decide) (fun c40 => ?_) (fun c40 => ?_)
          · replace h := h.1 (k_eq rfl (by decide) c40)
            exact J_221 U51 v51_1 _ _ ls h  hsh hR (lv_sub hl [1, 2] rfl)
          · replace h := h.2 (k_ne rfl (by decide) c40)
            refine lv_aload_n hx hb dX14_apply_207 rfl (lv_at hl 1 rfl) ?_
            refine lv_iload_n hx hb dX14_apply_208 rfl (lv_at hl 3 rfl) ?_
            refine lv_iload hx hb dX14_apply_209 (lv_at hl 5 rfl) ?_
            obtain ⟨Q41, h0, h⟩ := h
            have hFc := rfree hR hA
            refine va_calli (va_runV (As := [.int v51_2, .int v51_4]) (rest := []) ⟨hx, hb, hml, hown, hts⟩ (r_turnedRow l g ad H.size U51 v51_2 v51_4 hR.w  Q41 h0) (cwV 2 hts (gd2_V kx_1011 kx_1012 kx_1013 kx_177 kx_1014) rfl rfl rfl (by decide +kernel) ⟨Nat.le_of_ble_eq_true rfl, Nat.le_of_ble_eq_true rfl⟩) ⟨rblind, va_recv hR.K hR.P (ci := 13) (q0 := 0) rfl (hR.at14 hR.w.1), fun U hU hW9 => rmk hU hW9 hR hex hE hFc⟩ rfl rfl hl.1 rfl (lv_room (Nat.le_of_ble_eq_true rfl)) dX14_apply_211 ⟨Nat.le_of_ble_eq_true rfl, Nat.le_of_ble_eq_true rfl⟩) hR.sS (fun q _ h => hFc q h) hFc (fun r42 S43 t9 H1 locs ht9 hvm9 hw9 hB9 hz9 hk9 hS => ?_)
            obtain ⟨hq44, hw9, hs9, hz_r42⟩ := hw9
            have hR : Rep g ad A s S43 H1 locs := hR.call ht9 hB9 hw9 hS hFc
            have hsh := hsh.tr hs9
            replace h := h r42 S43 hq44
            clear hB9 hz9 hk9 hvm9 ht9 hw9 hs9 hS
            generalize H1 = H at hR ⊢
            refine lv_if_eq (tgt := 221) hx hb dX14_apply_214 (by decide) (fun c45 => ?_) (fun c45 => ?_)
            · replace h := h.1 (k_eq rfl (by decide) c45)
              exact J_221 S43 v51_1 _ _ ls h  hsh hR (lv_sub hl [1, 2] rfl)
            · replace h := h.2 (k_ne rfl (by decide) c45)
              refine lv_iconst (v := 1) hx hb dX14_apply_217 (by decide) ?_
              refine lv_goto (tgt := 222) hx hb dX14_apply_218 (by decide) ?_
              exact J_222 S43 1 v51_1 _ _ ls h (Or.inr rfl) hsh hR (lv_sub hl [1, 2] rfl)
        replace h := h.2 c9_6
        by_cases c9_7 : v51_1.toInt = 7
        · refine lv_tableIn (off := 173) (tgt := 227) hx hb dX14_apply_54 (by rw [c9_7]; decide) (by rw [c9_7]; decide) (by rw [c9_7]; rfl) (by decide) ?_
          replace h := h.1 (c9_7)
          refine lv_iload hx hb dX14_apply_227 (lv_at hl 0 rfl) ?_
          have J_248 : ∀ (U248 : MS) (t248_0 : Int32) (v248_1 : Int32) (H : Heap) (locs : List Loc) (ls : Array Slot), w_apply_J248 Q U248 t248_0 v248_1 → (t248_0 = 0 ∨ t248_0 = 1) → shy S U248 → Rep g ad A s U248 H locs → lv_has ls 7 [(0, .ref (ad 0)), (1, .int v248_1)] → W p l e (headSpec (wt2 yX14_apply cX14_apply 7 (some .boolean)) ({ frames := 4, cells := 0, slots := 0, locals := 91 })).room s m ([.ref (ad 0), .int x1, .int x2] : List Value).toArray below meth c H locs 0 0 (MQ below (va_Qi (fun (r : Int32) (u : MS) => Q r u ∧ wfM u ∧ shy S u ∧ (r = 0 ∨ r = 1)) (fun (u : MS) (t : State) => qE g ad A u t) A) ([.ref (ad 0), .int x1, .int x2] : List Value).toArray s 0 0 A) (F0 m 248 ls [.int t248_0]) := by
            intro U248 t248_0 v248_1 H locs ls h hz_t248_0 hsh hR hl
            unfold w_apply_J248 at h
            refine lv_istore (lv' := [(6, .int t248_0), (0, .ref (ad 0)), (1, .int v248_1)]) hx hb dX14_apply_248 hl (by decide) rfl (fun ls hl => ?_)
            refine lv_goto (tgt := 365) hx hb dX14_apply_250 (by decide) ?_
            exact J_365 U248 v248_1 t248_0 _ _ ls h hz_t248_0 hsh hR (lv_sub hl [1, 2, 0] rfl)
          have J_247 : ∀ (U247 : MS) (v247_1 : Int32) (H : Heap) (locs : List Loc) (ls : Array Slot), w_apply_J247 Q U247 v247_1 → shy S U247 → Rep g ad A s U247 H locs → lv_has ls 7 [(0, .ref (ad 0)), (1, .int v247_1)] → W p l e (headSpec (wt2 yX14_apply cX14_apply 7 (some .boolean)) ({ frames := 4, cells := 0, slots := 0, locals := 91 })).room s m ([.ref (ad 0), .int x1, .int x2] : List Value).toArray below meth c H locs 0 0 (MQ below (va_Qi (fun (r : Int32) (u : MS) => Q r u ∧ wfM u ∧ shy S u ∧ (r = 0 ∨ r = 1)) (fun (u : MS) (t : State) => qE g ad A u t) A) ([.ref (ad 0), .int x1, .int x2] : List Value).toArray s 0 0 A) (F0 m 247 ls []) := by
            intro U247 v247_1 H locs ls h hsh hR hl
            unfold w_apply_J247 at h
            refine lv_iconst (v := 0) hx hb dX14_apply_247 (by decide) ?_
            exact J_248 U247 0 v247_1 _ _ ls h (Or.inl rfl) hsh hR (lv_sub hl [0, 1] rfl)
          refine lv_if_eq (tgt := 247) hx hb dX14_apply_229 (by decide) (fun c46 => ?_) (fun c46 => ?_)
          · replace h := h.1 (k_eq rfl (by decide) c46)
            exact J_247 U51 v51_1 _ _ ls h  hsh hR (lv_sub hl [1, 2] rfl)
          · replace h := h.2 (k_ne rfl (by decide) c46)
            refine lv_aload_n hx hb dX14_apply_232 rfl (lv_at hl 1 rfl) ?_
            refine lv_iload_n hx hb dX14_apply_233 rfl (lv_at hl 3 rfl) ?_
            refine lv_iload hx hb dX14_apply_234 (lv_at hl 5 rfl) ?_
            refine lv_iload_n hx hb dX14_apply_236 rfl (lv_at hl 4 rfl) ?_
            obtain ⟨Q47, h0, h⟩ := h
            have hFc := rfree hR hA
            refine va_calli (va_runV (As := [.int v51_2, .int v51_4, .int v51_3]) (rest := []) ⟨hx, hb, hml, hown, hts⟩ (r_decided l g ad H.size U51 v51_2 v51_4 v51_3 hR.w  Q47 h0) (cwV 3 hts (gd2_V kx_1117 kx_1118 kx_1119 kx_177 kx_1120) rfl rfl rfl (by decide +kernel) ⟨Nat.le_of_ble_eq_true rfl, Nat.le_of_ble_eq_true rfl⟩) ⟨rblind, va_recv hR.K hR.P (ci := 13) (q0 := 0) rfl (hR.at14 hR.w.1), fun U hU hW9 => rmk hU hW9 hR hex hE hFc⟩ rfl rfl hl.1 rfl (lv_room (Nat.le_of_ble_eq_true rfl)) dX14_apply_237 ⟨Nat.le_of_ble_eq_true rfl, Nat.le_of_ble_eq_true rfl⟩) hR.sS (fun q _ h => hFc q h) hFc (fun r48 S49 t9 H1 locs ht9 hvm9 hw9 hB9 hz9 hk9 hS => ?_)
            obtain ⟨hq50, hw9, hs9, hz_r48⟩ := hw9
            have hR : Rep g ad A s S49 H1 locs := hR.call ht9 hB9 hw9 hS hFc
            have hsh := hsh.tr hs9
            replace h := h r48 S49 hq50
            clear hB9 hz9 hk9 hvm9 ht9 hw9 hs9 hS
            generalize H1 = H at hR ⊢
            refine lv_if_eq (tgt := 247) hx hb dX14_apply_240 (by decide) (fun c51 => ?_) (fun c51 => ?_)
            · replace h := h.1 (k_eq rfl (by decide) c51)
              exact J_247 S49 v51_1 _ _ ls h  hsh hR (lv_sub hl [1, 2] rfl)
            · replace h := h.2 (k_ne rfl (by decide) c51)
              refine lv_iconst (v := 1) hx hb dX14_apply_243 (by decide) ?_
              refine lv_goto (tgt := 248) hx hb dX14_apply_244 (by decide) ?_
              exact J_248 S49 1 v51_1 _ _ ls h (Or.inr rfl) hsh hR (lv_sub hl [1, 2] rfl)
        replace h := h.2 c9_7
        by_cases c9_8 : v51_1.toInt = 8
        · refine lv_tableIn (off := 199) (tgt := 253) hx hb dX14_apply_54 (by rw [c9_8]; decide) (by rw [c9_8]; decide) (by rw [c9_8]; rfl) (by decide) ?_
          replace h := h.1 (c9_8)
          refine lv_iload hx hb dX14_apply_253 (lv_at hl 0 rfl) ?_
          have J_283 : ∀ (U283 : MS) (t283_0 : Int32) (v283_1 : Int32) (H : Heap) (locs : List Loc) (ls : Array Slot), w_apply_J283 Q U283 t283_0 v283_1 → (t283_0 = 0 ∨ t283_0 = 1) → shy S U283 → Rep g ad A s U283 H locs → lv_has ls 7 [(0, .ref (ad 0)), (1, .int v283_1)] → W p l e (headSpec (wt2 yX14_apply cX14_apply 7 (some .boolean)) ({ frames := 4, cells := 0, slots := 0, locals := 91 })).room s m ([.ref (ad 0), .int x1, .int x2] : List Value).toArray below meth c H locs 0 0 (MQ below (va_Qi (fun (r : Int32) (u : MS) => Q r u ∧ wfM u ∧ shy S u ∧ (r = 0 ∨ r = 1)) (fun (u : MS) (t : State) => qE g ad A u t) A) ([.ref (ad 0), .int x1, .int x2] : List Value).toArray s 0 0 A) (F0 m 283 ls [.int t283_0]) := by
            intro U283 t283_0 v283_1 H locs ls h hz_t283_0 hsh hR hl
            unfold w_apply_J283 at h
            refine lv_istore (lv' := [(6, .int t283_0), (0, .ref (ad 0)), (1, .int v283_1)]) hx hb dX14_apply_283 hl (by decide) rfl (fun ls hl => ?_)
            refine lv_goto (tgt := 365) hx hb dX14_apply_285 (by decide) ?_
            exact J_365 U283 v283_1 t283_0 _ _ ls h hz_t283_0 hsh hR (lv_sub hl [1, 2, 0] rfl)
          have J_282 : ∀ (U282 : MS) (v282_1 : Int32) (H : Heap) (locs : List Loc) (ls : Array Slot), w_apply_J282 Q U282 v282_1 → shy S U282 → Rep g ad A s U282 H locs → lv_has ls 7 [(0, .ref (ad 0)), (1, .int v282_1)] → W p l e (headSpec (wt2 yX14_apply cX14_apply 7 (some .boolean)) ({ frames := 4, cells := 0, slots := 0, locals := 91 })).room s m ([.ref (ad 0), .int x1, .int x2] : List Value).toArray below meth c H locs 0 0 (MQ below (va_Qi (fun (r : Int32) (u : MS) => Q r u ∧ wfM u ∧ shy S u ∧ (r = 0 ∨ r = 1)) (fun (u : MS) (t : State) => qE g ad A u t) A) ([.ref (ad 0), .int x1, .int x2] : List Value).toArray s 0 0 A) (F0 m 282 ls []) := by
            intro U282 v282_1 H locs ls h hsh hR hl
            unfold w_apply_J282 at h
            refine lv_iconst (v := 0) hx hb dX14_apply_282 (by decide) ?_
            exact J_283 U282 0 v282_1 _ _ ls h (Or.inl rfl) hsh hR (lv_sub hl [0, 1] rfl)
          refine lv_if_eq (tgt := 282) hx hb dX14_apply_255 (by decide) (fun c52 => ?_) (fun c52 => ?_)
          · replace h := h.1 (k_eq rfl (by decide) c52)
            exact J_282 U51 v51_1 _ _ ls h  hsh hR (lv_sub hl [1, 2] rfl)
          · replace h := h.2 (k_ne rfl (by decide) c52)
            refine lv_aload_n hx hb dX14_apply_258 rfl (lv_at hl 1 rfl) ?_
            refine lv_iload_n hx hb dX14_apply_259 rfl (lv_at hl 3 rfl) ?_
            refine lv_iload hx hb dX14_apply_260 (lv_at hl 5 rfl) ?_
            obtain ⟨hv53, h⟩ := h
            have hFc := rfree hR hA
            refine va_calli (va_runV (As := [.int v51_2, .int v51_4]) (rest := []) ⟨hx, hb, hml, hown, hts⟩ (r_isIdle l g ad H.size U51 v51_2 v51_4 hR.w  hv53) (cwV 2 hts (gd2_V kx_1121 kx_1122 kx_1123 kx_177 kx_1124) rfl rfl rfl (by decide +kernel) ⟨Nat.le_of_ble_eq_true rfl, Nat.le_of_ble_eq_true rfl⟩) ⟨rblind, va_recv hR.K hR.P (ci := 13) (q0 := 0) rfl (hR.at14 hR.w.1), fun U hU hW9 => rmk hU hW9 hR hex hE hFc⟩ rfl rfl hl.1 rfl (lv_room (Nat.le_of_ble_eq_true rfl)) dX14_apply_262 ⟨Nat.le_of_ble_eq_true rfl, Nat.le_of_ble_eq_true rfl⟩) hR.sS (fun q _ h => hFc q h) hFc (fun r54 u9 t9 H1 locs ht9 hvm9 hw9 hB9 hz9 hk9 hS => ?_)
            have hR : Rep g ad A s U51 H1 locs := hR.call ht9 hB9 hR.w hS hFc
            obtain ⟨rfl, hz_r54⟩ := hw9
            clear hB9 hz9 hk9 hvm9 ht9 hS
            generalize H1 = H at hR ⊢
            refine lv_if_eq (tgt := 282) hx hb dX14_apply_265 (by decide) (fun c56 => ?_) (fun c56 => ?_)
            · replace h := h.1 (k_eq rfl (by decide) c56)
              exact J_282 U51 v51_1 _ _ ls h  hsh hR (lv_sub hl [1, 2] rfl)
            · replace h := h.2 (k_ne rfl (by decide) c56)
              refine lv_aload_n hx hb dX14_apply_268 rfl (lv_at hl 1 rfl) ?_
              refine lv_iload_n hx hb dX14_apply_269 rfl (lv_at hl 3 rfl) ?_
              refine lv_iload hx hb dX14_apply_270 (lv_at hl 5 rfl) ?_
              obtain ⟨Q57, h0, h⟩ := h
              have hFc := rfree hR hA
              refine va_calli (va_runV (As := [.int v51_2, .int v51_4]) (rest := []) ⟨hx, hb, hml, hown, hts⟩ (r_goBoth l g ad H.size U51 v51_2 v51_4 hR.w  Q57 h0) (cwV 2 hts (gd2_V kx_1125 kx_1126 kx_1127 kx_177 kx_1128) rfl rfl rfl (by decide +kernel) ⟨Nat.le_of_ble_eq_true rfl, Nat.le_of_ble_eq_true rfl⟩) ⟨rblind, va_recv hR.K hR.P (ci := 13) (q0 := 0) rfl (hR.at14 hR.w.1), fun U hU hW9 => rmk hU hW9 hR hex hE hFc⟩ rfl rfl hl.1 rfl (lv_room (Nat.le_of_ble_eq_true rfl)) dX14_apply_272 ⟨Nat.le_of_ble_eq_true rfl, Nat.le_of_ble_eq_true rfl⟩) hR.sS (fun q _ h => hFc q h) hFc (fun r58 S59 t9 H1 locs ht9 hvm9 hw9 hB9 hz9 hk9 hS => ?_)
              obtain ⟨hq60, hw9, hs9, hz_r58⟩ := hw9
              have hR : Rep g ad A s S59 H1 locs := hR.call ht9 hB9 hw9 hS hFc
              have hsh := hsh.tr hs9
              replace h := h r58 S59 hq60
              clear hB9 hz9 hk9 hvm9 ht9 hw9 hs9 hS
              generalize H1 = H at hR ⊢
              refine lv_if_eq (tgt := 282) hx hb dX14_apply_275 (by decide) (fun c61 => ?_) (fun c61 => ?_)
              · replace h := h.1 (k_eq rfl (by decide) c61)
                exact J_282 S59 v51_1 _ _ ls h  hsh hR (lv_sub hl [1, 2] rfl)
              · replace h := h.2 (k_ne rfl (by decide) c61)
                refine lv_iconst (v := 1) hx hb dX14_apply_278 (by decide) ?_
                refine lv_goto (tgt := 283) hx hb dX14_apply_279 (by decide) ?_
                exact J_283 S59 1 v51_1 _ _ ls h (Or.inr rfl) hsh hR (lv_sub hl [1, 2] rfl)
        replace h := h.2 c9_8
        by_cases c9_9 : v51_1.toInt = 9
        · refine lv_tableIn (off := 234) (tgt := 288) hx hb dX14_apply_54 (by rw [c9_9]; decide) (by rw [c9_9]; decide) (by rw [c9_9]; rfl) (by decide) ?_
          replace h := h.1 (c9_9)
          refine lv_iload hx hb dX14_apply_288 (lv_at hl 0 rfl) ?_
          have J_318 : ∀ (U318 : MS) (t318_0 : Int32) (v318_1 : Int32) (H : Heap) (locs : List Loc) (ls : Array Slot), w_apply_J318 Q U318 t318_0 v318_1 → (t318_0 = 0 ∨ t318_0 = 1) → shy S U318 → Rep g ad A s U318 H locs → lv_has ls 7 [(0, .ref (ad 0)), (1, .int v318_1)] → W p l e (headSpec (wt2 yX14_apply cX14_apply 7 (some .boolean)) ({ frames := 4, cells := 0, slots := 0, locals := 91 })).room s m ([.ref (ad 0), .int x1, .int x2] : List Value).toArray below meth c H locs 0 0 (MQ below (va_Qi (fun (r : Int32) (u : MS) => Q r u ∧ wfM u ∧ shy S u ∧ (r = 0 ∨ r = 1)) (fun (u : MS) (t : State) => qE g ad A u t) A) ([.ref (ad 0), .int x1, .int x2] : List Value).toArray s 0 0 A) (F0 m 318 ls [.int t318_0]) := by
            intro U318 t318_0 v318_1 H locs ls h hz_t318_0 hsh hR hl
            unfold w_apply_J318 at h
            refine lv_istore (lv' := [(6, .int t318_0), (0, .ref (ad 0)), (1, .int v318_1)]) hx hb dX14_apply_318 hl (by decide) rfl (fun ls hl => ?_)
            refine lv_goto (tgt := 365) hx hb dX14_apply_320 (by decide) ?_
            exact J_365 U318 v318_1 t318_0 _ _ ls h hz_t318_0 hsh hR (lv_sub hl [1, 2, 0] rfl)
          have J_317 : ∀ (U317 : MS) (v317_1 : Int32) (H : Heap) (locs : List Loc) (ls : Array Slot), w_apply_J317 Q U317 v317_1 → shy S U317 → Rep g ad A s U317 H locs → lv_has ls 7 [(0, .ref (ad 0)), (1, .int v317_1)] → W p l e (headSpec (wt2 yX14_apply cX14_apply 7 (some .boolean)) ({ frames := 4, cells := 0, slots := 0, locals := 91 })).room s m ([.ref (ad 0), .int x1, .int x2] : List Value).toArray below meth c H locs 0 0 (MQ below (va_Qi (fun (r : Int32) (u : MS) => Q r u ∧ wfM u ∧ shy S u ∧ (r = 0 ∨ r = 1)) (fun (u : MS) (t : State) => qE g ad A u t) A) ([.ref (ad 0), .int x1, .int x2] : List Value).toArray s 0 0 A) (F0 m 317 ls []) := by
            intro U317 v317_1 H locs ls h hsh hR hl
            unfold w_apply_J317 at h
            refine lv_iconst (v := 0) hx hb dX14_apply_317 (by decide) ?_
            exact J_318 U317 0 v317_1 _ _ ls h (Or.inl rfl) hsh hR (lv_sub hl [0, 1] rfl)
          refine lv_if_eq (tgt := 317) hx hb dX14_apply_290 (by decide) (fun c62 => ?_) (fun c62 => ?_)
          · replace h := h.1 (k_eq rfl (by decide) c62)
            exact J_317 U51 v51_1 _ _ ls h  hsh hR (lv_sub hl [1, 2] rfl)
          · replace h := h.2 (k_ne rfl (by decide) c62)
            refine lv_aload_n hx hb dX14_apply_293 rfl (lv_at hl 1 rfl) ?_
            refine lv_iload_n hx hb dX14_apply_294 rfl (lv_at hl 3 rfl) ?_
            refine lv_iload hx hb dX14_apply_295 (lv_at hl 5 rfl) ?_
            obtain ⟨hv63, h⟩ := h
            have hFc := rfree hR hA
            refine va_calli (va_runV (As := [.int v51_2, .int v51_4]) (rest := []) ⟨hx, hb, hml, hown, hts⟩ (r_isDropped l g ad H.size U51 v51_2 v51_4 hR.w  hv63) (cwV 2 hts (gd2_V kx_1129 kx_1130 kx_1131 kx_177 kx_1132) rfl rfl rfl (by decide +kernel) ⟨Nat.le_of_ble_eq_true rfl, Nat.le_of_ble_eq_true rfl⟩) ⟨rblind, va_recv hR.K hR.P (ci := 13) (q0 := 0) rfl (hR.at14 hR.w.1), fun U hU hW9 => rmk hU hW9 hR hex hE hFc⟩ rfl rfl hl.1 rfl (lv_room (Nat.le_of_ble_eq_true rfl)) dX14_apply_297 ⟨Nat.le_of_ble_eq_true rfl, Nat.le_of_ble_eq_true rfl⟩) hR.sS (fun q _ h => hFc q h) hFc (fun r64 u9 t9 H1 locs ht9 hvm9 hw9 hB9 hz9 hk9 hS => ?_)
            have hR : Rep g ad A s U51 H1 locs := hR.call ht9 hB9 hR.w hS hFc
            obtain ⟨rfl, hz_r64⟩ := hw9
            clear hB9 hz9 hk9 hvm9 ht9 hS
            generalize H1 = H at hR ⊢
            refine lv_if_eq (tgt := 317) hx hb dX14_apply_300 (by decide) (fun c66 => ?_) (fun c66 => ?_)
            · replace h := h.1 (k_eq rfl (by decide) c66)
              exact J_317 U51 v51_1 _ _ ls h  hsh hR (lv_sub hl [1, 2] rfl)
            · replace h := h.2 (k_ne rfl (by decide) c66)
              refine lv_aload_n hx hb dX14_apply_303 rfl (lv_at hl 1 rfl) ?_
              refine lv_iload_n hx hb dX14_apply_304 rfl (lv_at hl 3 rfl) ?_
              refine lv_iload hx hb dX14_apply_305 (lv_at hl 5 rfl) ?_
              obtain ⟨Q67, h0, h⟩ := h
              have hFc := rfree hR hA
              refine va_calli (va_runV (As := [.int v51_2, .int v51_4]) (rest := []) ⟨hx, hb, hml, hown, hts⟩ (r_goBoth l g ad H.size U51 v51_2 v51_4 hR.w  Q67 h0) (cwV 2 hts (gd2_V kx_1125 kx_1126 kx_1127 kx_177 kx_1128) rfl rfl rfl (by decide +kernel) ⟨Nat.le_of_ble_eq_true rfl, Nat.le_of_ble_eq_true rfl⟩) ⟨rblind, va_recv hR.K hR.P (ci := 13) (q0 := 0) rfl (hR.at14 hR.w.1), fun U hU hW9 => rmk hU hW9 hR hex hE hFc⟩ rfl rfl hl.1 rfl (lv_room (Nat.le_of_ble_eq_true rfl)) dX14_apply_307 ⟨Nat.le_of_ble_eq_true rfl, Nat.le_of_ble_eq_true rfl⟩) hR.sS (fun q _ h => hFc q h) hFc (fun r68 S69 t9 H1 locs ht9 hvm9 hw9 hB9 hz9 hk9 hS => ?_)
              obtain ⟨hq70, hw9, hs9, hz_r68⟩ := hw9
              have hR : Rep g ad A s S69 H1 locs := hR.call ht9 hB9 hw9 hS hFc
              have hsh := hsh.tr hs9
              replace h := h r68 S69 hq70
              clear hB9 hz9 hk9 hvm9 ht9 hw9 hs9 hS
              generalize H1 = H at hR ⊢
              refine lv_if_eq (tgt := 317) hx hb dX14_apply_310 (by decide) (fun c71 => ?_) (fun c71 => ?_)
              · replace h := h.1 (k_eq rfl (by decide) c71)
                exact J_317 S69 v51_1 _ _ ls h  hsh hR (lv_sub hl [1, 2] rfl)
              · replace h := h.2 (k_ne rfl (by decide) c71)
                refine lv_iconst (v := 1) hx hb dX14_apply_313 (by decide) ?_
                refine lv_goto (tgt := 318) hx hb dX14_apply_314 (by decide) ?_
                exact J_318 S69 1 v51_1 _ _ ls h (Or.inr rfl) hsh hR (lv_sub hl [1, 2] rfl)
        replace h := h.2 c9_9
        by_cases c9_10 : v51_1.toInt = 10
        · refine lv_tableIn (off := 269) (tgt := 323) hx hb dX14_apply_54 (by rw [c9_10]; decide) (by rw [c9_10]; decide) (by rw [c9_10]; rfl) (by decide) ?_
          replace h := h.1 (c9_10)
          refine lv_iload hx hb dX14_apply_323 (lv_at hl 0 rfl) ?_
          have J_353 : ∀ (U353 : MS) (t353_0 : Int32) (v353_1 : Int32) (H : Heap) (locs : List Loc) (ls : Array Slot), w_apply_J353 Q U353 t353_0 v353_1 → (t353_0 = 0 ∨ t353_0 = 1) → shy S U353 → Rep g ad A s U353 H locs → lv_has ls 7 [(0, .ref (ad 0)), (1, .int v353_1)] → W p l e (headSpec (wt2 yX14_apply cX14_apply 7 (some .boolean)) ({ frames := 4, cells := 0, slots := 0, locals := 91 })).room s m ([.ref (ad 0), .int x1, .int x2] : List Value).toArray below meth c H locs 0 0 (MQ below (va_Qi (fun (r : Int32) (u : MS) => Q r u ∧ wfM u ∧ shy S u ∧ (r = 0 ∨ r = 1)) (fun (u : MS) (t : State) => qE g ad A u t) A) ([.ref (ad 0), .int x1, .int x2] : List Value).toArray s 0 0 A) (F0 m 353 ls [.int t353_0]) := by
            intro U353 t353_0 v353_1 H locs ls h hz_t353_0 hsh hR hl
            unfold w_apply_J353 at h
            refine lv_istore (lv' := [(6, .int t353_0), (0, .ref (ad 0)), (1, .int v353_1)]) hx hb dX14_apply_353 hl (by decide) rfl (fun ls hl => ?_)
            refine lv_goto (tgt := 365) hx hb dX14_apply_355 (by decide) ?_
            exact J_365 U353 v353_1 t353_0 _ _ ls h hz_t353_0 hsh hR (lv_sub hl [1, 2, 0] rfl)
          have J_352 : ∀ (U352 : MS) (v352_1 : Int32) (H : Heap) (locs : List Loc) (ls : Array Slot), w_apply_J352 Q U352 v352_1 → shy S U352 → Rep g ad A s U352 H locs → lv_has ls 7 [(0, .ref (ad 0)), (1, .int v352_1)] → W p l e (headSpec (wt2 yX14_apply cX14_apply 7 (some .boolean)) ({ frames := 4, cells := 0, slots := 0, locals := 91 })).room s m ([.ref (ad 0), .int x1, .int x2] : List Value).toArray below meth c H locs 0 0 (MQ below (va_Qi (fun (r : Int32) (u : MS) => Q r u ∧ wfM u ∧ shy S u ∧ (r = 0 ∨ r = 1)) (fun (u : MS) (t : State) => qE g ad A u t) A) ([.ref (ad 0), .int x1, .int x2] : List Value).toArray s 0 0 A) (F0 m 352 ls []) := by
            intro U352 v352_1 H locs ls h hsh hR hl
            unfold w_apply_J352 at h
            refine lv_iconst (v := 0) hx hb dX14_apply_352 (by decide) ?_
            exact J_353 U352 0 v352_1 _ _ ls h (Or.inl rfl) hsh hR (lv_sub hl [0, 1] rfl)
          refine lv_if_eq (tgt := 352) hx hb dX14_apply_325 (by decide) (fun c72 => ?_) (fun c72 => ?_)
          · replace h := h.1 (k_eq rfl (by decide) c72)
            exact J_352 U51 v51_1 _ _ ls h  hsh hR (lv_sub hl [1, 2] rfl)
          · replace h := h.2 (k_ne rfl (by decide) c72)
            refine lv_aload_n hx hb dX14_apply_328 rfl (lv_at hl 1 rfl) ?_
            refine lv_iload_n hx hb dX14_apply_329 rfl (lv_at hl 3 rfl) ?_
            refine lv_iload hx hb dX14_apply_330 (lv_at hl 5 rfl) ?_
            obtain ⟨Q73, h0, h⟩ := h
            have hFc := rfree hR hA
            refine va_calli (va_runV (As := [.int v51_2, .int v51_4]) (rest := []) ⟨hx, hb, hml, hown, hts⟩ (r_isBack l g ad H.size U51 v51_2 v51_4 hR.w  Q73 h0) (cwV 2 hts (gd2_V kx_1133 kx_1134 kx_1135 kx_177 kx_1136) rfl rfl rfl (by decide +kernel) ⟨Nat.le_of_ble_eq_true rfl, Nat.le_of_ble_eq_true rfl⟩) ⟨rblind, va_recv hR.K hR.P (ci := 13) (q0 := 0) rfl (hR.at14 hR.w.1), fun U hU hW9 => rmk hU hW9 hR hex hE hFc⟩ rfl rfl hl.1 rfl (lv_room (Nat.le_of_ble_eq_true rfl)) dX14_apply_332 ⟨Nat.le_of_ble_eq_true rfl, Nat.le_of_ble_eq_true rfl⟩) hR.sS (fun q _ h => hFc q h) hFc (fun r74 S75 t9 H1 locs ht9 hvm9 hw9 hB9 hz9 hk9 hS => ?_)
            obtain ⟨hq76, hw9, hs9, hz_r74⟩ := hw9
            have hR : Rep g ad A s S75 H1 locs := hR.call ht9 hB9 hw9 hS hFc
            have hsh := hsh.tr hs9
            replace h := h r74 S75 hq76
            clear hB9 hz9 hk9 hvm9 ht9 hw9 hs9 hS
            generalize H1 = H at hR ⊢
            refine lv_if_eq (tgt := 352) hx hb dX14_apply_335 (by decide) (fun c77 => ?_) (fun c77 => ?_)
            · replace h := h.1 (k_eq rfl (by decide) c77)
              exact J_352 S75 v51_1 _ _ ls h  hsh hR (lv_sub hl [1, 2] rfl)
            · replace h := h.2 (k_ne rfl (by decide) c77)
              refine lv_aload_n hx hb dX14_apply_338 rfl (lv_at hl 1 rfl) ?_
              refine lv_iload_n hx hb dX14_apply_339 rfl (lv_at hl 3 rfl) ?_
              refine lv_iload hx hb dX14_apply_340 (lv_at hl 5 rfl) ?_
              obtain ⟨Q78, h0, h⟩ := h
              have hFc := rfree hR hA
              refine va_calli (va_runV (As := [.int v51_2, .int v51_4]) (rest := []) ⟨hx, hb, hml, hown, hts⟩ (r_goBoth l g ad H.size S75 v51_2 v51_4 hR.w  Q78 h0) (cwV 2 hts (gd2_V kx_1125 kx_1126 kx_1127 kx_177 kx_1128) rfl rfl rfl (by decide +kernel) ⟨Nat.le_of_ble_eq_true rfl, Nat.le_of_ble_eq_true rfl⟩) ⟨rblind, va_recv hR.K hR.P (ci := 13) (q0 := 0) rfl (hR.at14 hR.w.1), fun U hU hW9 => rmk hU hW9 hR hex hE hFc⟩ rfl rfl hl.1 rfl (lv_room (Nat.le_of_ble_eq_true rfl)) dX14_apply_342 ⟨Nat.le_of_ble_eq_true rfl, Nat.le_of_ble_eq_true rfl⟩) hR.sS (fun q _ h => hFc q h) hFc (fun r79 S80 t9 H1 locs ht9 hvm9 hw9 hB9 hz9 hk9 hS => ?_)
              obtain ⟨hq81, hw9, hs9, hz_r79⟩ := hw9
              have hR : Rep g ad A s S80 H1 locs := hR.call ht9 hB9 hw9 hS hFc
              have hsh := hsh.tr hs9
              replace h := h r79 S80 hq81
              clear hB9 hz9 hk9 hvm9 ht9 hw9 hs9 hS
              generalize H1 = H at hR ⊢
              refine lv_if_eq (tgt := 352) hx hb dX14_apply_345 (by decide) (fun c82 => ?_) (fun c82 => ?_)
              · replace h := h.1 (k_eq rfl (by decide) c82)
                exact J_352 S80 v51_1 _ _ ls h  hsh hR (lv_sub hl [1, 2] rfl)
              · replace h := h.2 (k_ne rfl (by decide) c82)
                refine lv_iconst (v := 1) hx hb dX14_apply_348 (by decide) ?_
                refine lv_goto (tgt := 353) hx hb dX14_apply_349 (by decide) ?_
                exact J_353 S80 1 v51_1 _ _ ls h (Or.inr rfl) hsh hR (lv_sub hl [1, 2] rfl)
        replace h := h.2 c9_10
        refine lv_tableOut (tgt := 358) hx hb dX14_apply_54 (by omega) (by decide) ?_
        refine lv_aload_n hx hb dX14_apply_358 rfl (lv_at hl 1 rfl) ?_
        refine lv_iload_n hx hb dX14_apply_359 rfl (lv_at hl 3 rfl) ?_
        obtain ⟨Q83, h0, h⟩ := h
        have hFc := rfree hR hA
        refine va_calli (va_runV (As := [.int v51_2]) (rest := []) ⟨hx, hb, hml, hown, hts⟩ (r_dead l g ad H.size U51 v51_2 hR.w  Q83 h0) (cwV 1 hts (gd2_V kx_1137 kx_1138 kx_1139 kx_177 kx_1140) rfl rfl rfl (by decide +kernel) ⟨Nat.le_of_ble_eq_true rfl, Nat.le_of_ble_eq_true rfl⟩) ⟨rblind, va_recv hR.K hR.P (ci := 13) (q0 := 0) rfl (hR.at14 hR.w.1), fun U hU hW9 => rmk hU hW9 hR hex hE hFc⟩ rfl rfl hl.1 rfl (lv_room (Nat.le_of_ble_eq_true rfl)) dX14_apply_360 ⟨Nat.le_of_ble_eq_true rfl, Nat.le_of_ble_eq_true rfl⟩) hR.sS (fun q _ h => hFc q h) hFc (fun r84 S85 t9 H1 locs ht9 hvm9 hw9 hB9 hz9 hk9 hS => ?_)
        obtain ⟨hq86, hw9, hs9, hz_r84⟩ := hw9
        have hR : Rep g ad A s S85 H1 locs := hR.call ht9 hB9 hw9 hS hFc
        have hsh := hsh.tr hs9
        replace h := h r84 S85 hq86
        clear hB9 hz9 hk9 hvm9 ht9 hw9 hs9 hS
        generalize H1 = H at hR ⊢
        refine lv_istore (lv' := [(6, .int r84), (5, .int t51_0), (0, .ref (ad 0)), (1, .int v51_1), (2, .int v51_2), (3, .int v51_3), (4, .int v51_4)]) hx hb dX14_apply_363 hl (by decide) rfl (fun ls hl => ?_)
        exact J_365 S85 v51_1 r84 _ _ ls h hz_r84 hsh hR (lv_sub hl [2, 3, 0] rfl)
      have J_50 : ∀ (U50 : MS) (v50_1 : Int32) (v50_2 : Int32) (v50_3 : Int32) (v50_4 : Int32) (H : Heap) (locs : List Loc) (ls : Array Slot), w_apply_J50 Q U50 v50_1 v50_2 v50_3 v50_4 → shy S U50 → Rep g ad A s U50 H locs → lv_has ls 7 [(0, .ref (ad 0)), (1, .int v50_1), (2, .int v50_2), (3, .int v50_3), (4, .int v50_4)] → W p l e (headSpec (wt2 yX14_apply cX14_apply 7 (some .boolean)) ({ frames := 4, cells := 0, slots := 0, locals := 91 })).room s m ([.ref (ad 0), .int x1, .int x2] : List Value).toArray below meth c H locs 0 0 (MQ below (va_Qi (fun (r : Int32) (u : MS) => Q r u ∧ wfM u ∧ shy S u ∧ (r = 0 ∨ r = 1)) (fun (u : MS) (t : State) => qE g ad A u t) A) ([.ref (ad 0), .int x1, .int x2] : List Value).toArray s 0 0 A) (F0 m 50 ls []) := by
        intro U50 v50_1 v50_2 v50_3 v50_4 H locs ls h hsh hR hl
        unfold w_apply_J50 at h
        refine lv_iconst (v := 0) hx hb dX14_apply_50 (by decide) ?_
        exact J_51 U50 0 v50_1 v50_2 v50_3 v50_4 _ _ ls h (Or.inl rfl) hsh hR (lv_sub hl [0, 1, 2, 3, 4] rfl)
      refine lv_icmp_eq (tgt := 50) hx hb dX14_apply_33 (by decide) (fun c87 => ?_) (fun c87 => ?_)
      · replace h := h.1 (k_eq rfl rfl c87)
        exact J_50 S9 x1 x2 r3 r8 _ _ ls h  hsh hR (lv_sub hl [2, 3, 4, 1, 0] rfl)
      · replace h := h.2 (k_ne rfl rfl c87)
        refine lv_aload_n hx hb dX14_apply_36 rfl (lv_at hl 2 rfl) ?_
        refine va_get (D := rD g) (ci := 13) (v := .ref (ad 87)) (C := RX14) (T := TX14) (N := 143) hx hb hts in2X14 hown hR.K hR.P 0 (hR.at14 hR.w.1) rfl 136 (by decide) (hts _ kx_705) (fun _ h9 => h9) (congrArg (fun z => some (vf ad z)) (hR.w.2.1 _ fin_136).1) dX14_apply_37 ?_
        refine lv_iload hx hb dX14_apply_40 (lv_at hl 0 rfl) ?_
        obtain ⟨hv88, h⟩ := h
        refine va_zald hx hb hR.K hR.P 87 2 (hR.atZ (hR.w.2.1 _ fin_136).2.1) rfl (k_ixN (k_ix (n := 1201) (x := r8) (a := r8.toInt) rfl hv88) (hR.w.2.1 _ fin_136).2.2) dX14_apply_42 ?_
        refine lv_topi (fun z89 ez89 => ?_)
        obtain rfl : z89 = (qI S9 87 r8.toInt.toNat) := ez89
        refine lv_if_ne (tgt := 50) hx hb dX14_apply_43 (by decide) (fun c90 => ?_) (fun c90 => ?_)
        · replace h := h.2 (k_ne rfl (by decide) c90)
          exact J_50 S9 x1 x2 r3 r8 _ _ ls h  hsh hR (lv_sub hl [2, 3, 4, 1, 0] rfl)
        · replace h := h.1 (k_eq rfl (by decide) c90)
          refine lv_iconst (v := 1) hx hb dX14_apply_46 (by decide) ?_
          refine lv_goto (tgt := 51) hx hb dX14_apply_47 (by decide) ?_
          exact J_51 S9 1 x1 x2 r3 r8 _ _ ls h (Or.inr rfl) hsh hR (lv_sub hl [2, 3, 4, 1, 0] rfl)
    · replace h := h.1 (k_eq rfl rfl c6)
      refine lv_iconst (v := 0) hx hb dX14_apply_21 (by decide) ?_
      exact W.zret (v := 0) hx hb hr (nz (Or.inl rfl)) (fun t9 ht9 hW9 => ⟨⟨_, S4, rfl, ⟨h, hR.w, hsh, (Or.inl rfl)⟩, ⟨by rw [ht9]; exact hR.P, hR.D⟩⟩, hR.sS.F ht9⟩) hR.sS.2.2 dX14_apply_22
  · replace h := h.1 (k_eq rfl (by decide) c1)
    refine lv_aload_n hx hb dX14_apply_5 rfl (lv_at hl 0 rfl) ?_
    refine lv_iload_n hx hb dX14_apply_6 rfl (lv_at hl 2 rfl) ?_
    obtain ⟨Q91, h0, h⟩ := h
    have hFc := rfree hR hA
    refine va_calli (va_runV (As := [.int x2]) (rest := []) ⟨hx, hb, hml, hown, hts⟩ (r_threaded l g ad s.heap.size S x2 hR.w  Q91 h0) (cwV 1 hts (gd2_V kx_1141 kx_1142 kx_1143 kx_177 kx_1144) rfl rfl rfl (by decide +kernel) ⟨Nat.le_of_ble_eq_true rfl, Nat.le_of_ble_eq_true rfl⟩) ⟨rblind, va_recv hR.K hR.P (ci := 13) (q0 := 0) rfl (hR.at14 hR.w.1), fun U hU hW9 => rmk hU hW9 hR hex hE hFc⟩ rfl rfl hl.1 rfl (lv_room (Nat.le_of_ble_eq_true rfl)) dX14_apply_7 ⟨Nat.le_of_ble_eq_true rfl, Nat.le_of_ble_eq_true rfl⟩) hR.sS (fun q _ h => hFc q h) hFc (fun r92 S93 t9 H1 locs ht9 hvm9 hw9 hB9 hz9 hk9 hS => ?_)
    obtain ⟨hq94, hw9, hs9, hz_r92⟩ := hw9
    have hR : Rep g ad A s S93 H1 locs := hR.call ht9 hB9 hw9 hS hFc
    have hsh := hsh.tr hs9
    replace h := h r92 S93 hq94
    clear hB9 hz9 hk9 hvm9 ht9 hw9 hs9 hS
    generalize H1 = H at hR ⊢
    exact W.zret (v := r92) hx hb hr (nz hz_r92) (fun t9 ht9 hW9 => ⟨⟨_, S93, rfl, ⟨h, hR.w, hsh, hz_r92⟩, ⟨by rw [ht9]; exact hR.P, hR.D⟩⟩, hR.sS.F ht9⟩) hR.sS.2.2 dX14_apply_10
def w_keptDraft (S : MS) (Q : Int32 → MS → Prop) : Prop := (∃ Q1 EQ1, w_outFile S 60 Q1 EQ1 ∧ (∀ S2, Q1 S2 → ((qR S2 0 75 = some (qO S2 0 75)) ∧ (∃ Q6 EQ6, w_readFile S2 (qO S2 0 75) (qI S2 0 77) Q6 EQ6 ∧ (∀ b11 S8, Q6 b11 S8 → (∃ Q12, w_kept S8 b11 Q12 ∧ ∀ r13 S14, Q12 r13 S14 → Q r13 S14)) ∧ (∀ u9, EQ6 u9 → Q (-3 : Int32) u9)))) ∧ (∀ u9, EQ1 u9 → Q (-3 : Int32) u9))
set_option maxHeartbeats 2000000 in
set_option maxRecDepth 100000 in
theorem r_keptDraft (l : Launch) (g : Gr) (ad : Nat → Nat) (H0 : Heap) (S : MS) (hw : wfM S) (Q : Int32 → MS → Prop) (h : w_keptDraft S Q) : vx_Met l yX14_keptDraft (wtw2 yX14_keptDraft cX14_keptDraft 2 (some .int) [(0, 24, 25, 19)]) ({ frames := 11, cells := KC - qn S, slots := KS - qu S, locals := 254 }) (va_Pc [.ref (ad 0)] (st_RH g ad H0 S)) (va_Qi (fun (r : Int32) (u : MS × (Nat → Nat)) => Q r u.1 ∧ wfM u.1 ∧ shx S u.1 ∧ adk ad u.2 S) (fun (u : MS × (Nat → Nat)) (t : State) => qEH g (va_A (Wd g ad S) H0.size) S H0 u t) (va_A (Wd g ad S) H0.size)) (vx_X (fun _ : Unit => False) (fun _ _ _ => True) (va_A (Wd g ad S) H0.size)) (KC - qn S) (KS - qu S) (va_A (Wd g ad S) H0.size) := by
  refine vx_ofWH (cc := cX14_keptDraft) (maxL := 2) (ret := (some .int)) (hh := [(0, 24, 25, 19)]) (by decide) rfl ?_
  intro p e s m args below meth c s₁ B hml hv
  obtain ⟨rfl, hH0, hsz, hP, hK, hD0, hex, hE⟩ := hv
  have hx := B.exec
  have hb := B.bytes
  have hr := B.returns
  have hts0 := atoms_spec (ws := wtw2 yX14_keptDraft cX14_keptDraft 2 (some .int) [(0, 24, 25, 19)]) B.pre
  have hts : ∀ w ∈ tb2, w.before _ s = true := fun w h => hts0 w (List.mem_cons_of_mem _ h)
  have hown : s.vm.findClass RX14 = some m.cls := findClass_of_methodNamed B.named
  subst hH0
  have hD := hD0.self (sz := s.heap.size)
  generalize hAe : va_A (Wd g ad S) s.heap.size = A at hD hE ⊢
  have hA : ∀ q : Nat, s.heap.size ≤ q → A q := fun q h => by rw [← hAe]; exact Or.inr h
  have hR : Rep g ad A s S s.heap [] := ⟨hK, hP, hD, va_S.rf, hw⟩
  clear hK hP hD hD0
  have hl := lv_entry ([.ref (ad 0)]) (n := 2) (Nat.le_of_ble_eq_true rfl)
  rw [lg_entry_eq]
  generalize (lg_sl ([.ref (ad 0)]) ++ List.replicate (2 - (lg_sl ([.ref (ad 0)])).length) Slot.unset).toArray = ls at hl ⊢
  have hlg : lg S S 0 0 := lg.rf
  have hak : adk ad ad S := adk.rf
  have hl : lv_has ls 2 [(0, .ref (ad 0))] := hl
  have hsh : shx S S := shx.rf
  unfold w_keptDraft at h
  refine lv_aload_n hx hb dX14_keptDraft_0 rfl (lv_at hl 0 rfl) ?_
  refine lv_aload_n hx hb dX14_keptDraft_1 rfl (lv_at hl 0 rfl) ?_
  refine va_get (D := rD g) (ci := 13) (v := .ref (ad 60)) (C := RX14) (T := TX14) (N := 143) hx hb hts in2X14 hown hR.K hR.P 0 (hR.at14 hR.w.1) rfl 118 (by decide) (hts _ kx_802) (fun _ h9 => h9) (congrArg (fun z => some (vf ad z)) (hR.w.2.1 _ fin_118).1) dX14_keptDraft_2 ?_
  obtain ⟨Q1, EQ1, h0, h⟩ := h
  have hFc := rfree hR hA
  refine vx_callv (vx_runV (As := [.ref (ad 60)]) (rest := []) ⟨hx, hb, hml, hown, hts⟩ (r_outFile l g ad s.heap.size S 60 hR.w (hR.w.2.1 _ fin_118).2.1 Q1 EQ1 h0) (cwV 1 hts (gd2_V kx_944 kx_945 kx_946 kx_177 kx_947) rfl rfl rfl (by decide +kernel) ⟨Nat.le_of_ble_eq_true rfl, Nat.le_of_ble_eq_true rfl⟩) ⟨rblind, va_recv hR.K hR.P (ci := 13) (q0 := 0) rfl (hR.at14 hR.w.1), fun U hU hW9 => rmk hU hW9 hR hex hE hFc⟩ rfl rfl hl.1 rfl (lv_room (Nat.le_of_ble_eq_true rfl)) dX14_keptDraft_5 ⟨(show 0 + 0 ≤ KC - qn S from hlg.c), (show 0 + 0 ≤ KS - qu S from hlg.s)⟩) hR.sS (fun q _ h => hFc q h) hFc (fun q _ h => hFc q h) (fun E9 ce9 q9 u9 t9 H1 locs ht9 hvm9 hp9 hB9 hz9 hk9 hS hce9 hcv9 hcl9 => ?_) (fun  S2 t9 H1 locs ht9 hvm9 hw9 hB9 hz9 hk9 hS => ?_)
  · obtain ⟨hp9, hwx, hsx⟩ := hp9
    obtain ⟨rfl, hBx⟩ := hB9
    replace h := h.2 u9 hp9
    have hR : Rep g ad A s u9 H1 locs := hR.call ht9 hBx hwx hS hFc
    have hsh := hsh.tr hsx.1
    have hlg : lg S u9 (0) (0) := hlg.same hsx
    refine vx_catch (own := RX14) (name := RJxb5711) (E := RJxb5711) hown [] ⟨0, 24, 25, 19⟩ [] (by rw [vx_table (x := yX14_keptDraft) B (hts0 _ List.mem_cons_self)]; rfl) (fun z h9 => absurd h9 List.not_mem_nil) (by decide) (by decide) (hts _ kx_1019) (va_Nw.use rfl (nw_of nn_cast hex)) hce9 hcv9 hcl9 ?_
    refine W.eq (g2 := F0 m 25 ls [.ref q9]) rfl ?_
    clear hce9
    clear ht9 hk9 hz9 hS hvm9
    generalize H1 = H at hR ⊢
    refine lv_astore_n (lv' := [(1, .ref q9), (0, .ref (ad 0))]) hx hb dX14_keptDraft_25 rfl hl (by decide) rfl (fun ls hl => ?_)
    refine lv_bipush (v := (-3)) hx hb dX14_keptDraft_26 (by decide) ?_
    refine W_led2 (fun hLd => ?_)
    refine W.widen (k := KC - qn S) (n := KS - qu S) hlg.c hlg.s ?_
    exact vx_ret (W.iret (v := (-3)) hx hb hr (fun t9 ht9 hW9 => ⟨⟨_, (u9, ad), rfl, ⟨h, hR.w, hsh, hak⟩, ⟨⟨by rw [ht9]; exact hR.P, hR.D⟩, _, _, by rw [ht9]; exact hLd, hlg⟩⟩, hR.sS.F ht9⟩) hR.sS.2.2 dX14_keptDraft_28)
  · obtain ⟨hq3, hw9, hs9⟩ := hw9
    have hR : Rep g ad A s S2 H1 locs := hR.call ht9 hB9 hw9 hS hFc
    have hsh := hsh.tr hs9.1
    have hlg : lg S S2 (0) (0) := hlg.same hs9
    replace h := h.1  S2 hq3
    clear hB9 hz9 hk9 hvm9 ht9 hw9 hs9 hS
    generalize H1 = H at hR ⊢
    refine lv_aload_n hx hb dX14_keptDraft_8 rfl (lv_at hl 0 rfl) ?_
    refine lv_aload_n hx hb dX14_keptDraft_9 rfl (lv_at hl 0 rfl) ?_
    refine lv_aload_n hx hb dX14_keptDraft_10 rfl (lv_at hl 0 rfl) ?_
    obtain ⟨hv4, h⟩ := h
    have hT_b5 : qT S2 (qO S2 0 75) = 1 := hR.w.ref hv4 hR.w.1
    refine va_get (D := rD g) (ci := 13) (v := .ref (ad (qO S2 0 75))) (C := RX14) (T := TX14) (N := 143) hx hb hts in2X14 hown hR.K hR.P 0 (hR.at14 hR.w.1) rfl 75 (by decide) (hts _ kx_579) (fun _ h9 => h9) (congrArg (fun z => some (vf ad z)) hv4) dX14_keptDraft_11 ?_
    refine lv_aload_n hx hb dX14_keptDraft_14 rfl (lv_at hl 0 rfl) ?_
    refine va_get (D := rD g) (ci := 13) (v := .int (qI S2 0 77)) (C := RX14) (T := TX14) (N := 143) hx hb hts in2X14 hown hR.K hR.P 0 (hR.at14 hR.w.1) rfl 77 (by decide) (hts _ kx_580) (fun _ h9 => h9) rfl dX14_keptDraft_15 ?_
    obtain ⟨Q6, EQ6, h0, h⟩ := h
    have hFc := rfree hR hA
    refine W_led2 (fun hL0 => ?_)
    refine vx_callq (vx_runV (As := [.ref (ad (qO S2 0 75)), .int (qI S2 0 77)]) (rest := [.ref (ad 0)]) ⟨hx, hb, hml, hown, hts⟩ (r_readFile l g ad H S2 (qO S2 0 75) (qI S2 0 77) hR.w hT_b5 Q6 EQ6 h0) (cwV 2 hts (gd2_V kx_1093 kx_1094 kx_1095 kx_177 kx_1096) rfl rfl rfl (by decide +kernel) ⟨Nat.le_of_ble_eq_true rfl, Nat.le_of_ble_eq_true rfl⟩) ⟨rblindH, va_recv hR.K hR.P (ci := 13) (q0 := 0) rfl (hR.at14 hR.w.1), fun U hU hW9 => rmkH hU hW9 hR hex hE hFc⟩ rfl rfl hl.1 rfl (lv_room (Nat.le_of_ble_eq_true rfl)) dX14_keptDraft_18 ⟨(show 0 + (KC - qn S2) ≤ KC - qn S from hlg.cm), (show 0 + (KS - qu S2) ≤ KS - qu S from hlg.sm)⟩) hR.sS (fun q _ h => hFc q h) hFc (fun q _ h => hFc q h) (fun E9 ce9 q9 u9 t9 H1 locs ht9 hvm9 hp9 hB9 hz9 hk9 hS hce9 hcv9 hcl9 => ?_) (fun r7 S8 t9 H1 locs ht9 hvm9 hw9 hB9 hz9 hk9 hS => ?_)
    · obtain ⟨ux, adx9⟩ := u9
      obtain ⟨hp9, hwx, hsx, hakx⟩ := hp9
      obtain ⟨rfl, hBx, dcx, dsx, hLx, hlx⟩ := hB9
      replace h := h.2 ux hp9
      dsimp only at hp9 hwx hsx hakx hBx hlx h
      rw [ht9] at hLx
      have hw8 := hR.w
      have hak := hak.tr hakx hlg.2.2.1
      have hE := hE.ad hakx
      have hR : Rep g adx9 A s ux H1 locs := hR.callH ht9 hBx hwx hS hFc
      have hsh := hsh.tr hsx
      have hlg := hlg.call hlx
      have ea_0 : adx9 0 = ad 0 := hakx _ (hw8.hd hw8.1 (by decide) (by decide))
      have hl : lv_has ls 2 [(0, .ref (adx9 0))] := by simp only [ea_0]; exact hl
      refine vx_catch (own := RX14) (name := RJxb5711) (E := RJxb5711) hown [] ⟨0, 24, 25, 19⟩ [] (by rw [vx_table (x := yX14_keptDraft) B (hts0 _ List.mem_cons_self)]; rfl) (fun z h9 => absurd h9 List.not_mem_nil) (by decide) (by decide) (hts _ kx_1019) (va_Nw.use rfl (nw_of nn_cast hex)) hce9 hcv9 hcl9 ?_
      refine W_tight2 (hL0.tr hLx).1 (hL0.tr hLx).2.1 ?_
      refine W.eq (g2 := F0 m 25 ls [.ref q9]) rfl ?_
      clear hce9
      clear ht9 hk9 hz9 hS hvm9 hLx hL0
      generalize H1 = H at hR ⊢
      refine lv_astore_n (lv' := [(1, .ref q9), (0, .ref (adx9 0))]) hx hb dX14_keptDraft_25 rfl hl (by decide) rfl (fun ls hl => ?_)
      refine lv_bipush (v := (-3)) hx hb dX14_keptDraft_26 (by decide) ?_
      refine W_led2 (fun hLd => ?_)
      refine W.widen (k := KC - qn S) (n := KS - qu S) hlg.c hlg.s ?_
      exact vx_ret (W.iret (v := (-3)) hx hb hr (fun t9 ht9 hW9 => ⟨⟨_, (ux, adx9), rfl, ⟨h, hR.w, hsh, hak⟩, ⟨⟨by rw [ht9]; exact hR.P, hR.D⟩, _, _, by rw [ht9]; exact hLd, hlg⟩⟩, hR.sS.F ht9⟩) hR.sS.2.2 dX14_keptDraft_28)
    · rcases S8 with ⟨S8, ak10⟩
      obtain ⟨hB9, dc9, ds9, hL9, hl9⟩ := hB9
      dsimp only at hw9 hB9 hl9
      rw [ht9] at hL9
      obtain ⟨b11, rfl, hq9, hw9, hs9, hk8, hT_b11⟩ := hw9
      have hw8 := hR.w
      have hak := hak.tr hk8 hlg.2.2.1
      have hE := hE.ad hk8
      have hR : Rep g ak10 A s S8 H1 locs := hR.callH ht9 hB9 hw9 hS hFc
      have hsh := hsh.tr hs9
      refine W_tight2 (hL0.tr hL9).1 (hL0.tr hL9).2.1 ?_
      have hlg := hlg.call hl9
      replace h := h.1 b11 S8 hq9
      have ea_0 : ak10 0 = ad 0 := hk8 _ (hw8.hd hw8.1 (by decide) (by decide))
      have hl : lv_has ls 2 [(0, .ref (ak10 0))] := by simp only [ea_0]; exact hl
      refine W.eq (g2 := F0 m 21 ls (.ref (ak10 b11) :: [.ref (ak10 0)])) (by first | (simp only [ea_0]; rfl) | simp only [ea_0]) ?_
      clear hB9 hz9 hk9 hvm9 ht9 hw9 hs9 hS hL0 hL9
      generalize H1 = H at hR ⊢
      generalize dc9 = dc_ak10, ds9 = ds_ak10 at hlg ⊢
      obtain ⟨Q12, h0, h⟩ := h
      have hFc := rfree hR hA
      refine va_calli (va_runV (As := [.ref (ak10 b11)]) (rest := []) ⟨hx, hb, hml, hown, hts⟩ (r_kept l g ak10 H.size S8 b11 hR.w hT_b11 Q12 h0) (cwV 1 hts (gd2_V kx_1097 kx_1098 kx_1099 kx_177 kx_1100) rfl rfl rfl (by decide +kernel) ⟨Nat.le_of_ble_eq_true rfl, Nat.le_of_ble_eq_true rfl⟩) ⟨rblind, va_recv hR.K hR.P (ci := 13) (q0 := 0) rfl (hR.at14 hR.w.1), fun U hU hW9 => rmk hU hW9 hR hex hE hFc⟩ rfl rfl hl.1 rfl (lv_room (Nat.le_of_ble_eq_true rfl)) dX14_keptDraft_21 ⟨(show 0 + dc_ak10 + 0 ≤ KC - qn S from hlg.c), (show 0 + ds_ak10 + 0 ≤ KS - qu S from hlg.s)⟩) hR.sS (fun q _ h => hFc q h) hFc (fun r13 S14 t9 H1 locs ht9 hvm9 hw9 hB9 hz9 hk9 hS => ?_)
      obtain ⟨hq15, hw9, hs9⟩ := hw9
      have hR : Rep g ak10 A s S14 H1 locs := hR.call ht9 hB9 hw9 hS hFc
      have hsh := hsh.tr hs9.1
      have hlg : lg S S14 (0 + dc_ak10) (0 + ds_ak10) := hlg.same hs9
      replace h := h r13 S14 hq15
      clear hB9 hz9 hk9 hvm9 ht9 hw9 hs9 hS
      generalize H1 = H at hR ⊢
      refine W_led2 (fun hLd => ?_)
      refine W.widen (k := KC - qn S) (n := KS - qu S) hlg.c hlg.s ?_
      exact vx_ret (W.iret (v := r13) hx hb hr (fun t9 ht9 hW9 => ⟨⟨_, (S14, ak10), rfl, ⟨h, hR.w, hsh, hak⟩, ⟨⟨by rw [ht9]; exact hR.P, hR.D⟩, _, _, by rw [ht9]; exact hLd, hlg⟩⟩, hR.sS.F ht9⟩) hR.sS.2.2 dX14_keptDraft_24)
def w_count_L196 (Q : Int32 → MS → Prop) : Nat → MS → Int32 → Nat → Int32 → Int32 → Prop
  | 0, _, _, _, _, _ => False
  | n196 + 1, U196, v196_1, v196_2, v196_4, v196_5 => (((qI U196 v196_2 4).toInt ≤ v196_5.toInt → (∃ Q24, w_keptDraft U196 Q24 ∧ ∀ r25 S26, Q24 r25 S26 → Q r25 S26)) ∧ (¬ (qI U196 v196_2 4).toInt ≤ v196_5.toInt → (∃ Q29, w_graph U196 v196_1 v196_5 Q29 ∧ ∀ S30, Q29 S30 → (∃ Q32, w_takeMethod S30 v196_2 v196_5 Q32 ∧ ∀ S33, Q32 S33 → (∃ Q35, w_putMethod S33 v196_5 v196_4 Q35 ∧ ∀ S36, Q35 S36 → (∃ Q38, w_reachedBlocks S36 Q38 ∧ ∀ r39 S40, Q38 r39 S40 → (∀ a43 : Int32, a43 = (v196_4 + r39) → (∀ a44 : Int32, a44 = (v196_5 + Int32.ofInt 1) → (w_count_L196 Q n196) S40 v196_1 v196_2 a43 a44))))))))
def w_count_L105 (Q : Int32 → MS → Prop) : Nat → MS → Int32 → Nat → Int32 → Int32 → Prop
  | 0, _, _, _, _, _ => False
  | n105 + 1, U105, v105_1, v105_2, v105_3, v105_4 => ((v105_3.toInt ≤ v105_4.toInt → (∀ S21, S21 = wI U105 60 3 v105_3 → (∀ a22 : Int32, a22 = (qI S21 v105_2 3) → (∃ n, w_count_L196 Q n S21 v105_1 v105_2 a22 0)))) ∧ (¬ v105_3.toInt ≤ v105_4.toInt → ((qR U105 60 5 = some (qO U105 60 5)) ∧ ((qn U105 + 1 ≤ KC ∧ qu U105 + 4 ≤ KS) ∧ (∀ S50, S50 = wN U105 13 0 4 → (∃ Q52, w_J4_init_da8c8 S50 (qn U105) Q52 ∧ ∀ S53, Q52 S53 → (∃ Q57, w_J4_append_15ec4 S53 (qn U105) 10000036 Q57 ∧ ∀ b62 S59, Q57 b62 S59 → (∃ Q64, w_J4_append_bf812 S59 b62 (v105_4 - (qI S59 v105_2 3)) Q64 ∧ ∀ b69 S66, Q64 b69 S66 → (∃ Q70, w_J4_toString_0e30d S66 b69 Q70 ∧ ∀ b75 S72, Q70 b75 S72 → (((0 : Int) ≤ v105_4.toInt ∧ v105_4.toInt < (qN S72 (qO U105 60 5) : Int)) ∧ (∀ S77, S77 = wR S72 (qO U105 60 5) v105_4.toInt.toNat (some b75) → ((qR S77 60 6 = some (qO S77 60 6)) ∧ (((0 : Int) ≤ v105_4.toInt ∧ v105_4.toInt < (qN S77 (qO S77 60 6) : Int)) ∧ (∀ S82, S82 = wR S77 (qO S77 60 6) v105_4.toInt.toNat (some 10000022) → ((qR S82 60 7 = some (qO S82 60 7)) ∧ (((0 : Int) ≤ v105_4.toInt ∧ v105_4.toInt < (qN S82 (qO S82 60 7) : Int)) ∧ (∀ S87, S87 = wR S82 (qO S82 60 7) v105_4.toInt.toNat (some 10000022) → (∀ a88 : Int32, a88 = (v105_4 + Int32.ofInt 1) → (w_count_L105 Q n105) S87 v105_1 v105_2 v105_3 a88))))))))))))))))))
def w_count_L56 (Q : Int32 → MS → Prop) : Nat → MS → Int32 → Nat → Int32 → Int32 → Prop
  | 0, _, _, _, _, _ => False
  | n56 + 1, U56, v56_1, v56_2, v56_3, v56_4 => (((qI U56 v56_2 4).toInt ≤ v56_4.toInt → ((v56_3.toInt ≤ 24 → (∃ Q16, w_copyHead U56 v56_2 Q16 ∧ ∀ S17, Q16 S17 → (∀ a19 : Int32, a19 = (qI S17 v56_2 3) → (∃ n, w_count_L105 Q n S17 v56_1 v56_2 v56_3 a19)))) ∧ (¬ v56_3.toInt ≤ 24 → Q (-3 : Int32) U56))) ∧ (¬ (qI U56 v56_2 4).toInt ≤ v56_4.toInt → (∃ Q89, w_graph U56 v56_1 v56_4 Q89 ∧ ∀ S90, Q89 S90 → (∃ Q92, w_reachedBlocks S90 Q92 ∧ ∀ r93 S94, Q92 r93 S94 → (∀ a97 : Int32, a97 = (v56_3 + r93) → (∀ a98 : Int32, a98 = (v56_4 + Int32.ofInt 1) → (w_count_L56 Q n56) S94 v56_1 v56_2 a97 a98))))))
def w_count (S : MS) (x1 : Int32) (Q : Int32 → MS → Prop) : Prop := (∃ Q1, w_isRight S x1 Q1 ∧ ∀ r2 S3, Q1 r2 S3 → ((r2.toInt = 0 → Q (-1 : Int32) S3) ∧ (¬ r2.toInt = 0 → (((qI S3 0 1).toInt = 12 → Q (-2 : Int32) S3) ∧ (¬ (qI S3 0 1).toInt = 12 → (((qI S3 0 2).toInt = 16 → Q (-2 : Int32) S3) ∧ (¬ (qI S3 0 2).toInt = 16 → (∀ S9, S9 = wI S3 0 2 ((qI S3 0 2) + (1 : Int32)) → (((0 : Int) ≤ x1.toInt ∧ x1.toInt < 12) ∧ ((qR S9 1 x1.toInt.toNat = some (qO S9 1 x1.toInt.toNat)) ∧ (∀ a13 : Int32, a13 = (qI S9 (qO S9 1 x1.toInt.toNat) 3) → (∃ n, w_count_L56 Q n S9 x1 (qO S9 1 x1.toInt.toNat) a13 0))))))))))))
set_option maxHeartbeats 2000000 in
set_option maxRecDepth 100000 in
theorem r_count (l : Launch) (g : Gr) (ad : Nat → Nat) (H0 : Heap) (S : MS) (x1 : Int32) (hw : wfM S) (Q : Int32 → MS → Prop) (h : w_count S x1 Q) : Met l yX14_count (wt2 yX14_count cX14_count 6 (some .int)) ({ frames := 12, cells := KC - qn S, slots := KS - qu S, locals := 275 }) (va_Pc [.ref (ad 0), .int x1] (st_RH g ad H0 S)) (va_Qi (fun (r : Int32) (u : MS × (Nat → Nat)) => Q r u.1 ∧ wfM u.1 ∧ shx S u.1 ∧ adk ad u.2 S) (fun (u : MS × (Nat → Nat)) (t : State) => qEH g (va_A (Wd g ad S) H0.size) S H0 u t) (va_A (Wd g ad S) H0.size)) (KC - qn S) (KS - qu S) (va_A (Wd g ad S) H0.size) := by
  refine Met.ofW (cc := cX14_count) (maxL := 6) (ret := (some .int)) (by decide) rfl ?_
  intro p e s m args below meth c s₁ B hml hv
  obtain ⟨rfl, hH0, hsz, hP, hK, hD0, hex, hE⟩ := hv
  have hx := B.exec
  have hb := B.bytes
  have hr := B.returns
  have hts0 := atoms_spec (ws := wt2 yX14_count cX14_count 6 (some .int)) B.pre
  have hts : ∀ w ∈ tb2, w.before _ s = true := fun w h => hts0 w (List.mem_cons_of_mem _ h)
  have hown : s.vm.findClass RX14 = some m.cls := findClass_of_methodNamed B.named
  subst hH0
  have hD := hD0.self (sz := s.heap.size)
  generalize hAe : va_A (Wd g ad S) s.heap.size = A at hD hE ⊢
  have hA : ∀ q : Nat, s.heap.size ≤ q → A q := fun q h => by rw [← hAe]; exact Or.inr h
  have hR : Rep g ad A s S s.heap [] := ⟨hK, hP, hD, va_S.rf, hw⟩
  clear hK hP hD hD0
  have hl := lv_entry ([.ref (ad 0), .int x1]) (n := 6) (Nat.le_of_ble_eq_true rfl)
  rw [lg_entry_eq]
  generalize (lg_sl ([.ref (ad 0), .int x1]) ++ List.replicate (6 - (lg_sl ([.ref (ad 0), .int x1])).length) Slot.unset).toArray = ls at hl ⊢
  have hlg : lg S S 0 0 := lg.rf
  have hak : adk ad ad S := adk.rf
  have hl : lv_has ls 6 [(0, .ref (ad 0)), (1, .int x1)] := hl
  have hsh : shx S S := shx.rf
  unfold w_count at h
  refine lv_aload_n hx hb dX14_count_0 rfl (lv_at hl 0 rfl) ?_
  refine lv_iload_n hx hb dX14_count_1 rfl (lv_at hl 1 rfl) ?_
  obtain ⟨Q1, h0, h⟩ := h
  have hFc := rfree hR hA
  refine va_calli (va_runV (As := [.int x1]) (rest := []) ⟨hx, hb, hml, hown, hts⟩ (r_isRight l g ad s.heap.size S x1 hR.w  Q1 h0) (cwV 1 hts (gd2_V kx_523 kx_524 kx_525 kx_177 kx_526) rfl rfl rfl (by decide +kernel) ⟨Nat.le_of_ble_eq_true rfl, Nat.le_of_ble_eq_true rfl⟩) ⟨rblind, va_recv hR.K hR.P (ci := 13) (q0 := 0) rfl (hR.at14 hR.w.1), fun U hU hW9 => rmk hU hW9 hR hex hE hFc⟩ rfl rfl hl.1 rfl (lv_room (Nat.le_of_ble_eq_true rfl)) dX14_count_2 ⟨(show 0 + 0 ≤ KC - qn S from hlg.c), (show 0 + 0 ≤ KS - qu S from hlg.s)⟩) hR.sS (fun q _ h => hFc q h) hFc (fun r2 S3 t9 H1 locs ht9 hvm9 hw9 hB9 hz9 hk9 hS => ?_)
  obtain ⟨hq4, hw9, hs9, hz_r2⟩ := hw9
  have hR : Rep g ad A s S3 H1 locs := hR.call ht9 hB9 hw9 hS hFc
  have hsh := hsh.tr hs9.1
  have hlg : lg S S3 (0) (0) := hlg.same hs9
  replace h := h r2 S3 hq4
  clear hB9 hz9 hk9 hvm9 ht9 hw9 hs9 hS
  generalize H1 = H at hR ⊢
  refine lv_if_ne (tgt := 10) hx hb dX14_count_5 (by decide) (fun c5 => ?_) (fun c5 => ?_)
  · replace h := h.2 (k_ne rfl (by decide) c5)
    refine lv_aload_n hx hb dX14_count_10 rfl (lv_at hl 0 rfl) ?_
    refine va_get (D := rD g) (ci := 13) (v := .int (qI S3 0 1)) (C := RX14) (T := TX14) (N := 143) hx hb hts in2X14 hown hR.K hR.P 0 (hR.at14 hR.w.1) rfl 1 (by decide) (hts _ kx_348) (fun _ h9 => h9) rfl dX14_count_11 ?_
    refine lv_bipush (v := 12) hx hb dX14_count_14 (by decide) ?_
    refine lv_icmp_eq (tgt := 28) hx hb dX14_count_16 (by decide) (fun c6 => ?_) (fun c6 => ?_)
    · replace h := h.1 (k_eq rfl (by decide) c6)
      refine lv_bipush (v := (-2)) hx hb dX14_count_28 (by decide) ?_
      refine W_led2 (fun hLd => ?_)
      refine W.widen (k := KC - qn S) (n := KS - qu S) hlg.c hlg.s ?_
      exact W.iret (v := (-2)) hx hb hr (fun t9 ht9 hW9 => ⟨⟨_, (S3, ad), rfl, ⟨h, hR.w, hsh, hak⟩, ⟨⟨by rw [ht9]; exact hR.P, hR.D⟩, _, _, by rw [ht9]; exact hLd, hlg⟩⟩, hR.sS.F ht9⟩) hR.sS.2.2 dX14_count_30
    · replace h := h.2 (k_ne rfl (by decide) c6)
      refine lv_aload_n hx hb dX14_count_19 rfl (lv_at hl 0 rfl) ?_
      refine va_get (D := rD g) (ci := 13) (v := .int (qI S3 0 2)) (C := RX14) (T := TX14) (N := 143) hx hb hts in2X14 hown hR.K hR.P 0 (hR.at14 hR.w.1) rfl 2 (by decide) (hts _ kx_821) (fun _ h9 => h9) rfl dX14_count_20 ?_
      refine lv_bipush (v := 16) hx hb dX14_count_23 (by decide) ?_
      refine lv_icmp_ne (tgt := 31) hx hb dX14_count_25 (by decide) (fun c7 => ?_) (fun c7 => ?_)
      · replace h := h.2 (k_ne rfl (by decide) c7)
        refine lv_aload_n hx hb dX14_count_31 rfl (lv_at hl 0 rfl) ?_
        refine lv_dup hx hb dX14_count_32 rfl ?_
        refine va_get (D := rD g) (ci := 13) (v := .int (qI S3 0 2)) (C := RX14) (T := TX14) (N := 143) hx hb hts in2X14 hown hR.K hR.P 0 (hR.at14 hR.w.1) rfl 2 (by decide) (hts _ kx_821) (fun _ h9 => h9) rfl dX14_count_33 ?_
        refine lv_iconst (v := 1) hx hb dX14_count_36 (by decide) ?_
        refine lv_iadd hx hb dX14_count_37 ?_
        refine lv_topi (fun z8 ez8 => ?_)
        obtain rfl : z8 = ((qI S3 0 2) + (1 : Int32)) := ez8
        refine va_put (D := rD g) (ci := 13) (v := .int ((qI S3 0 2) + (1 : Int32))) (ty := .int) (C := RX14) (T := TX14) (N := 143) hx hb hts in2X14 tyX14 tyX14_ok nmX14 hown hR.K hR.P hR.D hR.sS 0 (hR.at14 hR.w.1) rfl 2 (by decide) (hts _ kx_821) (fun _ h9 => h9) rfl (by decide +kernel) rfl rfl (Nat.le_of_ble_eq_true rfl) dX14_count_38 (fun H locs hP hD hS => ?_)
        have hR : Rep g ad A s (wI S3 0 2 ((qI S3 0 2) + (1 : Int32))) H locs := hR.pI hR.w.1 F14_s2 hP hD hS
        obtain ⟨S9, eS9⟩ : ∃ z, z = wI S3 0 2 ((qI S3 0 2) + (1 : Int32)) := ⟨_, rfl⟩
        rw [← eS9] at hR
        replace h := h S9 eS9
        have hsh : shx S S9 := by rw [eS9]; exact hsh
        have hlg : lg S S9 (0) (0) := by rw [eS9]; exact hlg
        refine lv_aload_n hx hb dX14_count_41 rfl (lv_at hl 0 rfl) ?_
        refine va_get (D := rD g) (ci := 13) (v := .ref (ad 1)) (C := RX14) (T := TX14) (N := 143) hx hb hts in2X14 hown hR.K hR.P 0 (hR.at14 hR.w.1) rfl 0 (by decide) (hts _ kx_347) (fun _ h9 => h9) (congrArg (fun z => some (vf ad z)) (hR.w.2.1 _ fin_0).1) dX14_count_42 ?_
        refine lv_iload_n hx hb dX14_count_45 rfl (lv_at hl 1 rfl) ?_
        obtain ⟨hv10, h⟩ := h
        refine va_aldq hx hb hR.K hR.P 1 5 (hR.atF (hR.w.2.1 _ fin_0).2.1) rfl (k_ixN (k_ix (n := 12) (x := x1) (a := x1.toInt) rfl hv10) (hR.w.2.1 _ fin_0).2.2) dX14_count_46 ?_
        obtain ⟨hv11, h⟩ := h
        have hT_b12 : qT S9 (qO S9 1 x1.toInt.toNat) = 11 := hR.w.ref hv11 (hR.w.2.1 _ fin_0).2.1
        rw [show va_rf (Option.map ad (qR S9 1 (x1 : Int32).toNatClampNeg)) = .ref (ad (qO S9 1 x1.toInt.toNat)) from congrArg (fun z => vf ad z) hv11]
        refine lv_astore_n (lv' := [(2, .ref (ad (qO S9 1 x1.toInt.toNat))), (0, .ref (ad 0)), (1, .int x1)]) hx hb dX14_count_47 rfl hl (by decide) rfl (fun ls hl => ?_)
        refine lv_aload_n hx hb dX14_count_48 rfl (lv_at hl 0 rfl) ?_
        refine va_get (D := rD g) (ci := 12) (v := .int (qI S9 (qO S9 1 x1.toInt.toNat) 3)) (C := RX13) (T := TX13) (N := 23) hx hb hts in2X13 hown hR.K hR.P (qO S9 1 x1.toInt.toNat) (hR.at13 hT_b12) rfl 3 (by decide) (hts _ kx_356) (fun _ h9 => h9) rfl dX14_count_49 ?_
        obtain ⟨a13, ea13⟩ : ∃ z, z = (qI S9 (qO S9 1 x1.toInt.toNat) 3) := ⟨_, rfl⟩
        rw [← ea13]
        replace h := h a13 ea13
        refine lv_istore_n (lv' := [(3, .int a13), (2, .ref (ad (qO S9 1 x1.toInt.toNat))), (0, .ref (ad 0)), (1, .int x1)]) hx hb dX14_count_52 rfl hl (by decide) rfl (fun ls hl => ?_)
        refine lv_iconst (v := 0) hx hb dX14_count_53 (by decide) ?_
        refine lv_istore (lv' := [(4, .int 0), (3, .int a13), (2, .ref (ad (qO S9 1 x1.toInt.toNat))), (0, .ref (ad 0)), (1, .int x1)]) hx hb dX14_count_54 hl (by decide) rfl (fun ls hl => ?_)
        have J_56 : ∀ (n56 : Nat) (ad56 : Nat → Nat) (dc56 ds56 : Nat) (U56 : MS) (v56_1 : Int32) (v56_2 : Nat) (v56_3 : Int32) (v56_4 : Int32) (H : Heap) (locs : List Loc) (ls : Array Slot), w_count_L56 Q n56 U56 v56_1 v56_2 v56_3 v56_4 → qT U56 v56_2 = 11 → shx S U56 → lg S U56 dc56 ds56 → adk ad ad56 S → ogR ad56 A s s.heap → Rep g ad56 A s U56 H locs → lv_has ls 6 [(0, .ref (ad56 0)), (1, .int v56_1), (2, .ref (ad56 v56_2)), (3, .int v56_3), (4, .int v56_4)] → W p l e (headSpec (wt2 yX14_count cX14_count 6 (some .int)) ({ frames := 12, cells := KC - qn S, slots := KS - qu S, locals := 275 })).room s m ([.ref (ad 0), .int x1] : List Value).toArray below meth c H locs dc56 ds56 (MQ below (va_Qi (fun (r : Int32) (u : MS × (Nat → Nat)) => Q r u.1 ∧ wfM u.1 ∧ shx S u.1 ∧ adk ad u.2 S) (fun (u : MS × (Nat → Nat)) (t : State) => qEH g A S s.heap u t) A) ([.ref (ad 0), .int x1] : List Value).toArray s (KC - qn S) (KS - qu S) A) (F0 m 56 ls []) := by
          intro n56
          induction n56 with
          | zero => intro ad56 dc56 ds56 U56 v56_1 v56_2 v56_3 v56_4 H locs ls h hT_v56_2 hsh hlg hak hE hR hl; unfold w_count_L56 at h; exact h.elim
          | succ n56 ih_56 =>
            intro ad56 dc56 ds56 U56 v56_1 v56_2 v56_3 v56_4 H locs ls h hT_v56_2 hsh hlg hak hE hR hl
            unfold w_count_L56 at h
            refine lv_iload hx hb dX14_count_56 (lv_at hl 4 rfl) ?_
            refine lv_aload_n hx hb dX14_count_58 rfl (lv_at hl 2 rfl) ?_
            refine va_get (D := rD g) (ci := 12) (v := .int (qI U56 v56_2 4)) (C := RX13) (T := TX13) (N := 23) hx hb hts in2X13 hown hR.K hR.P v56_2 (hR.at13 hT_v56_2) rfl 4 (by decide) (hts _ kx_353) (fun _ h9 => h9) rfl dX14_count_59 ?_
            refine lv_icmp_ge (tgt := 85) hx hb dX14_count_62 (by decide) (fun c14 => ?_) (fun c14 => ?_)
            · replace h := h.1 (k_le rfl rfl c14)
              refine lv_iload_n hx hb dX14_count_85 rfl (lv_at hl 3 rfl) ?_
              refine lv_bipush (v := 24) hx hb dX14_count_86 (by decide) ?_
              refine lv_icmp_le (tgt := 94) hx hb dX14_count_88 (by decide) (fun c15 => ?_) (fun c15 => ?_)
              · replace h := h.1 (k_le rfl (by decide) c15)
                refine lv_aload_n hx hb dX14_count_94 rfl (lv_at hl 0 rfl) ?_
                refine lv_aload_n hx hb dX14_count_95 rfl (lv_at hl 2 rfl) ?_
                obtain ⟨Q16, h0, h⟩ := h
                have hFc := rfree hR hA
                refine va_callv (va_runV (As := [.ref (ad56 v56_2)]) (rest := []) ⟨hx, hb, hml, hown, hts⟩ (r_copyHead l g ad56 H.size U56 v56_2 hR.w hT_v56_2 Q16 h0) (cwV 1 hts (gd2_V kx_822 kx_823 kx_824 kx_177 kx_825) rfl rfl rfl (by decide +kernel) ⟨Nat.le_of_ble_eq_true rfl, Nat.le_of_ble_eq_true rfl⟩) ⟨rblind, va_recv hR.K hR.P (ci := 13) (q0 := 0) rfl (hR.at14 hR.w.1), fun U hU hW9 => rmk hU hW9 hR hex hE hFc⟩ rfl rfl hl.1 rfl (lv_room (Nat.le_of_ble_eq_true rfl)) dX14_count_96 ⟨(show dc56 + 0 ≤ KC - qn S from hlg.c), (show ds56 + 0 ≤ KS - qu S from hlg.s)⟩) hR.sS (fun q _ h => hFc q h) hFc (fun  S17 t9 H1 locs ht9 hvm9 hw9 hB9 hz9 hk9 hS => ?_)
                obtain ⟨hq18, hw9, hs9⟩ := hw9
                have hR : Rep g ad56 A s S17 H1 locs := hR.call ht9 hB9 hw9 hS hFc
                have hsh := hsh.tr hs9.1
                have hlg : lg S S17 (dc56) (ds56) := hlg.same hs9
                replace h := h  S17 hq18
                have hT_v56_2 := hs9.T hT_v56_2 (by decide)
                clear hB9 hz9 hk9 hvm9 ht9 hw9 hs9 hS
                generalize H1 = H at hR ⊢
                refine lv_aload_n hx hb dX14_count_99 rfl (lv_at hl 2 rfl) ?_
                refine va_get (D := rD g) (ci := 12) (v := .int (qI S17 v56_2 3)) (C := RX13) (T := TX13) (N := 23) hx hb hts in2X13 hown hR.K hR.P v56_2 (hR.at13 hT_v56_2) rfl 3 (by decide) (hts _ kx_356) (fun _ h9 => h9) rfl dX14_count_100 ?_
                obtain ⟨a19, ea19⟩ : ∃ z, z = (qI S17 v56_2 3) := ⟨_, rfl⟩
                rw [← ea19]
                replace h := h a19 ea19
                refine lv_istore (lv' := [(4, .int a19), (0, .ref (ad56 0)), (1, .int v56_1), (2, .ref (ad56 v56_2)), (3, .int v56_3)]) hx hb dX14_count_103 hl (by decide) rfl (fun ls hl => ?_)
                have J_105 : ∀ (n105 : Nat) (ad105 : Nat → Nat) (dc105 ds105 : Nat) (U105 : MS) (v105_1 : Int32) (v105_2 : Nat) (v105_3 : Int32) (v105_4 : Int32) (H : Heap) (locs : List Loc) (ls : Array Slot), w_count_L105 Q n105 U105 v105_1 v105_2 v105_3 v105_4 → qT U105 v105_2 = 11 → shx S U105 → lg S U105 dc105 ds105 → adk ad ad105 S → ogR ad105 A s s.heap → Rep g ad105 A s U105 H locs → lv_has ls 6 [(0, .ref (ad105 0)), (1, .int v105_1), (2, .ref (ad105 v105_2)), (3, .int v105_3), (4, .int v105_4)] → W p l e (headSpec (wt2 yX14_count cX14_count 6 (some .int)) ({ frames := 12, cells := KC - qn S, slots := KS - qu S, locals := 275 })).room s m ([.ref (ad 0), .int x1] : List Value).toArray below meth c H locs dc105 ds105 (MQ below (va_Qi (fun (r : Int32) (u : MS × (Nat → Nat)) => Q r u.1 ∧ wfM u.1 ∧ shx S u.1 ∧ adk ad u.2 S) (fun (u : MS × (Nat → Nat)) (t : State) => qEH g A S s.heap u t) A) ([.ref (ad 0), .int x1] : List Value).toArray s (KC - qn S) (KS - qu S) A) (F0 m 105 ls []) := by
                  intro n105
                  induction n105 with
                  | zero => intro ad105 dc105 ds105 U105 v105_1 v105_2 v105_3 v105_4 H locs ls h hT_v105_2 hsh hlg hak hE hR hl; unfold w_count_L105 at h; exact h.elim
                  | succ n105 ih_105 =>
                    intro ad105 dc105 ds105 U105 v105_1 v105_2 v105_3 v105_4 H locs ls h hT_v105_2 hsh hlg hak hE hR hl
                    unfold w_count_L105 at h
                    refine lv_iload hx hb dX14_count_105 (lv_at hl 4 rfl) ?_
                    refine lv_iload_n hx hb dX14_count_107 rfl (lv_at hl 3 rfl) ?_
                    refine lv_icmp_ge (tgt := 179) hx hb dX14_count_108 (by decide) (fun c20 => ?_) (fun c20 => ?_)
                    · replace h := h.1 (k_le rfl rfl c20)
                      refine lv_aload_n hx hb dX14_count_179 rfl (lv_at hl 0 rfl) ?_
                      refine va_get (D := rD g) (ci := 13) (v := .ref (ad105 60)) (C := RX14) (T := TX14) (N := 143) hx hb hts in2X14 hown hR.K hR.P 0 (hR.at14 hR.w.1) rfl 118 (by decide) (hts _ kx_802) (fun _ h9 => h9) (congrArg (fun z => some (vf ad105 z)) (hR.w.2.1 _ fin_118).1) dX14_count_180 ?_
                      refine lv_iload_n hx hb dX14_count_183 rfl (lv_at hl 3 rfl) ?_
                      refine va_put (D := rD g) (ci := 12) (v := .int v105_3) (ty := .int) (C := RX13) (T := TX13) (N := 23) hx hb hts in2X13 tyX13 tyX13_ok nmX13 hown hR.K hR.P hR.D hR.sS 60 (hR.at13 (hR.w.2.1 _ fin_118).2.1) rfl 3 (by decide) (hts _ kx_356) (fun _ h9 => h9) rfl (by decide +kernel) rfl rfl (Nat.le_of_ble_eq_true rfl) dX14_count_184 (fun H locs hP hD hS => ?_)
                      have hR : Rep g ad105 A s (wI U105 60 3 v105_3) H locs := hR.pI3 (hR.w.2.1 _ fin_118).2.1 F13_s3 hP hD hS
                      obtain ⟨S21, eS21⟩ : ∃ z, z = wI U105 60 3 v105_3 := ⟨_, rfl⟩
                      rw [← eS21] at hR
                      replace h := h S21 eS21
                      have hT_v105_2 : qT S21 v105_2 = 11 := (congrArg (fun z => qT z v105_2) eS21).trans hT_v105_2
                      have hsh : shx S S21 := by rw [eS21]; exact hsh
                      have hlg : lg S S21 (dc105) (ds105) := by rw [eS21]; exact hlg
                      refine lv_aload_n hx hb dX14_count_187 rfl (lv_at hl 2 rfl) ?_
                      refine va_get (D := rD g) (ci := 12) (v := .int (qI S21 v105_2 3)) (C := RX13) (T := TX13) (N := 23) hx hb hts in2X13 hown hR.K hR.P v105_2 (hR.at13 hT_v105_2) rfl 3 (by decide) (hts _ kx_356) (fun _ h9 => h9) rfl dX14_count_188 ?_
                      obtain ⟨a22, ea22⟩ : ∃ z, z = (qI S21 v105_2 3) := ⟨_, rfl⟩
                      rw [← ea22]
                      replace h := h a22 ea22
                      refine lv_istore (lv' := [(4, .int a22), (0, .ref (ad105 0)), (1, .int v105_1), (2, .ref (ad105 v105_2)), (3, .int v105_3)]) hx hb dX14_count_191 hl (by decide) rfl (fun ls hl => ?_)
                      refine lv_iconst (v := 0) hx hb dX14_count_193 (by decide) ?_
                      refine lv_istore (lv' := [(5, .int 0), (4, .int a22), (0, .ref (ad105 0)), (1, .int v105_1), (2, .ref (ad105 v105_2)), (3, .int v105_3)]) hx hb dX14_count_194 hl (by decide) rfl (fun ls hl => ?_)
                      have J_196 : ∀ (n196 : Nat) (ad196 : Nat → Nat) (dc196 ds196 : Nat) (U196 : MS) (v196_1 : Int32) (v196_2 : Nat) (v196_4 : Int32) (v196_5 : Int32) (H : Heap) (locs : List Loc) (ls : Array Slot), w_count_L196 Q n196 U196 v196_1 v196_2 v196_4 v196_5 → qT U196 v196_2 = 11 → shx S U196 → lg S U196 dc196 ds196 → adk ad ad196 S → ogR ad196 A s s.heap → Rep g ad196 A s U196 H locs → lv_has ls 6 [(0, .ref (ad196 0)), (1, .int v196_1), (2, .ref (ad196 v196_2)), (4, .int v196_4), (5, .int v196_5)] → W p l e (headSpec (wt2 yX14_count cX14_count 6 (some .int)) ({ frames := 12, cells := KC - qn S, slots := KS - qu S, locals := 275 })).room s m ([.ref (ad 0), .int x1] : List Value).toArray below meth c H locs dc196 ds196 (MQ below (va_Qi (fun (r : Int32) (u : MS × (Nat → Nat)) => Q r u.1 ∧ wfM u.1 ∧ shx S u.1 ∧ adk ad u.2 S) (fun (u : MS × (Nat → Nat)) (t : State) => qEH g A S s.heap u t) A) ([.ref (ad 0), .int x1] : List Value).toArray s (KC - qn S) (KS - qu S) A) (F0 m 196 ls []) := by
                        intro n196
                        induction n196 with
                        | zero => intro ad196 dc196 ds196 U196 v196_1 v196_2 v196_4 v196_5 H locs ls h hT_v196_2 hsh hlg hak hE hR hl; unfold w_count_L196 at h; exact h.elim
                        | succ n196 ih_196 =>
                          intro ad196 dc196 ds196 U196 v196_1 v196_2 v196_4 v196_5 H locs ls h hT_v196_2 hsh hlg hak hE hR hl
                          unfold w_count_L196 at h
                          refine lv_iload hx hb dX14_count_196 (lv_at hl 4 rfl) ?_
                          refine lv_aload_n hx hb dX14_count_198 rfl (lv_at hl 2 rfl) ?_
                          refine va_get (D := rD g) (ci := 12) (v := .int (qI U196 v196_2 4)) (C := RX13) (T := TX13) (N := 23) hx hb hts in2X13 hown hR.K hR.P v196_2 (hR.at13 hT_v196_2) rfl 4 (by decide) (hts _ kx_353) (fun _ h9 => h9) rfl dX14_count_199 ?_
                          refine lv_icmp_ge (tgt := 242) hx hb dX14_count_202 (by decide) (fun c23 => ?_) (fun c23 => ?_)
                          · replace h := h.1 (k_le rfl rfl c23)
                            refine lv_aload_n hx hb dX14_count_242 rfl (lv_at hl 0 rfl) ?_
                            obtain ⟨Q24, h0, h⟩ := h
                            have hFc := rfree hR hA
                            refine W_led2 (fun hL0 => ?_)
                            refine vx_calli (vx_runVX (As := []) (rest := []) ⟨hx, hb, hml, hown, hts⟩ (r_keptDraft l g ad196 H U196 hR.w  Q24 h0) (vx_cwVW (hh := [(0, 24, 25, 19)]) 0 hts (gd2_W kx_1145 kx_1146 kx_1147 kx_177 kx_1148) rfl rfl rfl (by decide +kernel) ⟨Nat.le_of_ble_eq_true rfl, Nat.le_of_ble_eq_true rfl⟩) ⟨rblindH, va_recv hR.K hR.P (ci := 13) (q0 := 0) rfl (hR.at14 hR.w.1), fun U hU hW9 => rmkH hU hW9 hR hex hE hFc⟩ rfl rfl hl.1 rfl (lv_room (Nat.le_of_ble_eq_true rfl)) dX14_count_243 ⟨(show dc196 + (KC - qn U196) ≤ KC - qn S from hlg.cm), (show ds196 + (KS - qu U196) ≤ KS - qu S from hlg.sm)⟩) hR.sS (fun q _ h => hFc q h) hFc (fun q _ h => hFc q h) (fun E9 ce9 q9 u9 t9 H1 locs ht9 hvm9 hp9 hB9 hz9 hk9 hS hce9 hcv9 hcl9 => hp9.elim) (fun r25 S26 t9 H1 locs ht9 hvm9 hw9 hB9 hz9 hk9 hS => ?_)
                            rcases S26 with ⟨S26, ak28⟩
                            obtain ⟨hB9, dc9, ds9, hL9, hl9⟩ := hB9
                            dsimp only at hw9 hB9 hl9
                            rw [ht9] at hL9
                            obtain ⟨hq27, hw9, hs9, hk8⟩ := hw9
                            have hw8 := hR.w
                            have hak := hak.tr hk8 hlg.2.2.1
                            have hE := hE.ad hk8
                            have hR : Rep g ak28 A s S26 H1 locs := hR.callH ht9 hB9 hw9 hS hFc
                            have hsh := hsh.tr hs9
                            refine W_tight2 (hL0.tr hL9).1 (hL0.tr hL9).2.1 ?_
                            have hlg := hlg.call hl9
                            replace h := h r25 S26 hq27
                            have ea_0 : ak28 0 = ad196 0 := hk8 _ (hw8.hd hw8.1 (by decide) (by decide))
                            have ea_1 : ak28 v196_2 = ad196 v196_2 := hk8 _ (hw8.hd hT_v196_2 (by decide) (by decide))
                            have hl : lv_has ls 6 [(0, .ref (ak28 0)), (1, .int v196_1), (2, .ref (ak28 v196_2)), (4, .int v196_4), (5, .int v196_5)] := by simp only [ea_0, ea_1]; exact hl
                            have hT_v196_2 := hs9.T hT_v196_2 (by decide)
                            clear hB9 hz9 hk9 hvm9 ht9 hw9 hs9 hS hL0 hL9
                            generalize H1 = H at hR ⊢
                            generalize dc9 = dc_ak28, ds9 = ds_ak28 at hlg ⊢
                            refine W_led2 (fun hLd => ?_)
                            refine W.widen (k := KC - qn S) (n := KS - qu S) hlg.c hlg.s ?_
                            exact W.iret (v := r25) hx hb hr (fun t9 ht9 hW9 => ⟨⟨_, (S26, ak28), rfl, ⟨h, hR.w, hsh, hak⟩, ⟨⟨by rw [ht9]; exact hR.P, hR.D⟩, _, _, by rw [ht9]; exact hLd, hlg⟩⟩, hR.sS.F ht9⟩) hR.sS.2.2 dX14_count_246
                          · replace h := h.2 (k_nle rfl rfl c23)
                            refine lv_aload_n hx hb dX14_count_205 rfl (lv_at hl 0 rfl) ?_
                            refine lv_iload_n hx hb dX14_count_206 rfl (lv_at hl 1 rfl) ?_
                            refine lv_iload hx hb dX14_count_207 (lv_at hl 4 rfl) ?_
                            obtain ⟨Q29, h0, h⟩ := h
                            have hFc := rfree hR hA
                            refine va_callv (va_runV (As := [.int v196_1, .int v196_5]) (rest := []) ⟨hx, hb, hml, hown, hts⟩ (r_graph l g ad196 H.size U196 v196_1 v196_5 hR.w  Q29 h0) (cwV 2 hts (gd2_V kx_1003 kx_1004 kx_1005 kx_177 kx_1006) rfl rfl rfl (by decide +kernel) ⟨Nat.le_of_ble_eq_true rfl, Nat.le_of_ble_eq_true rfl⟩) ⟨rblind, va_recv hR.K hR.P (ci := 13) (q0 := 0) rfl (hR.at14 hR.w.1), fun U hU hW9 => rmk hU hW9 hR hex hE hFc⟩ rfl rfl hl.1 rfl (lv_room (Nat.le_of_ble_eq_true rfl)) dX14_count_209 ⟨(show dc196 + 0 ≤ KC - qn S from hlg.c), (show ds196 + 0 ≤ KS - qu S from hlg.s)⟩) hR.sS (fun q _ h => hFc q h) hFc (fun  S30 t9 H1 locs ht9 hvm9 hw9 hB9 hz9 hk9 hS => ?_)
                            obtain ⟨hq31, hw9, hs9⟩ := hw9
                            have hR : Rep g ad196 A s S30 H1 locs := hR.call ht9 hB9 hw9 hS hFc
                            have hsh := hsh.tr hs9.1
                            have hlg : lg S S30 (dc196) (ds196) := hlg.same hs9
                            replace h := h  S30 hq31
                            have hT_v196_2 := hs9.T hT_v196_2 (by decide)
                            clear hB9 hz9 hk9 hvm9 ht9 hw9 hs9 hS
                            generalize H1 = H at hR ⊢
                            refine lv_aload_n hx hb dX14_count_212 rfl (lv_at hl 0 rfl) ?_
                            refine lv_aload_n hx hb dX14_count_213 rfl (lv_at hl 2 rfl) ?_
                            refine lv_iload hx hb dX14_count_214 (lv_at hl 4 rfl) ?_
                            obtain ⟨Q32, h0, h⟩ := h
                            have hFc := rfree hR hA
                            refine va_callv (va_runV (As := [.ref (ad196 v196_2), .int v196_5]) (rest := []) ⟨hx, hb, hml, hown, hts⟩ (r_takeMethod l g ad196 H.size S30 v196_2 v196_5 hR.w hT_v196_2 Q32 h0) (cwV 2 hts (gd2_V kx_1149 kx_1150 kx_1151 kx_177 kx_1152) rfl rfl rfl (by decide +kernel) ⟨Nat.le_of_ble_eq_true rfl, Nat.le_of_ble_eq_true rfl⟩) ⟨rblind, va_recv hR.K hR.P (ci := 13) (q0 := 0) rfl (hR.at14 hR.w.1), fun U hU hW9 => rmk hU hW9 hR hex hE hFc⟩ rfl rfl hl.1 rfl (lv_room (Nat.le_of_ble_eq_true rfl)) dX14_count_216 ⟨(show dc196 + 0 ≤ KC - qn S from hlg.c), (show ds196 + 0 ≤ KS - qu S from hlg.s)⟩) hR.sS (fun q _ h => hFc q h) hFc (fun  S33 t9 H1 locs ht9 hvm9 hw9 hB9 hz9 hk9 hS => ?_)
                            obtain ⟨hq34, hw9, hs9⟩ := hw9
                            have hR : Rep g ad196 A s S33 H1 locs := hR.call ht9 hB9 hw9 hS hFc
                            have hsh := hsh.tr hs9.1
                            have hlg : lg S S33 (dc196) (ds196) := hlg.same hs9
                            replace h := h  S33 hq34
                            have hT_v196_2 := hs9.T hT_v196_2 (by decide)
                            clear hB9 hz9 hk9 hvm9 ht9 hw9 hs9 hS
                            generalize H1 = H at hR ⊢
                            refine lv_aload_n hx hb dX14_count_219 rfl (lv_at hl 0 rfl) ?_
                            refine lv_iload hx hb dX14_count_220 (lv_at hl 4 rfl) ?_
                            refine lv_iload hx hb dX14_count_222 (lv_at hl 3 rfl) ?_
                            obtain ⟨Q35, h0, h⟩ := h
                            have hFc := rfree hR hA
                            refine va_callv (va_runV (As := [.int v196_5, .int v196_4]) (rest := []) ⟨hx, hb, hml, hown, hts⟩ (r_putMethod l g ad196 H.size S33 v196_5 v196_4 hR.w  Q35 h0) (cwV 2 hts (gd2_V kx_1153 kx_1154 kx_1155 kx_177 kx_1156) rfl rfl rfl (by decide +kernel) ⟨Nat.le_of_ble_eq_true rfl, Nat.le_of_ble_eq_true rfl⟩) ⟨rblind, va_recv hR.K hR.P (ci := 13) (q0 := 0) rfl (hR.at14 hR.w.1), fun U hU hW9 => rmk hU hW9 hR hex hE hFc⟩ rfl rfl hl.1 rfl (lv_room (Nat.le_of_ble_eq_true rfl)) dX14_count_224 ⟨(show dc196 + 0 ≤ KC - qn S from hlg.c), (show ds196 + 0 ≤ KS - qu S from hlg.s)⟩) hR.sS (fun q _ h => hFc q h) hFc (fun  S36 t9 H1 locs ht9 hvm9 hw9 hB9 hz9 hk9 hS => ?_)
                            obtain ⟨hq37, hw9, hs9⟩ := hw9
                            have hR : Rep g ad196 A s S36 H1 locs := hR.call ht9 hB9 hw9 hS hFc
                            have hsh := hsh.tr hs9.1
                            have hlg : lg S S36 (dc196) (ds196) := hlg.same hs9
                            replace h := h  S36 hq37
                            have hT_v196_2 := hs9.T hT_v196_2 (by decide)
                            clear hB9 hz9 hk9 hvm9 ht9 hw9 hs9 hS
                            generalize H1 = H at hR ⊢
                            refine lv_iload hx hb dX14_count_227 (lv_at hl 3 rfl) ?_
                            refine lv_aload_n hx hb dX14_count_229 rfl (lv_at hl 0 rfl) ?_
                            obtain ⟨Q38, h0, h⟩ := h
                            have hFc := rfree hR hA
                            refine va_calli (va_runV (As := []) (rest := [.int v196_4]) ⟨hx, hb, hml, hown, hts⟩ (r_reachedBlocks l g ad196 H.size S36 hR.w  Q38 h0) (cwV 0 hts (gd2_V kx_1157 kx_1158 kx_1159 kx_177 kx_1160) rfl rfl rfl (by decide +kernel) ⟨Nat.le_of_ble_eq_true rfl, Nat.le_of_ble_eq_true rfl⟩) ⟨rblind, va_recv hR.K hR.P (ci := 13) (q0 := 0) rfl (hR.at14 hR.w.1), fun U hU hW9 => rmk hU hW9 hR hex hE hFc⟩ rfl rfl hl.1 rfl (lv_room (Nat.le_of_ble_eq_true rfl)) dX14_count_230 ⟨(show dc196 + 0 ≤ KC - qn S from hlg.c), (show ds196 + 0 ≤ KS - qu S from hlg.s)⟩) hR.sS (fun q _ h => hFc q h) hFc (fun r39 S40 t9 H1 locs ht9 hvm9 hw9 hB9 hz9 hk9 hS => ?_)
                            obtain ⟨hq41, hw9, hs9⟩ := hw9
                            have hR : Rep g ad196 A s S40 H1 locs := hR.call ht9 hB9 hw9 hS hFc
                            have hsh := hsh.tr hs9.1
                            have hlg : lg S S40 (dc196) (ds196) := hlg.same hs9
                            replace h := h r39 S40 hq41
                            have hT_v196_2 := hs9.T hT_v196_2 (by decide)
                            clear hB9 hz9 hk9 hvm9 ht9 hw9 hs9 hS
                            generalize H1 = H at hR ⊢
                            refine lv_iadd hx hb dX14_count_233 ?_
                            refine lv_topi (fun z42 ez42 => ?_)
                            obtain rfl : z42 = (v196_4 + r39) := ez42
                            obtain ⟨a43, ea43⟩ : ∃ z, z = (v196_4 + r39) := ⟨_, rfl⟩
                            rw [← ea43]
                            replace h := h a43 ea43
                            refine lv_istore (lv' := [(4, .int a43), (0, .ref (ad196 0)), (1, .int v196_1), (2, .ref (ad196 v196_2)), (5, .int v196_5)]) hx hb dX14_count_234 hl (by decide) rfl (fun ls hl => ?_)
                            obtain ⟨a44, ea44⟩ : ∃ z, z = (v196_5 + Int32.ofInt 1) := ⟨_, rfl⟩
                            replace h := h a44 ea44
                            refine lv_iinc (v := a44) (lv' := [(5, .int a44), (4, .int a43), (0, .ref (ad196 0)), (1, .int v196_1), (2, .ref (ad196 v196_2))]) hx hb dX14_count_236 hl (k := 4) rfl ea44.symm (by decide) rfl (fun ls hl => ?_)
                            refine lv_goto (tgt := 196) hx hb dX14_count_239 (by decide) ?_
                            exact ih_196 ad196 (dc196) (ds196) S40 v196_1 v196_2 a43 a44 _ _ ls h hT_v196_2 hsh hlg hak hE hR (lv_sub hl [2, 3, 4, 1, 0] rfl)
                      obtain ⟨n9, h⟩ := h
                      exact J_196 n9 ad105 (dc105) (ds105) S21 v105_1 v105_2 a22 0 _ _ ls h hT_v105_2 hsh hlg hak hE hR (lv_sub hl [2, 3, 4, 1, 0] rfl)
                    · replace h := h.2 (k_nle rfl rfl c20)
                      refine lv_aload_n hx hb dX14_count_111 rfl (lv_at hl 0 rfl) ?_
                      refine va_get (D := rD g) (ci := 13) (v := .ref (ad105 60)) (C := RX14) (T := TX14) (N := 143) hx hb hts in2X14 hown hR.K hR.P 0 (hR.at14 hR.w.1) rfl 118 (by decide) (hts _ kx_802) (fun _ h9 => h9) (congrArg (fun z => some (vf ad105 z)) (hR.w.2.1 _ fin_118).1) dX14_count_112 ?_
                      obtain ⟨hv45, h⟩ := h
                      have hT_b46 : qT U105 (qO U105 60 5) = 5 := hR.w.ref hv45 (hR.w.2.1 _ fin_118).2.1
                      refine va_get (D := rD g) (ci := 12) (v := .ref (ad105 (qO U105 60 5))) (C := RX13) (T := TX13) (N := 23) hx hb hts in2X13 hown hR.K hR.P 60 (hR.at13 (hR.w.2.1 _ fin_118).2.1) rfl 5 (by decide) (hts _ kx_563) (fun _ h9 => h9) (congrArg (fun z => some (vf ad105 z)) hv45) dX14_count_115 ?_
                      refine lv_iload hx hb dX14_count_118 (lv_at hl 4 rfl) ?_
                      obtain ⟨hv47, h⟩ := h
                      have e9 : KC = 300000 := rfl
                      have e8 : KS = 3720000 := rfl
                      have e7 : TXB = 10000000 := rfl
                      have hTX : qn U105 < TXB := by have := hv47.1; omega
                      refine va_new (ci := 16) (fs := dfJ4) (C := RJ4) (T := TJ4) (N := 4) hx hb hts in2J4 tyJ4 tyJ4_ok hown (hts _ kx_333) (hts _ kx_334) (hts _ kx_113) hR.K hR.P hR.D hR.sS hA rfl dfJ4_ok (show dc105 + 1 ≤ KC - qn S from hlg.c1 hv47.1) (show ds105 + 4 ≤ KS - qu S from hlg.s1 hv47.2) dX14_count_120 (fun q48 H hP hD hS => ?_)
                      have hw8 := hR.w
                      have hR := hR.new (t := 13) (n := 0) (k := 4) hTX (by decide) (fun q9 => absurd q9 (by decide)) wN_cU hP hD hS
                      have hk8 : adk ad105 (adx ad105 (qn U105) q48) U105 := adk.rf.new (Nat.le_refl _) hTX
                      have hak := hak.new (q := q48) hlg.2.2.1 hTX
                      have hE := hE.ad hk8
                      have hlg : lg S (wN U105 13 0 4) (dc105 + 1) (ds105 + 4) := hlg.new (t := 13) (n := 0) ⟨hv47.1, hv47.2⟩
                      have hs8 : shx U105 (wN U105 13 0 4) := shx.new (t := 13) (n := 0) (k := 4) shx.rf hw8 hTX
                      obtain ⟨am49, eam49⟩ : ∃ z, z = adx ad105 (qn U105) q48 := ⟨_, rfl⟩
                      have eq_q48 : am49 (qn U105) = q48 := by rw [eam49]; exact if_pos rfl
                      rw [← eam49] at hR hk8 hak hE
                      obtain ⟨S50, eS50⟩ : ∃ z, z = wN U105 13 0 4 := ⟨_, rfl⟩
                      rw [← eS50] at hR hlg hs8
                      replace h := h S50 eS50
                      have hsh := hsh.tr hs8
                      have hT_b51 : qT S50 (qn U105) = 13 := by rw [eS50]; exact if_pos rfl
                      have ea_0 : am49 0 = ad105 0 := hk8 _ (hw8.hd hw8.1 (by decide) (by decide))
                      have ea_1 : am49 v105_2 = ad105 v105_2 := hk8 _ (hw8.hd hT_v105_2 (by decide) (by decide))
                      have ea_2 : am49 (qO U105 60 5) = ad105 (qO U105 60 5) := hk8 _ (hw8.hd hT_b46 (by decide) (by decide))
                      have hT_v105_2 := hs8.T hT_v105_2 (by decide)
                      have hT_b46 := hs8.T hT_b46 (by decide)
                      have hl : lv_has ls 6 [(0, .ref (am49 0)), (1, .int v105_1), (2, .ref (am49 v105_2)), (3, .int v105_3), (4, .int v105_4)] := by simp only [ea_0, ea_1, ea_2]; exact hl
                      refine W.eq (g2 := F0 m 123 ls [.ref (am49 (qn U105)), .int v105_4, .ref (am49 (qO U105 60 5))]) (by simp only [ea_0, ea_1, ea_2, eq_q48]) ?_
                      clear hw8 hk8 hs8 hP hD hS e9 e8 e7 hTX
                      refine lv_dup hx hb dX14_count_123 rfl ?_
                      obtain ⟨Q52, h0, h⟩ := h
                      have hFc := rfree hR hA
                      refine W_led2 (fun hL0 => ?_)
                      refine va_callv (va_runI (As := []) (rest := [.ref (am49 (qn U105)), .int v105_4, .ref (am49 (qO U105 60 5))]) ⟨hx, hb, hml, hown, hts⟩ (r_J4_init_da8c8 l g am49 H S50 (qn U105) hR.w hT_b51 Q52 h0) (cwI 0 hts (gd2_I kx_1162) rfl rfl rfl (hts _ kx_113) (hts _ kx_1161) (hts _ kx_1163) rfl (by decide +kernel) ⟨Nat.le_of_ble_eq_true rfl, Nat.le_of_ble_eq_true rfl⟩) ⟨rblindH, fun U hU hW9 => rmkH hU hW9 hR hex hE hFc⟩ rfl rfl hl.1 rfl (lv_room (Nat.le_of_ble_eq_true rfl)) dX14_count_124 ⟨(show dc105 + 1 + (KC - qn S50) ≤ KC - qn S from hlg.cm), (show ds105 + 4 + (KS - qu S50) ≤ KS - qu S from hlg.sm)⟩) hR.sS (fun q _ h => hFc q h) hFc (fun  S53 t9 H1 locs ht9 hvm9 hw9 hB9 hz9 hk9 hS => ?_)
                      rcases S53 with ⟨S53, ak55⟩
                      obtain ⟨hB9, dc9, ds9, hL9, hl9⟩ := hB9
                      dsimp only at hw9 hB9 hl9
                      rw [ht9] at hL9
                      obtain ⟨hq54, hw9, hs9, hk8⟩ := hw9
                      have hw8 := hR.w
                      have hak := hak.tr hk8 hlg.2.2.1
                      have hE := hE.ad hk8
                      have hR : Rep g ak55 A s S53 H1 locs := hR.callH ht9 hB9 hw9 hS hFc
                      have hsh := hsh.tr hs9
                      refine W_tight2 (hL0.tr hL9).1 (hL0.tr hL9).2.1 ?_
                      have hlg := hlg.call hl9
                      replace h := h  S53 hq54
                      have ea_0 : ak55 0 = am49 0 := hk8 _ (hw8.hd hw8.1 (by decide) (by decide))
                      have ea_1 : ak55 v105_2 = am49 v105_2 := hk8 _ (hw8.hd hT_v105_2 (by decide) (by decide))
                      have ea_2 : ak55 (qn U105) = am49 (qn U105) := hk8 _ (hw8.hd hT_b51 (by decide) (by decide))
                      have ea_3 : ak55 (qO U105 60 5) = am49 (qO U105 60 5) := hk8 _ (hw8.hd hT_b46 (by decide) (by decide))
                      have hl : lv_has ls 6 [(0, .ref (ak55 0)), (1, .int v105_1), (2, .ref (ak55 v105_2)), (3, .int v105_3), (4, .int v105_4)] := by simp only [ea_0, ea_1, ea_2, ea_3]; exact hl
                      refine W.eq (g2 := F0 m 127 ls ([.ref (ak55 (qn U105)), .int v105_4, .ref (ak55 (qO U105 60 5))])) (by first | (simp only [ea_0, ea_1, ea_2, ea_3]; rfl) | simp only [ea_0, ea_1, ea_2, ea_3]) ?_
                      have hT_v105_2 := hs9.T hT_v105_2 (by decide)
                      have hT_b51 := hs9.T hT_b51 (by decide)
                      have hT_b46 := hs9.T hT_b46 (by decide)
                      clear hB9 hz9 hk9 hvm9 ht9 hw9 hs9 hS hL0 hL9
                      generalize H1 = H at hR ⊢
                      generalize dc9 = dc_ak55, ds9 = ds_ak55 at hlg ⊢
                      have hT_t56 : qT S53 10000036 = 12 := hR.w.txt (i := 18) (by decide)
                      refine va_ldcSW (tx := "c") (q := ak55 10000036) hx hb hown (hE.2.2 _ ldc_1285) dX14_count_127 ?_
                      obtain ⟨Q57, h0, h⟩ := h
                      have hFc := rfree hR hA
                      refine W_led2 (fun hL0 => ?_)
                      refine va_callq (va_runV (As := [.ref (ak55 10000036)]) (rest := [.int v105_4, .ref (ak55 (qO U105 60 5))]) ⟨hx, hb, hml, hown, hts⟩ (r_J4_append_15ec4 l g ak55 H S53 (qn U105) 10000036 hR.w hT_b51 hT_t56 Q57 h0) (cwV 1 hts (gd2_V kx_1164 kx_1165 kx_1166 kx_113 kx_1167) rfl rfl rfl (by decide +kernel) ⟨Nat.le_of_ble_eq_true rfl, Nat.le_of_ble_eq_true rfl⟩) ⟨rblindH, va_recv hR.K hR.P (ci := 16) (q0 := (qn U105)) rfl (hR.atU hT_b51), fun U hU hW9 => rmkH hU hW9 hR hex hE hFc⟩ rfl rfl hl.1 rfl (lv_room (Nat.le_of_ble_eq_true rfl)) dX14_count_130 ⟨(show dc105 + 1 + dc_ak55 + (KC - qn S53) ≤ KC - qn S from hlg.cm), (show ds105 + 4 + ds_ak55 + (KS - qu S53) ≤ KS - qu S from hlg.sm)⟩) hR.sS (fun q _ h => hFc q h) hFc (fun r58 S59 t9 H1 locs ht9 hvm9 hw9 hB9 hz9 hk9 hS => ?_)
                      rcases S59 with ⟨S59, ak61⟩
                      obtain ⟨hB9, dc9, ds9, hL9, hl9⟩ := hB9
                      dsimp only at hw9 hB9 hl9
                      rw [ht9] at hL9
                      obtain ⟨b62, rfl, hq60, hw9, hs9, hk8, hT_b62⟩ := hw9
                      have hw8 := hR.w
                      have hak := hak.tr hk8 hlg.2.2.1
                      have hE := hE.ad hk8
                      have hR : Rep g ak61 A s S59 H1 locs := hR.callH ht9 hB9 hw9 hS hFc
                      have hsh := hsh.tr hs9
                      refine W_tight2 (hL0.tr hL9).1 (hL0.tr hL9).2.1 ?_
                      have hlg := hlg.call hl9
                      replace h := h b62 S59 hq60
                      have ea_0 : ak61 0 = ak55 0 := hk8 _ (hw8.hd hw8.1 (by decide) (by decide))
                      have ea_1 : ak61 v105_2 = ak55 v105_2 := hk8 _ (hw8.hd hT_v105_2 (by decide) (by decide))
                      have ea_2 : ak61 (qO U105 60 5) = ak55 (qO U105 60 5) := hk8 _ (hw8.hd hT_b46 (by decide) (by decide))
                      have hl : lv_has ls 6 [(0, .ref (ak61 0)), (1, .int v105_1), (2, .ref (ak61 v105_2)), (3, .int v105_3), (4, .int v105_4)] := by simp only [ea_0, ea_1, ea_2]; exact hl
                      refine W.eq (g2 := F0 m 133 ls (.ref (ak61 b62) :: [.int v105_4, .ref (ak61 (qO U105 60 5))])) (by first | (simp only [ea_0, ea_1, ea_2]; rfl) | simp only [ea_0, ea_1, ea_2]) ?_
                      have hT_v105_2 := hs9.T hT_v105_2 (by decide)
                      have hT_b46 := hs9.T hT_b46 (by decide)
                      clear hB9 hz9 hk9 hvm9 ht9 hw9 hs9 hS hL0 hL9
                      generalize H1 = H at hR ⊢
                      generalize dc9 = dc_ak61, ds9 = ds_ak61 at hlg ⊢
                      refine lv_iload hx hb dX14_count_133 (lv_at hl 4 rfl) ?_
                      refine lv_aload_n hx hb dX14_count_135 rfl (lv_at hl 2 rfl) ?_
                      refine va_get (D := rD g) (ci := 12) (v := .int (qI S59 v105_2 3)) (C := RX13) (T := TX13) (N := 23) hx hb hts in2X13 hown hR.K hR.P v105_2 (hR.at13 hT_v105_2) rfl 3 (by decide) (hts _ kx_356) (fun _ h9 => h9) rfl dX14_count_136 ?_
                      refine lv_isub hx hb dX14_count_139 ?_
                      refine lv_topi (fun z63 ez63 => ?_)
                      obtain rfl : z63 = (v105_4 - (qI S59 v105_2 3)) := ez63
                      obtain ⟨Q64, h0, h⟩ := h
                      have hFc := rfree hR hA
                      refine W_led2 (fun hL0 => ?_)
                      refine va_callq (va_runV (As := [.int (v105_4 - (qI S59 v105_2 3))]) (rest := [.int v105_4, .ref (ak61 (qO U105 60 5))]) ⟨hx, hb, hml, hown, hts⟩ (r_J4_append_bf812 l g ak61 H S59 b62 (v105_4 - (qI S59 v105_2 3)) hR.w hT_b62 Q64 h0) (cwV 1 hts (gd2_V kx_1168 kx_1169 kx_1170 kx_113 kx_1171) rfl rfl rfl (by decide +kernel) ⟨Nat.le_of_ble_eq_true rfl, Nat.le_of_ble_eq_true rfl⟩) ⟨rblindH, va_recv hR.K hR.P (ci := 16) (q0 := b62) rfl (hR.atU hT_b62), fun U hU hW9 => rmkH hU hW9 hR hex hE hFc⟩ rfl rfl hl.1 rfl (lv_room (Nat.le_of_ble_eq_true rfl)) dX14_count_140 ⟨(show dc105 + 1 + dc_ak55 + dc_ak61 + (KC - qn S59) ≤ KC - qn S from hlg.cm), (show ds105 + 4 + ds_ak55 + ds_ak61 + (KS - qu S59) ≤ KS - qu S from hlg.sm)⟩) hR.sS (fun q _ h => hFc q h) hFc (fun r65 S66 t9 H1 locs ht9 hvm9 hw9 hB9 hz9 hk9 hS => ?_)
                      rcases S66 with ⟨S66, ak68⟩
                      obtain ⟨hB9, dc9, ds9, hL9, hl9⟩ := hB9
                      dsimp only at hw9 hB9 hl9
                      rw [ht9] at hL9
                      obtain ⟨b69, rfl, hq67, hw9, hs9, hk8, hT_b69⟩ := hw9
                      have hw8 := hR.w
                      have hak := hak.tr hk8 hlg.2.2.1
                      have hE := hE.ad hk8
                      have hR : Rep g ak68 A s S66 H1 locs := hR.callH ht9 hB9 hw9 hS hFc
                      have hsh := hsh.tr hs9
                      refine W_tight2 (hL0.tr hL9).1 (hL0.tr hL9).2.1 ?_
                      have hlg := hlg.call hl9
                      replace h := h b69 S66 hq67
                      have ea_0 : ak68 0 = ak61 0 := hk8 _ (hw8.hd hw8.1 (by decide) (by decide))
                      have ea_1 : ak68 v105_2 = ak61 v105_2 := hk8 _ (hw8.hd hT_v105_2 (by decide) (by decide))
                      have ea_2 : ak68 (qO U105 60 5) = ak61 (qO U105 60 5) := hk8 _ (hw8.hd hT_b46 (by decide) (by decide))
                      have hl : lv_has ls 6 [(0, .ref (ak68 0)), (1, .int v105_1), (2, .ref (ak68 v105_2)), (3, .int v105_3), (4, .int v105_4)] := by simp only [ea_0, ea_1, ea_2]; exact hl
                      refine W.eq (g2 := F0 m 143 ls (.ref (ak68 b69) :: [.int v105_4, .ref (ak68 (qO U105 60 5))])) (by first | (simp only [ea_0, ea_1, ea_2]; rfl) | simp only [ea_0, ea_1, ea_2]) ?_
                      have hT_v105_2 := hs9.T hT_v105_2 (by decide)
                      have hT_b46 := hs9.T hT_b46 (by decide)
                      clear hB9 hz9 hk9 hvm9 ht9 hw9 hs9 hS hL0 hL9
                      generalize H1 = H at hR ⊢
                      generalize dc9 = dc_ak68, ds9 = ds_ak68 at hlg ⊢
                      obtain ⟨Q70, h0, h⟩ := h
                      have hFc := rfree hR hA
                      refine W_led2 (fun hL0 => ?_)
                      refine va_callq (va_runV (As := []) (rest := [.int v105_4, .ref (ak68 (qO U105 60 5))]) ⟨hx, hb, hml, hown, hts⟩ (r_J4_toString_0e30d l g ak68 H S66 b69 hR.w hT_b69 Q70 h0) (cwV 0 hts (gd2_V kx_338 kx_339 kx_340 kx_113 kx_341) rfl rfl rfl (by decide +kernel) ⟨Nat.le_of_ble_eq_true rfl, Nat.le_of_ble_eq_true rfl⟩) ⟨rblindH, va_recv hR.K hR.P (ci := 16) (q0 := b69) rfl (hR.atU hT_b69), fun U hU hW9 => rmkH hU hW9 hR hex hE hFc⟩ rfl rfl hl.1 rfl (lv_room (Nat.le_of_ble_eq_true rfl)) dX14_count_143 ⟨(show dc105 + 1 + dc_ak55 + dc_ak61 + dc_ak68 + (KC - qn S66) ≤ KC - qn S from hlg.cm), (show ds105 + 4 + ds_ak55 + ds_ak61 + ds_ak68 + (KS - qu S66) ≤ KS - qu S from hlg.sm)⟩) hR.sS (fun q _ h => hFc q h) hFc (fun r71 S72 t9 H1 locs ht9 hvm9 hw9 hB9 hz9 hk9 hS => ?_)
                      rcases S72 with ⟨S72, ak74⟩
                      obtain ⟨hB9, dc9, ds9, hL9, hl9⟩ := hB9
                      dsimp only at hw9 hB9 hl9
                      rw [ht9] at hL9
                      obtain ⟨b75, rfl, hq73, hw9, hs9, hk8, hT_b75⟩ := hw9
                      have hw8 := hR.w
                      have hak := hak.tr hk8 hlg.2.2.1
                      have hE := hE.ad hk8
                      have hR : Rep g ak74 A s S72 H1 locs := hR.callH ht9 hB9 hw9 hS hFc
                      have hsh := hsh.tr hs9
                      refine W_tight2 (hL0.tr hL9).1 (hL0.tr hL9).2.1 ?_
                      have hlg := hlg.call hl9
                      replace h := h b75 S72 hq73
                      have ea_0 : ak74 0 = ak68 0 := hk8 _ (hw8.hd hw8.1 (by decide) (by decide))
                      have ea_1 : ak74 v105_2 = ak68 v105_2 := hk8 _ (hw8.hd hT_v105_2 (by decide) (by decide))
                      have ea_2 : ak74 (qO U105 60 5) = ak68 (qO U105 60 5) := hk8 _ (hw8.hd hT_b46 (by decide) (by decide))
                      have hl : lv_has ls 6 [(0, .ref (ak74 0)), (1, .int v105_1), (2, .ref (ak74 v105_2)), (3, .int v105_3), (4, .int v105_4)] := by simp only [ea_0, ea_1, ea_2]; exact hl
                      refine W.eq (g2 := F0 m 146 ls (.ref (ak74 b75) :: [.int v105_4, .ref (ak74 (qO U105 60 5))])) (by first | (simp only [ea_0, ea_1, ea_2]; rfl) | simp only [ea_0, ea_1, ea_2]) ?_
                      have hT_v105_2 := hs9.T hT_v105_2 (by decide)
                      have hT_b46 := hs9.T hT_b46 (by decide)
                      clear hB9 hz9 hk9 hvm9 ht9 hw9 hs9 hS hL0 hL9
                      generalize H1 = H at hR ⊢
                      generalize dc9 = dc_ak74, ds9 = ds_ak74 at hlg ⊢
                      obtain ⟨hv76, h⟩ := h
                      refine va_astqM (E := "java/lang/String") hx hb hR.K hR.P hR.D hR.sS (qO U105 60 5) 4 (hR.atS hT_b46) rfl (any_str hts hR hE hA hT_b75) (k_ix (x := v105_4) (a := v105_4.toInt) rfl hv76) dX14_count_146 (fun H locs hP hD hS => ?_)
                      have hw9 : wfM (wR S72 (qO U105 60 5) v105_4.toInt.toNat (some b75)) := hR.w.put (fun b q9 => by cases q9; exact (hT_b75).trans (by rw [hT_b46]; rfl)) (fun q9 => absurd ((congrArg (qT S72) q9).symm.trans hT_b46) (by rw [hR.w.1]; decide)) (by rw [hT_b46]; show (12 : Nat) ≠ 0; decide)
                      have hR : Rep g ak74 A s (wR S72 (qO U105 60 5) v105_4.toInt.toNat (some b75)) H locs := hR.aS hT_b46 hw9 hP hD hS
                      obtain ⟨S77, eS77⟩ : ∃ z, z = wR S72 (qO U105 60 5) v105_4.toInt.toNat (some b75) := ⟨_, rfl⟩
                      rw [← eS77] at hR
                      replace h := h S77 eS77
                      have hT_v105_2 : qT S77 v105_2 = 11 := (congrArg (fun z => qT z v105_2) eS77).trans hT_v105_2
                      have hsh : shx S S77 := by rw [eS77]; exact hsh
                      have hlg : lg S S77 (dc105 + 1 + dc_ak55 + dc_ak61 + dc_ak68 + dc_ak74) (ds105 + 4 + ds_ak55 + ds_ak61 + ds_ak68 + ds_ak74) := by rw [eS77]; exact hlg
                      refine lv_aload_n hx hb dX14_count_147 rfl (lv_at hl 0 rfl) ?_
                      refine va_get (D := rD g) (ci := 13) (v := .ref (ak74 60)) (C := RX14) (T := TX14) (N := 143) hx hb hts in2X14 hown hR.K hR.P 0 (hR.at14 hR.w.1) rfl 118 (by decide) (hts _ kx_802) (fun _ h9 => h9) (congrArg (fun z => some (vf ak74 z)) (hR.w.2.1 _ fin_118).1) dX14_count_148 ?_
                      obtain ⟨hv78, h⟩ := h
                      have hT_b79 : qT S77 (qO S77 60 6) = 5 := hR.w.ref hv78 (hR.w.2.1 _ fin_118).2.1
                      refine va_get (D := rD g) (ci := 12) (v := .ref (ak74 (qO S77 60 6))) (C := RX13) (T := TX13) (N := 23) hx hb hts in2X13 hown hR.K hR.P 60 (hR.at13 (hR.w.2.1 _ fin_118).2.1) rfl 6 (by decide) (hts _ kx_564) (fun _ h9 => h9) (congrArg (fun z => some (vf ak74 z)) hv78) dX14_count_151 ?_
                      refine lv_iload hx hb dX14_count_154 (lv_at hl 4 rfl) ?_
                      have hT_t80 : qT S77 10000022 = 12 := hR.w.txt (i := 11) (by decide)
                      refine va_ldcSW (tx := "J") (q := ak74 10000022) hx hb hown (hE.2.2 _ ldc_711) dX14_count_156 ?_
                      obtain ⟨hv81, h⟩ := h
                      refine va_astqM (E := "java/lang/String") hx hb hR.K hR.P hR.D hR.sS (qO S77 60 6) 4 (hR.atS hT_b79) rfl (any_str hts hR hE hA hT_t80) (k_ix (x := v105_4) (a := v105_4.toInt) rfl hv81) dX14_count_159 (fun H locs hP hD hS => ?_)
                      have hw9 : wfM (wR S77 (qO S77 60 6) v105_4.toInt.toNat (some 10000022)) := hR.w.put (fun b q9 => by cases q9; exact (hT_t80).trans (by rw [hT_b79]; rfl)) (fun q9 => absurd ((congrArg (qT S77) q9).symm.trans hT_b79) (by rw [hR.w.1]; decide)) (by rw [hT_b79]; show (12 : Nat) ≠ 0; decide)
                      have hR : Rep g ak74 A s (wR S77 (qO S77 60 6) v105_4.toInt.toNat (some 10000022)) H locs := hR.aS hT_b79 hw9 hP hD hS
                      obtain ⟨S82, eS82⟩ : ∃ z, z = wR S77 (qO S77 60 6) v105_4.toInt.toNat (some 10000022) := ⟨_, rfl⟩
                      rw [← eS82] at hR
                      replace h := h S82 eS82
                      have hT_v105_2 : qT S82 v105_2 = 11 := (congrArg (fun z => qT z v105_2) eS82).trans hT_v105_2
                      have hsh : shx S S82 := by rw [eS82]; exact hsh
                      have hlg : lg S S82 (dc105 + 1 + dc_ak55 + dc_ak61 + dc_ak68 + dc_ak74) (ds105 + 4 + ds_ak55 + ds_ak61 + ds_ak68 + ds_ak74) := by rw [eS82]; exact hlg
                      refine lv_aload_n hx hb dX14_count_160 rfl (lv_at hl 0 rfl) ?_
                      refine va_get (D := rD g) (ci := 13) (v := .ref (ak74 60)) (C := RX14) (T := TX14) (N := 143) hx hb hts in2X14 hown hR.K hR.P 0 (hR.at14 hR.w.1) rfl 118 (by decide) (hts _ kx_802) (fun _ h9 => h9) (congrArg (fun z => some (vf ak74 z)) (hR.w.2.1 _ fin_118).1) dX14_count_161 ?_
                      obtain ⟨hv83, h⟩ := h
                      have hT_b84 : qT S82 (qO S82 60 7) = 5 := hR.w.ref hv83 (hR.w.2.1 _ fin_118).2.1
                      refine va_get (D := rD g) (ci := 12) (v := .ref (ak74 (qO S82 60 7))) (C := RX13) (T := TX13) (N := 23) hx hb hts in2X13 hown hR.K hR.P 60 (hR.at13 (hR.w.2.1 _ fin_118).2.1) rfl 7 (by decide) (hts _ kx_397) (fun _ h9 => h9) (congrArg (fun z => some (vf ak74 z)) hv83) dX14_count_164 ?_
                      refine lv_iload hx hb dX14_count_167 (lv_at hl 4 rfl) ?_
                      have hT_t85 : qT S82 10000022 = 12 := hR.w.txt (i := 11) (by decide)
                      refine va_ldcSW (tx := "J") (q := ak74 10000022) hx hb hown (hE.2.2 _ ldc_711) dX14_count_169 ?_
                      obtain ⟨hv86, h⟩ := h
                      refine va_astqM (E := "java/lang/String") hx hb hR.K hR.P hR.D hR.sS (qO S82 60 7) 4 (hR.atS hT_b84) rfl (any_str hts hR hE hA hT_t85) (k_ix (x := v105_4) (a := v105_4.toInt) rfl hv86) dX14_count_172 (fun H locs hP hD hS => ?_)
                      have hw9 : wfM (wR S82 (qO S82 60 7) v105_4.toInt.toNat (some 10000022)) := hR.w.put (fun b q9 => by cases q9; exact (hT_t85).trans (by rw [hT_b84]; rfl)) (fun q9 => absurd ((congrArg (qT S82) q9).symm.trans hT_b84) (by rw [hR.w.1]; decide)) (by rw [hT_b84]; show (12 : Nat) ≠ 0; decide)
                      have hR : Rep g ak74 A s (wR S82 (qO S82 60 7) v105_4.toInt.toNat (some 10000022)) H locs := hR.aS hT_b84 hw9 hP hD hS
                      obtain ⟨S87, eS87⟩ : ∃ z, z = wR S82 (qO S82 60 7) v105_4.toInt.toNat (some 10000022) := ⟨_, rfl⟩
                      rw [← eS87] at hR
                      replace h := h S87 eS87
                      have hT_v105_2 : qT S87 v105_2 = 11 := (congrArg (fun z => qT z v105_2) eS87).trans hT_v105_2
                      have hsh : shx S S87 := by rw [eS87]; exact hsh
                      have hlg : lg S S87 (dc105 + 1 + dc_ak55 + dc_ak61 + dc_ak68 + dc_ak74) (ds105 + 4 + ds_ak55 + ds_ak61 + ds_ak68 + ds_ak74) := by rw [eS87]; exact hlg
                      obtain ⟨a88, ea88⟩ : ∃ z, z = (v105_4 + Int32.ofInt 1) := ⟨_, rfl⟩
                      replace h := h a88 ea88
                      refine lv_iinc (v := a88) (lv' := [(4, .int a88), (0, .ref (ak74 0)), (1, .int v105_1), (2, .ref (ak74 v105_2)), (3, .int v105_3)]) hx hb dX14_count_173 hl (k := 4) rfl ea88.symm (by decide) rfl (fun ls hl => ?_)
                      refine lv_goto (tgt := 105) hx hb dX14_count_176 (by decide) ?_
                      exact ih_105 ak74 (dc105 + 1 + dc_ak55 + dc_ak61 + dc_ak68 + dc_ak74) (ds105 + 4 + ds_ak55 + ds_ak61 + ds_ak68 + ds_ak74) S87 v105_1 v105_2 v105_3 a88 _ _ ls h hT_v105_2 hsh hlg hak hE hR (lv_sub hl [1, 2, 3, 4, 0] rfl)
                obtain ⟨n9, h⟩ := h
                exact J_105 n9 ad56 (dc56) (ds56) S17 v56_1 v56_2 v56_3 a19 _ _ ls h hT_v56_2 hsh hlg hak hE hR (lv_sub hl [1, 2, 3, 4, 0] rfl)
              · replace h := h.2 (k_nle rfl (by decide) c15)
                refine lv_bipush (v := (-3)) hx hb dX14_count_91 (by decide) ?_
                refine W_led2 (fun hLd => ?_)
                refine W.widen (k := KC - qn S) (n := KS - qu S) hlg.c hlg.s ?_
                exact W.iret (v := (-3)) hx hb hr (fun t9 ht9 hW9 => ⟨⟨_, (U56, ad56), rfl, ⟨h, hR.w, hsh, hak⟩, ⟨⟨by rw [ht9]; exact hR.P, hR.D⟩, _, _, by rw [ht9]; exact hLd, hlg⟩⟩, hR.sS.F ht9⟩) hR.sS.2.2 dX14_count_93
            · replace h := h.2 (k_nle rfl rfl c14)
              refine lv_aload_n hx hb dX14_count_65 rfl (lv_at hl 0 rfl) ?_
              refine lv_iload_n hx hb dX14_count_66 rfl (lv_at hl 1 rfl) ?_
              refine lv_iload hx hb dX14_count_67 (lv_at hl 4 rfl) ?_
              obtain ⟨Q89, h0, h⟩ := h
              have hFc := rfree hR hA
              refine va_callv (va_runV (As := [.int v56_1, .int v56_4]) (rest := []) ⟨hx, hb, hml, hown, hts⟩ (r_graph l g ad56 H.size U56 v56_1 v56_4 hR.w  Q89 h0) (cwV 2 hts (gd2_V kx_1003 kx_1004 kx_1005 kx_177 kx_1006) rfl rfl rfl (by decide +kernel) ⟨Nat.le_of_ble_eq_true rfl, Nat.le_of_ble_eq_true rfl⟩) ⟨rblind, va_recv hR.K hR.P (ci := 13) (q0 := 0) rfl (hR.at14 hR.w.1), fun U hU hW9 => rmk hU hW9 hR hex hE hFc⟩ rfl rfl hl.1 rfl (lv_room (Nat.le_of_ble_eq_true rfl)) dX14_count_69 ⟨(show dc56 + 0 ≤ KC - qn S from hlg.c), (show ds56 + 0 ≤ KS - qu S from hlg.s)⟩) hR.sS (fun q _ h => hFc q h) hFc (fun  S90 t9 H1 locs ht9 hvm9 hw9 hB9 hz9 hk9 hS => ?_)
              obtain ⟨hq91, hw9, hs9⟩ := hw9
              have hR : Rep g ad56 A s S90 H1 locs := hR.call ht9 hB9 hw9 hS hFc
              have hsh := hsh.tr hs9.1
              have hlg : lg S S90 (dc56) (ds56) := hlg.same hs9
              replace h := h  S90 hq91
              have hT_v56_2 := hs9.T hT_v56_2 (by decide)
              clear hB9 hz9 hk9 hvm9 ht9 hw9 hs9 hS
              generalize H1 = H at hR ⊢
              refine lv_iload_n hx hb dX14_count_72 rfl (lv_at hl 3 rfl) ?_
              refine lv_aload_n hx hb dX14_count_73 rfl (lv_at hl 0 rfl) ?_
              obtain ⟨Q92, h0, h⟩ := h
              have hFc := rfree hR hA
              refine va_calli (va_runV (As := []) (rest := [.int v56_3]) ⟨hx, hb, hml, hown, hts⟩ (r_reachedBlocks l g ad56 H.size S90 hR.w  Q92 h0) (cwV 0 hts (gd2_V kx_1157 kx_1158 kx_1159 kx_177 kx_1160) rfl rfl rfl (by decide +kernel) ⟨Nat.le_of_ble_eq_true rfl, Nat.le_of_ble_eq_true rfl⟩) ⟨rblind, va_recv hR.K hR.P (ci := 13) (q0 := 0) rfl (hR.at14 hR.w.1), fun U hU hW9 => rmk hU hW9 hR hex hE hFc⟩ rfl rfl hl.1 rfl (lv_room (Nat.le_of_ble_eq_true rfl)) dX14_count_74 ⟨(show dc56 + 0 ≤ KC - qn S from hlg.c), (show ds56 + 0 ≤ KS - qu S from hlg.s)⟩) hR.sS (fun q _ h => hFc q h) hFc (fun r93 S94 t9 H1 locs ht9 hvm9 hw9 hB9 hz9 hk9 hS => ?_)
              obtain ⟨hq95, hw9, hs9⟩ := hw9
              have hR : Rep g ad56 A s S94 H1 locs := hR.call ht9 hB9 hw9 hS hFc
              have hsh := hsh.tr hs9.1
              have hlg : lg S S94 (dc56) (ds56) := hlg.same hs9
              replace h := h r93 S94 hq95
              have hT_v56_2 := hs9.T hT_v56_2 (by decide)
              clear hB9 hz9 hk9 hvm9 ht9 hw9 hs9 hS
              generalize H1 = H at hR ⊢
              refine lv_iadd hx hb dX14_count_77 ?_
              refine lv_topi (fun z96 ez96 => ?_)
              obtain rfl : z96 = (v56_3 + r93) := ez96
              obtain ⟨a97, ea97⟩ : ∃ z, z = (v56_3 + r93) := ⟨_, rfl⟩
              rw [← ea97]
              replace h := h a97 ea97
              refine lv_istore_n (lv' := [(3, .int a97), (0, .ref (ad56 0)), (1, .int v56_1), (2, .ref (ad56 v56_2)), (4, .int v56_4)]) hx hb dX14_count_78 rfl hl (by decide) rfl (fun ls hl => ?_)
              obtain ⟨a98, ea98⟩ : ∃ z, z = (v56_4 + Int32.ofInt 1) := ⟨_, rfl⟩
              replace h := h a98 ea98
              refine lv_iinc (v := a98) (lv' := [(4, .int a98), (3, .int a97), (0, .ref (ad56 0)), (1, .int v56_1), (2, .ref (ad56 v56_2))]) hx hb dX14_count_79 hl (k := 4) rfl ea98.symm (by decide) rfl (fun ls hl => ?_)
              refine lv_goto (tgt := 56) hx hb dX14_count_82 (by decide) ?_
              exact ih_56 ad56 (dc56) (ds56) S94 v56_1 v56_2 a97 a98 _ _ ls h hT_v56_2 hsh hlg hak hE hR (lv_sub hl [2, 3, 4, 1, 0] rfl)
        obtain ⟨n9, h⟩ := h
        exact J_56 n9 ad (0) (0) S9 x1 (qO S9 1 x1.toInt.toNat) a13 0 _ _ ls h hT_b12 hsh hlg hak hE hR (lv_sub hl [3, 4, 2, 1, 0] rfl)
      · replace h := h.1 (k_eq rfl (by decide) c7)
        refine lv_bipush (v := (-2)) hx hb dX14_count_28 (by decide) ?_
        refine W_led2 (fun hLd => ?_)
        refine W.widen (k := KC - qn S) (n := KS - qu S) hlg.c hlg.s ?_
        exact W.iret (v := (-2)) hx hb hr (fun t9 ht9 hW9 => ⟨⟨_, (S3, ad), rfl, ⟨h, hR.w, hsh, hak⟩, ⟨⟨by rw [ht9]; exact hR.P, hR.D⟩, _, _, by rw [ht9]; exact hLd, hlg⟩⟩, hR.sS.F ht9⟩) hR.sS.2.2 dX14_count_30
  · replace h := h.1 (k_eq rfl (by decide) c5)
    refine lv_iconst (v := (-1)) hx hb dX14_count_8 (by decide) ?_
    refine W_led2 (fun hLd => ?_)
    refine W.widen (k := KC - qn S) (n := KS - qu S) hlg.c hlg.s ?_
    exact W.iret (v := (-1)) hx hb hr (fun t9 ht9 hW9 => ⟨⟨_, (S3, ad), rfl, ⟨h, hR.w, hsh, hak⟩, ⟨⟨by rw [ht9]; exact hR.P, hR.D⟩, _, _, by rw [ht9]; exact hLd, hlg⟩⟩, hR.sS.F ht9⟩) hR.sS.2.2 dX14_count_9
