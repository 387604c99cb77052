def w_outPush_J22 (Q : MS → Prop) (E : MS → Prop) (U22 : MS) (v22_1 : Int32) (v22_2 : Int32) : Prop := (d_isByte U22 v22_2 ∧ (((f_isByte U22 v22_2).toInt = 0 → (d_isShort U22 v22_2 ∧ (((f_isShort U22 v22_2).toInt = 0 → (∃ Q9 EQ9, w_needOf U22 v22_1 Q9 EQ9 ∧ (∀ r10 S11, Q9 r10 S11 → ((256 ≤ r10.toInt → (∃ Q14 EQ14, w_needOf S11 v22_1 Q14 EQ14 ∧ (∀ r15 S16, Q14 r15 S16 → (∃ Q19, w_out S16 (((1245184 : Int32) ||| r15).toInt64) (3 : Int32) Q19 ∧ ∀ S20, Q19 S20 → Q S20)) ∧ (∀ u9, EQ14 u9 → E u9))) ∧ (¬ 256 ≤ r10.toInt → (∃ Q22 EQ22, w_needOf S11 v22_1 Q22 EQ22 ∧ (∀ r23 S24, Q22 r23 S24 → (∃ Q27, w_out S24 (((4608 : Int32) ||| r23).toInt64) (2 : Int32) Q27 ∧ ∀ S28, Q27 S28 → Q S28)) ∧ (∀ u9, EQ22 u9 → E u9))))) ∧ (∀ u9, EQ9 u9 → E u9))) ∧ (¬ (f_isShort U22 v22_2).toInt = 0 → (∃ Q32, w_out U22 (((1114112 : Int32) ||| (v22_2 &&& (65535 : Int32))).toInt64) (3 : Int32) Q32 ∧ ∀ S33, Q32 S33 → Q S33))))) ∧ (¬ (f_isByte U22 v22_2).toInt = 0 → (∃ Q37, w_out U22 (((4096 : Int32) ||| (v22_2 &&& (255 : Int32))).toInt64) (2 : Int32) Q37 ∧ ∀ S38, Q37 S38 → Q S38))))
def w_outPush (S : MS) (x1 : Int32) (x2 : Int32) (Q : MS → Prop) (E : MS → Prop) : Prop := ((x2.toInt < (-1) → w_outPush_J22 Q E S x1 x2) ∧ (¬ x2.toInt < (-1) → ((5 < x2.toInt → w_outPush_J22 Q E S x1 x2) ∧ (¬ 5 < x2.toInt → (∃ Q43, w_out S ((x2 + (3 : Int32)).toInt64) (1 : Int32) Q43 ∧ ∀ S44, Q43 S44 → Q S44)))))
set_option maxHeartbeats 2000000 in
set_option maxRecDepth 100000 in
theorem r_outPush (l : Launch) (g : Gr) (ad : Nat → Nat) (sz : Nat) (S : MS) (x1 : Int32) (x2 : Int32) (hw : wfM S) (Q : MS → Prop) (E : MS → Prop) (h : w_outPush S x1 x2 Q E) : vx_Met l yX14_outPush (wt2 yX14_outPush cX14_outPush 3 none) ({ frames := 7, cells := 0, slots := 0, locals := 161 }) (va_Pc [.ref (ad 0), .int x1, .int x2] (st_R g ad sz S)) (va_Qv (fun (u : MS) => Q u ∧ wfM u ∧ shy S u) (fun (u : MS) (t : State) => qE g ad (va_A (Wd g ad S) sz) u t) (va_A (Wd g ad S) sz)) (vx_X (fun (u : MS) => E u ∧ wfM u ∧ shy S u) (fun (n9 : String) (u : MS) (t : State) => n9 = RJxb5711 ∧ qE g ad (va_A (Wd g ad S) sz) u t) (va_A (Wd g ad S) sz)) 0 0 (va_A (Wd g ad S) sz) := by
  refine vx_ofW (cc := cX14_outPush) (maxL := 3) (ret := none) (by decide) rfl ?_
  intro p e s m args below meth c s₁ B hml hnt hv
  obtain ⟨rfl, hsz, hP, hK, hD0, hex, hE⟩ := hv
  have hx := B.exec
  have hb := B.bytes
  have hr := B.returns
  have hlocks := B.notSynchronized
  have hts0 := atoms_spec (ws := wt2 yX14_outPush cX14_outPush 3 none) B.pre
  have hts : ∀ w ∈ tb2, w.before _ s = true := fun w h => hts0 w (List.mem_cons_of_mem _ h)
  have hown : s.vm.findClass RX14 = some m.cls := findClass_of_methodNamed B.named
  subst hsz
  have hD := hD0.self (sz := s.heap.size)
  generalize hAe : va_A (Wd g ad S) s.heap.size = A at hD hE ⊢
  have hA : ∀ q : Nat, s.heap.size ≤ q → A q := fun q h => by rw [← hAe]; exact Or.inr h
  have hR : Rep g ad A s S s.heap [] := ⟨hK, hP, hD, va_S.rf, hw⟩
  clear hK hP hD hD0
  have hl := lv_entry ([.ref (ad 0), .int x1, .int x2]) (n := 3) (Nat.le_of_ble_eq_true rfl)
  rw [lg_entry_eq]
  generalize (lg_sl ([.ref (ad 0), .int x1, .int x2]) ++ List.replicate (3 - (lg_sl ([.ref (ad 0), .int x1, .int x2])).length) Slot.unset).toArray = ls at hl ⊢
  have hl : lv_has ls 3 [(0, .ref (ad 0)), (1, .int x1), (2, .int x2)] := hl
  have hsh : shy S S := shy.rf
  unfold w_outPush at h
  refine lv_iload_n hx hb dX14_outPush_0 rfl (lv_at hl 2 rfl) ?_
  refine lv_iconst (v := (-1)) hx hb dX14_outPush_1 (by decide) ?_
  have J_22 : ∀ (U22 : MS) (v22_1 : Int32) (v22_2 : Int32) (H : Heap) (locs : List Loc) (ls : Array Slot), w_outPush_J22 Q E U22 v22_1 v22_2 → shy S U22 → Rep g ad A s U22 H locs → lv_has ls 3 [(0, .ref (ad 0)), (1, .int v22_1), (2, .int v22_2)] → W p l e (headSpec (wt2 yX14_outPush cX14_outPush 3 none) ({ frames := 7, cells := 0, slots := 0, locals := 161 })).room s m ([.ref (ad 0), .int x1, .int x2] : List Value).toArray below meth c H locs 0 0 (vx_MQ below (va_Qv (fun (u : MS) => Q u ∧ wfM u ∧ shy S u) (fun (u : MS) (t : State) => qE g ad A u t) A) ((vx_X (fun (u : MS) => E u ∧ wfM u ∧ shy S u) (fun (n9 : String) (u : MS) (t : State) => n9 = RJxb5711 ∧ qE g ad A u t) A)) ([.ref (ad 0), .int x1, .int x2] : List Value).toArray s 0 0 A) (F0 m 22 ls []) := by
    intro U22 v22_1 v22_2 H locs ls h hsh hR hl
    unfold w_outPush_J22 at h
    refine lv_iload_n hx hb dX14_outPush_22 rfl (lv_at hl 2 rfl) ?_
    obtain ⟨hv1, h⟩ := h
    have hFc := rfree hR hA
    refine va_calli (va_runS (As := [.int v22_2]) (rest := []) ⟨hx, hb, hml, hown, hts⟩ (r_isByte l g ad H.size U22 v22_2 hR.w  hv1) (va_cwS 1 hts (gd2_S kx_581 kx_582 kx_177 kx_583) rfl rfl rfl (by decide +kernel) ⟨Nat.le_of_ble_eq_true rfl, Nat.le_of_ble_eq_true rfl⟩) ⟨rblind, fun U hU hW9 => rmk hU hW9 hR hex hE hFc⟩ rfl rfl hl.1 rfl (lv_room (Nat.le_of_ble_eq_true rfl)) dX14_outPush_23 ⟨Nat.le_of_ble_eq_true rfl, Nat.le_of_ble_eq_true rfl⟩) hR.sS (fun q _ h => hFc q h) hFc (fun r2 u9 t9 H1 locs ht9 hvm9 hw9 hB9 hz9 hk9 hS => ?_)
    have hR : Rep g ad A s U22 H1 locs := hR.call ht9 hB9 hR.w hS hFc
    obtain ⟨rfl, hz_r2⟩ := hw9
    clear hB9 hz9 hk9 hvm9 ht9 hS
    generalize H1 = H at hR ⊢
    refine lv_if_eq (tgt := 47) hx hb dX14_outPush_26 (by decide) (fun c4 => ?_) (fun c4 => ?_)
    · replace h := h.1 (k_eq rfl (by decide) c4)
      refine lv_iload_n hx hb dX14_outPush_47 rfl (lv_at hl 2 rfl) ?_
      obtain ⟨hv5, h⟩ := h
      have hFc := rfree hR hA
      refine va_calli (va_runS (As := [.int v22_2]) (rest := []) ⟨hx, hb, hml, hown, hts⟩ (r_isShort l g ad H.size U22 v22_2 hR.w  hv5) (va_cwS 1 hts (gd2_S kx_556 kx_557 kx_177 kx_558) rfl rfl rfl (by decide +kernel) ⟨Nat.le_of_ble_eq_true rfl, Nat.le_of_ble_eq_true rfl⟩) ⟨rblind, fun U hU hW9 => rmk hU hW9 hR hex hE hFc⟩ rfl rfl hl.1 rfl (lv_room (Nat.le_of_ble_eq_true rfl)) dX14_outPush_48 ⟨Nat.le_of_ble_eq_true rfl, Nat.le_of_ble_eq_true rfl⟩) hR.sS (fun q _ h => hFc q h) hFc (fun r6 u9 t9 H1 locs ht9 hvm9 hw9 hB9 hz9 hk9 hS => ?_)
      have hR : Rep g ad A s U22 H1 locs := hR.call ht9 hB9 hR.w hS hFc
      obtain ⟨rfl, hz_r6⟩ := hw9
      clear hB9 hz9 hk9 hvm9 ht9 hS
      generalize H1 = H at hR ⊢
      refine lv_if_eq (tgt := 72) hx hb dX14_outPush_51 (by decide) (fun c8 => ?_) (fun c8 => ?_)
      · replace h := h.1 (k_eq rfl (by decide) c8)
        refine lv_aload_n hx hb dX14_outPush_72 rfl (lv_at hl 0 rfl) ?_
        refine lv_iload_n hx hb dX14_outPush_73 rfl (lv_at hl 1 rfl) ?_
        obtain ⟨Q9, EQ9, h0, h⟩ := h
        have hFc := rfree hR hA
        refine vx_calli (vx_runV (As := [.int v22_1]) (rest := []) ⟨hx, hb, hml, hown, hts⟩ (r_needOf l g ad H.size U22 v22_1 hR.w  Q9 EQ9 h0) (cwV 1 hts (gd2_V kx_575 kx_576 kx_577 kx_177 kx_578) rfl rfl rfl (by decide +kernel) ⟨Nat.le_of_ble_eq_true rfl, Nat.le_of_ble_eq_true rfl⟩) ⟨rblind, va_recv hR.K hR.P (ci := 13) (q0 := 0) rfl (hR.at14 hR.w.1), fun U hU hW9 => rmk hU hW9 hR hex hE hFc⟩ rfl rfl hl.1 rfl (lv_room (Nat.le_of_ble_eq_true rfl)) dX14_outPush_74 ⟨Nat.le_of_ble_eq_true rfl, Nat.le_of_ble_eq_true rfl⟩) hR.sS (fun q _ h => hFc q h) hFc (fun q _ h => hFc q h) (fun E9 ce9 q9 u9 t9 H1 locs ht9 hvm9 hp9 hB9 hz9 hk9 hS hce9 hcv9 hcl9 => ?_) (fun r10 S11 t9 H1 locs ht9 hvm9 hw9 hB9 hz9 hk9 hS => ?_)
        · obtain ⟨hp9, hwx, hsx⟩ := hp9
          obtain ⟨rfl, hBx⟩ := hB9
          replace h := h.2 u9 hp9
          have hR : Rep g ad A s u9 H1 locs := hR.call ht9 hBx hwx hS hFc
          have hsh := hsh.tr hsx
          exact vx_out (E := RJxb5711) (q := q9) (fun x h9 => (hnt x h9).elim) hlocks hce9 hcv9 hcl9 (fun t9 ht9 ha9 => ⟨u9, ⟨h, hR.w, hsh⟩, ⟨rfl, by rw [ht9]; exact hR.P, hR.D⟩, hR.sS.F ht9⟩) hR.sS.2.2 (Nat.le_of_ble_eq_true rfl) (Nat.le_of_ble_eq_true rfl)
        · obtain ⟨hq12, hw9, hs9⟩ := hw9
          have hR : Rep g ad A s S11 H1 locs := hR.call ht9 hB9 hw9 hS hFc
          have hsh := hsh.tr hs9
          replace h := h.1 r10 S11 hq12
          clear hB9 hz9 hk9 hvm9 ht9 hw9 hs9 hS
          generalize H1 = H at hR ⊢
          refine lv_sipush (v := 256) hx hb dX14_outPush_77 (by decide) ?_
          refine lv_icmp_ge (tgt := 101) hx hb dX14_outPush_80 (by decide) (fun c13 => ?_) (fun c13 => ?_)
          · replace h := h.1 (k_le (by decide) rfl c13)
            refine lv_aload_n hx hb dX14_outPush_101 rfl (lv_at hl 0 rfl) ?_
            refine lv_ldcw hx hb hown (hts _ kx_585) dX14_outPush_102 ?_
            refine lv_aload_n hx hb dX14_outPush_105 rfl (lv_at hl 0 rfl) ?_
            refine lv_iload_n hx hb dX14_outPush_106 rfl (lv_at hl 1 rfl) ?_
            obtain ⟨Q14, EQ14, h0, h⟩ := h
            have hFc := rfree hR hA
            refine vx_calli (vx_runV (As := [.int v22_1]) (rest := [.int 1245184, .ref (ad 0)]) ⟨hx, hb, hml, hown, hts⟩ (r_needOf l g ad H.size S11 v22_1 hR.w  Q14 EQ14 h0) (cwV 1 hts (gd2_V kx_575 kx_576 kx_577 kx_177 kx_578) rfl rfl rfl (by decide +kernel) ⟨Nat.le_of_ble_eq_true rfl, Nat.le_of_ble_eq_true rfl⟩) ⟨rblind, va_recv hR.K hR.P (ci := 13) (q0 := 0) rfl (hR.at14 hR.w.1), fun U hU hW9 => rmk hU hW9 hR hex hE hFc⟩ rfl rfl hl.1 rfl (lv_room (Nat.le_of_ble_eq_true rfl)) dX14_outPush_107 ⟨Nat.le_of_ble_eq_true rfl, Nat.le_of_ble_eq_true rfl⟩) hR.sS (fun q _ h => hFc q h) hFc (fun q _ h => hFc q h) (fun E9 ce9 q9 u9 t9 H1 locs ht9 hvm9 hp9 hB9 hz9 hk9 hS hce9 hcv9 hcl9 => ?_) (fun r15 S16 t9 H1 locs ht9 hvm9 hw9 hB9 hz9 hk9 hS => ?_)
            · obtain ⟨hp9, hwx, hsx⟩ := hp9
              obtain ⟨rfl, hBx⟩ := hB9
              replace h := h.2 u9 hp9
              have hR : Rep g ad A s u9 H1 locs := hR.call ht9 hBx hwx hS hFc
              have hsh := hsh.tr hsx
              exact vx_out (E := RJxb5711) (q := q9) (fun x h9 => (hnt x h9).elim) hlocks hce9 hcv9 hcl9 (fun t9 ht9 ha9 => ⟨u9, ⟨h, hR.w, hsh⟩, ⟨rfl, by rw [ht9]; exact hR.P, hR.D⟩, hR.sS.F ht9⟩) hR.sS.2.2 (Nat.le_of_ble_eq_true rfl) (Nat.le_of_ble_eq_true rfl)
            · obtain ⟨hq17, hw9, hs9⟩ := hw9
              have hR : Rep g ad A s S16 H1 locs := hR.call ht9 hB9 hw9 hS hFc
              have hsh := hsh.tr hs9
              replace h := h.1 r15 S16 hq17
              clear hB9 hz9 hk9 hvm9 ht9 hw9 hs9 hS
              generalize H1 = H at hR ⊢
              refine lv_ior hx hb dX14_outPush_110 ?_
              refine lv_topi (fun z18 ez18 => ?_)
              obtain rfl : z18 = ((1245184 : Int32) ||| r15) := ez18
              refine lv_i2l (v := (((1245184 : Int32) ||| r15).toInt64)) hx hb dX14_outPush_111 rfl ?_
              refine lv_iconst (v := 3) hx hb dX14_outPush_112 (by decide) ?_
              obtain ⟨Q19, h0, h⟩ := h
              have hFc := rfree hR hA
              refine va_callv (va_runV (As := [.long (((1245184 : Int32) ||| r15).toInt64), .int 3]) (rest := []) ⟨hx, hb, hml, hown, hts⟩ (r_out l g ad H.size S16 (((1245184 : Int32) ||| r15).toInt64) (3 : Int32) hR.w  Q19 h0) (cwV 2 hts (gd2_V kx_586 kx_587 kx_588 kx_177 kx_589) rfl rfl rfl (by decide +kernel) ⟨Nat.le_of_ble_eq_true rfl, Nat.le_of_ble_eq_true rfl⟩) ⟨rblind, va_recv hR.K hR.P (ci := 13) (q0 := 0) rfl (hR.at14 hR.w.1), fun U hU hW9 => rmk hU hW9 hR hex hE hFc⟩ rfl rfl hl.1 rfl (lv_room (Nat.le_of_ble_eq_true rfl)) dX14_outPush_113 ⟨Nat.le_of_ble_eq_true rfl, Nat.le_of_ble_eq_true rfl⟩) hR.sS (fun q _ h => hFc q h) hFc (fun  S20 t9 H1 locs ht9 hvm9 hw9 hB9 hz9 hk9 hS => ?_)
              obtain ⟨hq21, hw9, hs9⟩ := hw9
              have hR : Rep g ad A s S20 H1 locs := hR.call ht9 hB9 hw9 hS hFc
              have hsh := hsh.tr hs9
              replace h := h  S20 hq21
              clear hB9 hz9 hk9 hvm9 ht9 hw9 hs9 hS
              generalize H1 = H at hR ⊢
              exact vx_ret (W.vret hx hb hr (fun t9 ht9 hW9 => ⟨⟨S20, rfl, ⟨h, hR.w, hsh⟩, ⟨by rw [ht9]; exact hR.P, hR.D⟩⟩, hR.sS.F ht9⟩) hR.sS.2.2 dX14_outPush_116)
          · replace h := h.2 (k_nle (by decide) rfl c13)
            refine lv_aload_n hx hb dX14_outPush_83 rfl (lv_at hl 0 rfl) ?_
            refine lv_sipush (v := 4608) hx hb dX14_outPush_84 (by decide) ?_
            refine lv_aload_n hx hb dX14_outPush_87 rfl (lv_at hl 0 rfl) ?_
            refine lv_iload_n hx hb dX14_outPush_88 rfl (lv_at hl 1 rfl) ?_
            obtain ⟨Q22, EQ22, h0, h⟩ := h
            have hFc := rfree hR hA
            refine vx_calli (vx_runV (As := [.int v22_1]) (rest := [.int 4608, .ref (ad 0)]) ⟨hx, hb, hml, hown, hts⟩ (r_needOf l g ad H.size S11 v22_1 hR.w  Q22 EQ22 h0) (cwV 1 hts (gd2_V kx_575 kx_576 kx_577 kx_177 kx_578) rfl rfl rfl (by decide +kernel) ⟨Nat.le_of_ble_eq_true rfl, Nat.le_of_ble_eq_true rfl⟩) ⟨rblind, va_recv hR.K hR.P (ci := 13) (q0 := 0) rfl (hR.at14 hR.w.1), fun U hU hW9 => rmk hU hW9 hR hex hE hFc⟩ rfl rfl hl.1 rfl (lv_room (Nat.le_of_ble_eq_true rfl)) dX14_outPush_89 ⟨Nat.le_of_ble_eq_true rfl, Nat.le_of_ble_eq_true rfl⟩) hR.sS (fun q _ h => hFc q h) hFc (fun q _ h => hFc q h) (fun E9 ce9 q9 u9 t9 H1 locs ht9 hvm9 hp9 hB9 hz9 hk9 hS hce9 hcv9 hcl9 => ?_) (fun r23 S24 t9 H1 locs ht9 hvm9 hw9 hB9 hz9 hk9 hS => ?_)
            · obtain ⟨hp9, hwx, hsx⟩ := hp9
              obtain ⟨rfl, hBx⟩ := hB9
              replace h := h.2 u9 hp9
              have hR : Rep g ad A s u9 H1 locs := hR.call ht9 hBx hwx hS hFc
              have hsh := hsh.tr hsx
              exact vx_out (E := RJxb5711) (q := q9) (fun x h9 => (hnt x h9).elim) hlocks hce9 hcv9 hcl9 (fun t9 ht9 ha9 => ⟨u9, ⟨h, hR.w, hsh⟩, ⟨rfl, by rw [ht9]; exact hR.P, hR.D⟩, hR.sS.F ht9⟩) hR.sS.2.2 (Nat.le_of_ble_eq_true rfl) (Nat.le_of_ble_eq_true rfl)
            · obtain ⟨hq25, hw9, hs9⟩ := hw9
              have hR : Rep g ad A s S24 H1 locs := hR.call ht9 hB9 hw9 hS hFc
              have hsh := hsh.tr hs9
              replace h := h.1 r23 S24 hq25
              clear hB9 hz9 hk9 hvm9 ht9 hw9 hs9 hS
              generalize H1 = H at hR ⊢
              refine lv_ior hx hb dX14_outPush_92 ?_
              refine lv_topi (fun z26 ez26 => ?_)
              obtain rfl : z26 = ((4608 : Int32) ||| r23) := ez26
              refine lv_i2l (v := (((4608 : Int32) ||| r23).toInt64)) hx hb dX14_outPush_93 rfl ?_
              refine lv_iconst (v := 2) hx hb dX14_outPush_94 (by decide) ?_
              obtain ⟨Q27, h0, h⟩ := h
              have hFc := rfree hR hA
              refine va_callv (va_runV (As := [.long (((4608 : Int32) ||| r23).toInt64), .int 2]) (rest := []) ⟨hx, hb, hml, hown, hts⟩ (r_out l g ad H.size S24 (((4608 : Int32) ||| r23).toInt64) (2 : Int32) hR.w  Q27 h0) (cwV 2 hts (gd2_V kx_586 kx_587 kx_588 kx_177 kx_589) rfl rfl rfl (by decide +kernel) ⟨Nat.le_of_ble_eq_true rfl, Nat.le_of_ble_eq_true rfl⟩) ⟨rblind, va_recv hR.K hR.P (ci := 13) (q0 := 0) rfl (hR.at14 hR.w.1), fun U hU hW9 => rmk hU hW9 hR hex hE hFc⟩ rfl rfl hl.1 rfl (lv_room (Nat.le_of_ble_eq_true rfl)) dX14_outPush_95 ⟨Nat.le_of_ble_eq_true rfl, Nat.le_of_ble_eq_true rfl⟩) hR.sS (fun q _ h => hFc q h) hFc (fun  S28 t9 H1 locs ht9 hvm9 hw9 hB9 hz9 hk9 hS => ?_)
              obtain ⟨hq29, hw9, hs9⟩ := hw9
              have hR : Rep g ad A s S28 H1 locs := hR.call ht9 hB9 hw9 hS hFc
              have hsh := hsh.tr hs9
              replace h := h  S28 hq29
              clear hB9 hz9 hk9 hvm9 ht9 hw9 hs9 hS
              generalize H1 = H at hR ⊢
              refine lv_goto (tgt := 116) hx hb dX14_outPush_98 (by decide) ?_
              exact vx_ret (W.vret hx hb hr (fun t9 ht9 hW9 => ⟨⟨S28, rfl, ⟨h, hR.w, hsh⟩, ⟨by rw [ht9]; exact hR.P, hR.D⟩⟩, hR.sS.F ht9⟩) hR.sS.2.2 dX14_outPush_116)
      · replace h := h.2 (k_ne rfl (by decide) c8)
        refine lv_aload_n hx hb dX14_outPush_54 rfl (lv_at hl 0 rfl) ?_
        refine lv_ldcw hx hb hown (hts _ kx_590) dX14_outPush_55 ?_
        refine lv_iload_n hx hb dX14_outPush_58 rfl (lv_at hl 2 rfl) ?_
        refine lv_ldcw hx hb hown (hts _ kx_316) dX14_outPush_59 ?_
        refine lv_iand hx hb dX14_outPush_62 ?_
        refine lv_topi (fun z30 ez30 => ?_)
        obtain rfl : z30 = (v22_2 &&& (65535 : Int32)) := ez30
        refine lv_ior hx hb dX14_outPush_63 ?_
        refine lv_topi (fun z31 ez31 => ?_)
        obtain rfl : z31 = ((1114112 : Int32) ||| (v22_2 &&& (65535 : Int32))) := ez31
        refine lv_i2l (v := (((1114112 : Int32) ||| (v22_2 &&& (65535 : Int32))).toInt64)) hx hb dX14_outPush_64 rfl ?_
        refine lv_iconst (v := 3) hx hb dX14_outPush_65 (by decide) ?_
        obtain ⟨Q32, h0, h⟩ := h
        have hFc := rfree hR hA
        refine va_callv (va_runV (As := [.long (((1114112 : Int32) ||| (v22_2 &&& (65535 : Int32))).toInt64), .int 3]) (rest := []) ⟨hx, hb, hml, hown, hts⟩ (r_out l g ad H.size U22 (((1114112 : Int32) ||| (v22_2 &&& (65535 : Int32))).toInt64) (3 : Int32) hR.w  Q32 h0) (cwV 2 hts (gd2_V kx_586 kx_587 kx_588 kx_177 kx_589) rfl rfl rfl (by decide +kernel) ⟨Nat.le_of_ble_eq_true rfl, Nat.le_of_ble_eq_true rfl⟩) ⟨rblind, va_recv hR.K hR.P (ci := 13) (q0 := 0) rfl (hR.at14 hR.w.1), fun U hU hW9 => rmk hU hW9 hR hex hE hFc⟩ rfl rfl hl.1 rfl (lv_room (Nat.le_of_ble_eq_true rfl)) dX14_outPush_66 ⟨Nat.le_of_ble_eq_true rfl, Nat.le_of_ble_eq_true rfl⟩) hR.sS (fun q _ h => hFc q h) hFc (fun  S33 t9 H1 locs ht9 hvm9 hw9 hB9 hz9 hk9 hS => ?_)
        obtain ⟨hq34, hw9, hs9⟩ := hw9
        have hR : Rep g ad A s S33 H1 locs := hR.call ht9 hB9 hw9 hS hFc
        have hsh := hsh.tr hs9
        replace h := h  S33 hq34
        clear hB9 hz9 hk9 hvm9 ht9 hw9 hs9 hS
        generalize H1 = H at hR ⊢
        refine lv_goto (tgt := 116) hx hb dX14_outPush_69 (by decide) ?_
        exact vx_ret (W.vret hx hb hr (fun t9 ht9 hW9 => ⟨⟨S33, rfl, ⟨h, hR.w, hsh⟩, ⟨by rw [ht9]; exact hR.P, hR.D⟩⟩, hR.sS.F ht9⟩) hR.sS.2.2 dX14_outPush_116)
    · replace h := h.2 (k_ne rfl (by decide) c4)
      refine lv_aload_n hx hb dX14_outPush_29 rfl (lv_at hl 0 rfl) ?_
      refine lv_sipush (v := 4096) hx hb dX14_outPush_30 (by decide) ?_
      refine lv_iload_n hx hb dX14_outPush_33 rfl (lv_at hl 2 rfl) ?_
      refine lv_sipush (v := 255) hx hb dX14_outPush_34 (by decide) ?_
      refine lv_iand hx hb dX14_outPush_37 ?_
      refine lv_topi (fun z35 ez35 => ?_)
      obtain rfl : z35 = (v22_2 &&& (255 : Int32)) := ez35
      refine lv_ior hx hb dX14_outPush_38 ?_
      refine lv_topi (fun z36 ez36 => ?_)
      obtain rfl : z36 = ((4096 : Int32) ||| (v22_2 &&& (255 : Int32))) := ez36
      refine lv_i2l (v := (((4096 : Int32) ||| (v22_2 &&& (255 : Int32))).toInt64)) hx hb dX14_outPush_39 rfl ?_
      refine lv_iconst (v := 2) hx hb dX14_outPush_40 (by decide) ?_
      obtain ⟨Q37, h0, h⟩ := h
      have hFc := rfree hR hA
      refine va_callv (va_runV (As := [.long (((4096 : Int32) ||| (v22_2 &&& (255 : Int32))).toInt64), .int 2]) (rest := []) ⟨hx, hb, hml, hown, hts⟩ (r_out l g ad H.size U22 (((4096 : Int32) ||| (v22_2 &&& (255 : Int32))).toInt64) (2 : Int32) hR.w  Q37 h0) (cwV 2 hts (gd2_V kx_586 kx_587 kx_588 kx_177 kx_589) rfl rfl rfl (by decide +kernel) ⟨Nat.le_of_ble_eq_true rfl, Nat.le_of_ble_eq_true rfl⟩) ⟨rblind, va_recv hR.K hR.P (ci := 13) (q0 := 0) rfl (hR.at14 hR.w.1), fun U hU hW9 => rmk hU hW9 hR hex hE hFc⟩ rfl rfl hl.1 rfl (lv_room (Nat.le_of_ble_eq_true rfl)) dX14_outPush_41 ⟨Nat.le_of_ble_eq_true rfl, Nat.le_of_ble_eq_true rfl⟩) hR.sS (fun q _ h => hFc q h) hFc (fun  S38 t9 H1 locs ht9 hvm9 hw9 hB9 hz9 hk9 hS => ?_)
      obtain ⟨hq39, hw9, hs9⟩ := hw9
      have hR : Rep g ad A s S38 H1 locs := hR.call ht9 hB9 hw9 hS hFc
      have hsh := hsh.tr hs9
      replace h := h  S38 hq39
      clear hB9 hz9 hk9 hvm9 ht9 hw9 hs9 hS
      generalize H1 = H at hR ⊢
      refine lv_goto (tgt := 116) hx hb dX14_outPush_44 (by decide) ?_
      exact vx_ret (W.vret hx hb hr (fun t9 ht9 hW9 => ⟨⟨S38, rfl, ⟨h, hR.w, hsh⟩, ⟨by rw [ht9]; exact hR.P, hR.D⟩⟩, hR.sS.F ht9⟩) hR.sS.2.2 dX14_outPush_116)
  refine lv_icmp_lt (tgt := 22) hx hb dX14_outPush_2 (by decide) (fun c40 => ?_) (fun c40 => ?_)
  · replace h := h.1 (k_lt rfl (by decide) c40)
    exact J_22 S x1 x2 _ _ ls h  hsh hR (lv_sub hl [0, 1, 2] rfl)
  · replace h := h.2 (k_nlt rfl (by decide) c40)
    refine lv_iload_n hx hb dX14_outPush_5 rfl (lv_at hl 2 rfl) ?_
    refine lv_iconst (v := 5) hx hb dX14_outPush_6 (by decide) ?_
    refine lv_icmp_gt (tgt := 22) hx hb dX14_outPush_7 (by decide) (fun c41 => ?_) (fun c41 => ?_)
    · replace h := h.1 (k_lt (by decide) rfl c41)
      exact J_22 S x1 x2 _ _ ls h  hsh hR (lv_sub hl [0, 1, 2] rfl)
    · replace h := h.2 (k_nlt (by decide) rfl c41)
      refine lv_aload_n hx hb dX14_outPush_10 rfl (lv_at hl 0 rfl) ?_
      refine lv_iload_n hx hb dX14_outPush_11 rfl (lv_at hl 2 rfl) ?_
      refine lv_iconst (v := 3) hx hb dX14_outPush_12 (by decide) ?_
      refine lv_iadd hx hb dX14_outPush_13 ?_
      refine lv_topi (fun z42 ez42 => ?_)
      obtain rfl : z42 = (x2 + (3 : Int32)) := ez42
      refine lv_i2l (v := ((x2 + (3 : Int32)).toInt64)) hx hb dX14_outPush_14 rfl ?_
      refine lv_iconst (v := 1) hx hb dX14_outPush_15 (by decide) ?_
      obtain ⟨Q43, h0, h⟩ := h
      have hFc := rfree hR hA
      refine va_callv (va_runV (As := [.long ((x2 + (3 : Int32)).toInt64), .int 1]) (rest := []) ⟨hx, hb, hml, hown, hts⟩ (r_out l g ad s.heap.size S ((x2 + (3 : Int32)).toInt64) (1 : Int32) hR.w  Q43 h0) (cwV 2 hts (gd2_V kx_586 kx_587 kx_588 kx_177 kx_589) rfl rfl rfl (by decide +kernel) ⟨Nat.le_of_ble_eq_true rfl, Nat.le_of_ble_eq_true rfl⟩) ⟨rblind, va_recv hR.K hR.P (ci := 13) (q0 := 0) rfl (hR.at14 hR.w.1), fun U hU hW9 => rmk hU hW9 hR hex hE hFc⟩ rfl rfl hl.1 rfl (lv_room (Nat.le_of_ble_eq_true rfl)) dX14_outPush_16 ⟨Nat.le_of_ble_eq_true rfl, Nat.le_of_ble_eq_true rfl⟩) hR.sS (fun q _ h => hFc q h) hFc (fun  S44 t9 H1 locs ht9 hvm9 hw9 hB9 hz9 hk9 hS => ?_)
      obtain ⟨hq45, hw9, hs9⟩ := hw9
      have hR : Rep g ad A s S44 H1 locs := hR.call ht9 hB9 hw9 hS hFc
      have hsh := hsh.tr hs9
      replace h := h  S44 hq45
      clear hB9 hz9 hk9 hvm9 ht9 hw9 hs9 hS
      generalize H1 = H at hR ⊢
      refine lv_goto (tgt := 116) hx hb dX14_outPush_19 (by decide) ?_
      exact vx_ret (W.vret hx hb hr (fun t9 ht9 hW9 => ⟨⟨S44, rfl, ⟨h, hR.w, hsh⟩, ⟨by rw [ht9]; exact hR.P, hR.D⟩⟩, hR.sS.F ht9⟩) hR.sS.2.2 dX14_outPush_116)
def w_outLocal (S : MS) (x1 : Int32) (x2 : Int32) (x3 : Int32) (Q : MS → Prop) : Prop := ((4 ≤ x2.toInt → (∃ Q4, w_out S (((x1 <<< ((8 : Int32) &&& 31)) ||| x2).toInt64) (2 : Int32) Q4 ∧ ∀ S5, Q4 S5 → Q S5)) ∧ (¬ 4 ≤ x2.toInt → (∃ Q8, w_out S ((x3 + x2).toInt64) (1 : Int32) Q8 ∧ ∀ S9, Q8 S9 → Q S9)))
set_option maxHeartbeats 2000000 in
set_option maxRecDepth 100000 in
theorem r_outLocal (l : Launch) (g : Gr) (ad : Nat → Nat) (sz : Nat) (S : MS) (x1 : Int32) (x2 : Int32) (x3 : Int32) (hw : wfM S) (Q : MS → Prop) (h : w_outLocal S x1 x2 x3 Q) : Met l yX14_outLocal (wt2 yX14_outLocal cX14_outLocal 4 none) ({ frames := 1, cells := 0, slots := 0, locals := 24 }) (va_Pc [.ref (ad 0), .int x1, .int x2, .int x3] (st_R g ad sz S)) (va_Qv (fun (u : MS) => Q u ∧ wfM u ∧ shy S u) (fun (u : MS) (t : State) => qE g ad (va_A (Wd g ad S) sz) u t) (va_A (Wd g ad S) sz)) 0 0 (va_A (Wd g ad S) sz) := by
  refine Met.ofW (cc := cX14_outLocal) (maxL := 4) (ret := none) (by decide) rfl ?_
  intro p e s m args below meth c s₁ B hml hv
  obtain ⟨rfl, hsz, hP, hK, hD0, hex, hE⟩ := hv
  have hx := B.exec
  have hb := B.bytes
  have hr := B.returns
  have hts0 := atoms_spec (ws := wt2 yX14_outLocal cX14_outLocal 4 none) B.pre
  have hts : ∀ w ∈ tb2, w.before _ s = true := fun w h => hts0 w (List.mem_cons_of_mem _ h)
  have hown : s.vm.findClass RX14 = some m.cls := findClass_of_methodNamed B.named
  subst hsz
  have hD := hD0.self (sz := s.heap.size)
  generalize hAe : va_A (Wd g ad S) s.heap.size = A at hD hE ⊢
  have hA : ∀ q : Nat, s.heap.size ≤ q → A q := fun q h => by rw [← hAe]; exact Or.inr h
  have hR : Rep g ad A s S s.heap [] := ⟨hK, hP, hD, va_S.rf, hw⟩
  clear hK hP hD hD0
  have hl := lv_entry ([.ref (ad 0), .int x1, .int x2, .int x3]) (n := 4) (Nat.le_of_ble_eq_true rfl)
  rw [lg_entry_eq]
  generalize (lg_sl ([.ref (ad 0), .int x1, .int x2, .int x3]) ++ List.replicate (4 - (lg_sl ([.ref (ad 0), .int x1, .int x2, .int x3])).length) Slot.unset).toArray = ls at hl ⊢
  have hl : lv_has ls 4 [(0, .ref (ad 0)), (1, .int x1), (2, .int x2), (3, .int x3)] := hl
  have hsh : shy S S := shy.rf
  unfold w_outLocal at h
  refine lv_iload_n hx hb dX14_outLocal_0 rfl (lv_at hl 2 rfl) ?_
  refine lv_iconst (v := 4) hx hb dX14_outLocal_1 (by decide) ?_
  refine lv_icmp_ge (tgt := 17) hx hb dX14_outLocal_2 (by decide) (fun c1 => ?_) (fun c1 => ?_)
  · replace h := h.1 (k_le (by decide) rfl c1)
    refine lv_aload_n hx hb dX14_outLocal_17 rfl (lv_at hl 0 rfl) ?_
    refine lv_iload_n hx hb dX14_outLocal_18 rfl (lv_at hl 1 rfl) ?_
    refine lv_bipush (v := 8) hx hb dX14_outLocal_19 (by decide) ?_
    refine lv_ishl hx hb dX14_outLocal_21 ?_
    refine lv_topi (fun z2 ez2 => ?_)
    obtain rfl : z2 = (x1 <<< ((8 : Int32) &&& 31)) := ez2
    refine lv_iload_n hx hb dX14_outLocal_22 rfl (lv_at hl 2 rfl) ?_
    refine lv_ior hx hb dX14_outLocal_23 ?_
    refine lv_topi (fun z3 ez3 => ?_)
    obtain rfl : z3 = ((x1 <<< ((8 : Int32) &&& 31)) ||| x2) := ez3
    refine lv_i2l (v := (((x1 <<< ((8 : Int32) &&& 31)) ||| x2).toInt64)) hx hb dX14_outLocal_24 rfl ?_
    refine lv_iconst (v := 2) hx hb dX14_outLocal_25 (by decide) ?_
    obtain ⟨Q4, h0, h⟩ := h
    have hFc := rfree hR hA
    refine va_callv (va_runV (As := [.long (((x1 <<< ((8 : Int32) &&& 31)) ||| x2).toInt64), .int 2]) (rest := []) ⟨hx, hb, hml, hown, hts⟩ (r_out l g ad s.heap.size S (((x1 <<< ((8 : Int32) &&& 31)) ||| x2).toInt64) (2 : Int32) hR.w  Q4 h0) (cwV 2 hts (gd2_V kx_586 kx_587 kx_588 kx_177 kx_589) rfl rfl rfl (by decide +kernel) ⟨Nat.le_of_ble_eq_true rfl, Nat.le_of_ble_eq_true rfl⟩) ⟨rblind, va_recv hR.K hR.P (ci := 13) (q0 := 0) rfl (hR.at14 hR.w.1), fun U hU hW9 => rmk hU hW9 hR hex hE hFc⟩ rfl rfl hl.1 rfl (lv_room (Nat.le_of_ble_eq_true rfl)) dX14_outLocal_26 ⟨Nat.le_of_ble_eq_true rfl, Nat.le_of_ble_eq_true rfl⟩) hR.sS (fun q _ h => hFc q h) hFc (fun  S5 t9 H1 locs ht9 hvm9 hw9 hB9 hz9 hk9 hS => ?_)
    obtain ⟨hq6, hw9, hs9⟩ := hw9
    have hR : Rep g ad A s S5 H1 locs := hR.call ht9 hB9 hw9 hS hFc
    have hsh := hsh.tr hs9
    replace h := h  S5 hq6
    clear hB9 hz9 hk9 hvm9 ht9 hw9 hs9 hS
    generalize H1 = H at hR ⊢
    exact W.vret hx hb hr (fun t9 ht9 hW9 => ⟨⟨S5, rfl, ⟨h, hR.w, hsh⟩, ⟨by rw [ht9]; exact hR.P, hR.D⟩⟩, hR.sS.F ht9⟩) hR.sS.2.2 dX14_outLocal_29
  · replace h := h.2 (k_nle (by decide) rfl c1)
    refine lv_aload_n hx hb dX14_outLocal_5 rfl (lv_at hl 0 rfl) ?_
    refine lv_iload_n hx hb dX14_outLocal_6 rfl (lv_at hl 3 rfl) ?_
    refine lv_iload_n hx hb dX14_outLocal_7 rfl (lv_at hl 2 rfl) ?_
    refine lv_iadd hx hb dX14_outLocal_8 ?_
    refine lv_topi (fun z7 ez7 => ?_)
    obtain rfl : z7 = (x3 + x2) := ez7
    refine lv_i2l (v := ((x3 + x2).toInt64)) hx hb dX14_outLocal_9 rfl ?_
    refine lv_iconst (v := 1) hx hb dX14_outLocal_10 (by decide) ?_
    obtain ⟨Q8, h0, h⟩ := h
    have hFc := rfree hR hA
    refine va_callv (va_runV (As := [.long ((x3 + x2).toInt64), .int 1]) (rest := []) ⟨hx, hb, hml, hown, hts⟩ (r_out l g ad s.heap.size S ((x3 + x2).toInt64) (1 : Int32) hR.w  Q8 h0) (cwV 2 hts (gd2_V kx_586 kx_587 kx_588 kx_177 kx_589) rfl rfl rfl (by decide +kernel) ⟨Nat.le_of_ble_eq_true rfl, Nat.le_of_ble_eq_true rfl⟩) ⟨rblind, va_recv hR.K hR.P (ci := 13) (q0 := 0) rfl (hR.at14 hR.w.1), fun U hU hW9 => rmk hU hW9 hR hex hE hFc⟩ rfl rfl hl.1 rfl (lv_room (Nat.le_of_ble_eq_true rfl)) dX14_outLocal_11 ⟨Nat.le_of_ble_eq_true rfl, Nat.le_of_ble_eq_true rfl⟩) hR.sS (fun q _ h => hFc q h) hFc (fun  S9 t9 H1 locs ht9 hvm9 hw9 hB9 hz9 hk9 hS => ?_)
    obtain ⟨hq10, hw9, hs9⟩ := hw9
    have hR : Rep g ad A s S9 H1 locs := hR.call ht9 hB9 hw9 hS hFc
    have hsh := hsh.tr hs9
    replace h := h  S9 hq10
    clear hB9 hz9 hk9 hvm9 ht9 hw9 hs9 hS
    generalize H1 = H at hR ⊢
    refine lv_goto (tgt := 29) hx hb dX14_outLocal_14 (by decide) ?_
    exact W.vret hx hb hr (fun t9 ht9 hW9 => ⟨⟨S9, rfl, ⟨h, hR.w, hsh⟩, ⟨by rw [ht9]; exact hR.P, hR.D⟩⟩, hR.sS.F ht9⟩) hR.sS.2.2 dX14_outLocal_29
def w_outSwitch_J151 (Q : MS → Prop) (k114 : MS → Int32 → Int32 → Int32 → Int32 → Int32 → Prop) (U151 : MS) (v151_1 : Int32) (v151_2 : Int32) (v151_3 : Int32) (v151_4 : Int32) (v151_5 : Int32) : Prop := ((qR U151 0 49 = some (qO U151 0 49)) ∧ (((0 : Int) ≤ ((v151_3 + (2 : Int32)) + ((2 : Int32) * v151_5)).toInt ∧ ((v151_3 + (2 : Int32)) + ((2 : Int32) * v151_5)).toInt < (qN U151 (qO U151 0 49) : Int)) ∧ (((0 : Int) ≤ (qI U151 (qO U151 0 49) ((((v151_3 + (2 : Int32)) + ((2 : Int32) * v151_5)).toInt).toNat)).toInt ∧ (qI U151 (qO U151 0 49) ((((v151_3 + (2 : Int32)) + ((2 : Int32) * v151_5)).toInt).toNat)).toInt < 1297) ∧ (∃ Q50, w_out U151 (((qI U151 36 (((qI U151 (qO U151 0 49) ((((v151_3 + (2 : Int32)) + ((2 : Int32) * v151_5)).toInt).toNat)).toInt).toNat)) - v151_2).toInt64) (4 : Int32) Q50 ∧ ∀ S51, Q50 S51 → (∀ a53 : Int32, a53 = (v151_5 + Int32.ofInt 1) → k114 S51 v151_1 v151_2 v151_3 v151_4 a53)))))
def w_outSwitch_L114 (Q : MS → Prop) : Nat → MS → Int32 → Int32 → Int32 → Int32 → Int32 → Prop
  | 0, _, _, _, _, _, _ => False
  | n114 + 1, U114, v114_1, v114_2, v114_3, v114_4, v114_5 => ((v114_4.toInt ≤ v114_5.toInt → Q U114) ∧ (¬ v114_4.toInt ≤ v114_5.toInt → (d_op U114 v114_1 ∧ (((f_op U114 v114_1).toInt = 171 → ((qR U114 0 49 = some (qO U114 0 49)) ∧ (((0 : Int) ≤ ((v114_3 + (1 : Int32)) + ((2 : Int32) * v114_5)).toInt ∧ ((v114_3 + (1 : Int32)) + ((2 : Int32) * v114_5)).toInt < (qN U114 (qO U114 0 49) : Int)) ∧ (∃ Q62, w_out U114 ((qI U114 (qO U114 0 49) ((((v114_3 + (1 : Int32)) + ((2 : Int32) * v114_5)).toInt).toNat)).toInt64) (4 : Int32) Q62 ∧ ∀ S63, Q62 S63 → w_outSwitch_J151 Q (w_outSwitch_L114 Q n114) S63 v114_1 v114_2 v114_3 v114_4 v114_5)))) ∧ (¬ (f_op U114 v114_1).toInt = 171 → w_outSwitch_J151 Q (w_outSwitch_L114 Q n114) U114 v114_1 v114_2 v114_3 v114_4 v114_5)))))
def w_outSwitch_J111 (Q : MS → Prop) (U111 : MS) (v111_1 : Int32) (v111_2 : Int32) (v111_3 : Int32) (v111_4 : Int32) : Prop := (∃ n, w_outSwitch_L114 Q n U111 v111_1 v111_2 v111_3 v111_4 0)
def w_outSwitch (S : MS) (x1 : Int32) (x2 : Int32) (Q : MS → Prop) : Prop := (d_op S x1 ∧ (∃ Q4, w_out S ((f_op S x1).toInt64) (1 : Int32) Q4 ∧ ∀ S5, Q4 S5 → (d_switchFrom S5 x2 ∧ (∃ Q12, w_out S5 0 (((f_switchFrom S5 x2) - x2) - (1 : Int32)) Q12 ∧ ∀ S13, Q12 S13 → (d_first S13 x1 ∧ (∀ a18 : Int32, a18 = (f_first S13 x1) → (d_second S13 x1 ∧ (∀ a22 : Int32, a22 = (f_second S13 x1) → ((qR S13 0 49 = some (qO S13 0 49)) ∧ (((0 : Int) ≤ a18.toInt ∧ a18.toInt < (qN S13 (qO S13 0 49) : Int)) ∧ (((0 : Int) ≤ (qI S13 (qO S13 0 49) a18.toInt.toNat).toInt ∧ (qI S13 (qO S13 0 49) a18.toInt.toNat).toInt < 1297) ∧ (∃ Q30, w_out S13 (((qI S13 36 (((qI S13 (qO S13 0 49) a18.toInt.toNat).toInt).toNat)) - x2).toInt64) (4 : Int32) Q30 ∧ ∀ S31, Q30 S31 → (d_op S31 x1 ∧ (((f_op S31 x1).toInt = 170 → ((qR S31 0 49 = some (qO S31 0 49)) ∧ (((0 : Int) ≤ (a18 + (1 : Int32)).toInt ∧ (a18 + (1 : Int32)).toInt < (qN S31 (qO S31 0 49) : Int)) ∧ (∃ Q74, w_out S31 ((qI S31 (qO S31 0 49) (((a18 + (1 : Int32)).toInt).toNat)).toInt64) (4 : Int32) Q74 ∧ ∀ S75, Q74 S75 → ((qR S75 0 49 = some (qO S75 0 49)) ∧ (((0 : Int) ≤ (a18 + (1 : Int32)).toInt ∧ (a18 + (1 : Int32)).toInt < (qN S75 (qO S75 0 49) : Int)) ∧ (∃ Q84, w_out S75 ((((qI S75 (qO S75 0 49) (((a18 + (1 : Int32)).toInt).toNat)) + a22) - (1 : Int32)).toInt64) (4 : Int32) Q84 ∧ ∀ S85, Q84 S85 → w_outSwitch_J111 Q S85 x1 x2 a18 a22))))))) ∧ (¬ (f_op S31 x1).toInt = 170 → (∃ Q66, w_out S31 (a22.toInt64) (4 : Int32) Q66 ∧ ∀ S67, Q66 S67 → w_outSwitch_J111 Q S67 x1 x2 a18 a22))))))))))))))))
set_option maxHeartbeats 2000000 in
set_option maxRecDepth 100000 in
theorem r_outSwitch (l : Launch) (g : Gr) (ad : Nat → Nat) (sz : Nat) (S : MS) (x1 : Int32) (x2 : Int32) (hw : wfM S) (Q : MS → Prop) (h : w_outSwitch S x1 x2 Q) : Met l yX14_outSwitch (wt2 yX14_outSwitch cX14_outSwitch 6 none) ({ frames := 1, cells := 0, slots := 0, locals := 24 }) (va_Pc [.ref (ad 0), .int x1, .int x2] (st_R g ad sz S)) (va_Qv (fun (u : MS) => Q u ∧ wfM u ∧ shy S u) (fun (u : MS) (t : State) => qE g ad (va_A (Wd g ad S) sz) u t) (va_A (Wd g ad S) sz)) 0 0 (va_A (Wd g ad S) sz) := by
  refine Met.ofW (cc := cX14_outSwitch) (maxL := 6) (ret := none) (by decide) rfl ?_
  intro p e s m args below meth c s₁ B hml hv
  obtain ⟨rfl, hsz, hP, hK, hD0, hex, hE⟩ := hv
  have hx := B.exec
  have hb := B.bytes
  have hr := B.returns
  have hts0 := atoms_spec (ws := wt2 yX14_outSwitch cX14_outSwitch 6 none) B.pre
  have hts : ∀ w ∈ tb2, w.before _ s = true := fun w h => hts0 w (List.mem_cons_of_mem _ h)
  have hown : s.vm.findClass RX14 = some m.cls := findClass_of_methodNamed B.named
  subst hsz
  have hD := hD0.self (sz := s.heap.size)
  generalize hAe : va_A (Wd g ad S) s.heap.size = A at hD hE ⊢
  have hA : ∀ q : Nat, s.heap.size ≤ q → A q := fun q h => by rw [← hAe]; exact Or.inr h
  have hR : Rep g ad A s S s.heap [] := ⟨hK, hP, hD, va_S.rf, hw⟩
  clear hK hP hD hD0
  have hl := lv_entry ([.ref (ad 0), .int x1, .int x2]) (n := 6) (Nat.le_of_ble_eq_true rfl)
  rw [lg_entry_eq]
  generalize (lg_sl ([.ref (ad 0), .int x1, .int x2]) ++ List.replicate (6 - (lg_sl ([.ref (ad 0), .int x1, .int x2])).length) Slot.unset).toArray = ls at hl ⊢
  have hl : lv_has ls 6 [(0, .ref (ad 0)), (1, .int x1), (2, .int x2)] := hl
  have hsh : shy S S := shy.rf
  unfold w_outSwitch at h
  refine lv_aload_n hx hb dX14_outSwitch_0 rfl (lv_at hl 0 rfl) ?_
  refine lv_aload_n hx hb dX14_outSwitch_1 rfl (lv_at hl 0 rfl) ?_
  refine lv_iload_n hx hb dX14_outSwitch_2 rfl (lv_at hl 1 rfl) ?_
  obtain ⟨hv1, h⟩ := h
  have hFc := rfree hR hA
  refine va_calli (va_runV (As := [.int x1]) (rest := [.ref (ad 0)]) ⟨hx, hb, hml, hown, hts⟩ (r_op l g ad s.heap.size S x1 hR.w  hv1) (cwV 1 hts (gd2_V kx_379 kx_380 kx_381 kx_177 kx_382) rfl rfl rfl (by decide +kernel) ⟨Nat.le_of_ble_eq_true rfl, Nat.le_of_ble_eq_true rfl⟩) ⟨rblind, va_recv hR.K hR.P (ci := 13) (q0 := 0) rfl (hR.at14 hR.w.1), fun U hU hW9 => rmk hU hW9 hR hex hE hFc⟩ rfl rfl hl.1 rfl (lv_room (Nat.le_of_ble_eq_true rfl)) dX14_outSwitch_3 ⟨Nat.le_of_ble_eq_true rfl, Nat.le_of_ble_eq_true rfl⟩) hR.sS (fun q _ h => hFc q h) hFc (fun r2 u9 t9 H1 locs ht9 hvm9 hw9 hB9 hz9 hk9 hS => ?_)
  have hR : Rep g ad A s S H1 locs := hR.call ht9 hB9 hR.w hS hFc
  obtain rfl : r2 = (f_op S x1) := hw9
  clear hB9 hz9 hk9 hvm9 ht9 hS
  generalize H1 = H at hR ⊢
  refine lv_i2l (v := ((f_op S x1).toInt64)) hx hb dX14_outSwitch_6 rfl ?_
  refine lv_iconst (v := 1) hx hb dX14_outSwitch_7 (by decide) ?_
  obtain ⟨Q4, h0, h⟩ := h
  have hFc := rfree hR hA
  refine va_callv (va_runV (As := [.long ((f_op S x1).toInt64), .int 1]) (rest := []) ⟨hx, hb, hml, hown, hts⟩ (r_out l g ad H.size S ((f_op S x1).toInt64) (1 : Int32) hR.w  Q4 h0) (cwV 2 hts (gd2_V kx_586 kx_587 kx_588 kx_177 kx_589) rfl rfl rfl (by decide +kernel) ⟨Nat.le_of_ble_eq_true rfl, Nat.le_of_ble_eq_true rfl⟩) ⟨rblind, va_recv hR.K hR.P (ci := 13) (q0 := 0) rfl (hR.at14 hR.w.1), fun U hU hW9 => rmk hU hW9 hR hex hE hFc⟩ rfl rfl hl.1 rfl (lv_room (Nat.le_of_ble_eq_true rfl)) dX14_outSwitch_8 ⟨Nat.le_of_ble_eq_true rfl, Nat.le_of_ble_eq_true rfl⟩) hR.sS (fun q _ h => hFc q h) hFc (fun  S5 t9 H1 locs ht9 hvm9 hw9 hB9 hz9 hk9 hS => ?_)
  obtain ⟨hq6, hw9, hs9⟩ := hw9
  have hR : Rep g ad A s S5 H1 locs := hR.call ht9 hB9 hw9 hS hFc
  have hsh := hsh.tr hs9
  replace h := h  S5 hq6
  clear hB9 hz9 hk9 hvm9 ht9 hw9 hs9 hS
  generalize H1 = H at hR ⊢
  refine lv_aload_n hx hb dX14_outSwitch_11 rfl (lv_at hl 0 rfl) ?_
  refine lv_lconst (v := 0) hx hb dX14_outSwitch_12 (by decide) ?_
  refine lv_iload_n hx hb dX14_outSwitch_13 rfl (lv_at hl 2 rfl) ?_
  obtain ⟨hv7, h⟩ := h
  have hFc := rfree hR hA
  refine va_calli (va_runS (As := [.int x2]) (rest := [.long 0, .ref (ad 0)]) ⟨hx, hb, hml, hown, hts⟩ (r_switchFrom l g ad H.size S5 x2 hR.w  hv7) (va_cwS 1 hts (gd2_S kx_282 kx_283 kx_177 kx_284) rfl rfl rfl (by decide +kernel) ⟨Nat.le_of_ble_eq_true rfl, Nat.le_of_ble_eq_true rfl⟩) ⟨rblind, fun U hU hW9 => rmk hU hW9 hR hex hE hFc⟩ rfl rfl hl.1 rfl (lv_room (Nat.le_of_ble_eq_true rfl)) dX14_outSwitch_14 ⟨Nat.le_of_ble_eq_true rfl, Nat.le_of_ble_eq_true rfl⟩) hR.sS (fun q _ h => hFc q h) hFc (fun r8 u9 t9 H1 locs ht9 hvm9 hw9 hB9 hz9 hk9 hS => ?_)
  have hR : Rep g ad A s S5 H1 locs := hR.call ht9 hB9 hR.w hS hFc
  obtain rfl : r8 = (f_switchFrom S5 x2) := hw9
  clear hB9 hz9 hk9 hvm9 ht9 hS
  generalize H1 = H at hR ⊢
  refine lv_iload_n hx hb dX14_outSwitch_17 rfl (lv_at hl 2 rfl) ?_
  refine lv_isub hx hb dX14_outSwitch_18 ?_
  refine lv_topi (fun z10 ez10 => ?_)
  obtain rfl : z10 = ((f_switchFrom S5 x2) - x2) := ez10
  refine lv_iconst (v := 1) hx hb dX14_outSwitch_19 (by decide) ?_
  refine lv_isub hx hb dX14_outSwitch_20 ?_
  refine lv_topi (fun z11 ez11 => ?_)
  obtain rfl : z11 = (((f_switchFrom S5 x2) - x2) - (1 : Int32)) := ez11
  obtain ⟨Q12, h0, h⟩ := h
  have hFc := rfree hR hA
  refine va_callv (va_runV (As := [.long 0, .int (((f_switchFrom S5 x2) - x2) - (1 : Int32))]) (rest := []) ⟨hx, hb, hml, hown, hts⟩ (r_out l g ad H.size S5 0 (((f_switchFrom S5 x2) - x2) - (1 : Int32)) hR.w  Q12 h0) (cwV 2 hts (gd2_V kx_586 kx_587 kx_588 kx_177 kx_589) rfl rfl rfl (by decide +kernel) ⟨Nat.le_of_ble_eq_true rfl, Nat.le_of_ble_eq_true rfl⟩) ⟨rblind, va_recv hR.K hR.P (ci := 13) (q0 := 0) rfl (hR.at14 hR.w.1), fun U hU hW9 => rmk hU hW9 hR hex hE hFc⟩ rfl rfl hl.1 rfl (lv_room (Nat.le_of_ble_eq_true rfl)) dX14_outSwitch_21 ⟨Nat.le_of_ble_eq_true rfl, Nat.le_of_ble_eq_true rfl⟩) hR.sS (fun q _ h => hFc q h) hFc (fun  S13 t9 H1 locs ht9 hvm9 hw9 hB9 hz9 hk9 hS => ?_)
  obtain ⟨hq14, hw9, hs9⟩ := hw9
  have hR : Rep g ad A s S13 H1 locs := hR.call ht9 hB9 hw9 hS hFc
  have hsh := hsh.tr hs9
  replace h := h  S13 hq14
  clear hB9 hz9 hk9 hvm9 ht9 hw9 hs9 hS
  generalize H1 = H at hR ⊢
  refine lv_aload_n hx hb dX14_outSwitch_24 rfl (lv_at hl 0 rfl) ?_
  refine lv_iload_n hx hb dX14_outSwitch_25 rfl (lv_at hl 1 rfl) ?_
  obtain ⟨hv15, h⟩ := h
  have hFc := rfree hR hA
  refine va_calli (va_runV (As := [.int x1]) (rest := []) ⟨hx, hb, hml, hown, hts⟩ (r_first l g ad H.size S13 x1 hR.w  hv15) (cwV 1 hts (gd2_V kx_393 kx_394 kx_395 kx_177 kx_396) rfl rfl rfl (by decide +kernel) ⟨Nat.le_of_ble_eq_true rfl, Nat.le_of_ble_eq_true rfl⟩) ⟨rblind, va_recv hR.K hR.P (ci := 13) (q0 := 0) rfl (hR.at14 hR.w.1), fun U hU hW9 => rmk hU hW9 hR hex hE hFc⟩ rfl rfl hl.1 rfl (lv_room (Nat.le_of_ble_eq_true rfl)) dX14_outSwitch_26 ⟨Nat.le_of_ble_eq_true rfl, Nat.le_of_ble_eq_true rfl⟩) hR.sS (fun q _ h => hFc q h) hFc (fun r16 u9 t9 H1 locs ht9 hvm9 hw9 hB9 hz9 hk9 hS => ?_)
  have hR : Rep g ad A s S13 H1 locs := hR.call ht9 hB9 hR.w hS hFc
  obtain rfl : r16 = (f_first S13 x1) := hw9
  clear hB9 hz9 hk9 hvm9 ht9 hS
  generalize H1 = H at hR ⊢
  obtain ⟨a18, ea18⟩ : ∃ z, z = (f_first S13 x1) := ⟨_, rfl⟩
  rw [← ea18]
  replace h := h a18 ea18
  refine lv_istore_n (lv' := [(3, .int a18), (0, .ref (ad 0)), (1, .int x1), (2, .int x2)]) hx hb dX14_outSwitch_29 rfl hl (by decide) rfl (fun ls hl => ?_)
  refine lv_aload_n hx hb dX14_outSwitch_30 rfl (lv_at hl 1 rfl) ?_
  refine lv_iload_n hx hb dX14_outSwitch_31 rfl (lv_at hl 2 rfl) ?_
  obtain ⟨hv19, h⟩ := h
  have hFc := rfree hR hA
  refine va_calli (va_runV (As := [.int x1]) (rest := []) ⟨hx, hb, hml, hown, hts⟩ (r_second l g ad H.size S13 x1 hR.w  hv19) (cwV 1 hts (gd2_V kx_389 kx_390 kx_391 kx_177 kx_392) rfl rfl rfl (by decide +kernel) ⟨Nat.le_of_ble_eq_true rfl, Nat.le_of_ble_eq_true rfl⟩) ⟨rblind, va_recv hR.K hR.P (ci := 13) (q0 := 0) rfl (hR.at14 hR.w.1), fun U hU hW9 => rmk hU hW9 hR hex hE hFc⟩ rfl rfl hl.1 rfl (lv_room (Nat.le_of_ble_eq_true rfl)) dX14_outSwitch_32 ⟨Nat.le_of_ble_eq_true rfl, Nat.le_of_ble_eq_true rfl⟩) hR.sS (fun q _ h => hFc q h) hFc (fun r20 u9 t9 H1 locs ht9 hvm9 hw9 hB9 hz9 hk9 hS => ?_)
  have hR : Rep g ad A s S13 H1 locs := hR.call ht9 hB9 hR.w hS hFc
  obtain rfl : r20 = (f_second S13 x1) := hw9
  clear hB9 hz9 hk9 hvm9 ht9 hS
  generalize H1 = H at hR ⊢
  obtain ⟨a22, ea22⟩ : ∃ z, z = (f_second S13 x1) := ⟨_, rfl⟩
  rw [← ea22]
  replace h := h a22 ea22
  refine lv_istore (lv' := [(4, .int a22), (3, .int a18), (0, .ref (ad 0)), (1, .int x1), (2, .int x2)]) hx hb dX14_outSwitch_35 hl (by decide) rfl (fun ls hl => ?_)
  refine lv_aload_n hx hb dX14_outSwitch_37 rfl (lv_at hl 2 rfl) ?_
  refine lv_aload_n hx hb dX14_outSwitch_38 rfl (lv_at hl 2 rfl) ?_
  refine va_get (D := rD g) (ci := 13) (v := .ref (ad 36)) (C := RX14) (T := TX14) (N := 143) hx hb hts in2X14 hown hR.K hR.P 0 (hR.at14 hR.w.1) rfl 79 (by decide) (hts _ kx_584) (fun _ h9 => h9) (congrArg (fun z => some (vf ad z)) (hR.w.2.1 _ fin_79).1) dX14_outSwitch_39 ?_
  refine lv_aload_n hx hb dX14_outSwitch_42 rfl (lv_at hl 2 rfl) ?_
  obtain ⟨hv23, h⟩ := h
  have hT_b24 : qT S13 (qO S13 0 49) = 2 := hR.w.ref hv23 hR.w.1
  refine va_get (D := rD g) (ci := 13) (v := .ref (ad (qO S13 0 49))) (C := RX14) (T := TX14) (N := 143) hx hb hts in2X14 hown hR.K hR.P 0 (hR.at14 hR.w.1) rfl 49 (by decide) (hts _ kx_365) (fun _ h9 => h9) (congrArg (fun z => some (vf ad z)) hv23) dX14_outSwitch_43 ?_
  refine lv_iload_n hx hb dX14_outSwitch_46 rfl (lv_at hl 1 rfl) ?_
  obtain ⟨hv25, h⟩ := h
  refine va_iald hx hb hR.K hR.P (qO S13 0 49) 1 (hR.atI hT_b24) rfl (k_ix (x := a18) (a := a18.toInt) rfl hv25) dX14_outSwitch_47 ?_
  refine lv_topi (fun z26 ez26 => ?_)
  obtain rfl : z26 = (qI S13 (qO S13 0 49) a18.toInt.toNat) := ez26
  obtain ⟨hv27, h⟩ := h
  refine va_iald hx hb hR.K hR.P 36 1 (hR.atI (hR.w.2.1 _ fin_79).2.1) rfl (k_ixN (k_ix (n := 1297) (x := (qI S13 (qO S13 0 49) a18.toInt.toNat)) (a := (qI S13 (qO S13 0 49) a18.toInt.toNat).toInt) rfl hv27) (hR.w.2.1 _ fin_79).2.2) dX14_outSwitch_48 ?_
  refine lv_topi (fun z28 ez28 => ?_)
  obtain rfl : z28 = (qI S13 36 (((qI S13 (qO S13 0 49) a18.toInt.toNat).toInt).toNat)) := ez28
  refine lv_iload_n hx hb dX14_outSwitch_49 rfl (lv_at hl 4 rfl) ?_
  refine lv_isub hx hb dX14_outSwitch_50 ?_
  refine lv_topi (fun z29 ez29 => ?_)
  obtain rfl : z29 = ((qI S13 36 (((qI S13 (qO S13 0 49) a18.toInt.toNat).toInt).toNat)) - x2) := ez29
  refine lv_i2l (v := (((qI S13 36 (((qI S13 (qO S13 0 49) a18.toInt.toNat).toInt).toNat)) - x2).toInt64)) hx hb dX14_outSwitch_51 rfl ?_
  refine lv_iconst (v := 4) hx hb dX14_outSwitch_52 (by decide) ?_
  obtain ⟨Q30, h0, h⟩ := h
  have hFc := rfree hR hA
  refine va_callv (va_runV (As := [.long (((qI S13 36 (((qI S13 (qO S13 0 49) a18.toInt.toNat).toInt).toNat)) - x2).toInt64), .int 4]) (rest := []) ⟨hx, hb, hml, hown, hts⟩ (r_out l g ad H.size S13 (((qI S13 36 (((qI S13 (qO S13 0 49) a18.toInt.toNat).toInt).toNat)) - x2).toInt64) (4 : Int32) hR.w  Q30 h0) (cwV 2 hts (gd2_V kx_586 kx_587 kx_588 kx_177 kx_589) rfl rfl rfl (by decide +kernel) ⟨Nat.le_of_ble_eq_true rfl, Nat.le_of_ble_eq_true rfl⟩) ⟨rblind, va_recv hR.K hR.P (ci := 13) (q0 := 0) rfl (hR.at14 hR.w.1), fun U hU hW9 => rmk hU hW9 hR hex hE hFc⟩ rfl rfl hl.1 rfl (lv_room (Nat.le_of_ble_eq_true rfl)) dX14_outSwitch_53 ⟨Nat.le_of_ble_eq_true rfl, Nat.le_of_ble_eq_true rfl⟩) hR.sS (fun q _ h => hFc q h) hFc (fun  S31 t9 H1 locs ht9 hvm9 hw9 hB9 hz9 hk9 hS => ?_)
  obtain ⟨hq32, hw9, hs9⟩ := hw9
  have hR : Rep g ad A s S31 H1 locs := hR.call ht9 hB9 hw9 hS hFc
  have hsh := hsh.tr hs9
  replace h := h  S31 hq32
  clear hB9 hz9 hk9 hvm9 ht9 hw9 hs9 hS
  generalize H1 = H at hR ⊢
  refine lv_aload_n hx hb dX14_outSwitch_56 rfl (lv_at hl 2 rfl) ?_
  refine lv_iload_n hx hb dX14_outSwitch_57 rfl (lv_at hl 3 rfl) ?_
  obtain ⟨hv33, h⟩ := h
  have hFc := rfree hR hA
  refine va_calli (va_runV (As := [.int x1]) (rest := []) ⟨hx, hb, hml, hown, hts⟩ (r_op l g ad H.size S31 x1 hR.w  hv33) (cwV 1 hts (gd2_V kx_379 kx_380 kx_381 kx_177 kx_382) rfl rfl rfl (by decide +kernel) ⟨Nat.le_of_ble_eq_true rfl, Nat.le_of_ble_eq_true rfl⟩) ⟨rblind, va_recv hR.K hR.P (ci := 13) (q0 := 0) rfl (hR.at14 hR.w.1), fun U hU hW9 => rmk hU hW9 hR hex hE hFc⟩ rfl rfl hl.1 rfl (lv_room (Nat.le_of_ble_eq_true rfl)) dX14_outSwitch_58 ⟨Nat.le_of_ble_eq_true rfl, Nat.le_of_ble_eq_true rfl⟩) hR.sS (fun q _ h => hFc q h) hFc (fun r34 u9 t9 H1 locs ht9 hvm9 hw9 hB9 hz9 hk9 hS => ?_)
  have hR : Rep g ad A s S31 H1 locs := hR.call ht9 hB9 hR.w hS hFc
  obtain rfl : r34 = (f_op S31 x1) := hw9
  clear hB9 hz9 hk9 hvm9 ht9 hS
  generalize H1 = H at hR ⊢
  refine lv_sipush (v := 170) hx hb dX14_outSwitch_61 (by decide) ?_
  have J_111 : ∀ (U111 : MS) (v111_1 : Int32) (v111_2 : Int32) (v111_3 : Int32) (v111_4 : Int32) (H : Heap) (locs : List Loc) (ls : Array Slot), w_outSwitch_J111 Q U111 v111_1 v111_2 v111_3 v111_4 → shy S U111 → Rep g ad A s U111 H locs → lv_has ls 6 [(0, .ref (ad 0)), (1, .int v111_1), (2, .int v111_2), (3, .int v111_3), (4, .int v111_4)] → W p l e (headSpec (wt2 yX14_outSwitch cX14_outSwitch 6 none) ({ frames := 1, cells := 0, slots := 0, locals := 24 })).room s m ([.ref (ad 0), .int x1, .int x2] : List Value).toArray below meth c H locs 0 0 (MQ below (va_Qv (fun (u : MS) => Q u ∧ wfM u ∧ shy S u) (fun (u : MS) (t : State) => qE g ad A u t) A) ([.ref (ad 0), .int x1, .int x2] : List Value).toArray s 0 0 A) (F0 m 111 ls []) := by
    intro U111 v111_1 v111_2 v111_3 v111_4 H locs ls h hsh hR hl
    unfold w_outSwitch_J111 at h
    refine lv_iconst (v := 0) hx hb dX14_outSwitch_111 (by decide) ?_
    refine lv_istore (lv' := [(5, .int 0), (0, .ref (ad 0)), (1, .int v111_1), (2, .int v111_2), (3, .int v111_3), (4, .int v111_4)]) hx hb dX14_outSwitch_112 hl (by decide) rfl (fun ls hl => ?_)
    have J_114 : ∀ (n114 : Nat) (U114 : MS) (v114_1 : Int32) (v114_2 : Int32) (v114_3 : Int32) (v114_4 : Int32) (v114_5 : Int32) (H : Heap) (locs : List Loc) (ls : Array Slot), w_outSwitch_L114 Q n114 U114 v114_1 v114_2 v114_3 v114_4 v114_5 → shy S U114 → Rep g ad A s U114 H locs → lv_has ls 6 [(0, .ref (ad 0)), (1, .int v114_1), (2, .int v114_2), (3, .int v114_3), (4, .int v114_4), (5, .int v114_5)] → W p l e (headSpec (wt2 yX14_outSwitch cX14_outSwitch 6 none) ({ frames := 1, cells := 0, slots := 0, locals := 24 })).room s m ([.ref (ad 0), .int x1, .int x2] : List Value).toArray below meth c H locs 0 0 (MQ below (va_Qv (fun (u : MS) => Q u ∧ wfM u ∧ shy S u) (fun (u : MS) (t : State) => qE g ad A u t) A) ([.ref (ad 0), .int x1, .int x2] : List Value).toArray s 0 0 A) (F0 m 114 ls []) := by
      intro n114
      induction n114 with
      | zero => intro U114 v114_1 v114_2 v114_3 v114_4 v114_5 H locs ls h hsh hR hl; unfold w_outSwitch_L114 at h; exact h.elim
      | succ n114 ih_114 =>
        intro U114 v114_1 v114_2 v114_3 v114_4 v114_5 H locs ls h hsh hR hl
        unfold w_outSwitch_L114 at h
        refine lv_iload hx hb dX14_outSwitch_114 (lv_at hl 5 rfl) ?_
        refine lv_iload hx hb dX14_outSwitch_116 (lv_at hl 4 rfl) ?_
        refine lv_icmp_ge (tgt := 183) hx hb dX14_outSwitch_118 (by decide) (fun c36 => ?_) (fun c36 => ?_)
        · replace h := h.1 (k_le rfl rfl c36)
          exact W.vret hx hb hr (fun t9 ht9 hW9 => ⟨⟨U114, rfl, ⟨h, hR.w, hsh⟩, ⟨by rw [ht9]; exact hR.P, hR.D⟩⟩, hR.sS.F ht9⟩) hR.sS.2.2 dX14_outSwitch_183
        · replace h := h.2 (k_nle rfl rfl c36)
          refine lv_aload_n hx hb dX14_outSwitch_121 rfl (lv_at hl 0 rfl) ?_
          refine lv_iload_n hx hb dX14_outSwitch_122 rfl (lv_at hl 1 rfl) ?_
          obtain ⟨hv37, h⟩ := h
          have hFc := rfree hR hA
          refine va_calli (va_runV (As := [.int v114_1]) (rest := []) ⟨hx, hb, hml, hown, hts⟩ (r_op l g ad H.size U114 v114_1 hR.w  hv37) (cwV 1 hts (gd2_V kx_379 kx_380 kx_381 kx_177 kx_382) rfl rfl rfl (by decide +kernel) ⟨Nat.le_of_ble_eq_true rfl, Nat.le_of_ble_eq_true rfl⟩) ⟨rblind, va_recv hR.K hR.P (ci := 13) (q0 := 0) rfl (hR.at14 hR.w.1), fun U hU hW9 => rmk hU hW9 hR hex hE hFc⟩ rfl rfl hl.1 rfl (lv_room (Nat.le_of_ble_eq_true rfl)) dX14_outSwitch_123 ⟨Nat.le_of_ble_eq_true rfl, Nat.le_of_ble_eq_true rfl⟩) hR.sS (fun q _ h => hFc q h) hFc (fun r38 u9 t9 H1 locs ht9 hvm9 hw9 hB9 hz9 hk9 hS => ?_)
          have hR : Rep g ad A s U114 H1 locs := hR.call ht9 hB9 hR.w hS hFc
          obtain rfl : r38 = (f_op U114 v114_1) := hw9
          clear hB9 hz9 hk9 hvm9 ht9 hS
          generalize H1 = H at hR ⊢
          refine lv_sipush (v := 171) hx hb dX14_outSwitch_126 (by decide) ?_
          have J_151 : ∀ (U151 : MS) (v151_1 : Int32) (v151_2 : Int32) (v151_3 : Int32) (v151_4 : Int32) (v151_5 : Int32) (H : Heap) (locs : List Loc) (ls : Array Slot), w_outSwitch_J151 Q (w_outSwitch_L114 Q n114) U151 v151_1 v151_2 v151_3 v151_4 v151_5 → shy S U151 → Rep g ad A s U151 H locs → lv_has ls 6 [(0, .ref (ad 0)), (1, .int v151_1), (2, .int v151_2), (3, .int v151_3), (4, .int v151_4), (5, .int v151_5)] → W p l e (headSpec (wt2 yX14_outSwitch cX14_outSwitch 6 none) ({ frames := 1, cells := 0, slots := 0, locals := 24 })).room s m ([.ref (ad 0), .int x1, .int x2] : List Value).toArray below meth c H locs 0 0 (MQ below (va_Qv (fun (u : MS) => Q u ∧ wfM u ∧ shy S u) (fun (u : MS) (t : State) => qE g ad A u t) A) ([.ref (ad 0), .int x1, .int x2] : List Value).toArray s 0 0 A) (F0 m 151 ls []) := by
            intro U151 v151_1 v151_2 v151_3 v151_4 v151_5 H locs ls h hsh hR hl
            unfold w_outSwitch_J151 at h
            refine lv_aload_n hx hb dX14_outSwitch_151 rfl (lv_at hl 0 rfl) ?_
            refine lv_aload_n hx hb dX14_outSwitch_152 rfl (lv_at hl 0 rfl) ?_
            refine va_get (D := rD g) (ci := 13) (v := .ref (ad 36)) (C := RX14) (T := TX14) (N := 143) hx hb hts in2X14 hown hR.K hR.P 0 (hR.at14 hR.w.1) rfl 79 (by decide) (hts _ kx_584) (fun _ h9 => h9) (congrArg (fun z => some (vf ad z)) (hR.w.2.1 _ fin_79).1) dX14_outSwitch_153 ?_
            refine lv_aload_n hx hb dX14_outSwitch_156 rfl (lv_at hl 0 rfl) ?_
            obtain ⟨hv40, h⟩ := h
            have hT_b41 : qT U151 (qO U151 0 49) = 2 := hR.w.ref hv40 hR.w.1
            refine va_get (D := rD g) (ci := 13) (v := .ref (ad (qO U151 0 49))) (C := RX14) (T := TX14) (N := 143) hx hb hts in2X14 hown hR.K hR.P 0 (hR.at14 hR.w.1) rfl 49 (by decide) (hts _ kx_365) (fun _ h9 => h9) (congrArg (fun z => some (vf ad z)) hv40) dX14_outSwitch_157 ?_
            refine lv_iload_n hx hb dX14_outSwitch_160 rfl (lv_at hl 3 rfl) ?_
            refine lv_iconst (v := 2) hx hb dX14_outSwitch_161 (by decide) ?_
            refine lv_iadd hx hb dX14_outSwitch_162 ?_
            refine lv_topi (fun z42 ez42 => ?_)
            obtain rfl : z42 = (v151_3 + (2 : Int32)) := ez42
            refine lv_iconst (v := 2) hx hb dX14_outSwitch_163 (by decide) ?_
            refine lv_iload hx hb dX14_outSwitch_164 (lv_at hl 5 rfl) ?_
            refine lv_imul hx hb dX14_outSwitch_166 ?_
            refine lv_topi (fun z43 ez43 => ?_)
            obtain rfl : z43 = ((2 : Int32) * v151_5) := ez43
            refine lv_iadd hx hb dX14_outSwitch_167 ?_
            refine lv_topi (fun z44 ez44 => ?_)
            obtain rfl : z44 = ((v151_3 + (2 : Int32)) + ((2 : Int32) * v151_5)) := ez44
            obtain ⟨hv45, h⟩ := h
            refine va_iald hx hb hR.K hR.P (qO U151 0 49) 1 (hR.atI hT_b41) rfl (k_ix (x := ((v151_3 + (2 : Int32)) + ((2 : Int32) * v151_5))) (a := ((v151_3 + (2 : Int32)) + ((2 : Int32) * v151_5)).toInt) rfl hv45) dX14_outSwitch_168 ?_
            refine lv_topi (fun z46 ez46 => ?_)
            obtain rfl : z46 = (qI U151 (qO U151 0 49) ((((v151_3 + (2 : Int32)) + ((2 : Int32) * v151_5)).toInt).toNat)) := ez46
            obtain ⟨hv47, h⟩ := h
            refine va_iald hx hb hR.K hR.P 36 1 (hR.atI (hR.w.2.1 _ fin_79).2.1) rfl (k_ixN (k_ix (n := 1297) (x := (qI U151 (qO U151 0 49) ((((v151_3 + (2 : Int32)) + ((2 : Int32) * v151_5)).toInt).toNat))) (a := (qI U151 (qO U151 0 49) ((((v151_3 + (2 : Int32)) + ((2 : Int32) * v151_5)).toInt).toNat)).toInt) rfl hv47) (hR.w.2.1 _ fin_79).2.2) dX14_outSwitch_169 ?_
            refine lv_topi (fun z48 ez48 => ?_)
            obtain rfl : z48 = (qI U151 36 (((qI U151 (qO U151 0 49) ((((v151_3 + (2 : Int32)) + ((2 : Int32) * v151_5)).toInt).toNat)).toInt).toNat)) := ez48
            refine lv_iload_n hx hb dX14_outSwitch_170 rfl (lv_at hl 2 rfl) ?_
            refine lv_isub hx hb dX14_outSwitch_171 ?_
            refine lv_topi (fun z49 ez49 => ?_)
            obtain rfl : z49 = ((qI U151 36 (((qI U151 (qO U151 0 49) ((((v151_3 + (2 : Int32)) + ((2 : Int32) * v151_5)).toInt).toNat)).toInt).toNat)) - v151_2) := ez49
            refine lv_i2l (v := (((qI U151 36 (((qI U151 (qO U151 0 49) ((((v151_3 + (2 : Int32)) + ((2 : Int32) * v151_5)).toInt).toNat)).toInt).toNat)) - v151_2).toInt64)) hx hb dX14_outSwitch_172 rfl ?_
            refine lv_iconst (v := 4) hx hb dX14_outSwitch_173 (by decide) ?_
            obtain ⟨Q50, h0, h⟩ := h
            have hFc := rfree hR hA
            refine va_callv (va_runV (As := [.long (((qI U151 36 (((qI U151 (qO U151 0 49) ((((v151_3 + (2 : Int32)) + ((2 : Int32) * v151_5)).toInt).toNat)).toInt).toNat)) - v151_2).toInt64), .int 4]) (rest := []) ⟨hx, hb, hml, hown, hts⟩ (r_out l g ad H.size U151 (((qI U151 36 (((qI U151 (qO U151 0 49) ((((v151_3 + (2 : Int32)) + ((2 : Int32) * v151_5)).toInt).toNat)).toInt).toNat)) - v151_2).toInt64) (4 : Int32) hR.w  Q50 h0) (cwV 2 hts (gd2_V kx_586 kx_587 kx_588 kx_177 kx_589) rfl rfl rfl (by decide +kernel) ⟨Nat.le_of_ble_eq_true rfl, Nat.le_of_ble_eq_true rfl⟩) ⟨rblind, va_recv hR.K hR.P (ci := 13) (q0 := 0) rfl (hR.at14 hR.w.1), fun U hU hW9 => rmk hU hW9 hR hex hE hFc⟩ rfl rfl hl.1 rfl (lv_room (Nat.le_of_ble_eq_true rfl)) dX14_outSwitch_174 ⟨Nat.le_of_ble_eq_true rfl, Nat.le_of_ble_eq_true rfl⟩) hR.sS (fun q _ h => hFc q h) hFc (fun  S51 t9 H1 locs ht9 hvm9 hw9 hB9 hz9 hk9 hS => ?_)
            obtain ⟨hq52, hw9, hs9⟩ := hw9
            have hR : Rep g ad A s S51 H1 locs := hR.call ht9 hB9 hw9 hS hFc
            have hsh := hsh.tr hs9
            replace h := h  S51 hq52
            clear hB9 hz9 hk9 hvm9 ht9 hw9 hs9 hS
            generalize H1 = H at hR ⊢
            obtain ⟨a53, ea53⟩ : ∃ z, z = (v151_5 + Int32.ofInt 1) := ⟨_, rfl⟩
            replace h := h a53 ea53
            refine lv_iinc (v := a53) (lv' := [(5, .int a53), (0, .ref (ad 0)), (1, .int v151_1), (2, .int v151_2), (3, .int v151_3), (4, .int v151_4)]) hx hb dX14_outSwitch_177 hl (k := 5) rfl ea53.symm (by decide) rfl (fun ls hl => ?_)
            refine lv_goto (tgt := 114) hx hb dX14_outSwitch_180 (by decide) ?_
            exact ih_114 S51 v151_1 v151_2 v151_3 v151_4 a53 _ _ ls h  hsh hR (lv_sub hl [1, 2, 3, 4, 5, 0] rfl)
          refine lv_icmp_ne (tgt := 151) hx hb dX14_outSwitch_129 (by decide) (fun c54 => ?_) (fun c54 => ?_)
          · replace h := h.2 (k_ne rfl (by decide) c54)
            exact J_151 U114 v114_1 v114_2 v114_3 v114_4 v114_5 _ _ ls h  hsh hR (lv_sub hl [0, 1, 2, 3, 4, 5] rfl)
          · replace h := h.1 (k_eq rfl (by decide) c54)
            refine lv_aload_n hx hb dX14_outSwitch_132 rfl (lv_at hl 0 rfl) ?_
            refine lv_aload_n hx hb dX14_outSwitch_133 rfl (lv_at hl 0 rfl) ?_
            obtain ⟨hv55, h⟩ := h
            have hT_b56 : qT U114 (qO U114 0 49) = 2 := hR.w.ref hv55 hR.w.1
            refine va_get (D := rD g) (ci := 13) (v := .ref (ad (qO U114 0 49))) (C := RX14) (T := TX14) (N := 143) hx hb hts in2X14 hown hR.K hR.P 0 (hR.at14 hR.w.1) rfl 49 (by decide) (hts _ kx_365) (fun _ h9 => h9) (congrArg (fun z => some (vf ad z)) hv55) dX14_outSwitch_134 ?_
            refine lv_iload_n hx hb dX14_outSwitch_137 rfl (lv_at hl 3 rfl) ?_
            refine lv_iconst (v := 1) hx hb dX14_outSwitch_138 (by decide) ?_
            refine lv_iadd hx hb dX14_outSwitch_139 ?_
            refine lv_topi (fun z57 ez57 => ?_)
            obtain rfl : z57 = (v114_3 + (1 : Int32)) := ez57
            refine lv_iconst (v := 2) hx hb dX14_outSwitch_140 (by decide) ?_
            refine lv_iload hx hb dX14_outSwitch_141 (lv_at hl 5 rfl) ?_
            refine lv_imul hx hb dX14_outSwitch_143 ?_
            refine lv_topi (fun z58 ez58 => ?_)
            obtain rfl : z58 = ((2 : Int32) * v114_5) := ez58
            refine lv_iadd hx hb dX14_outSwitch_144 ?_
            refine lv_topi (fun z59 ez59 => ?_)
            obtain rfl : z59 = ((v114_3 + (1 : Int32)) + ((2 : Int32) * v114_5)) := ez59
            obtain ⟨hv60, h⟩ := h
            refine va_iald hx hb hR.K hR.P (qO U114 0 49) 1 (hR.atI hT_b56) rfl (k_ix (x := ((v114_3 + (1 : Int32)) + ((2 : Int32) * v114_5))) (a := ((v114_3 + (1 : Int32)) + ((2 : Int32) * v114_5)).toInt) rfl hv60) dX14_outSwitch_145 ?_
            refine lv_topi (fun z61 ez61 => ?_)
            obtain rfl : z61 = (qI U114 (qO U114 0 49) ((((v114_3 + (1 : Int32)) + ((2 : Int32) * v114_5)).toInt).toNat)) := ez61
            refine lv_i2l (v := ((qI U114 (qO U114 0 49) ((((v114_3 + (1 : Int32)) + ((2 : Int32) * v114_5)).toInt).toNat)).toInt64)) hx hb dX14_outSwitch_146 rfl ?_
            refine lv_iconst (v := 4) hx hb dX14_outSwitch_147 (by decide) ?_
            obtain ⟨Q62, h0, h⟩ := h
            have hFc := rfree hR hA
            refine va_callv (va_runV (As := [.long ((qI U114 (qO U114 0 49) ((((v114_3 + (1 : Int32)) + ((2 : Int32) * v114_5)).toInt).toNat)).toInt64), .int 4]) (rest := []) ⟨hx, hb, hml, hown, hts⟩ (r_out l g ad H.size U114 ((qI U114 (qO U114 0 49) ((((v114_3 + (1 : Int32)) + ((2 : Int32) * v114_5)).toInt).toNat)).toInt64) (4 : Int32) hR.w  Q62 h0) (cwV 2 hts (gd2_V kx_586 kx_587 kx_588 kx_177 kx_589) rfl rfl rfl (by decide +kernel) ⟨Nat.le_of_ble_eq_true rfl, Nat.le_of_ble_eq_true rfl⟩) ⟨rblind, va_recv hR.K hR.P (ci := 13) (q0 := 0) rfl (hR.at14 hR.w.1), fun U hU hW9 => rmk hU hW9 hR hex hE hFc⟩ rfl rfl hl.1 rfl (lv_room (Nat.le_of_ble_eq_true rfl)) dX14_outSwitch_148 ⟨Nat.le_of_ble_eq_true rfl, Nat.le_of_ble_eq_true rfl⟩) hR.sS (fun q _ h => hFc q h) hFc (fun  S63 t9 H1 locs ht9 hvm9 hw9 hB9 hz9 hk9 hS => ?_)
            obtain ⟨hq64, hw9, hs9⟩ := hw9
            have hR : Rep g ad A s S63 H1 locs := hR.call ht9 hB9 hw9 hS hFc
            have hsh := hsh.tr hs9
            replace h := h  S63 hq64
            clear hB9 hz9 hk9 hvm9 ht9 hw9 hs9 hS
            generalize H1 = H at hR ⊢
            exact J_151 S63 v114_1 v114_2 v114_3 v114_4 v114_5 _ _ ls h  hsh hR (lv_sub hl [0, 1, 2, 3, 4, 5] rfl)
    obtain ⟨n9, h⟩ := h
    exact J_114 n9 U111 v111_1 v111_2 v111_3 v111_4 0 _ _ ls h  hsh hR (lv_sub hl [1, 2, 3, 4, 5, 0] rfl)
  refine lv_icmp_ne (tgt := 103) hx hb dX14_outSwitch_64 (by decide) (fun c65 => ?_) (fun c65 => ?_)
  · replace h := h.2 (k_ne rfl (by decide) c65)
    refine lv_aload_n hx hb dX14_outSwitch_103 rfl (lv_at hl 2 rfl) ?_
    refine lv_iload hx hb dX14_outSwitch_104 (lv_at hl 0 rfl) ?_
    refine lv_i2l (v := (a22.toInt64)) hx hb dX14_outSwitch_106 rfl ?_
    refine lv_iconst (v := 4) hx hb dX14_outSwitch_107 (by decide) ?_
    obtain ⟨Q66, h0, h⟩ := h
    have hFc := rfree hR hA
    refine va_callv (va_runV (As := [.long (a22.toInt64), .int 4]) (rest := []) ⟨hx, hb, hml, hown, hts⟩ (r_out l g ad H.size S31 (a22.toInt64) (4 : Int32) hR.w  Q66 h0) (cwV 2 hts (gd2_V kx_586 kx_587 kx_588 kx_177 kx_589) rfl rfl rfl (by decide +kernel) ⟨Nat.le_of_ble_eq_true rfl, Nat.le_of_ble_eq_true rfl⟩) ⟨rblind, va_recv hR.K hR.P (ci := 13) (q0 := 0) rfl (hR.at14 hR.w.1), fun U hU hW9 => rmk hU hW9 hR hex hE hFc⟩ rfl rfl hl.1 rfl (lv_room (Nat.le_of_ble_eq_true rfl)) dX14_outSwitch_108 ⟨Nat.le_of_ble_eq_true rfl, Nat.le_of_ble_eq_true rfl⟩) hR.sS (fun q _ h => hFc q h) hFc (fun  S67 t9 H1 locs ht9 hvm9 hw9 hB9 hz9 hk9 hS => ?_)
    obtain ⟨hq68, hw9, hs9⟩ := hw9
    have hR : Rep g ad A s S67 H1 locs := hR.call ht9 hB9 hw9 hS hFc
    have hsh := hsh.tr hs9
    replace h := h  S67 hq68
    clear hB9 hz9 hk9 hvm9 ht9 hw9 hs9 hS
    generalize H1 = H at hR ⊢
    exact J_111 S67 x1 x2 a18 a22 _ _ ls h  hsh hR (lv_sub hl [2, 3, 4, 1, 0] rfl)
  · replace h := h.1 (k_eq rfl (by decide) c65)
    refine lv_aload_n hx hb dX14_outSwitch_67 rfl (lv_at hl 2 rfl) ?_
    refine lv_aload_n hx hb dX14_outSwitch_68 rfl (lv_at hl 2 rfl) ?_
    obtain ⟨hv69, h⟩ := h
    have hT_b70 : qT S31 (qO S31 0 49) = 2 := hR.w.ref hv69 hR.w.1
    refine va_get (D := rD g) (ci := 13) (v := .ref (ad (qO S31 0 49))) (C := RX14) (T := TX14) (N := 143) hx hb hts in2X14 hown hR.K hR.P 0 (hR.at14 hR.w.1) rfl 49 (by decide) (hts _ kx_365) (fun _ h9 => h9) (congrArg (fun z => some (vf ad z)) hv69) dX14_outSwitch_69 ?_
    refine lv_iload_n hx hb dX14_outSwitch_72 rfl (lv_at hl 1 rfl) ?_
    refine lv_iconst (v := 1) hx hb dX14_outSwitch_73 (by decide) ?_
    refine lv_iadd hx hb dX14_outSwitch_74 ?_
    refine lv_topi (fun z71 ez71 => ?_)
    obtain rfl : z71 = (a18 + (1 : Int32)) := ez71
    obtain ⟨hv72, h⟩ := h
    refine va_iald hx hb hR.K hR.P (qO S31 0 49) 1 (hR.atI hT_b70) rfl (k_ix (x := (a18 + (1 : Int32))) (a := (a18 + (1 : Int32)).toInt) rfl hv72) dX14_outSwitch_75 ?_
    refine lv_topi (fun z73 ez73 => ?_)
    obtain rfl : z73 = (qI S31 (qO S31 0 49) (((a18 + (1 : Int32)).toInt).toNat)) := ez73
    refine lv_i2l (v := ((qI S31 (qO S31 0 49) (((a18 + (1 : Int32)).toInt).toNat)).toInt64)) hx hb dX14_outSwitch_76 rfl ?_
    refine lv_iconst (v := 4) hx hb dX14_outSwitch_77 (by decide) ?_
    obtain ⟨Q74, h0, h⟩ := h
    have hFc := rfree hR hA
    refine va_callv (va_runV (As := [.long ((qI S31 (qO S31 0 49) (((a18 + (1 : Int32)).toInt).toNat)).toInt64), .int 4]) (rest := []) ⟨hx, hb, hml, hown, hts⟩ (r_out l g ad H.size S31 ((qI S31 (qO S31 0 49) (((a18 + (1 : Int32)).toInt).toNat)).toInt64) (4 : Int32) hR.w  Q74 h0) (cwV 2 hts (gd2_V kx_586 kx_587 kx_588 kx_177 kx_589) rfl rfl rfl (by decide +kernel) ⟨Nat.le_of_ble_eq_true rfl, Nat.le_of_ble_eq_true rfl⟩) ⟨rblind, va_recv hR.K hR.P (ci := 13) (q0 := 0) rfl (hR.at14 hR.w.1), fun U hU hW9 => rmk hU hW9 hR hex hE hFc⟩ rfl rfl hl.1 rfl (lv_room (Nat.le_of_ble_eq_true rfl)) dX14_outSwitch_78 ⟨Nat.le_of_ble_eq_true rfl, Nat.le_of_ble_eq_true rfl⟩) hR.sS (fun q _ h => hFc q h) hFc (fun  S75 t9 H1 locs ht9 hvm9 hw9 hB9 hz9 hk9 hS => ?_)
    obtain ⟨hq76, hw9, hs9⟩ := hw9
    have hR : Rep g ad A s S75 H1 locs := hR.call ht9 hB9 hw9 hS hFc
    have hsh := hsh.tr hs9
    replace h := h  S75 hq76
    clear hB9 hz9 hk9 hvm9 ht9 hw9 hs9 hS
    generalize H1 = H at hR ⊢
    refine lv_aload_n hx hb dX14_outSwitch_81 rfl (lv_at hl 2 rfl) ?_
    refine lv_aload_n hx hb dX14_outSwitch_82 rfl (lv_at hl 2 rfl) ?_
    obtain ⟨hv77, h⟩ := h
    have hT_b78 : qT S75 (qO S75 0 49) = 2 := hR.w.ref hv77 hR.w.1
    refine va_get (D := rD g) (ci := 13) (v := .ref (ad (qO S75 0 49))) (C := RX14) (T := TX14) (N := 143) hx hb hts in2X14 hown hR.K hR.P 0 (hR.at14 hR.w.1) rfl 49 (by decide) (hts _ kx_365) (fun _ h9 => h9) (congrArg (fun z => some (vf ad z)) hv77) dX14_outSwitch_83 ?_
    refine lv_iload_n hx hb dX14_outSwitch_86 rfl (lv_at hl 1 rfl) ?_
    refine lv_iconst (v := 1) hx hb dX14_outSwitch_87 (by decide) ?_
    refine lv_iadd hx hb dX14_outSwitch_88 ?_
    refine lv_topi (fun z79 ez79 => ?_)
    obtain rfl : z79 = (a18 + (1 : Int32)) := ez79
    obtain ⟨hv80, h⟩ := h
    refine va_iald hx hb hR.K hR.P (qO S75 0 49) 1 (hR.atI hT_b78) rfl (k_ix (x := (a18 + (1 : Int32))) (a := (a18 + (1 : Int32)).toInt) rfl hv80) dX14_outSwitch_89 ?_
    refine lv_topi (fun z81 ez81 => ?_)
    obtain rfl : z81 = (qI S75 (qO S75 0 49) (((a18 + (1 : Int32)).toInt).toNat)) := ez81
    refine lv_iload hx hb dX14_outSwitch_90 (lv_at hl 0 rfl) ?_
    refine lv_iadd hx hb dX14_outSwitch_92 ?_
    refine lv_topi (fun z82 ez82 => ?_)
    obtain rfl : z82 = ((qI S75 (qO S75 0 49) (((a18 + (1 : Int32)).toInt).toNat)) + a22) := ez82
    refine lv_iconst (v := 1) hx hb dX14_outSwitch_93 (by decide) ?_
    refine lv_isub hx hb dX14_outSwitch_94 ?_
    refine lv_topi (fun z83 ez83 => ?_)
    obtain rfl : z83 = (((qI S75 (qO S75 0 49) (((a18 + (1 : Int32)).toInt).toNat)) + a22) - (1 : Int32)) := ez83
    refine lv_i2l (v := ((((qI S75 (qO S75 0 49) (((a18 + (1 : Int32)).toInt).toNat)) + a22) - (1 : Int32)).toInt64)) hx hb dX14_outSwitch_95 rfl ?_
    refine lv_iconst (v := 4) hx hb dX14_outSwitch_96 (by decide) ?_
    obtain ⟨Q84, h0, h⟩ := h
    have hFc := rfree hR hA
    refine va_callv (va_runV (As := [.long ((((qI S75 (qO S75 0 49) (((a18 + (1 : Int32)).toInt).toNat)) + a22) - (1 : Int32)).toInt64), .int 4]) (rest := []) ⟨hx, hb, hml, hown, hts⟩ (r_out l g ad H.size S75 ((((qI S75 (qO S75 0 49) (((a18 + (1 : Int32)).toInt).toNat)) + a22) - (1 : Int32)).toInt64) (4 : Int32) hR.w  Q84 h0) (cwV 2 hts (gd2_V kx_586 kx_587 kx_588 kx_177 kx_589) rfl rfl rfl (by decide +kernel) ⟨Nat.le_of_ble_eq_true rfl, Nat.le_of_ble_eq_true rfl⟩) ⟨rblind, va_recv hR.K hR.P (ci := 13) (q0 := 0) rfl (hR.at14 hR.w.1), fun U hU hW9 => rmk hU hW9 hR hex hE hFc⟩ rfl rfl hl.1 rfl (lv_room (Nat.le_of_ble_eq_true rfl)) dX14_outSwitch_97 ⟨Nat.le_of_ble_eq_true rfl, Nat.le_of_ble_eq_true rfl⟩) hR.sS (fun q _ h => hFc q h) hFc (fun  S85 t9 H1 locs ht9 hvm9 hw9 hB9 hz9 hk9 hS => ?_)
    obtain ⟨hq86, hw9, hs9⟩ := hw9
    have hR : Rep g ad A s S85 H1 locs := hR.call ht9 hB9 hw9 hS hFc
    have hsh := hsh.tr hs9
    replace h := h  S85 hq86
    clear hB9 hz9 hk9 hvm9 ht9 hw9 hs9 hS
    generalize H1 = H at hR ⊢
    refine lv_goto (tgt := 111) hx hb dX14_outSwitch_100 (by decide) ?_
    exact J_111 S85 x1 x2 a18 a22 _ _ ls h  hsh hR (lv_sub hl [2, 3, 4, 1, 0] rfl)
def w_leastStack_J43 (Q : Int32 → MS → Prop) (k10 : MS → Int32 → Int32 → Prop) (U43 : MS) (v43_1 : Int32) (v43_2 : Int32) : Prop := (∀ a9 : Int32, a9 = (v43_2 + Int32.ofInt 1) → k10 U43 v43_1 a9)
def w_leastStack_L10 (Q : Int32 → MS → Prop) : Nat → MS → Int32 → Int32 → Prop
  | 0, _, _, _ => False
  | n10 + 1, U10, v10_1, v10_2 => (((qI U10 0 52).toInt ≤ v10_2.toInt → Q v10_1 U10) ∧ (¬ (qI U10 0 52).toInt ≤ v10_2.toInt → (∃ Q5, w_heightAt U10 v10_2 Q5 ∧ ∀ r6 S7, Q5 r6 S7 → ((r6.toInt < 0 → w_leastStack_J43 Q (w_leastStack_L10 Q n10) S7 v10_1 v10_2) ∧ (¬ r6.toInt < 0 → (∃ Q11, w_heightBehind S7 v10_2 r6 Q11 ∧ ∀ r12 S13, Q11 r12 S13 → (∀ a17 : Int32, a17 = (if v10_1 < (if r6 < r12 then r12 else r6) then (if r6 < r12 then r12 else r6) else v10_1) → w_leastStack_J43 Q (w_leastStack_L10 Q n10) S13 a17 v10_2)))))))
def w_leastStack (S : MS) (Q : Int32 → MS → Prop) : Prop := (∃ Q1, w_findHeights S (28 : Int32) Q1 ∧ ∀ S2, Q1 S2 → (∃ n, w_leastStack_L10 Q n S2 0 0))
set_option maxHeartbeats 2000000 in
set_option maxRecDepth 100000 in
theorem r_leastStack (l : Launch) (g : Gr) (ad : Nat → Nat) (sz : Nat) (S : MS) (hw : wfM S) (Q : Int32 → MS → Prop) (h : w_leastStack S Q) : Met l yX14_leastStack (wt2 yX14_leastStack cX14_leastStack 4 (some .int)) ({ frames := 8, cells := 0, slots := 0, locals := 178 }) (va_Pc [.ref (ad 0)] (st_R g ad sz S)) (va_Qi (fun (r : Int32) (u : MS) => Q r u ∧ wfM u ∧ shy S u) (fun (u : MS) (t : State) => qE g ad (va_A (Wd g ad S) sz) u t) (va_A (Wd g ad S) sz)) 0 0 (va_A (Wd g ad S) sz) := by
  refine Met.ofW (cc := cX14_leastStack) (maxL := 4) (ret := (some .int)) (by decide) rfl ?_
  intro p e s m args below meth c s₁ B hml hv
  obtain ⟨rfl, hsz, hP, hK, hD0, hex, hE⟩ := hv
  have hx := B.exec
  have hb := B.bytes
  have hr := B.returns
  have hts0 := atoms_spec (ws := wt2 yX14_leastStack cX14_leastStack 4 (some .int)) B.pre
  have hts : ∀ w ∈ tb2, w.before _ s = true := fun w h => hts0 w (List.mem_cons_of_mem _ h)
  have hown : s.vm.findClass RX14 = some m.cls := findClass_of_methodNamed B.named
  subst hsz
  have hD := hD0.self (sz := s.heap.size)
  generalize hAe : va_A (Wd g ad S) s.heap.size = A at hD hE ⊢
  have hA : ∀ q : Nat, s.heap.size ≤ q → A q := fun q h => by rw [← hAe]; exact Or.inr h
  have hR : Rep g ad A s S s.heap [] := ⟨hK, hP, hD, va_S.rf, hw⟩
  clear hK hP hD hD0
  have hl := lv_entry ([.ref (ad 0)]) (n := 4) (Nat.le_of_ble_eq_true rfl)
  rw [lg_entry_eq]
  generalize (lg_sl ([.ref (ad 0)]) ++ List.replicate (4 - (lg_sl ([.ref (ad 0)])).length) Slot.unset).toArray = ls at hl ⊢
  have hl : lv_has ls 4 [(0, .ref (ad 0))] := hl
  have hsh : shy S S := shy.rf
  unfold w_leastStack at h
  refine lv_aload_n hx hb dX14_leastStack_0 rfl (lv_at hl 0 rfl) ?_
  refine lv_bipush (v := 28) hx hb dX14_leastStack_1 (by decide) ?_
  obtain ⟨Q1, h0, h⟩ := h
  have hFc := rfree hR hA
  refine va_callv (va_runV (As := [.int 28]) (rest := []) ⟨hx, hb, hml, hown, hts⟩ (r_findHeights l g ad s.heap.size S (28 : Int32) hR.w  Q1 h0) (cwV 1 hts (gd2_V kx_503 kx_504 kx_505 kx_177 kx_506) rfl rfl rfl (by decide +kernel) ⟨Nat.le_of_ble_eq_true rfl, Nat.le_of_ble_eq_true rfl⟩) ⟨rblind, va_recv hR.K hR.P (ci := 13) (q0 := 0) rfl (hR.at14 hR.w.1), fun U hU hW9 => rmk hU hW9 hR hex hE hFc⟩ rfl rfl hl.1 rfl (lv_room (Nat.le_of_ble_eq_true rfl)) dX14_leastStack_3 ⟨Nat.le_of_ble_eq_true rfl, Nat.le_of_ble_eq_true rfl⟩) hR.sS (fun q _ h => hFc q h) hFc (fun  S2 t9 H1 locs ht9 hvm9 hw9 hB9 hz9 hk9 hS => ?_)
  obtain ⟨hq3, hw9, hs9⟩ := hw9
  have hR : Rep g ad A s S2 H1 locs := hR.call ht9 hB9 hw9 hS hFc
  have hsh := hsh.tr hs9
  replace h := h  S2 hq3
  clear hB9 hz9 hk9 hvm9 ht9 hw9 hs9 hS
  generalize H1 = H at hR ⊢
  refine lv_iconst (v := 0) hx hb dX14_leastStack_6 (by decide) ?_
  refine lv_istore_n (lv' := [(1, .int 0), (0, .ref (ad 0))]) hx hb dX14_leastStack_7 rfl hl (by decide) rfl (fun ls hl => ?_)
  refine lv_iconst (v := 0) hx hb dX14_leastStack_8 (by decide) ?_
  refine lv_istore_n (lv' := [(2, .int 0), (1, .int 0), (0, .ref (ad 0))]) hx hb dX14_leastStack_9 rfl hl (by decide) rfl (fun ls hl => ?_)
  have J_10 : ∀ (n10 : Nat) (U10 : MS) (v10_1 : Int32) (v10_2 : Int32) (H : Heap) (locs : List Loc) (ls : Array Slot), w_leastStack_L10 Q n10 U10 v10_1 v10_2 → shy S U10 → Rep g ad A s U10 H locs → lv_has ls 4 [(0, .ref (ad 0)), (1, .int v10_1), (2, .int v10_2)] → W p l e (headSpec (wt2 yX14_leastStack cX14_leastStack 4 (some .int)) ({ frames := 8, cells := 0, slots := 0, locals := 178 })).room s m ([.ref (ad 0)] : List Value).toArray below meth c H locs 0 0 (MQ below (va_Qi (fun (r : Int32) (u : MS) => Q r u ∧ wfM u ∧ shy S u) (fun (u : MS) (t : State) => qE g ad A u t) A) ([.ref (ad 0)] : List Value).toArray s 0 0 A) (F0 m 10 ls []) := by
    intro n10
    induction n10 with
    | zero => intro U10 v10_1 v10_2 H locs ls h hsh hR hl; unfold w_leastStack_L10 at h; exact h.elim
    | succ n10 ih_10 =>
      intro U10 v10_1 v10_2 H locs ls h hsh hR hl
      unfold w_leastStack_L10 at h
      refine lv_iload_n hx hb dX14_leastStack_10 rfl (lv_at hl 2 rfl) ?_
      refine lv_aload_n hx hb dX14_leastStack_11 rfl (lv_at hl 0 rfl) ?_
      refine va_get (D := rD g) (ci := 13) (v := .int (qI U10 0 52)) (C := RX14) (T := TX14) (N := 143) hx hb hts in2X14 hown hR.K hR.P 0 (hR.at14 hR.w.1) rfl 52 (by decide) (hts _ kx_370) (fun _ h9 => h9) rfl dX14_leastStack_12 ?_
      refine lv_icmp_ge (tgt := 49) hx hb dX14_leastStack_15 (by decide) (fun c4 => ?_) (fun c4 => ?_)
      · replace h := h.1 (k_le rfl rfl c4)
        refine lv_iload_n hx hb dX14_leastStack_49 rfl (lv_at hl 1 rfl) ?_
        exact W.iret (v := v10_1) hx hb hr (fun t9 ht9 hW9 => ⟨⟨_, U10, rfl, ⟨h, hR.w, hsh⟩, ⟨by rw [ht9]; exact hR.P, hR.D⟩⟩, hR.sS.F ht9⟩) hR.sS.2.2 dX14_leastStack_50
      · replace h := h.2 (k_nle rfl rfl c4)
        refine lv_aload_n hx hb dX14_leastStack_18 rfl (lv_at hl 0 rfl) ?_
        refine lv_iload_n hx hb dX14_leastStack_19 rfl (lv_at hl 2 rfl) ?_
        obtain ⟨Q5, h0, h⟩ := h
        have hFc := rfree hR hA
        refine va_calli (va_runV (As := [.int v10_2]) (rest := []) ⟨hx, hb, hml, hown, hts⟩ (r_heightAt l g ad H.size U10 v10_2 hR.w  Q5 h0) (cwV 1 hts (gd2_V kx_455 kx_456 kx_457 kx_177 kx_458) rfl rfl rfl (by decide +kernel) ⟨Nat.le_of_ble_eq_true rfl, Nat.le_of_ble_eq_true rfl⟩) ⟨rblind, va_recv hR.K hR.P (ci := 13) (q0 := 0) rfl (hR.at14 hR.w.1), fun U hU hW9 => rmk hU hW9 hR hex hE hFc⟩ rfl rfl hl.1 rfl (lv_room (Nat.le_of_ble_eq_true rfl)) dX14_leastStack_20 ⟨Nat.le_of_ble_eq_true rfl, Nat.le_of_ble_eq_true rfl⟩) hR.sS (fun q _ h => hFc q h) hFc (fun r6 S7 t9 H1 locs ht9 hvm9 hw9 hB9 hz9 hk9 hS => ?_)
        obtain ⟨hq8, hw9, hs9⟩ := hw9
        have hR : Rep g ad A s S7 H1 locs := hR.call ht9 hB9 hw9 hS hFc
        have hsh := hsh.tr hs9
        replace h := h r6 S7 hq8
        clear hB9 hz9 hk9 hvm9 ht9 hw9 hs9 hS
        generalize H1 = H at hR ⊢
        refine lv_istore_n (lv' := [(3, .int r6), (0, .ref (ad 0)), (1, .int v10_1), (2, .int v10_2)]) hx hb dX14_leastStack_23 rfl hl (by decide) rfl (fun ls hl => ?_)
        refine lv_iload_n hx hb dX14_leastStack_24 rfl (lv_at hl 0 rfl) ?_
        have J_43 : ∀ (U43 : MS) (v43_1 : Int32) (v43_2 : Int32) (H : Heap) (locs : List Loc) (ls : Array Slot), w_leastStack_J43 Q (w_leastStack_L10 Q n10) U43 v43_1 v43_2 → shy S U43 → Rep g ad A s U43 H locs → lv_has ls 4 [(0, .ref (ad 0)), (1, .int v43_1), (2, .int v43_2)] → W p l e (headSpec (wt2 yX14_leastStack cX14_leastStack 4 (some .int)) ({ frames := 8, cells := 0, slots := 0, locals := 178 })).room s m ([.ref (ad 0)] : List Value).toArray below meth c H locs 0 0 (MQ below (va_Qi (fun (r : Int32) (u : MS) => Q r u ∧ wfM u ∧ shy S u) (fun (u : MS) (t : State) => qE g ad A u t) A) ([.ref (ad 0)] : List Value).toArray s 0 0 A) (F0 m 43 ls []) := by
          intro U43 v43_1 v43_2 H locs ls h hsh hR hl
          unfold w_leastStack_J43 at h
          obtain ⟨a9, ea9⟩ : ∃ z, z = (v43_2 + Int32.ofInt 1) := ⟨_, rfl⟩
          replace h := h a9 ea9
          refine lv_iinc (v := a9) (lv' := [(2, .int a9), (0, .ref (ad 0)), (1, .int v43_1)]) hx hb dX14_leastStack_43 hl (k := 2) rfl ea9.symm (by decide) rfl (fun ls hl => ?_)
          refine lv_goto (tgt := 10) hx hb dX14_leastStack_46 (by decide) ?_
          exact ih_10 U43 v43_1 a9 _ _ ls h  hsh hR (lv_sub hl [1, 2, 0] rfl)
        refine lv_if_lt (tgt := 43) hx hb dX14_leastStack_25 (by decide) (fun c10 => ?_) (fun c10 => ?_)
        · replace h := h.1 (k_lt rfl (by decide) c10)
          exact J_43 S7 v10_1 v10_2 _ _ ls h  hsh hR (lv_sub hl [1, 2, 3] rfl)
        · replace h := h.2 (k_nlt rfl (by decide) c10)
          refine lv_iload_n hx hb dX14_leastStack_28 rfl (lv_at hl 2 rfl) ?_
          refine lv_iload_n hx hb dX14_leastStack_29 rfl (lv_at hl 0 rfl) ?_
          refine lv_aload_n hx hb dX14_leastStack_30 rfl (lv_at hl 1 rfl) ?_
          refine lv_iload_n hx hb dX14_leastStack_31 rfl (lv_at hl 3 rfl) ?_
          refine lv_iload_n hx hb dX14_leastStack_32 rfl (lv_at hl 0 rfl) ?_
          obtain ⟨Q11, h0, h⟩ := h
          have hFc := rfree hR hA
          refine va_calli (va_runV (As := [.int v10_2, .int r6]) (rest := [.int r6, .int v10_1]) ⟨hx, hb, hml, hown, hts⟩ (r_heightBehind l g ad H.size S7 v10_2 r6 hR.w  Q11 h0) (cwV 2 hts (gd2_V kx_423 kx_424 kx_425 kx_177 kx_426) rfl rfl rfl (by decide +kernel) ⟨Nat.le_of_ble_eq_true rfl, Nat.le_of_ble_eq_true rfl⟩) ⟨rblind, va_recv hR.K hR.P (ci := 13) (q0 := 0) rfl (hR.at14 hR.w.1), fun U hU hW9 => rmk hU hW9 hR hex hE hFc⟩ rfl rfl hl.1 rfl (lv_room (Nat.le_of_ble_eq_true rfl)) dX14_leastStack_33 ⟨Nat.le_of_ble_eq_true rfl, Nat.le_of_ble_eq_true rfl⟩) hR.sS (fun q _ h => hFc q h) hFc (fun r12 S13 t9 H1 locs ht9 hvm9 hw9 hB9 hz9 hk9 hS => ?_)
          obtain ⟨hq14, hw9, hs9⟩ := hw9
          have hR : Rep g ad A s S13 H1 locs := hR.call ht9 hB9 hw9 hS hFc
          have hsh := hsh.tr hs9
          replace h := h r12 S13 hq14
          clear hB9 hz9 hk9 hvm9 ht9 hw9 hs9 hS
          generalize H1 = H at hR ⊢
          refine va_mmax hx hb (by rw [hml]; exact hl.1.symm) hown (hts _ kx_591) (hts _ kx_39) (hts _ kx_40) (hts _ kx_41) (Nat.le_of_ble_eq_true rfl) (Nat.le_of_ble_eq_true rfl) (Nat.le_of_ble_eq_true rfl) (Nat.le_of_ble_eq_true rfl) dX14_leastStack_36 ?_
          refine lv_topi (fun z15 ez15 => ?_)
          obtain rfl : z15 = (if r6 < r12 then r12 else r6) := ez15
          refine va_mmax hx hb (by rw [hml]; exact hl.1.symm) hown (hts _ kx_591) (hts _ kx_39) (hts _ kx_40) (hts _ kx_41) (Nat.le_of_ble_eq_true rfl) (Nat.le_of_ble_eq_true rfl) (Nat.le_of_ble_eq_true rfl) (Nat.le_of_ble_eq_true rfl) dX14_leastStack_39 ?_
          refine lv_topi (fun z16 ez16 => ?_)
          obtain rfl : z16 = (if v10_1 < (if r6 < r12 then r12 else r6) then (if r6 < r12 then r12 else r6) else v10_1) := ez16
          obtain ⟨a17, ea17⟩ : ∃ z, z = (if v10_1 < (if r6 < r12 then r12 else r6) then (if r6 < r12 then r12 else r6) else v10_1) := ⟨_, rfl⟩
          rw [← ea17]
          replace h := h a17 ea17
          refine lv_istore_n (lv' := [(1, .int a17), (3, .int r6), (0, .ref (ad 0)), (2, .int v10_2)]) hx hb dX14_leastStack_42 rfl hl (by decide) rfl (fun ls hl => ?_)
          exact J_43 S13 a17 v10_2 _ _ ls h  hsh hR (lv_sub hl [2, 0, 3] rfl)
  obtain ⟨n9, h⟩ := h
  exact J_10 n9 S2 0 0 _ _ ls h  hsh hR (lv_sub hl [2, 1, 0] rfl)
def w_leastLocals_J96 (Q : Int32 → MS → Prop) (k7 : MS → Int32 → Int32 → Prop) (U96 : MS) (v96_2 : Int32) (v96_3 : Int32) : Prop := (∀ a10 : Int32, a10 = (v96_3 + Int32.ofInt 1) → k7 U96 v96_2 a10)
def w_leastLocals_J84 (Q : Int32 → MS → Prop) (k7 : MS → Int32 → Int32 → Prop) (U84 : MS) (v84_2 : Int32) (v84_3 : Int32) : Prop := (d_first U84 v84_3 ∧ (∀ a16 : Int32, a16 = (if v84_2 < ((f_first U84 v84_3) + (1 : Int32)) then ((f_first U84 v84_3) + (1 : Int32)) else v84_2) → w_leastLocals_J96 Q k7 U84 a16 v84_3))
def w_leastLocals_J48 (Q : Int32 → MS → Prop) (k7 : MS → Int32 → Int32 → Prop) (U48 : MS) (v48_2 : Int32) (v48_3 : Int32) (v48_4 : Int32) : Prop := ((v48_4.toInt = 21 → w_leastLocals_J84 Q k7 U48 v48_2 v48_3) ∧ (¬ v48_4.toInt = 21 → ((v48_4.toInt = 25 → w_leastLocals_J84 Q k7 U48 v48_2 v48_3) ∧ (¬ v48_4.toInt = 25 → ((v48_4.toInt = 54 → w_leastLocals_J84 Q k7 U48 v48_2 v48_3) ∧ (¬ v48_4.toInt = 54 → ((v48_4.toInt = 58 → w_leastLocals_J84 Q k7 U48 v48_2 v48_3) ∧ (¬ v48_4.toInt = 58 → ((v48_4.toInt = 132 → w_leastLocals_J84 Q k7 U48 v48_2 v48_3) ∧ (¬ v48_4.toInt = 132 → w_leastLocals_J96 Q k7 U48 v48_2 v48_3))))))))))
def w_leastLocals_J36 (Q : Int32 → MS → Prop) (k7 : MS → Int32 → Int32 → Prop) (U36 : MS) (v36_2 : Int32) (v36_3 : Int32) (v36_4 : Int32) : Prop := (d_first U36 v36_3 ∧ (∀ a27 : Int32, a27 = (if v36_2 < ((f_first U36 v36_3) + (2 : Int32)) then ((f_first U36 v36_3) + (2 : Int32)) else v36_2) → w_leastLocals_J48 Q k7 U36 a27 v36_3 v36_4))
def w_leastLocals_L7 (Q : Int32 → MS → Prop) : Nat → MS → Int32 → Int32 → Prop
  | 0, _, _, _ => False
  | n7 + 1, U7, v7_2, v7_3 => (((qI U7 0 52).toInt ≤ v7_3.toInt → Q v7_2 U7) ∧ (¬ (qI U7 0 52).toInt ≤ v7_3.toInt → (d_op U7 v7_3 ∧ (∀ a9 : Int32, a9 = (f_op U7 v7_3) → ((a9.toInt = 22 → w_leastLocals_J36 Q (w_leastLocals_L7 Q n7) U7 v7_2 v7_3 a9) ∧ (¬ a9.toInt = 22 → ((a9.toInt = 55 → w_leastLocals_J36 Q (w_leastLocals_L7 Q n7) U7 v7_2 v7_3 a9) ∧ (¬ a9.toInt = 55 → w_leastLocals_J48 Q (w_leastLocals_L7 Q n7) U7 v7_2 v7_3 a9))))))))
def w_leastLocals (S : MS) (p1 : Nat) (Q : Int32 → MS → Prop) : Prop := (∃ Q1, w_placesOf S p1 Q1 ∧ ∀ r2 S3, Q1 r2 S3 → (∃ n, w_leastLocals_L7 Q n S3 r2 0))
set_option maxHeartbeats 2000000 in
set_option maxRecDepth 100000 in
theorem r_leastLocals (l : Launch) (g : Gr) (ad : Nat → Nat) (sz : Nat) (S : MS) (p1 : Nat) (hw : wfM S) (hT_p1 : qT S p1 = 12) (Q : Int32 → MS → Prop) (h : w_leastLocals S p1 Q) : Met l yX14_leastLocals (wt2 yX14_leastLocals cX14_leastLocals 5 (some .int)) ({ frames := 5, cells := 0, slots := 0, locals := 107 }) (va_Pc [.ref (ad 0), .ref (ad p1)] (st_R g ad sz S)) (va_Qi (fun (r : Int32) (u : MS) => Q r u ∧ wfM u ∧ shy S u) (fun (u : MS) (t : State) => qE g ad (va_A (Wd g ad S) sz) u t) (va_A (Wd g ad S) sz)) 0 0 (va_A (Wd g ad S) sz) := by
  refine Met.ofW (cc := cX14_leastLocals) (maxL := 5) (ret := (some .int)) (by decide) rfl ?_
  intro p e s m args below meth c s₁ B hml hv
  obtain ⟨rfl, hsz, hP, hK, hD0, hex, hE⟩ := hv
  have hx := B.exec
  have hb := B.bytes
  have hr := B.returns
  have hts0 := atoms_spec (ws := wt2 yX14_leastLocals cX14_leastLocals 5 (some .int)) B.pre
  have hts : ∀ w ∈ tb2, w.before _ s = true := fun w h => hts0 w (List.mem_cons_of_mem _ h)
  have hown : s.vm.findClass RX14 = some m.cls := findClass_of_methodNamed B.named
  subst hsz
  have hD := hD0.self (sz := s.heap.size)
  generalize hAe : va_A (Wd g ad S) s.heap.size = A at hD hE ⊢
  have hA : ∀ q : Nat, s.heap.size ≤ q → A q := fun q h => by rw [← hAe]; exact Or.inr h
  have hR : Rep g ad A s S s.heap [] := ⟨hK, hP, hD, va_S.rf, hw⟩
  clear hK hP hD hD0
  have hl := lv_entry ([.ref (ad 0), .ref (ad p1)]) (n := 5) (Nat.le_of_ble_eq_true rfl)
  rw [lg_entry_eq]
  generalize (lg_sl ([.ref (ad 0), .ref (ad p1)]) ++ List.replicate (5 - (lg_sl ([.ref (ad 0), .ref (ad p1)])).length) Slot.unset).toArray = ls at hl ⊢
  have hl : lv_has ls 5 [(0, .ref (ad 0)), (1, .ref (ad p1))] := hl
  have hsh : shy S S := shy.rf
  unfold w_leastLocals at h
  refine lv_aload_n hx hb dX14_leastLocals_0 rfl (lv_at hl 1 rfl) ?_
  obtain ⟨Q1, h0, h⟩ := h
  have hFc := rfree hR hA
  refine va_calli (va_runS (As := [.ref (ad p1)]) (rest := []) ⟨hx, hb, hml, hown, hts⟩ (r_placesOf l g ad s.heap.size S p1 hR.w hT_p1 Q1 h0) (va_cwS 1 hts (gd2_S kx_407 kx_408 kx_177 kx_409) rfl rfl rfl (by decide +kernel) ⟨Nat.le_of_ble_eq_true rfl, Nat.le_of_ble_eq_true rfl⟩) ⟨rblind, fun U hU hW9 => rmk hU hW9 hR hex hE hFc⟩ rfl rfl hl.1 rfl (lv_room (Nat.le_of_ble_eq_true rfl)) dX14_leastLocals_1 ⟨Nat.le_of_ble_eq_true rfl, Nat.le_of_ble_eq_true rfl⟩) hR.sS (fun q _ h => hFc q h) hFc (fun r2 S3 t9 H1 locs ht9 hvm9 hw9 hB9 hz9 hk9 hS => ?_)
  obtain ⟨hq4, hw9, hs9⟩ := hw9
  have hR : Rep g ad A s S3 H1 locs := hR.call ht9 hB9 hw9 hS hFc
  have hsh := hsh.tr hs9
  replace h := h r2 S3 hq4
  have hT_p1 := hs9.T hT_p1 (by decide)
  clear hB9 hz9 hk9 hvm9 ht9 hw9 hs9 hS
  generalize H1 = H at hR ⊢
  refine lv_istore_n (lv' := [(2, .int r2), (0, .ref (ad 0)), (1, .ref (ad p1))]) hx hb dX14_leastLocals_4 rfl hl (by decide) rfl (fun ls hl => ?_)
  refine lv_iconst (v := 0) hx hb dX14_leastLocals_5 (by decide) ?_
  refine lv_istore_n (lv' := [(3, .int 0), (2, .int r2), (0, .ref (ad 0)), (1, .ref (ad p1))]) hx hb dX14_leastLocals_6 rfl hl (by decide) rfl (fun ls hl => ?_)
  have J_7 : ∀ (n7 : Nat) (U7 : MS) (v7_2 : Int32) (v7_3 : Int32) (H : Heap) (locs : List Loc) (ls : Array Slot), w_leastLocals_L7 Q n7 U7 v7_2 v7_3 → shy S U7 → Rep g ad A s U7 H locs → lv_has ls 5 [(0, .ref (ad 0)), (2, .int v7_2), (3, .int v7_3)] → W p l e (headSpec (wt2 yX14_leastLocals cX14_leastLocals 5 (some .int)) ({ frames := 5, cells := 0, slots := 0, locals := 107 })).room s m ([.ref (ad 0), .ref (ad p1)] : List Value).toArray below meth c H locs 0 0 (MQ below (va_Qi (fun (r : Int32) (u : MS) => Q r u ∧ wfM u ∧ shy S u) (fun (u : MS) (t : State) => qE g ad A u t) A) ([.ref (ad 0), .ref (ad p1)] : List Value).toArray s 0 0 A) (F0 m 7 ls []) := by
    intro n7
    induction n7 with
    | zero => intro U7 v7_2 v7_3 H locs ls h hsh hR hl; unfold w_leastLocals_L7 at h; exact h.elim
    | succ n7 ih_7 =>
      intro U7 v7_2 v7_3 H locs ls h hsh hR hl
      unfold w_leastLocals_L7 at h
      refine lv_iload_n hx hb dX14_leastLocals_7 rfl (lv_at hl 2 rfl) ?_
      refine lv_aload_n hx hb dX14_leastLocals_8 rfl (lv_at hl 0 rfl) ?_
      refine va_get (D := rD g) (ci := 13) (v := .int (qI U7 0 52)) (C := RX14) (T := TX14) (N := 143) hx hb hts in2X14 hown hR.K hR.P 0 (hR.at14 hR.w.1) rfl 52 (by decide) (hts _ kx_370) (fun _ h9 => h9) rfl dX14_leastLocals_9 ?_
      refine lv_icmp_ge (tgt := 102) hx hb dX14_leastLocals_12 (by decide) (fun c5 => ?_) (fun c5 => ?_)
      · replace h := h.1 (k_le rfl rfl c5)
        refine lv_iload_n hx hb dX14_leastLocals_102 rfl (lv_at hl 1 rfl) ?_
        exact W.iret (v := v7_2) hx hb hr (fun t9 ht9 hW9 => ⟨⟨_, U7, rfl, ⟨h, hR.w, hsh⟩, ⟨by rw [ht9]; exact hR.P, hR.D⟩⟩, hR.sS.F ht9⟩) hR.sS.2.2 dX14_leastLocals_103
      · replace h := h.2 (k_nle rfl rfl c5)
        refine lv_aload_n hx hb dX14_leastLocals_15 rfl (lv_at hl 0 rfl) ?_
        refine lv_iload_n hx hb dX14_leastLocals_16 rfl (lv_at hl 2 rfl) ?_
        obtain ⟨hv6, h⟩ := h
        have hFc := rfree hR hA
        refine va_calli (va_runV (As := [.int v7_3]) (rest := []) ⟨hx, hb, hml, hown, hts⟩ (r_op l g ad H.size U7 v7_3 hR.w  hv6) (cwV 1 hts (gd2_V kx_379 kx_380 kx_381 kx_177 kx_382) rfl rfl rfl (by decide +kernel) ⟨Nat.le_of_ble_eq_true rfl, Nat.le_of_ble_eq_true rfl⟩) ⟨rblind, va_recv hR.K hR.P (ci := 13) (q0 := 0) rfl (hR.at14 hR.w.1), fun U hU hW9 => rmk hU hW9 hR hex hE hFc⟩ rfl rfl hl.1 rfl (lv_room (Nat.le_of_ble_eq_true rfl)) dX14_leastLocals_17 ⟨Nat.le_of_ble_eq_true rfl, Nat.le_of_ble_eq_true rfl⟩) hR.sS (fun q _ h => hFc q h) hFc (fun r7 u9 t9 H1 locs ht9 hvm9 hw9 hB9 hz9 hk9 hS => ?_)
        have hR : Rep g ad A s U7 H1 locs := hR.call ht9 hB9 hR.w hS hFc
        obtain rfl : r7 = (f_op U7 v7_3) := hw9
        clear hB9 hz9 hk9 hvm9 ht9 hS
        generalize H1 = H at hR ⊢
        obtain ⟨a9, ea9⟩ : ∃ z, z = (f_op U7 v7_3) := ⟨_, rfl⟩
        rw [← ea9]
        replace h := h a9 ea9
        refine lv_istore (lv' := [(4, .int a9), (0, .ref (ad 0)), (2, .int v7_2), (3, .int v7_3)]) hx hb dX14_leastLocals_20 hl (by decide) rfl (fun ls hl => ?_)
        refine lv_iload hx hb dX14_leastLocals_22 (lv_at hl 0 rfl) ?_
        refine lv_bipush (v := 22) hx hb dX14_leastLocals_24 (by decide) ?_
        have J_48 : ∀ (U48 : MS) (v48_2 : Int32) (v48_3 : Int32) (v48_4 : Int32) (H : Heap) (locs : List Loc) (ls : Array Slot), w_leastLocals_J48 Q (w_leastLocals_L7 Q n7) U48 v48_2 v48_3 v48_4 → shy S U48 → Rep g ad A s U48 H locs → lv_has ls 5 [(0, .ref (ad 0)), (2, .int v48_2), (3, .int v48_3), (4, .int v48_4)] → W p l e (headSpec (wt2 yX14_leastLocals cX14_leastLocals 5 (some .int)) ({ frames := 5, cells := 0, slots := 0, locals := 107 })).room s m ([.ref (ad 0), .ref (ad p1)] : List Value).toArray below meth c H locs 0 0 (MQ below (va_Qi (fun (r : Int32) (u : MS) => Q r u ∧ wfM u ∧ shy S u) (fun (u : MS) (t : State) => qE g ad A u t) A) ([.ref (ad 0), .ref (ad p1)] : List Value).toArray s 0 0 A) (F0 m 48 ls []) := by
          intro U48 v48_2 v48_3 v48_4 H locs ls h hsh hR hl
          unfold w_leastLocals_J48 at h
          refine lv_iload hx hb dX14_leastLocals_48 (lv_at hl 3 rfl) ?_
          refine lv_bipush (v := 21) hx hb dX14_leastLocals_50 (by decide) ?_
          have J_96 : ∀ (U96 : MS) (v96_2 : Int32) (v96_3 : Int32) (H : Heap) (locs : List Loc) (ls : Array Slot), w_leastLocals_J96 Q (w_leastLocals_L7 Q n7) U96 v96_2 v96_3 → shy S U96 → Rep g ad A s U96 H locs → lv_has ls 5 [(0, .ref (ad 0)), (2, .int v96_2), (3, .int v96_3)] → W p l e (headSpec (wt2 yX14_leastLocals cX14_leastLocals 5 (some .int)) ({ frames := 5, cells := 0, slots := 0, locals := 107 })).room s m ([.ref (ad 0), .ref (ad p1)] : List Value).toArray below meth c H locs 0 0 (MQ below (va_Qi (fun (r : Int32) (u : MS) => Q r u ∧ wfM u ∧ shy S u) (fun (u : MS) (t : State) => qE g ad A u t) A) ([.ref (ad 0), .ref (ad p1)] : List Value).toArray s 0 0 A) (F0 m 96 ls []) := by
            intro U96 v96_2 v96_3 H locs ls h hsh hR hl
            unfold w_leastLocals_J96 at h
            obtain ⟨a10, ea10⟩ : ∃ z, z = (v96_3 + Int32.ofInt 1) := ⟨_, rfl⟩
            replace h := h a10 ea10
            refine lv_iinc (v := a10) (lv' := [(3, .int a10), (0, .ref (ad 0)), (2, .int v96_2)]) hx hb dX14_leastLocals_96 hl (k := 2) rfl ea10.symm (by decide) rfl (fun ls hl => ?_)
            refine lv_goto (tgt := 7) hx hb dX14_leastLocals_99 (by decide) ?_
            exact ih_7 U96 v96_2 a10 _ _ ls h  hsh hR (lv_sub hl [1, 2, 0] rfl)
          have J_84 : ∀ (U84 : MS) (v84_2 : Int32) (v84_3 : Int32) (H : Heap) (locs : List Loc) (ls : Array Slot), w_leastLocals_J84 Q (w_leastLocals_L7 Q n7) U84 v84_2 v84_3 → shy S U84 → Rep g ad A s U84 H locs → lv_has ls 5 [(0, .ref (ad 0)), (2, .int v84_2), (3, .int v84_3)] → W p l e (headSpec (wt2 yX14_leastLocals cX14_leastLocals 5 (some .int)) ({ frames := 5, cells := 0, slots := 0, locals := 107 })).room s m ([.ref (ad 0), .ref (ad p1)] : List Value).toArray below meth c H locs 0 0 (MQ below (va_Qi (fun (r : Int32) (u : MS) => Q r u ∧ wfM u ∧ shy S u) (fun (u : MS) (t : State) => qE g ad A u t) A) ([.ref (ad 0), .ref (ad p1)] : List Value).toArray s 0 0 A) (F0 m 84 ls []) := by
            intro U84 v84_2 v84_3 H locs ls h hsh hR hl
            unfold w_leastLocals_J84 at h
            refine lv_iload_n hx hb dX14_leastLocals_84 rfl (lv_at hl 1 rfl) ?_
            refine lv_aload_n hx hb dX14_leastLocals_85 rfl (lv_at hl 0 rfl) ?_
            refine lv_iload_n hx hb dX14_leastLocals_86 rfl (lv_at hl 2 rfl) ?_
            obtain ⟨hv11, h⟩ := h
            have hFc := rfree hR hA
            refine va_calli (va_runV (As := [.int v84_3]) (rest := [.int v84_2]) ⟨hx, hb, hml, hown, hts⟩ (r_first l g ad H.size U84 v84_3 hR.w  hv11) (cwV 1 hts (gd2_V kx_393 kx_394 kx_395 kx_177 kx_396) rfl rfl rfl (by decide +kernel) ⟨Nat.le_of_ble_eq_true rfl, Nat.le_of_ble_eq_true rfl⟩) ⟨rblind, va_recv hR.K hR.P (ci := 13) (q0 := 0) rfl (hR.at14 hR.w.1), fun U hU hW9 => rmk hU hW9 hR hex hE hFc⟩ rfl rfl hl.1 rfl (lv_room (Nat.le_of_ble_eq_true rfl)) dX14_leastLocals_87 ⟨Nat.le_of_ble_eq_true rfl, Nat.le_of_ble_eq_true rfl⟩) hR.sS (fun q _ h => hFc q h) hFc (fun r12 u9 t9 H1 locs ht9 hvm9 hw9 hB9 hz9 hk9 hS => ?_)
            have hR : Rep g ad A s U84 H1 locs := hR.call ht9 hB9 hR.w hS hFc
            obtain rfl : r12 = (f_first U84 v84_3) := hw9
            clear hB9 hz9 hk9 hvm9 ht9 hS
            generalize H1 = H at hR ⊢
            refine lv_iconst (v := 1) hx hb dX14_leastLocals_90 (by decide) ?_
            refine lv_iadd hx hb dX14_leastLocals_91 ?_
            refine lv_topi (fun z14 ez14 => ?_)
            obtain rfl : z14 = ((f_first U84 v84_3) + (1 : Int32)) := ez14
            refine va_mmax hx hb (by rw [hml]; exact hl.1.symm) hown (hts _ kx_591) (hts _ kx_39) (hts _ kx_40) (hts _ kx_41) (Nat.le_of_ble_eq_true rfl) (Nat.le_of_ble_eq_true rfl) (Nat.le_of_ble_eq_true rfl) (Nat.le_of_ble_eq_true rfl) dX14_leastLocals_92 ?_
            refine lv_topi (fun z15 ez15 => ?_)
            obtain rfl : z15 = (if v84_2 < ((f_first U84 v84_3) + (1 : Int32)) then ((f_first U84 v84_3) + (1 : Int32)) else v84_2) := ez15
            obtain ⟨a16, ea16⟩ : ∃ z, z = (if v84_2 < ((f_first U84 v84_3) + (1 : Int32)) then ((f_first U84 v84_3) + (1 : Int32)) else v84_2) := ⟨_, rfl⟩
            rw [← ea16]
            replace h := h a16 ea16
            refine lv_istore_n (lv' := [(2, .int a16), (0, .ref (ad 0)), (3, .int v84_3)]) hx hb dX14_leastLocals_95 rfl hl (by decide) rfl (fun ls hl => ?_)
            exact J_96 U84 a16 v84_3 _ _ ls h  hsh hR (lv_sub hl [1, 0, 2] rfl)
          refine lv_icmp_eq (tgt := 84) hx hb dX14_leastLocals_52 (by decide) (fun c17 => ?_) (fun c17 => ?_)
          · replace h := h.1 (k_eq rfl (by decide) c17)
            exact J_84 U48 v48_2 v48_3 _ _ ls h  hsh hR (lv_sub hl [0, 1, 2] rfl)
          · replace h := h.2 (k_ne rfl (by decide) c17)
            refine lv_iload hx hb dX14_leastLocals_55 (lv_at hl 3 rfl) ?_
            refine lv_bipush (v := 25) hx hb dX14_leastLocals_57 (by decide) ?_
            refine lv_icmp_eq (tgt := 84) hx hb dX14_leastLocals_59 (by decide) (fun c18 => ?_) (fun c18 => ?_)
            · replace h := h.1 (k_eq rfl (by decide) c18)
              exact J_84 U48 v48_2 v48_3 _ _ ls h  hsh hR (lv_sub hl [0, 1, 2] rfl)
            · replace h := h.2 (k_ne rfl (by decide) c18)
              refine lv_iload hx hb dX14_leastLocals_62 (lv_at hl 3 rfl) ?_
              refine lv_bipush (v := 54) hx hb dX14_leastLocals_64 (by decide) ?_
              refine lv_icmp_eq (tgt := 84) hx hb dX14_leastLocals_66 (by decide) (fun c19 => ?_) (fun c19 => ?_)
              · replace h := h.1 (k_eq rfl (by decide) c19)
                exact J_84 U48 v48_2 v48_3 _ _ ls h  hsh hR (lv_sub hl [0, 1, 2] rfl)
              · replace h := h.2 (k_ne rfl (by decide) c19)
                refine lv_iload hx hb dX14_leastLocals_69 (lv_at hl 3 rfl) ?_
                refine lv_bipush (v := 58) hx hb dX14_leastLocals_71 (by decide) ?_
                refine lv_icmp_eq (tgt := 84) hx hb dX14_leastLocals_73 (by decide) (fun c20 => ?_) (fun c20 => ?_)
                · replace h := h.1 (k_eq rfl (by decide) c20)
                  exact J_84 U48 v48_2 v48_3 _ _ ls h  hsh hR (lv_sub hl [0, 1, 2] rfl)
                · replace h := h.2 (k_ne rfl (by decide) c20)
                  refine lv_iload hx hb dX14_leastLocals_76 (lv_at hl 3 rfl) ?_
                  refine lv_sipush (v := 132) hx hb dX14_leastLocals_78 (by decide) ?_
                  refine lv_icmp_ne (tgt := 96) hx hb dX14_leastLocals_81 (by decide) (fun c21 => ?_) (fun c21 => ?_)
                  · replace h := h.2 (k_ne rfl (by decide) c21)
                    exact J_96 U48 v48_2 v48_3 _ _ ls h  hsh hR (lv_sub hl [0, 1, 2] rfl)
                  · replace h := h.1 (k_eq rfl (by decide) c21)
                    exact J_84 U48 v48_2 v48_3 _ _ ls h  hsh hR (lv_sub hl [0, 1, 2] rfl)
        have J_36 : ∀ (U36 : MS) (v36_2 : Int32) (v36_3 : Int32) (v36_4 : Int32) (H : Heap) (locs : List Loc) (ls : Array Slot), w_leastLocals_J36 Q (w_leastLocals_L7 Q n7) U36 v36_2 v36_3 v36_4 → shy S U36 → Rep g ad A s U36 H locs → lv_has ls 5 [(0, .ref (ad 0)), (2, .int v36_2), (3, .int v36_3), (4, .int v36_4)] → W p l e (headSpec (wt2 yX14_leastLocals cX14_leastLocals 5 (some .int)) ({ frames := 5, cells := 0, slots := 0, locals := 107 })).room s m ([.ref (ad 0), .ref (ad p1)] : List Value).toArray below meth c H locs 0 0 (MQ below (va_Qi (fun (r : Int32) (u : MS) => Q r u ∧ wfM u ∧ shy S u) (fun (u : MS) (t : State) => qE g ad A u t) A) ([.ref (ad 0), .ref (ad p1)] : List Value).toArray s 0 0 A) (F0 m 36 ls []) := by
          intro U36 v36_2 v36_3 v36_4 H locs ls h hsh hR hl
          unfold w_leastLocals_J36 at h
          refine lv_iload_n hx hb dX14_leastLocals_36 rfl (lv_at hl 1 rfl) ?_
          refine lv_aload_n hx hb dX14_leastLocals_37 rfl (lv_at hl 0 rfl) ?_
          refine lv_iload_n hx hb dX14_leastLocals_38 rfl (lv_at hl 2 rfl) ?_
          obtain ⟨hv22, h⟩ := h
          have hFc := rfree hR hA
          refine va_calli (va_runV (As := [.int v36_3]) (rest := [.int v36_2]) ⟨hx, hb, hml, hown, hts⟩ (r_first l g ad H.size U36 v36_3 hR.w  hv22) (cwV 1 hts (gd2_V kx_393 kx_394 kx_395 kx_177 kx_396) rfl rfl rfl (by decide +kernel) ⟨Nat.le_of_ble_eq_true rfl, Nat.le_of_ble_eq_true rfl⟩) ⟨rblind, va_recv hR.K hR.P (ci := 13) (q0 := 0) rfl (hR.at14 hR.w.1), fun U hU hW9 => rmk hU hW9 hR hex hE hFc⟩ rfl rfl hl.1 rfl (lv_room (Nat.le_of_ble_eq_true rfl)) dX14_leastLocals_39 ⟨Nat.le_of_ble_eq_true rfl, Nat.le_of_ble_eq_true rfl⟩) hR.sS (fun q _ h => hFc q h) hFc (fun r23 u9 t9 H1 locs ht9 hvm9 hw9 hB9 hz9 hk9 hS => ?_)
          have hR : Rep g ad A s U36 H1 locs := hR.call ht9 hB9 hR.w hS hFc
          obtain rfl : r23 = (f_first U36 v36_3) := hw9
          clear hB9 hz9 hk9 hvm9 ht9 hS
          generalize H1 = H at hR ⊢
          refine lv_iconst (v := 2) hx hb dX14_leastLocals_42 (by decide) ?_
          refine lv_iadd hx hb dX14_leastLocals_43 ?_
          refine lv_topi (fun z25 ez25 => ?_)
          obtain rfl : z25 = ((f_first U36 v36_3) + (2 : Int32)) := ez25
          refine va_mmax hx hb (by rw [hml]; exact hl.1.symm) hown (hts _ kx_591) (hts _ kx_39) (hts _ kx_40) (hts _ kx_41) (Nat.le_of_ble_eq_true rfl) (Nat.le_of_ble_eq_true rfl) (Nat.le_of_ble_eq_true rfl) (Nat.le_of_ble_eq_true rfl) dX14_leastLocals_44 ?_
          refine lv_topi (fun z26 ez26 => ?_)
          obtain rfl : z26 = (if v36_2 < ((f_first U36 v36_3) + (2 : Int32)) then ((f_first U36 v36_3) + (2 : Int32)) else v36_2) := ez26
          obtain ⟨a27, ea27⟩ : ∃ z, z = (if v36_2 < ((f_first U36 v36_3) + (2 : Int32)) then ((f_first U36 v36_3) + (2 : Int32)) else v36_2) := ⟨_, rfl⟩
          rw [← ea27]
          replace h := h a27 ea27
          refine lv_istore_n (lv' := [(2, .int a27), (0, .ref (ad 0)), (3, .int v36_3), (4, .int v36_4)]) hx hb dX14_leastLocals_47 rfl hl (by decide) rfl (fun ls hl => ?_)
          exact J_48 U36 a27 v36_3 v36_4 _ _ ls h  hsh hR (lv_sub hl [1, 0, 2, 3] rfl)
        refine lv_icmp_eq (tgt := 36) hx hb dX14_leastLocals_26 (by decide) (fun c28 => ?_) (fun c28 => ?_)
        · replace h := h.1 (k_eq rfl (by decide) c28)
          exact J_36 U7 v7_2 v7_3 a9 _ _ ls h  hsh hR (lv_sub hl [1, 2, 3, 0] rfl)
        · replace h := h.2 (k_ne rfl (by decide) c28)
          refine lv_iload hx hb dX14_leastLocals_29 (lv_at hl 0 rfl) ?_
          refine lv_bipush (v := 55) hx hb dX14_leastLocals_31 (by decide) ?_
          refine lv_icmp_ne (tgt := 48) hx hb dX14_leastLocals_33 (by decide) (fun c29 => ?_) (fun c29 => ?_)
          · replace h := h.2 (k_ne rfl (by decide) c29)
            exact J_48 U7 v7_2 v7_3 a9 _ _ ls h  hsh hR (lv_sub hl [1, 2, 3, 0] rfl)
          · replace h := h.1 (k_eq rfl (by decide) c29)
            exact J_36 U7 v7_2 v7_3 a9 _ _ ls h  hsh hR (lv_sub hl [1, 2, 3, 0] rfl)
  obtain ⟨n9, h⟩ := h
  exact J_7 n9 S3 r2 0 _ _ ls h  hsh hR (lv_sub hl [2, 1, 0] rfl)
def w_outEntry_L77 (Q : MS → Prop) : Nat → MS → Int32 → Int32 → Prop
  | 0, _, _, _ => False
  | n77 + 1, U77, v77_1, v77_2 => (((0 : Int) ≤ v77_1.toInt ∧ v77_1.toInt < 700) ∧ ((qR U77 33 v77_1.toInt.toNat = some (qO U77 33 v77_1.toInt.toNat)) ∧ (((Int32.ofNat (qN U77 ((qO U77 33 v77_1.toInt.toNat) + 1))).toInt ≤ v77_2.toInt → Q U77) ∧ (¬ (Int32.ofNat (qN U77 ((qO U77 33 v77_1.toInt.toNat) + 1))).toInt ≤ v77_2.toInt → (((0 : Int) ≤ v77_1.toInt ∧ v77_1.toInt < 700) ∧ ((qR U77 33 v77_1.toInt.toNat = some (qO U77 33 v77_1.toInt.toNat)) ∧ (((0 : Int) ≤ v77_2.toInt ∧ v77_2.toInt < (qN U77 ((qO U77 33 v77_1.toInt.toNat) + 1) : Int)) ∧ (∃ Q25, w_out U77 ((cAt U77 (qO U77 33 v77_1.toInt.toNat) v77_2).toInt64) (1 : Int32) Q25 ∧ ∀ S26, Q25 S26 → (∀ a28 : Int32, a28 = (v77_2 + Int32.ofInt 1) → (w_outEntry_L77 Q n77) S26 v77_1 a28)))))))))
def w_outEntry (S : MS) (x1 : Int32) (Q : MS → Prop) : Prop := (((0 : Int) ≤ x1.toInt ∧ x1.toInt < 700) ∧ (∃ Q3, w_out S ((qI S 28 x1.toInt.toNat).toInt64) (1 : Int32) Q3 ∧ ∀ S4, Q3 S4 → (((0 : Int) ≤ x1.toInt ∧ x1.toInt < 700) ∧ (((qI S4 28 x1.toInt.toNat).toInt = 1 → (((0 : Int) ≤ x1.toInt ∧ x1.toInt < 700) ∧ ((qR S4 33 x1.toInt.toNat = some (qO S4 33 x1.toInt.toNat)) ∧ (∃ Q12, w_out S4 ((Int32.ofNat (qN S4 ((qO S4 33 x1.toInt.toNat) + 1))).toInt64) (2 : Int32) Q12 ∧ ∀ S13, Q12 S13 → (∃ n, w_outEntry_L77 Q n S13 x1 0))))) ∧ (¬ (qI S4 28 x1.toInt.toNat).toInt = 1 → (((qI S4 28 x1.toInt.toNat).toInt = 2 → (((0 : Int) ≤ x1.toInt ∧ x1.toInt < 700) ∧ (∃ Q31, w_out S4 ((qI S4 30 x1.toInt.toNat).toInt64) (2 : Int32) Q31 ∧ ∀ S32, Q31 S32 → (((0 : Int) ≤ x1.toInt ∧ x1.toInt < 700) ∧ (∃ Q36, w_out S32 ((qI S32 31 x1.toInt.toNat).toInt64) (2 : Int32) Q36 ∧ ∀ S37, Q36 S37 → Q S37))))) ∧ (¬ (qI S4 28 x1.toInt.toNat).toInt = 2 → (((qI S4 28 x1.toInt.toNat).toInt = 3 → (((0 : Int) ≤ x1.toInt ∧ x1.toInt < 700) ∧ (∃ Q41, w_out S4 (qJ S4 32 x1.toInt.toNat) (4 : Int32) Q41 ∧ ∀ S42, Q41 S42 → Q S42))) ∧ (¬ (qI S4 28 x1.toInt.toNat).toInt = 3 → (((qI S4 28 x1.toInt.toNat).toInt = 4 → (((0 : Int) ≤ x1.toInt ∧ x1.toInt < 700) ∧ (∃ Q46, w_out S4 ((qI S4 30 x1.toInt.toNat).toInt64) (2 : Int32) Q46 ∧ ∀ S47, Q46 S47 → (((0 : Int) ≤ x1.toInt ∧ x1.toInt < 700) ∧ (∃ Q51, w_out S47 ((qI S47 31 x1.toInt.toNat).toInt64) (2 : Int32) Q51 ∧ ∀ S52, Q51 S52 → Q S52))))) ∧ (¬ (qI S4 28 x1.toInt.toNat).toInt = 4 → (((qI S4 28 x1.toInt.toNat).toInt = 5 → (((0 : Int) ≤ x1.toInt ∧ x1.toInt < 700) ∧ (∃ Q56, w_out S4 (qJ S4 32 x1.toInt.toNat) (8 : Int32) Q56 ∧ ∀ S57, Q56 S57 → Q S57))) ∧ (¬ (qI S4 28 x1.toInt.toNat).toInt = 5 → (((qI S4 28 x1.toInt.toNat).toInt = 6 → (((0 : Int) ≤ x1.toInt ∧ x1.toInt < 700) ∧ (∃ Q61, w_out S4 ((qI S4 30 x1.toInt.toNat).toInt64) (2 : Int32) Q61 ∧ ∀ S62, Q61 S62 → (((0 : Int) ≤ x1.toInt ∧ x1.toInt < 700) ∧ (∃ Q66, w_out S62 ((qI S62 31 x1.toInt.toNat).toInt64) (2 : Int32) Q66 ∧ ∀ S67, Q66 S67 → Q S67))))) ∧ (¬ (qI S4 28 x1.toInt.toNat).toInt = 6 → (((qI S4 28 x1.toInt.toNat).toInt = 7 → (((0 : Int) ≤ x1.toInt ∧ x1.toInt < 700) ∧ (∃ Q71, w_out S4 ((qI S4 30 x1.toInt.toNat).toInt64) (2 : Int32) Q71 ∧ ∀ S72, Q71 S72 → Q S72))) ∧ (¬ (qI S4 28 x1.toInt.toNat).toInt = 7 → (((0 : Int) ≤ x1.toInt ∧ x1.toInt < 700) ∧ (∃ Q76, w_out S4 ((qI S4 30 x1.toInt.toNat).toInt64) (2 : Int32) Q76 ∧ ∀ S77, Q76 S77 → (((0 : Int) ≤ x1.toInt ∧ x1.toInt < 700) ∧ (∃ Q81, w_out S77 ((qI S77 31 x1.toInt.toNat).toInt64) (2 : Int32) Q81 ∧ ∀ S82, Q81 S82 → Q S82)))))))))))))))))))))
set_option maxHeartbeats 2000000 in
set_option maxRecDepth 100000 in
theorem r_outEntry (l : Launch) (g : Gr) (ad : Nat → Nat) (sz : Nat) (S : MS) (x1 : Int32) (hw : wfM S) (Q : MS → Prop) (h : w_outEntry S x1 Q) : Met l yX14_outEntry (wt2 yX14_outEntry cX14_outEntry 3 none) ({ frames := 4, cells := 0, slots := 0, locals := 85 }) (va_Pc [.ref (ad 0), .int x1] (st_R g ad sz S)) (va_Qv (fun (u : MS) => Q u ∧ wfM u ∧ shy S u) (fun (u : MS) (t : State) => qE g ad (va_A (Wd g ad S) sz) u t) (va_A (Wd g ad S) sz)) 0 0 (va_A (Wd g ad S) sz) := by
  refine Met.ofW (cc := cX14_outEntry) (maxL := 3) (ret := none) (by decide) rfl ?_
  intro p e s m args below meth c s₁ B hml hv
  obtain ⟨rfl, hsz, hP, hK, hD0, hex, hE⟩ := hv
  have hx := B.exec
  have hb := B.bytes
  have hr := B.returns
  have hts0 := atoms_spec (ws := wt2 yX14_outEntry cX14_outEntry 3 none) B.pre
  have hts : ∀ w ∈ tb2, w.before _ s = true := fun w h => hts0 w (List.mem_cons_of_mem _ h)
  have hown : s.vm.findClass RX14 = some m.cls := findClass_of_methodNamed B.named
  subst hsz
  have hD := hD0.self (sz := s.heap.size)
  generalize hAe : va_A (Wd g ad S) s.heap.size = A at hD hE ⊢
  have hA : ∀ q : Nat, s.heap.size ≤ q → A q := fun q h => by rw [← hAe]; exact Or.inr h
  have hR : Rep g ad A s S s.heap [] := ⟨hK, hP, hD, va_S.rf, hw⟩
  clear hK hP hD hD0
  have hl := lv_entry ([.ref (ad 0), .int x1]) (n := 3) (Nat.le_of_ble_eq_true rfl)
  rw [lg_entry_eq]
  generalize (lg_sl ([.ref (ad 0), .int x1]) ++ List.replicate (3 - (lg_sl ([.ref (ad 0), .int x1])).length) Slot.unset).toArray = ls at hl ⊢
  have hl : lv_has ls 3 [(0, .ref (ad 0)), (1, .int x1)] := hl
  have hsh : shy S S := shy.rf
  unfold w_outEntry at h
  refine lv_aload_n hx hb dX14_outEntry_0 rfl (lv_at hl 0 rfl) ?_
  refine lv_aload_n hx hb dX14_outEntry_1 rfl (lv_at hl 0 rfl) ?_
  refine va_get (D := rD g) (ci := 13) (v := .ref (ad 28)) (C := RX14) (T := TX14) (N := 143) hx hb hts in2X14 hown hR.K hR.P 0 (hR.at14 hR.w.1) rfl 67 (by decide) (hts _ kx_532) (fun _ h9 => h9) (congrArg (fun z => some (vf ad z)) (hR.w.2.1 _ fin_67).1) dX14_outEntry_2 ?_
  refine lv_iload_n hx hb dX14_outEntry_5 rfl (lv_at hl 1 rfl) ?_
  obtain ⟨hv1, h⟩ := h
  refine va_iald hx hb hR.K hR.P 28 1 (hR.atI (hR.w.2.1 _ fin_67).2.1) rfl (k_ixN (k_ix (n := 700) (x := x1) (a := x1.toInt) rfl hv1) (hR.w.2.1 _ fin_67).2.2) dX14_outEntry_6 ?_
  refine lv_topi (fun z2 ez2 => ?_)
  obtain rfl : z2 = (qI S 28 x1.toInt.toNat) := ez2
  refine lv_i2l (v := ((qI S 28 x1.toInt.toNat).toInt64)) hx hb dX14_outEntry_7 rfl ?_
  refine lv_iconst (v := 1) hx hb dX14_outEntry_8 (by decide) ?_
  obtain ⟨Q3, h0, h⟩ := h
  have hFc := rfree hR hA
  refine va_callv (va_runV (As := [.long ((qI S 28 x1.toInt.toNat).toInt64), .int 1]) (rest := []) ⟨hx, hb, hml, hown, hts⟩ (r_out l g ad s.heap.size S ((qI S 28 x1.toInt.toNat).toInt64) (1 : Int32) hR.w  Q3 h0) (cwV 2 hts (gd2_V kx_586 kx_587 kx_588 kx_177 kx_589) rfl rfl rfl (by decide +kernel) ⟨Nat.le_of_ble_eq_true rfl, Nat.le_of_ble_eq_true rfl⟩) ⟨rblind, va_recv hR.K hR.P (ci := 13) (q0 := 0) rfl (hR.at14 hR.w.1), fun U hU hW9 => rmk hU hW9 hR hex hE hFc⟩ rfl rfl hl.1 rfl (lv_room (Nat.le_of_ble_eq_true rfl)) dX14_outEntry_9 ⟨Nat.le_of_ble_eq_true rfl, Nat.le_of_ble_eq_true rfl⟩) hR.sS (fun q _ h => hFc q h) hFc (fun  S4 t9 H1 locs ht9 hvm9 hw9 hB9 hz9 hk9 hS => ?_)
  obtain ⟨hq5, hw9, hs9⟩ := hw9
  have hR : Rep g ad A s S4 H1 locs := hR.call ht9 hB9 hw9 hS hFc
  have hsh := hsh.tr hs9
  replace h := h  S4 hq5
  clear hB9 hz9 hk9 hvm9 ht9 hw9 hs9 hS
  generalize H1 = H at hR ⊢
  refine lv_aload_n hx hb dX14_outEntry_12 rfl (lv_at hl 0 rfl) ?_
  refine va_get (D := rD g) (ci := 13) (v := .ref (ad 28)) (C := RX14) (T := TX14) (N := 143) hx hb hts in2X14 hown hR.K hR.P 0 (hR.at14 hR.w.1) rfl 67 (by decide) (hts _ kx_532) (fun _ h9 => h9) (congrArg (fun z => some (vf ad z)) (hR.w.2.1 _ fin_67).1) dX14_outEntry_13 ?_
  refine lv_iload_n hx hb dX14_outEntry_16 rfl (lv_at hl 1 rfl) ?_
  obtain ⟨hv6, h⟩ := h
  refine va_iald hx hb hR.K hR.P 28 1 (hR.atI (hR.w.2.1 _ fin_67).2.1) rfl (k_ixN (k_ix (n := 700) (x := x1) (a := x1.toInt) rfl hv6) (hR.w.2.1 _ fin_67).2.2) dX14_outEntry_17 ?_
  refine lv_topi (fun z7 ez7 => ?_)
  obtain rfl : z7 = (qI S4 28 x1.toInt.toNat) := ez7
  by_cases c9_1 : (qI S4 28 x1.toInt.toNat).toInt = 1
  · refine lv_tableIn (off := 42) (tgt := 60) hx hb dX14_outEntry_18 (by rw [c9_1]; decide) (by rw [c9_1]; decide) (by rw [c9_1]; rfl) (by decide) ?_
    replace h := h.1 (c9_1)
    refine lv_aload_n hx hb dX14_outEntry_60 rfl (lv_at hl 0 rfl) ?_
    refine lv_aload_n hx hb dX14_outEntry_61 rfl (lv_at hl 0 rfl) ?_
    refine va_get (D := rD g) (ci := 13) (v := .ref (ad 33)) (C := RX14) (T := TX14) (N := 143) hx hb hts in2X14 hown hR.K hR.P 0 (hR.at14 hR.w.1) rfl 72 (by decide) (hts _ kx_536) (fun _ h9 => h9) (congrArg (fun z => some (vf ad z)) (hR.w.2.1 _ fin_72).1) dX14_outEntry_62 ?_
    refine lv_iload_n hx hb dX14_outEntry_65 rfl (lv_at hl 1 rfl) ?_
    obtain ⟨hv8, h⟩ := h
    refine va_aldq hx hb hR.K hR.P 33 4 (hR.atS (hR.w.2.1 _ fin_72).2.1) rfl (k_ixN (k_ix (n := 700) (x := x1) (a := x1.toInt) rfl hv8) (hR.w.2.1 _ fin_72).2.2) dX14_outEntry_66 ?_
    obtain ⟨hv9, h⟩ := h
    have hT_b10 : qT S4 (qO S4 33 x1.toInt.toNat) = 12 := hR.w.ref hv9 (hR.w.2.1 _ fin_72).2.1
    rw [show va_rf (Option.map ad (qR S4 33 (x1 : Int32).toNatClampNeg)) = .ref (ad (qO S4 33 x1.toInt.toNat)) from congrArg (fun z => vf ad z) hv9]
    have hF : ∀ q, Ns H.size q → A q := fun q h => hA q (Nat.le_trans hR.sS.1 h)
    refine va_calli (va_runV (As := []) (rest := [.ref (ad 0)]) ⟨hx, hb, hml, hown, hts⟩ (s_length l H.size (ad (qO S4 33 x1.toInt.toNat)) (ad ((qO S4 33 x1.toInt.toNat) + 1)) (qN S4 ((qO S4 33 x1.toInt.toNat) + 1)) (qI S4 ((qO S4 33 x1.toInt.toNat) + 1))) (cwV 0 hts (gd2_V kx_248 kx_143 kx_144 kx_6 kx_145) rfl rfl rfl (by decide +kernel) ⟨Nat.le_of_ble_eq_true rfl, Nat.le_of_ble_eq_true rfl⟩) ⟨tblind (fun A u U H hv h => by exact tx1.moved hv h), (strR hts hR hE hA hT_b10), fun U hU hW9 => ⟨rfl, by rw [hU], str_at hts hR hE hA hT_b10 hU hW9, by rw [hU]; exact ((hE.1.kept hR.sS.2.1).narrow hF).moved hW9.alike⟩⟩ rfl rfl hl.1 rfl (lv_room (Nat.le_of_ble_eq_true rfl)) dX14_outEntry_67 ⟨Nat.le_of_ble_eq_true rfl, Nat.le_of_ble_eq_true rfl⟩) hR.sS (fun q _ h => hF q h) hF (fun r11 u9 t9 H1 locs ht9 hvm9 hw9 hB9 hz9 hk9 hS => ?_)
    obtain rfl : r11 = (Int32.ofNat (qN S4 ((qO S4 33 x1.toInt.toNat) + 1))) := hw9
    have hR : Rep g ad A s S4 H1 locs := hR.keep hk9 hS
    clear hz9 hk9 hvm9 ht9 hB9 hF hS
    generalize H1 = H at hR ⊢
    refine lv_i2l (v := ((Int32.ofNat (qN S4 ((qO S4 33 x1.toInt.toNat) + 1))).toInt64)) hx hb dX14_outEntry_70 rfl ?_
    refine lv_iconst (v := 2) hx hb dX14_outEntry_71 (by decide) ?_
    obtain ⟨Q12, h0, h⟩ := h
    have hFc := rfree hR hA
    refine va_callv (va_runV (As := [.long ((Int32.ofNat (qN S4 ((qO S4 33 x1.toInt.toNat) + 1))).toInt64), .int 2]) (rest := []) ⟨hx, hb, hml, hown, hts⟩ (r_out l g ad H.size S4 ((Int32.ofNat (qN S4 ((qO S4 33 x1.toInt.toNat) + 1))).toInt64) (2 : Int32) hR.w  Q12 h0) (cwV 2 hts (gd2_V kx_586 kx_587 kx_588 kx_177 kx_589) rfl rfl rfl (by decide +kernel) ⟨Nat.le_of_ble_eq_true rfl, Nat.le_of_ble_eq_true rfl⟩) ⟨rblind, va_recv hR.K hR.P (ci := 13) (q0 := 0) rfl (hR.at14 hR.w.1), fun U hU hW9 => rmk hU hW9 hR hex hE hFc⟩ rfl rfl hl.1 rfl (lv_room (Nat.le_of_ble_eq_true rfl)) dX14_outEntry_72 ⟨Nat.le_of_ble_eq_true rfl, Nat.le_of_ble_eq_true rfl⟩) hR.sS (fun q _ h => hFc q h) hFc (fun  S13 t9 H1 locs ht9 hvm9 hw9 hB9 hz9 hk9 hS => ?_)
    obtain ⟨hq14, hw9, hs9⟩ := hw9
    have hR : Rep g ad A s S13 H1 locs := hR.call ht9 hB9 hw9 hS hFc
    have hsh := hsh.tr hs9
    replace h := h  S13 hq14
    clear hB9 hz9 hk9 hvm9 ht9 hw9 hs9 hS
    generalize H1 = H at hR ⊢
    refine lv_iconst (v := 0) hx hb dX14_outEntry_75 (by decide) ?_
    refine lv_istore_n (lv' := [(2, .int 0), (0, .ref (ad 0)), (1, .int x1)]) hx hb dX14_outEntry_76 rfl hl (by decide) rfl (fun ls hl => ?_)
    have J_77 : ∀ (n77 : Nat) (U77 : MS) (v77_1 : Int32) (v77_2 : Int32) (H : Heap) (locs : List Loc) (ls : Array Slot), w_outEntry_L77 Q n77 U77 v77_1 v77_2 → shy S U77 → Rep g ad A s U77 H locs → lv_has ls 3 [(0, .ref (ad 0)), (1, .int v77_1), (2, .int v77_2)] → W p l e (headSpec (wt2 yX14_outEntry cX14_outEntry 3 none) ({ frames := 4, cells := 0, slots := 0, locals := 85 })).room s m ([.ref (ad 0), .int x1] : List Value).toArray below meth c H locs 0 0 (MQ below (va_Qv (fun (u : MS) => Q u ∧ wfM u ∧ shy S u) (fun (u : MS) (t : State) => qE g ad A u t) A) ([.ref (ad 0), .int x1] : List Value).toArray s 0 0 A) (F0 m 77 ls []) := by
      intro n77
      induction n77 with
      | zero => intro U77 v77_1 v77_2 H locs ls h hsh hR hl; unfold w_outEntry_L77 at h; exact h.elim
      | succ n77 ih_77 =>
        intro U77 v77_1 v77_2 H locs ls h hsh hR hl
        unfold w_outEntry_L77 at h
        refine lv_iload_n hx hb dX14_outEntry_77 rfl (lv_at hl 2 rfl) ?_
        refine lv_aload_n hx hb dX14_outEntry_78 rfl (lv_at hl 0 rfl) ?_
        refine va_get (D := rD g) (ci := 13) (v := .ref (ad 33)) (C := RX14) (T := TX14) (N := 143) hx hb hts in2X14 hown hR.K hR.P 0 (hR.at14 hR.w.1) rfl 72 (by decide) (hts _ kx_536) (fun _ h9 => h9) (congrArg (fun z => some (vf ad z)) (hR.w.2.1 _ fin_72).1) dX14_outEntry_79 ?_
        refine lv_iload_n hx hb dX14_outEntry_82 rfl (lv_at hl 1 rfl) ?_
        obtain ⟨hv15, h⟩ := h
        refine va_aldq hx hb hR.K hR.P 33 4 (hR.atS (hR.w.2.1 _ fin_72).2.1) rfl (k_ixN (k_ix (n := 700) (x := v77_1) (a := v77_1.toInt) rfl hv15) (hR.w.2.1 _ fin_72).2.2) dX14_outEntry_83 ?_
        obtain ⟨hv16, h⟩ := h
        have hT_b17 : qT U77 (qO U77 33 v77_1.toInt.toNat) = 12 := hR.w.ref hv16 (hR.w.2.1 _ fin_72).2.1
        rw [show va_rf (Option.map ad (qR U77 33 (v77_1 : Int32).toNatClampNeg)) = .ref (ad (qO U77 33 v77_1.toInt.toNat)) from congrArg (fun z => vf ad z) hv16]
        have hF : ∀ q, Ns H.size q → A q := fun q h => hA q (Nat.le_trans hR.sS.1 h)
        refine va_calli (va_runV (As := []) (rest := [.int v77_2]) ⟨hx, hb, hml, hown, hts⟩ (s_length l H.size (ad (qO U77 33 v77_1.toInt.toNat)) (ad ((qO U77 33 v77_1.toInt.toNat) + 1)) (qN U77 ((qO U77 33 v77_1.toInt.toNat) + 1)) (qI U77 ((qO U77 33 v77_1.toInt.toNat) + 1))) (cwV 0 hts (gd2_V kx_248 kx_143 kx_144 kx_6 kx_145) rfl rfl rfl (by decide +kernel) ⟨Nat.le_of_ble_eq_true rfl, Nat.le_of_ble_eq_true rfl⟩) ⟨tblind (fun A u U H hv h => by exact tx1.moved hv h), (strR hts hR hE hA hT_b17), fun U hU hW9 => ⟨rfl, by rw [hU], str_at hts hR hE hA hT_b17 hU hW9, by rw [hU]; exact ((hE.1.kept hR.sS.2.1).narrow hF).moved hW9.alike⟩⟩ rfl rfl hl.1 rfl (lv_room (Nat.le_of_ble_eq_true rfl)) dX14_outEntry_84 ⟨Nat.le_of_ble_eq_true rfl, Nat.le_of_ble_eq_true rfl⟩) hR.sS (fun q _ h => hF q h) hF (fun r18 u9 t9 H1 locs ht9 hvm9 hw9 hB9 hz9 hk9 hS => ?_)
        obtain rfl : r18 = (Int32.ofNat (qN U77 ((qO U77 33 v77_1.toInt.toNat) + 1))) := hw9
        have hR : Rep g ad A s U77 H1 locs := hR.keep hk9 hS
        clear hz9 hk9 hvm9 ht9 hB9 hF hS
        generalize H1 = H at hR ⊢
        refine lv_icmp_ge (tgt := 112) hx hb dX14_outEntry_87 (by decide) (fun c19 => ?_) (fun c19 => ?_)
        · replace h := h.1 (k_le rfl rfl c19)
          refine lv_goto (tgt := 183) hx hb dX14_outEntry_112 (by decide) ?_
          exact W.vret hx hb hr (fun t9 ht9 hW9 => ⟨⟨U77, rfl, ⟨h, hR.w, hsh⟩, ⟨by rw [ht9]; exact hR.P, hR.D⟩⟩, hR.sS.F ht9⟩) hR.sS.2.2 dX14_outEntry_183
        · replace h := h.2 (k_nle rfl rfl c19)
          refine lv_aload_n hx hb dX14_outEntry_90 rfl (lv_at hl 0 rfl) ?_
          refine lv_aload_n hx hb dX14_outEntry_91 rfl (lv_at hl 0 rfl) ?_
          refine va_get (D := rD g) (ci := 13) (v := .ref (ad 33)) (C := RX14) (T := TX14) (N := 143) hx hb hts in2X14 hown hR.K hR.P 0 (hR.at14 hR.w.1) rfl 72 (by decide) (hts _ kx_536) (fun _ h9 => h9) (congrArg (fun z => some (vf ad z)) (hR.w.2.1 _ fin_72).1) dX14_outEntry_92 ?_
          refine lv_iload_n hx hb dX14_outEntry_95 rfl (lv_at hl 1 rfl) ?_
          obtain ⟨hv20, h⟩ := h
          refine va_aldq hx hb hR.K hR.P 33 4 (hR.atS (hR.w.2.1 _ fin_72).2.1) rfl (k_ixN (k_ix (n := 700) (x := v77_1) (a := v77_1.toInt) rfl hv20) (hR.w.2.1 _ fin_72).2.2) dX14_outEntry_96 ?_
          obtain ⟨hv21, h⟩ := h
          have hT_b22 : qT U77 (qO U77 33 v77_1.toInt.toNat) = 12 := hR.w.ref hv21 (hR.w.2.1 _ fin_72).2.1
          rw [show va_rf (Option.map ad (qR U77 33 (v77_1 : Int32).toNatClampNeg)) = .ref (ad (qO U77 33 v77_1.toInt.toNat)) from congrArg (fun z => vf ad z) hv21]
          refine lv_iload_n hx hb dX14_outEntry_97 rfl (lv_at hl 2 rfl) ?_
          obtain ⟨hv23, h⟩ := h
          have hF : ∀ q, Ns H.size q → A q := fun q h => hA q (Nat.le_trans hR.sS.1 h)
          refine va_calli (va_runV (As := [.int v77_2]) (rest := [.ref (ad 0)]) ⟨hx, hb, hml, hown, hts⟩ (s_charAt l H.size (ad (qO U77 33 v77_1.toInt.toNat)) (ad ((qO U77 33 v77_1.toInt.toNat) + 1)) (qN U77 ((qO U77 33 v77_1.toInt.toNat) + 1)) (qI U77 ((qO U77 33 v77_1.toInt.toNat) + 1)) v77_2 (hR.w.len hT_b22) hv23) (cwV 1 hts (gd2_V kx_249 kx_250 kx_251 kx_6 kx_252) rfl rfl rfl (by decide +kernel) ⟨Nat.le_of_ble_eq_true rfl, Nat.le_of_ble_eq_true rfl⟩) ⟨tblind (fun A u U H hv h => by exact tx1.moved hv h), (strR hts hR hE hA hT_b22), fun U hU hW9 => ⟨rfl, by rw [hU], str_at hts hR hE hA hT_b22 hU hW9, by rw [hU]; exact ((hE.1.kept hR.sS.2.1).narrow hF).moved hW9.alike⟩⟩ rfl rfl hl.1 rfl (lv_room (Nat.le_of_ble_eq_true rfl)) dX14_outEntry_98 ⟨Nat.le_of_ble_eq_true rfl, Nat.le_of_ble_eq_true rfl⟩) hR.sS (fun q _ h => hF q h) hF (fun r24 u9 t9 H1 locs ht9 hvm9 hw9 hB9 hz9 hk9 hS => ?_)
          obtain rfl : r24 = (cAt U77 (qO U77 33 v77_1.toInt.toNat) v77_2) := hw9
          have hR : Rep g ad A s U77 H1 locs := hR.keep hk9 hS
          clear hz9 hk9 hvm9 ht9 hB9 hF hS
          generalize H1 = H at hR ⊢
          refine lv_i2l (v := ((cAt U77 (qO U77 33 v77_1.toInt.toNat) v77_2).toInt64)) hx hb dX14_outEntry_101 rfl ?_
          refine lv_iconst (v := 1) hx hb dX14_outEntry_102 (by decide) ?_
          obtain ⟨Q25, h0, h⟩ := h
          have hFc := rfree hR hA
          refine va_callv (va_runV (As := [.long ((cAt U77 (qO U77 33 v77_1.toInt.toNat) v77_2).toInt64), .int 1]) (rest := []) ⟨hx, hb, hml, hown, hts⟩ (r_out l g ad H.size U77 ((cAt U77 (qO U77 33 v77_1.toInt.toNat) v77_2).toInt64) (1 : Int32) hR.w  Q25 h0) (cwV 2 hts (gd2_V kx_586 kx_587 kx_588 kx_177 kx_589) rfl rfl rfl (by decide +kernel) ⟨Nat.le_of_ble_eq_true rfl, Nat.le_of_ble_eq_true rfl⟩) ⟨rblind, va_recv hR.K hR.P (ci := 13) (q0 := 0) rfl (hR.at14 hR.w.1), fun U hU hW9 => rmk hU hW9 hR hex hE hFc⟩ rfl rfl hl.1 rfl (lv_room (Nat.le_of_ble_eq_true rfl)) dX14_outEntry_103 ⟨Nat.le_of_ble_eq_true rfl, Nat.le_of_ble_eq_true rfl⟩) hR.sS (fun q _ h => hFc q h) hFc (fun  S26 t9 H1 locs ht9 hvm9 hw9 hB9 hz9 hk9 hS => ?_)
          obtain ⟨hq27, hw9, hs9⟩ := hw9
          have hR : Rep g ad A s S26 H1 locs := hR.call ht9 hB9 hw9 hS hFc
          have hsh := hsh.tr hs9
          replace h := h  S26 hq27
          clear hB9 hz9 hk9 hvm9 ht9 hw9 hs9 hS
          generalize H1 = H at hR ⊢
          obtain ⟨a28, ea28⟩ : ∃ z, z = (v77_2 + Int32.ofInt 1) := ⟨_, rfl⟩
          replace h := h a28 ea28
          refine lv_iinc (v := a28) (lv' := [(2, .int a28), (0, .ref (ad 0)), (1, .int v77_1)]) hx hb dX14_outEntry_106 hl (k := 2) rfl ea28.symm (by decide) rfl (fun ls hl => ?_)
          refine lv_goto (tgt := 77) hx hb dX14_outEntry_109 (by decide) ?_
          exact ih_77 S26 v77_1 a28 _ _ ls h  hsh hR (lv_sub hl [1, 2, 0] rfl)
    obtain ⟨n9, h⟩ := h
    exact J_77 n9 S13 x1 0 _ _ ls h  hsh hR (lv_sub hl [1, 2, 0] rfl)
  replace h := h.2 c9_1
  by_cases c9_2 : (qI S4 28 x1.toInt.toNat).toInt = 2
  · refine lv_tableIn (off := 141) (tgt := 159) hx hb dX14_outEntry_18 (by rw [c9_2]; decide) (by rw [c9_2]; decide) (by rw [c9_2]; rfl) (by decide) ?_
    replace h := h.1 (c9_2)
    refine lv_aload_n hx hb dX14_outEntry_159 rfl (lv_at hl 0 rfl) ?_
    refine lv_aload_n hx hb dX14_outEntry_160 rfl (lv_at hl 0 rfl) ?_
    refine va_get (D := rD g) (ci := 13) (v := .ref (ad 30)) (C := RX14) (T := TX14) (N := 143) hx hb hts in2X14 hown hR.K hR.P 0 (hR.at14 hR.w.1) rfl 69 (by decide) (hts _ kx_533) (fun _ h9 => h9) (congrArg (fun z => some (vf ad z)) (hR.w.2.1 _ fin_69).1) dX14_outEntry_161 ?_
    refine lv_iload_n hx hb dX14_outEntry_164 rfl (lv_at hl 1 rfl) ?_
    obtain ⟨hv29, h⟩ := h
    refine va_iald hx hb hR.K hR.P 30 1 (hR.atI (hR.w.2.1 _ fin_69).2.1) rfl (k_ixN (k_ix (n := 700) (x := x1) (a := x1.toInt) rfl hv29) (hR.w.2.1 _ fin_69).2.2) dX14_outEntry_165 ?_
    refine lv_topi (fun z30 ez30 => ?_)
    obtain rfl : z30 = (qI S4 30 x1.toInt.toNat) := ez30
    refine lv_i2l (v := ((qI S4 30 x1.toInt.toNat).toInt64)) hx hb dX14_outEntry_166 rfl ?_
    refine lv_iconst (v := 2) hx hb dX14_outEntry_167 (by decide) ?_
    obtain ⟨Q31, h0, h⟩ := h
    have hFc := rfree hR hA
    refine va_callv (va_runV (As := [.long ((qI S4 30 x1.toInt.toNat).toInt64), .int 2]) (rest := []) ⟨hx, hb, hml, hown, hts⟩ (r_out l g ad H.size S4 ((qI S4 30 x1.toInt.toNat).toInt64) (2 : Int32) hR.w  Q31 h0) (cwV 2 hts (gd2_V kx_586 kx_587 kx_588 kx_177 kx_589) rfl rfl rfl (by decide +kernel) ⟨Nat.le_of_ble_eq_true rfl, Nat.le_of_ble_eq_true rfl⟩) ⟨rblind, va_recv hR.K hR.P (ci := 13) (q0 := 0) rfl (hR.at14 hR.w.1), fun U hU hW9 => rmk hU hW9 hR hex hE hFc⟩ rfl rfl hl.1 rfl (lv_room (Nat.le_of_ble_eq_true rfl)) dX14_outEntry_168 ⟨Nat.le_of_ble_eq_true rfl, Nat.le_of_ble_eq_true rfl⟩) hR.sS (fun q _ h => hFc q h) hFc (fun  S32 t9 H1 locs ht9 hvm9 hw9 hB9 hz9 hk9 hS => ?_)
    obtain ⟨hq33, hw9, hs9⟩ := hw9
    have hR : Rep g ad A s S32 H1 locs := hR.call ht9 hB9 hw9 hS hFc
    have hsh := hsh.tr hs9
    replace h := h  S32 hq33
    clear hB9 hz9 hk9 hvm9 ht9 hw9 hs9 hS
    generalize H1 = H at hR ⊢
    refine lv_aload_n hx hb dX14_outEntry_171 rfl (lv_at hl 0 rfl) ?_
    refine lv_aload_n hx hb dX14_outEntry_172 rfl (lv_at hl 0 rfl) ?_
    refine va_get (D := rD g) (ci := 13) (v := .ref (ad 31)) (C := RX14) (T := TX14) (N := 143) hx hb hts in2X14 hown hR.K hR.P 0 (hR.at14 hR.w.1) rfl 70 (by decide) (hts _ kx_534) (fun _ h9 => h9) (congrArg (fun z => some (vf ad z)) (hR.w.2.1 _ fin_70).1) dX14_outEntry_173 ?_
    refine lv_iload_n hx hb dX14_outEntry_176 rfl (lv_at hl 1 rfl) ?_
    obtain ⟨hv34, h⟩ := h
    refine va_iald hx hb hR.K hR.P 31 1 (hR.atI (hR.w.2.1 _ fin_70).2.1) rfl (k_ixN (k_ix (n := 700) (x := x1) (a := x1.toInt) rfl hv34) (hR.w.2.1 _ fin_70).2.2) dX14_outEntry_177 ?_
    refine lv_topi (fun z35 ez35 => ?_)
    obtain rfl : z35 = (qI S32 31 x1.toInt.toNat) := ez35
    refine lv_i2l (v := ((qI S32 31 x1.toInt.toNat).toInt64)) hx hb dX14_outEntry_178 rfl ?_
    refine lv_iconst (v := 2) hx hb dX14_outEntry_179 (by decide) ?_
    obtain ⟨Q36, h0, h⟩ := h
    have hFc := rfree hR hA
    refine va_callv (va_runV (As := [.long ((qI S32 31 x1.toInt.toNat).toInt64), .int 2]) (rest := []) ⟨hx, hb, hml, hown, hts⟩ (r_out l g ad H.size S32 ((qI S32 31 x1.toInt.toNat).toInt64) (2 : Int32) hR.w  Q36 h0) (cwV 2 hts (gd2_V kx_586 kx_587 kx_588 kx_177 kx_589) rfl rfl rfl (by decide +kernel) ⟨Nat.le_of_ble_eq_true rfl, Nat.le_of_ble_eq_true rfl⟩) ⟨rblind, va_recv hR.K hR.P (ci := 13) (q0 := 0) rfl (hR.at14 hR.w.1), fun U hU hW9 => rmk hU hW9 hR hex hE hFc⟩ rfl rfl hl.1 rfl (lv_room (Nat.le_of_ble_eq_true rfl)) dX14_outEntry_180 ⟨Nat.le_of_ble_eq_true rfl, Nat.le_of_ble_eq_true rfl⟩) hR.sS (fun q _ h => hFc q h) hFc (fun  S37 t9 H1 locs ht9 hvm9 hw9 hB9 hz9 hk9 hS => ?_)
    obtain ⟨hq38, hw9, hs9⟩ := hw9
    have hR : Rep g ad A s S37 H1 locs := hR.call ht9 hB9 hw9 hS hFc
    have hsh := hsh.tr hs9
    replace h := h  S37 hq38
    clear hB9 hz9 hk9 hvm9 ht9 hw9 hs9 hS
    generalize H1 = H at hR ⊢
    exact W.vret hx hb hr (fun t9 ht9 hW9 => ⟨⟨S37, rfl, ⟨h, hR.w, hsh⟩, ⟨by rw [ht9]; exact hR.P, hR.D⟩⟩, hR.sS.F ht9⟩) hR.sS.2.2 dX14_outEntry_183
  replace h := h.2 c9_2
  by_cases c9_3 : (qI S4 28 x1.toInt.toNat).toInt = 3
  · refine lv_tableIn (off := 97) (tgt := 115) hx hb dX14_outEntry_18 (by rw [c9_3]; decide) (by rw [c9_3]; decide) (by rw [c9_3]; rfl) (by decide) ?_
    replace h := h.1 (c9_3)
    refine lv_aload_n hx hb dX14_outEntry_115 rfl (lv_at hl 0 rfl) ?_
    refine lv_aload_n hx hb dX14_outEntry_116 rfl (lv_at hl 0 rfl) ?_
    refine va_get (D := rD g) (ci := 13) (v := .ref (ad 32)) (C := RX14) (T := TX14) (N := 143) hx hb hts in2X14 hown hR.K hR.P 0 (hR.at14 hR.w.1) rfl 71 (by decide) (hts _ kx_535) (fun _ h9 => h9) (congrArg (fun z => some (vf ad z)) (hR.w.2.1 _ fin_71).1) dX14_outEntry_117 ?_
    refine lv_iload_n hx hb dX14_outEntry_120 rfl (lv_at hl 1 rfl) ?_
    obtain ⟨hv39, h⟩ := h
    refine va_lald hx hb hR.K hR.P 32 3 (hR.atL (hR.w.2.1 _ fin_71).2.1) rfl (k_ixN (k_ix (n := 700) (x := x1) (a := x1.toInt) rfl hv39) (hR.w.2.1 _ fin_71).2.2) dX14_outEntry_121 ?_
    refine lv_topl (fun z40 ez40 => ?_)
    obtain rfl : z40 = (qJ S4 32 x1.toInt.toNat) := ez40
    refine lv_iconst (v := 4) hx hb dX14_outEntry_122 (by decide) ?_
    obtain ⟨Q41, h0, h⟩ := h
    have hFc := rfree hR hA
    refine va_callv (va_runV (As := [.long (qJ S4 32 x1.toInt.toNat), .int 4]) (rest := []) ⟨hx, hb, hml, hown, hts⟩ (r_out l g ad H.size S4 (qJ S4 32 x1.toInt.toNat) (4 : Int32) hR.w  Q41 h0) (cwV 2 hts (gd2_V kx_586 kx_587 kx_588 kx_177 kx_589) rfl rfl rfl (by decide +kernel) ⟨Nat.le_of_ble_eq_true rfl, Nat.le_of_ble_eq_true rfl⟩) ⟨rblind, va_recv hR.K hR.P (ci := 13) (q0 := 0) rfl (hR.at14 hR.w.1), fun U hU hW9 => rmk hU hW9 hR hex hE hFc⟩ rfl rfl hl.1 rfl (lv_room (Nat.le_of_ble_eq_true rfl)) dX14_outEntry_123 ⟨Nat.le_of_ble_eq_true rfl, Nat.le_of_ble_eq_true rfl⟩) hR.sS (fun q _ h => hFc q h) hFc (fun  S42 t9 H1 locs ht9 hvm9 hw9 hB9 hz9 hk9 hS => ?_)
    obtain ⟨hq43, hw9, hs9⟩ := hw9
    have hR : Rep g ad A s S42 H1 locs := hR.call ht9 hB9 hw9 hS hFc
    have hsh := hsh.tr hs9
    replace h := h  S42 hq43
    clear hB9 hz9 hk9 hvm9 ht9 hw9 hs9 hS
    generalize H1 = H at hR ⊢
    refine lv_goto (tgt := 183) hx hb dX14_outEntry_126 (by decide) ?_
    exact W.vret hx hb hr (fun t9 ht9 hW9 => ⟨⟨S42, rfl, ⟨h, hR.w, hsh⟩, ⟨by rw [ht9]; exact hR.P, hR.D⟩⟩, hR.sS.F ht9⟩) hR.sS.2.2 dX14_outEntry_183
  replace h := h.2 c9_3
  by_cases c9_4 : (qI S4 28 x1.toInt.toNat).toInt = 4
  · refine lv_tableIn (off := 141) (tgt := 159) hx hb dX14_outEntry_18 (by rw [c9_4]; decide) (by rw [c9_4]; decide) (by rw [c9_4]; rfl) (by decide) ?_
    replace h := h.1 (c9_4)
    refine lv_aload_n hx hb dX14_outEntry_159 rfl (lv_at hl 0 rfl) ?_
    refine lv_aload_n hx hb dX14_outEntry_160 rfl (lv_at hl 0 rfl) ?_
    refine va_get (D := rD g) (ci := 13) (v := .ref (ad 30)) (C := RX14) (T := TX14) (N := 143) hx hb hts in2X14 hown hR.K hR.P 0 (hR.at14 hR.w.1) rfl 69 (by decide) (hts _ kx_533) (fun _ h9 => h9) (congrArg (fun z => some (vf ad z)) (hR.w.2.1 _ fin_69).1) dX14_outEntry_161 ?_
    refine lv_iload_n hx hb dX14_outEntry_164 rfl (lv_at hl 1 rfl) ?_
    obtain ⟨hv44, h⟩ := h
    refine va_iald hx hb hR.K hR.P 30 1 (hR.atI (hR.w.2.1 _ fin_69).2.1) rfl (k_ixN (k_ix (n := 700) (x := x1) (a := x1.toInt) rfl hv44) (hR.w.2.1 _ fin_69).2.2) dX14_outEntry_165 ?_
    refine lv_topi (fun z45 ez45 => ?_)
    obtain rfl : z45 = (qI S4 30 x1.toInt.toNat) := ez45
    refine lv_i2l (v := ((qI S4 30 x1.toInt.toNat).toInt64)) hx hb dX14_outEntry_166 rfl ?_
    refine lv_iconst (v := 2) hx hb dX14_outEntry_167 (by decide) ?_
    obtain ⟨Q46, h0, h⟩ := h
    have hFc := rfree hR hA
    refine va_callv (va_runV (As := [.long ((qI S4 30 x1.toInt.toNat).toInt64), .int 2]) (rest := []) ⟨hx, hb, hml, hown, hts⟩ (r_out l g ad H.size S4 ((qI S4 30 x1.toInt.toNat).toInt64) (2 : Int32) hR.w  Q46 h0) (cwV 2 hts (gd2_V kx_586 kx_587 kx_588 kx_177 kx_589) rfl rfl rfl (by decide +kernel) ⟨Nat.le_of_ble_eq_true rfl, Nat.le_of_ble_eq_true rfl⟩) ⟨rblind, va_recv hR.K hR.P (ci := 13) (q0 := 0) rfl (hR.at14 hR.w.1), fun U hU hW9 => rmk hU hW9 hR hex hE hFc⟩ rfl rfl hl.1 rfl (lv_room (Nat.le_of_ble_eq_true rfl)) dX14_outEntry_168 ⟨Nat.le_of_ble_eq_true rfl, Nat.le_of_ble_eq_true rfl⟩) hR.sS (fun q _ h => hFc q h) hFc (fun  S47 t9 H1 locs ht9 hvm9 hw9 hB9 hz9 hk9 hS => ?_)
    obtain ⟨hq48, hw9, hs9⟩ := hw9
    have hR : Rep g ad A s S47 H1 locs := hR.call ht9 hB9 hw9 hS hFc
    have hsh := hsh.tr hs9
    replace h := h  S47 hq48
    clear hB9 hz9 hk9 hvm9 ht9 hw9 hs9 hS
    generalize H1 = H at hR ⊢
    refine lv_aload_n hx hb dX14_outEntry_171 rfl (lv_at hl 0 rfl) ?_
    refine lv_aload_n hx hb dX14_outEntry_172 rfl (lv_at hl 0 rfl) ?_
    refine va_get (D := rD g) (ci := 13) (v := .ref (ad 31)) (C := RX14) (T := TX14) (N := 143) hx hb hts in2X14 hown hR.K hR.P 0 (hR.at14 hR.w.1) rfl 70 (by decide) (hts _ kx_534) (fun _ h9 => h9) (congrArg (fun z => some (vf ad z)) (hR.w.2.1 _ fin_70).1) dX14_outEntry_173 ?_
    refine lv_iload_n hx hb dX14_outEntry_176 rfl (lv_at hl 1 rfl) ?_
    obtain ⟨hv49, h⟩ := h
    refine va_iald hx hb hR.K hR.P 31 1 (hR.atI (hR.w.2.1 _ fin_70).2.1) rfl (k_ixN (k_ix (n := 700) (x := x1) (a := x1.toInt) rfl hv49) (hR.w.2.1 _ fin_70).2.2) dX14_outEntry_177 ?_
    refine lv_topi (fun z50 ez50 => ?_)
    obtain rfl : z50 = (qI S47 31 x1.toInt.toNat) := ez50
    refine lv_i2l (v := ((qI S47 31 x1.toInt.toNat).toInt64)) hx hb dX14_outEntry_178 rfl ?_
    refine lv_iconst (v := 2) hx hb dX14_outEntry_179 (by decide) ?_
    obtain ⟨Q51, h0, h⟩ := h
    have hFc := rfree hR hA
    refine va_callv (va_runV (As := [.long ((qI S47 31 x1.toInt.toNat).toInt64), .int 2]) (rest := []) ⟨hx, hb, hml, hown, hts⟩ (r_out l g ad H.size S47 ((qI S47 31 x1.toInt.toNat).toInt64) (2 : Int32) hR.w  Q51 h0) (cwV 2 hts (gd2_V kx_586 kx_587 kx_588 kx_177 kx_589) rfl rfl rfl (by decide +kernel) ⟨Nat.le_of_ble_eq_true rfl, Nat.le_of_ble_eq_true rfl⟩) ⟨rblind, va_recv hR.K hR.P (ci := 13) (q0 := 0) rfl (hR.at14 hR.w.1), fun U hU hW9 => rmk hU hW9 hR hex hE hFc⟩ rfl rfl hl.1 rfl (lv_room (Nat.le_of_ble_eq_true rfl)) dX14_outEntry_180 ⟨Nat.le_of_ble_eq_true rfl, Nat.le_of_ble_eq_true rfl⟩) hR.sS (fun q _ h => hFc q h) hFc (fun  S52 t9 H1 locs ht9 hvm9 hw9 hB9 hz9 hk9 hS => ?_)
    obtain ⟨hq53, hw9, hs9⟩ := hw9
    have hR : Rep g ad A s S52 H1 locs := hR.call ht9 hB9 hw9 hS hFc
    have hsh := hsh.tr hs9
    replace h := h  S52 hq53
    clear hB9 hz9 hk9 hvm9 ht9 hw9 hs9 hS
    generalize H1 = H at hR ⊢
    exact W.vret hx hb hr (fun t9 ht9 hW9 => ⟨⟨S52, rfl, ⟨h, hR.w, hsh⟩, ⟨by rw [ht9]; exact hR.P, hR.D⟩⟩, hR.sS.F ht9⟩) hR.sS.2.2 dX14_outEntry_183
  replace h := h.2 c9_4
  by_cases c9_5 : (qI S4 28 x1.toInt.toNat).toInt = 5
  · refine lv_tableIn (off := 111) (tgt := 129) hx hb dX14_outEntry_18 (by rw [c9_5]; decide) (by rw [c9_5]; decide) (by rw [c9_5]; rfl) (by decide) ?_
    replace h := h.1 (c9_5)
    refine lv_aload_n hx hb dX14_outEntry_129 rfl (lv_at hl 0 rfl) ?_
    refine lv_aload_n hx hb dX14_outEntry_130 rfl (lv_at hl 0 rfl) ?_
    refine va_get (D := rD g) (ci := 13) (v := .ref (ad 32)) (C := RX14) (T := TX14) (N := 143) hx hb hts in2X14 hown hR.K hR.P 0 (hR.at14 hR.w.1) rfl 71 (by decide) (hts _ kx_535) (fun _ h9 => h9) (congrArg (fun z => some (vf ad z)) (hR.w.2.1 _ fin_71).1) dX14_outEntry_131 ?_
    refine lv_iload_n hx hb dX14_outEntry_134 rfl (lv_at hl 1 rfl) ?_
    obtain ⟨hv54, h⟩ := h
    refine va_lald hx hb hR.K hR.P 32 3 (hR.atL (hR.w.2.1 _ fin_71).2.1) rfl (k_ixN (k_ix (n := 700) (x := x1) (a := x1.toInt) rfl hv54) (hR.w.2.1 _ fin_71).2.2) dX14_outEntry_135 ?_
    refine lv_topl (fun z55 ez55 => ?_)
    obtain rfl : z55 = (qJ S4 32 x1.toInt.toNat) := ez55
    refine lv_bipush (v := 8) hx hb dX14_outEntry_136 (by decide) ?_
    obtain ⟨Q56, h0, h⟩ := h
    have hFc := rfree hR hA
    refine va_callv (va_runV (As := [.long (qJ S4 32 x1.toInt.toNat), .int 8]) (rest := []) ⟨hx, hb, hml, hown, hts⟩ (r_out l g ad H.size S4 (qJ S4 32 x1.toInt.toNat) (8 : Int32) hR.w  Q56 h0) (cwV 2 hts (gd2_V kx_586 kx_587 kx_588 kx_177 kx_589) rfl rfl rfl (by decide +kernel) ⟨Nat.le_of_ble_eq_true rfl, Nat.le_of_ble_eq_true rfl⟩) ⟨rblind, va_recv hR.K hR.P (ci := 13) (q0 := 0) rfl (hR.at14 hR.w.1), fun U hU hW9 => rmk hU hW9 hR hex hE hFc⟩ rfl rfl hl.1 rfl (lv_room (Nat.le_of_ble_eq_true rfl)) dX14_outEntry_138 ⟨Nat.le_of_ble_eq_true rfl, Nat.le_of_ble_eq_true rfl⟩) hR.sS (fun q _ h => hFc q h) hFc (fun  S57 t9 H1 locs ht9 hvm9 hw9 hB9 hz9 hk9 hS => ?_)
    obtain ⟨hq58, hw9, hs9⟩ := hw9
    have hR : Rep g ad A s S57 H1 locs := hR.call ht9 hB9 hw9 hS hFc
    have hsh := hsh.tr hs9
    replace h := h  S57 hq58
    clear hB9 hz9 hk9 hvm9 ht9 hw9 hs9 hS
    generalize H1 = H at hR ⊢
    refine lv_goto (tgt := 183) hx hb dX14_outEntry_141 (by decide) ?_
    exact W.vret hx hb hr (fun t9 ht9 hW9 => ⟨⟨S57, rfl, ⟨h, hR.w, hsh⟩, ⟨by rw [ht9]; exact hR.P, hR.D⟩⟩, hR.sS.F ht9⟩) hR.sS.2.2 dX14_outEntry_183
  replace h := h.2 c9_5
  by_cases c9_6 : (qI S4 28 x1.toInt.toNat).toInt = 6
  · refine lv_tableIn (off := 141) (tgt := 159) hx hb dX14_outEntry_18 (by rw [c9_6]; decide) (by rw [c9_6]; decide) (by rw [c9_6]; rfl) (by decide) ?_
    replace h := h.1 (c9_6)
    refine lv_aload_n hx hb dX14_outEntry_159 rfl (lv_at hl 0 rfl) ?_
    refine lv_aload_n hx hb dX14_outEntry_160 rfl (lv_at hl 0 rfl) ?_
    refine va_get (D := rD g) (ci := 13) (v := .ref (ad 30)) (C := RX14) (T := TX14) (N := 143) hx hb hts in2X14 hown hR.K hR.P 0 (hR.at14 hR.w.1) rfl 69 (by decide) (hts _ kx_533) (fun _ h9 => h9) (congrArg (fun z => some (vf ad z)) (hR.w.2.1 _ fin_69).1) dX14_outEntry_161 ?_
    refine lv_iload_n hx hb dX14_outEntry_164 rfl (lv_at hl 1 rfl) ?_
    obtain ⟨hv59, h⟩ := h
    refine va_iald hx hb hR.K hR.P 30 1 (hR.atI (hR.w.2.1 _ fin_69).2.1) rfl (k_ixN (k_ix (n := 700) (x := x1) (a := x1.toInt) rfl hv59) (hR.w.2.1 _ fin_69).2.2) dX14_outEntry_165 ?_
    refine lv_topi (fun z60 ez60 => ?_)
    obtain rfl : z60 = (qI S4 30 x1.toInt.toNat) := ez60
    refine lv_i2l (v := ((qI S4 30 x1.toInt.toNat).toInt64)) hx hb dX14_outEntry_166 rfl ?_
    refine lv_iconst (v := 2) hx hb dX14_outEntry_167 (by decide) ?_
    obtain ⟨Q61, h0, h⟩ := h
    have hFc := rfree hR hA
    refine va_callv (va_runV (As := [.long ((qI S4 30 x1.toInt.toNat).toInt64), .int 2]) (rest := []) ⟨hx, hb, hml, hown, hts⟩ (r_out l g ad H.size S4 ((qI S4 30 x1.toInt.toNat).toInt64) (2 : Int32) hR.w  Q61 h0) (cwV 2 hts (gd2_V kx_586 kx_587 kx_588 kx_177 kx_589) rfl rfl rfl (by decide +kernel) ⟨Nat.le_of_ble_eq_true rfl, Nat.le_of_ble_eq_true rfl⟩) ⟨rblind, va_recv hR.K hR.P (ci := 13) (q0 := 0) rfl (hR.at14 hR.w.1), fun U hU hW9 => rmk hU hW9 hR hex hE hFc⟩ rfl rfl hl.1 rfl (lv_room (Nat.le_of_ble_eq_true rfl)) dX14_outEntry_168 ⟨Nat.le_of_ble_eq_true rfl, Nat.le_of_ble_eq_true rfl⟩) hR.sS (fun q _ h => hFc q h) hFc (fun  S62 t9 H1 locs ht9 hvm9 hw9 hB9 hz9 hk9 hS => ?_)
    obtain ⟨hq63, hw9, hs9⟩ := hw9
    have hR : Rep g ad A s S62 H1 locs := hR.call ht9 hB9 hw9 hS hFc
    have hsh := hsh.tr hs9
    replace h := h  S62 hq63
    clear hB9 hz9 hk9 hvm9 ht9 hw9 hs9 hS
    generalize H1 = H at hR ⊢
    refine lv_aload_n hx hb dX14_outEntry_171 rfl (lv_at hl 0 rfl) ?_
    refine lv_aload_n hx hb dX14_outEntry_172 rfl (lv_at hl 0 rfl) ?_
    refine va_get (D := rD g) (ci := 13) (v := .ref (ad 31)) (C := RX14) (T := TX14) (N := 143) hx hb hts in2X14 hown hR.K hR.P 0 (hR.at14 hR.w.1) rfl 70 (by decide) (hts _ kx_534) (fun _ h9 => h9) (congrArg (fun z => some (vf ad z)) (hR.w.2.1 _ fin_70).1) dX14_outEntry_173 ?_
    refine lv_iload_n hx hb dX14_outEntry_176 rfl (lv_at hl 1 rfl) ?_
    obtain ⟨hv64, h⟩ := h
    refine va_iald hx hb hR.K hR.P 31 1 (hR.atI (hR.w.2.1 _ fin_70).2.1) rfl (k_ixN (k_ix (n := 700) (x := x1) (a := x1.toInt) rfl hv64) (hR.w.2.1 _ fin_70).2.2) dX14_outEntry_177 ?_
    refine lv_topi (fun z65 ez65 => ?_)
    obtain rfl : z65 = (qI S62 31 x1.toInt.toNat) := ez65
    refine lv_i2l (v := ((qI S62 31 x1.toInt.toNat).toInt64)) hx hb dX14_outEntry_178 rfl ?_
    refine lv_iconst (v := 2) hx hb dX14_outEntry_179 (by decide) ?_
    obtain ⟨Q66, h0, h⟩ := h
    have hFc := rfree hR hA
    refine va_callv (va_runV (As := [.long ((qI S62 31 x1.toInt.toNat).toInt64), .int 2]) (rest := []) ⟨hx, hb, hml, hown, hts⟩ (r_out l g ad H.size S62 ((qI S62 31 x1.toInt.toNat).toInt64) (2 : Int32) hR.w  Q66 h0) (cwV 2 hts (gd2_V kx_586 kx_587 kx_588 kx_177 kx_589) rfl rfl rfl (by decide +kernel) ⟨Nat.le_of_ble_eq_true rfl, Nat.le_of_ble_eq_true rfl⟩) ⟨rblind, va_recv hR.K hR.P (ci := 13) (q0 := 0) rfl (hR.at14 hR.w.1), fun U hU hW9 => rmk hU hW9 hR hex hE hFc⟩ rfl rfl hl.1 rfl (lv_room (Nat.le_of_ble_eq_true rfl)) dX14_outEntry_180 ⟨Nat.le_of_ble_eq_true rfl, Nat.le_of_ble_eq_true rfl⟩) hR.sS (fun q _ h => hFc q h) hFc (fun  S67 t9 H1 locs ht9 hvm9 hw9 hB9 hz9 hk9 hS => ?_)
    obtain ⟨hq68, hw9, hs9⟩ := hw9
    have hR : Rep g ad A s S67 H1 locs := hR.call ht9 hB9 hw9 hS hFc
    have hsh := hsh.tr hs9
    replace h := h  S67 hq68
    clear hB9 hz9 hk9 hvm9 ht9 hw9 hs9 hS
    generalize H1 = H at hR ⊢
    exact W.vret hx hb hr (fun t9 ht9 hW9 => ⟨⟨S67, rfl, ⟨h, hR.w, hsh⟩, ⟨by rw [ht9]; exact hR.P, hR.D⟩⟩, hR.sS.F ht9⟩) hR.sS.2.2 dX14_outEntry_183
  replace h := h.2 c9_6
  by_cases c9_7 : (qI S4 28 x1.toInt.toNat).toInt = 7
  · refine lv_tableIn (off := 126) (tgt := 144) hx hb dX14_outEntry_18 (by rw [c9_7]; decide) (by rw [c9_7]; decide) (by rw [c9_7]; rfl) (by decide) ?_
    replace h := h.1 (c9_7)
    refine lv_aload_n hx hb dX14_outEntry_144 rfl (lv_at hl 0 rfl) ?_
    refine lv_aload_n hx hb dX14_outEntry_145 rfl (lv_at hl 0 rfl) ?_
    refine va_get (D := rD g) (ci := 13) (v := .ref (ad 30)) (C := RX14) (T := TX14) (N := 143) hx hb hts in2X14 hown hR.K hR.P 0 (hR.at14 hR.w.1) rfl 69 (by decide) (hts _ kx_533) (fun _ h9 => h9) (congrArg (fun z => some (vf ad z)) (hR.w.2.1 _ fin_69).1) dX14_outEntry_146 ?_
    refine lv_iload_n hx hb dX14_outEntry_149 rfl (lv_at hl 1 rfl) ?_
    obtain ⟨hv69, h⟩ := h
    refine va_iald hx hb hR.K hR.P 30 1 (hR.atI (hR.w.2.1 _ fin_69).2.1) rfl (k_ixN (k_ix (n := 700) (x := x1) (a := x1.toInt) rfl hv69) (hR.w.2.1 _ fin_69).2.2) dX14_outEntry_150 ?_
    refine lv_topi (fun z70 ez70 => ?_)
    obtain rfl : z70 = (qI S4 30 x1.toInt.toNat) := ez70
    refine lv_i2l (v := ((qI S4 30 x1.toInt.toNat).toInt64)) hx hb dX14_outEntry_151 rfl ?_
    refine lv_iconst (v := 2) hx hb dX14_outEntry_152 (by decide) ?_
    obtain ⟨Q71, h0, h⟩ := h
    have hFc := rfree hR hA
    refine va_callv (va_runV (As := [.long ((qI S4 30 x1.toInt.toNat).toInt64), .int 2]) (rest := []) ⟨hx, hb, hml, hown, hts⟩ (r_out l g ad H.size S4 ((qI S4 30 x1.toInt.toNat).toInt64) (2 : Int32) hR.w  Q71 h0) (cwV 2 hts (gd2_V kx_586 kx_587 kx_588 kx_177 kx_589) rfl rfl rfl (by decide +kernel) ⟨Nat.le_of_ble_eq_true rfl, Nat.le_of_ble_eq_true rfl⟩) ⟨rblind, va_recv hR.K hR.P (ci := 13) (q0 := 0) rfl (hR.at14 hR.w.1), fun U hU hW9 => rmk hU hW9 hR hex hE hFc⟩ rfl rfl hl.1 rfl (lv_room (Nat.le_of_ble_eq_true rfl)) dX14_outEntry_153 ⟨Nat.le_of_ble_eq_true rfl, Nat.le_of_ble_eq_true rfl⟩) hR.sS (fun q _ h => hFc q h) hFc (fun  S72 t9 H1 locs ht9 hvm9 hw9 hB9 hz9 hk9 hS => ?_)
    obtain ⟨hq73, hw9, hs9⟩ := hw9
    have hR : Rep g ad A s S72 H1 locs := hR.call ht9 hB9 hw9 hS hFc
    have hsh := hsh.tr hs9
    replace h := h  S72 hq73
    clear hB9 hz9 hk9 hvm9 ht9 hw9 hs9 hS
    generalize H1 = H at hR ⊢
    refine lv_goto (tgt := 183) hx hb dX14_outEntry_156 (by decide) ?_
    exact W.vret hx hb hr (fun t9 ht9 hW9 => ⟨⟨S72, rfl, ⟨h, hR.w, hsh⟩, ⟨by rw [ht9]; exact hR.P, hR.D⟩⟩, hR.sS.F ht9⟩) hR.sS.2.2 dX14_outEntry_183
  replace h := h.2 c9_7
  refine lv_tableOut (tgt := 159) hx hb dX14_outEntry_18 (by omega) (by decide) ?_
  refine lv_aload_n hx hb dX14_outEntry_159 rfl (lv_at hl 0 rfl) ?_
  refine lv_aload_n hx hb dX14_outEntry_160 rfl (lv_at hl 0 rfl) ?_
  refine va_get (D := rD g) (ci := 13) (v := .ref (ad 30)) (C := RX14) (T := TX14) (N := 143) hx hb hts in2X14 hown hR.K hR.P 0 (hR.at14 hR.w.1) rfl 69 (by decide) (hts _ kx_533) (fun _ h9 => h9) (congrArg (fun z => some (vf ad z)) (hR.w.2.1 _ fin_69).1) dX14_outEntry_161 ?_
  refine lv_iload_n hx hb dX14_outEntry_164 rfl (lv_at hl 1 rfl) ?_
  obtain ⟨hv74, h⟩ := h
  refine va_iald hx hb hR.K hR.P 30 1 (hR.atI (hR.w.2.1 _ fin_69).2.1) rfl (k_ixN (k_ix (n := 700) (x := x1) (a := x1.toInt) rfl hv74) (hR.w.2.1 _ fin_69).2.2) dX14_outEntry_165 ?_
  refine lv_topi (fun z75 ez75 => ?_)
  obtain rfl : z75 = (qI S4 30 x1.toInt.toNat) := ez75
  refine lv_i2l (v := ((qI S4 30 x1.toInt.toNat).toInt64)) hx hb dX14_outEntry_166 rfl ?_
  refine lv_iconst (v := 2) hx hb dX14_outEntry_167 (by decide) ?_
  obtain ⟨Q76, h0, h⟩ := h
  have hFc := rfree hR hA
  refine va_callv (va_runV (As := [.long ((qI S4 30 x1.toInt.toNat).toInt64), .int 2]) (rest := []) ⟨hx, hb, hml, hown, hts⟩ (r_out l g ad H.size S4 ((qI S4 30 x1.toInt.toNat).toInt64) (2 : Int32) hR.w  Q76 h0) (cwV 2 hts (gd2_V kx_586 kx_587 kx_588 kx_177 kx_589) rfl rfl rfl (by decide +kernel) ⟨Nat.le_of_ble_eq_true rfl, Nat.le_of_ble_eq_true rfl⟩) ⟨rblind, va_recv hR.K hR.P (ci := 13) (q0 := 0) rfl (hR.at14 hR.w.1), fun U hU hW9 => rmk hU hW9 hR hex hE hFc⟩ rfl rfl hl.1 rfl (lv_room (Nat.le_of_ble_eq_true rfl)) dX14_outEntry_168 ⟨Nat.le_of_ble_eq_true rfl, Nat.le_of_ble_eq_true rfl⟩) hR.sS (fun q _ h => hFc q h) hFc (fun  S77 t9 H1 locs ht9 hvm9 hw9 hB9 hz9 hk9 hS => ?_)
  obtain ⟨hq78, hw9, hs9⟩ := hw9
  have hR : Rep g ad A s S77 H1 locs := hR.call ht9 hB9 hw9 hS hFc
  have hsh := hsh.tr hs9
  replace h := h  S77 hq78
  clear hB9 hz9 hk9 hvm9 ht9 hw9 hs9 hS
  generalize H1 = H at hR ⊢
  refine lv_aload_n hx hb dX14_outEntry_171 rfl (lv_at hl 0 rfl) ?_
  refine lv_aload_n hx hb dX14_outEntry_172 rfl (lv_at hl 0 rfl) ?_
  refine va_get (D := rD g) (ci := 13) (v := .ref (ad 31)) (C := RX14) (T := TX14) (N := 143) hx hb hts in2X14 hown hR.K hR.P 0 (hR.at14 hR.w.1) rfl 70 (by decide) (hts _ kx_534) (fun _ h9 => h9) (congrArg (fun z => some (vf ad z)) (hR.w.2.1 _ fin_70).1) dX14_outEntry_173 ?_
  refine lv_iload_n hx hb dX14_outEntry_176 rfl (lv_at hl 1 rfl) ?_
  obtain ⟨hv79, h⟩ := h
  refine va_iald hx hb hR.K hR.P 31 1 (hR.atI (hR.w.2.1 _ fin_70).2.1) rfl (k_ixN (k_ix (n := 700) (x := x1) (a := x1.toInt) rfl hv79) (hR.w.2.1 _ fin_70).2.2) dX14_outEntry_177 ?_
  refine lv_topi (fun z80 ez80 => ?_)
  obtain rfl : z80 = (qI S77 31 x1.toInt.toNat) := ez80
  refine lv_i2l (v := ((qI S77 31 x1.toInt.toNat).toInt64)) hx hb dX14_outEntry_178 rfl ?_
  refine lv_iconst (v := 2) hx hb dX14_outEntry_179 (by decide) ?_
  obtain ⟨Q81, h0, h⟩ := h
  have hFc := rfree hR hA
  refine va_callv (va_runV (As := [.long ((qI S77 31 x1.toInt.toNat).toInt64), .int 2]) (rest := []) ⟨hx, hb, hml, hown, hts⟩ (r_out l g ad H.size S77 ((qI S77 31 x1.toInt.toNat).toInt64) (2 : Int32) hR.w  Q81 h0) (cwV 2 hts (gd2_V kx_586 kx_587 kx_588 kx_177 kx_589) rfl rfl rfl (by decide +kernel) ⟨Nat.le_of_ble_eq_true rfl, Nat.le_of_ble_eq_true rfl⟩) ⟨rblind, va_recv hR.K hR.P (ci := 13) (q0 := 0) rfl (hR.at14 hR.w.1), fun U hU hW9 => rmk hU hW9 hR hex hE hFc⟩ rfl rfl hl.1 rfl (lv_room (Nat.le_of_ble_eq_true rfl)) dX14_outEntry_180 ⟨Nat.le_of_ble_eq_true rfl, Nat.le_of_ble_eq_true rfl⟩) hR.sS (fun q _ h => hFc q h) hFc (fun  S82 t9 H1 locs ht9 hvm9 hw9 hB9 hz9 hk9 hS => ?_)
  obtain ⟨hq83, hw9, hs9⟩ := hw9
  have hR : Rep g ad A s S82 H1 locs := hR.call ht9 hB9 hw9 hS hFc
  have hsh := hsh.tr hs9
  replace h := h  S82 hq83
  clear hB9 hz9 hk9 hvm9 ht9 hw9 hs9 hS
  generalize H1 = H at hR ⊢
  exact W.vret hx hb hr (fun t9 ht9 hW9 => ⟨⟨S82, rfl, ⟨h, hR.w, hsh⟩, ⟨by rw [ht9]; exact hR.P, hR.D⟩⟩, hR.sS.F ht9⟩) hR.sS.2.2 dX14_outEntry_183
def f_byteAt_J25 (S : MS) : Int32 := (-1 : Int32)
def d_byteAt_J25 (S : MS) : Prop := True
def f_byteAt (S : MS) (x1 : Int32) : Int32 := (if x1.toInt < 0 then f_byteAt_J25 S else (if (qI S 0 78).toInt ≤ x1.toInt then f_byteAt_J25 S else ((qI S (qO S 0 76) x1.toInt.toNat) &&& (255 : Int32))))
def d_byteAt (S : MS) (x1 : Int32) : Prop := (if x1.toInt < 0 then d_byteAt_J25 S else (if (qI S 0 78).toInt ≤ x1.toInt then d_byteAt_J25 S else ((qR S 0 76 = some (qO S 0 76)) ∧ (((0 : Int) ≤ x1.toInt ∧ x1.toInt < (qN S (qO S 0 76) : Int)) ∧ True))))
set_option maxHeartbeats 2000000 in
set_option maxRecDepth 100000 in
theorem r_byteAt (l : Launch) (g : Gr) (ad : Nat → Nat) (sz : Nat) (S : MS) (x1 : Int32) (hw : wfM S) (hd : d_byteAt S x1) : Met l yX14_byteAt (wt2 yX14_byteAt cX14_byteAt 2 (some .int)) ({ frames := 0, cells := 0, slots := 0, locals := 0 }) (va_Pc [.ref (ad 0), .int x1] (st_R g ad sz S)) (va_Qi (fun (r : Int32) (_ : Unit) => r = f_byteAt S x1) (fun (_ : Unit) (t : State) => qE g ad (va_A (Wd g ad S) sz) S t) (va_A (Wd g ad S) sz)) 0 0 (va_A (Wd g ad S) sz) := by
  refine Met.ofW (cc := cX14_byteAt) (maxL := 2) (ret := (some .int)) (by decide) rfl ?_
  intro p e s m args below meth c s₁ B hml hv
  obtain ⟨rfl, hsz, hP, hK, hD0, hex, hE⟩ := hv
  have hx := B.exec
  have hb := B.bytes
  have hr := B.returns
  have hts0 := atoms_spec (ws := wt2 yX14_byteAt cX14_byteAt 2 (some .int)) B.pre
  have hts : ∀ w ∈ tb2, w.before _ s = true := fun w h => hts0 w (List.mem_cons_of_mem _ h)
  have hown : s.vm.findClass RX14 = some m.cls := findClass_of_methodNamed B.named
  subst hsz
  have hD := hD0.self (sz := s.heap.size)
  generalize hAe : va_A (Wd g ad S) s.heap.size = A at hD hE ⊢
  have hA : ∀ q : Nat, s.heap.size ≤ q → A q := fun q h => by rw [← hAe]; exact Or.inr h
  have hR : Rep g ad A s S s.heap [] := ⟨hK, hP, hD, va_S.rf, hw⟩
  clear hK hP hD hD0
  have hl := lv_entry ([.ref (ad 0), .int x1]) (n := 2) (Nat.le_of_ble_eq_true rfl)
  rw [lg_entry_eq]
  generalize (lg_sl ([.ref (ad 0), .int x1]) ++ List.replicate (2 - (lg_sl ([.ref (ad 0), .int x1])).length) Slot.unset).toArray = ls at hl ⊢
  have hl : lv_has ls 2 [(0, .ref (ad 0)), (1, .int x1)] := hl
  obtain ⟨r0, hf⟩ : ∃ r0, f_byteAt S x1 = r0 := ⟨_, rfl⟩
  have hf0 := hf
  unfold f_byteAt at hf
  unfold d_byteAt at hd
  refine lv_iload_n hx hb dX14_byteAt_0 rfl (lv_at hl 1 rfl) ?_
  have J_25 : ∀ (H : Heap) (locs : List Loc) (ls : Array Slot), d_byteAt_J25 S → f_byteAt_J25 S = r0 → Rep g ad A s S H locs → lv_has ls 2 [] → W p l e (headSpec (wt2 yX14_byteAt cX14_byteAt 2 (some .int)) ({ frames := 0, cells := 0, slots := 0, locals := 0 })).room s m ([.ref (ad 0), .int x1] : List Value).toArray below meth c H locs 0 0 (MQ below (va_Qi (fun (r : Int32) (_ : Unit) => r = f_byteAt S x1) (fun (_ : Unit) (t : State) => qE g ad A S t) A) ([.ref (ad 0), .int x1] : List Value).toArray s 0 0 A) (F0 m 25 ls []) := by
    intro H locs ls hd hf hR hl
    unfold d_byteAt_J25 at hd
    unfold f_byteAt_J25 at hf
    refine lv_iconst (v := (-1)) hx hb dX14_byteAt_25 (by decide) ?_
    exact W.iret (v := (-1)) hx hb hr (fun t9 ht9 hW9 => ⟨⟨_, (), rfl, hf.trans hf0.symm, ⟨by rw [ht9]; exact hR.P, hR.D⟩⟩, hR.sS.F ht9⟩) hR.sS.2.2 dX14_byteAt_26
  refine lv_if_lt (tgt := 25) hx hb dX14_byteAt_1 (by decide) (fun c1 => ?_) (fun c1 => ?_)
  · rw [if_pos (k_lt rfl (by decide) c1)] at hf
    (try rw [if_pos (k_lt rfl (by decide) c1)] at hd)
    exact J_25 _ _ ls hd hf  hR (lv_sub hl [] rfl)
  · rw [if_neg (k_nlt rfl (by decide) c1)] at hf
    (try rw [if_neg (k_nlt rfl (by decide) c1)] at hd)
    refine lv_iload_n hx hb dX14_byteAt_4 rfl (lv_at hl 1 rfl) ?_
    refine lv_aload_n hx hb dX14_byteAt_5 rfl (lv_at hl 0 rfl) ?_
    refine va_get (D := rD g) (ci := 13) (v := .int (qI S 0 78)) (C := RX14) (T := TX14) (N := 143) hx hb hts in2X14 hown hR.K hR.P 0 (hR.at14 hR.w.1) rfl 78 (by decide) (hts _ kx_606) (fun _ h9 => h9) rfl dX14_byteAt_6 ?_
    refine lv_icmp_ge (tgt := 25) hx hb dX14_byteAt_9 (by decide) (fun c2 => ?_) (fun c2 => ?_)
    · rw [if_pos (k_le rfl rfl c2)] at hf
      (try rw [if_pos (k_le rfl rfl c2)] at hd)
      exact J_25 _ _ ls hd hf  hR (lv_sub hl [] rfl)
    · rw [if_neg (k_nle rfl rfl c2)] at hf
      (try rw [if_neg (k_nle rfl rfl c2)] at hd)
      refine lv_aload_n hx hb dX14_byteAt_12 rfl (lv_at hl 0 rfl) ?_
      obtain ⟨hv3, hd⟩ := hd
      have hT_b4 : qT S (qO S 0 76) = 1 := hR.w.ref hv3 hR.w.1
      refine va_get (D := rD g) (ci := 13) (v := .ref (ad (qO S 0 76))) (C := RX14) (T := TX14) (N := 143) hx hb hts in2X14 hown hR.K hR.P 0 (hR.at14 hR.w.1) rfl 76 (by decide) (hts _ kx_607) (fun _ h9 => h9) (congrArg (fun z => some (vf ad z)) hv3) dX14_byteAt_13 ?_
      refine lv_iload_n hx hb dX14_byteAt_16 rfl (lv_at hl 1 rfl) ?_
      obtain ⟨hv5, hd⟩ := hd
      refine va_bald hx hb hR.K hR.P (qO S 0 76) 0 (hR.atB hT_b4) rfl (k_ix (x := x1) (a := x1.toInt) rfl hv5) dX14_byteAt_17 ?_
      refine lv_topi (fun z6 ez6 => ?_)
      obtain rfl : z6 = (qI S (qO S 0 76) x1.toInt.toNat) := ez6
      refine lv_sipush (v := 255) hx hb dX14_byteAt_18 (by decide) ?_
      refine lv_iand hx hb dX14_byteAt_21 ?_
      refine lv_topi (fun z7 ez7 => ?_)
      obtain rfl : z7 = ((qI S (qO S 0 76) x1.toInt.toNat) &&& (255 : Int32)) := ez7
      refine lv_goto (tgt := 26) hx hb dX14_byteAt_22 (by decide) ?_
      exact W.iret (v := ((qI S (qO S 0 76) x1.toInt.toNat) &&& (255 : Int32))) hx hb hr (fun t9 ht9 hW9 => ⟨⟨_, (), rfl, hf.trans hf0.symm, ⟨by rw [ht9]; exact hR.P, hR.D⟩⟩, hR.sS.F ht9⟩) hR.sS.2.2 dX14_byteAt_26
def w_stage_L43 (Q : Int32 → MS → Prop) : Nat → MS → Int32 → Prop
  | 0, _, _ => False
  | n43 + 1, U43, v43_2 => ((20000 ≤ v43_2.toInt → (∀ S12, S12 = wI U43 0 85 0 → (∀ S13, S13 = wI S12 0 86 0 → Q (1 : Int32) S13))) ∧ (¬ 20000 ≤ v43_2.toInt → (((0 : Int) ≤ v43_2.toInt ∧ v43_2.toInt < 20000) ∧ (∀ S15, S15 = wI U43 38 v43_2.toInt.toNat (0 : Int32) → (∀ a16 : Int32, a16 = (v43_2 + Int32.ofInt 1) → (w_stage_L43 Q n43) S15 a16)))))
def w_stage_L22 (Q : Int32 → MS → Prop) : Nat → MS → Int32 → Prop
  | 0, _, _ => False
  | n22 + 1, U22, v22_2 => ((24 ≤ v22_2.toInt → (∃ n, w_stage_L43 Q n U22 0)) ∧ (¬ 24 ≤ v22_2.toInt → (((0 : Int) ≤ v22_2.toInt ∧ v22_2.toInt < 24) ∧ (∀ S18, S18 = wJ U22 37 v22_2.toInt.toNat 0 → (∀ a19 : Int32, a19 = (v22_2 + Int32.ofInt 1) → (w_stage_L22 Q n22) S18 a19)))))
def w_stage (S : MS) (x1 : Int32) (Q : Int32 → MS → Prop) : Prop := (∃ Q1, w_isRight S x1 Q1 ∧ ∀ r2 S3, Q1 r2 S3 → ((r2.toInt = 0 → Q (0 : Int32) S3) ∧ (¬ r2.toInt = 0 → (((0 : Int) ≤ x1.toInt ∧ x1.toInt < 12) ∧ ((qR S3 1 x1.toInt.toNat = some (qO S3 1 x1.toInt.toNat)) ∧ (∀ S9, S9 = wR S3 0 80 (some (qO S3 1 x1.toInt.toNat)) → (∃ n, w_stage_L22 Q n S9 0)))))))
set_option maxHeartbeats 2000000 in
set_option maxRecDepth 100000 in
theorem r_stage (l : Launch) (g : Gr) (ad : Nat → Nat) (sz : Nat) (S : MS) (x1 : Int32) (hw : wfM S) (Q : Int32 → MS → Prop) (h : w_stage S x1 Q) : Met l yX14_stage (wt2 yX14_stage cX14_stage 3 (some .boolean)) ({ frames := 2, cells := 0, slots := 0, locals := 42 }) (va_Pc [.ref (ad 0), .int x1] (st_R g ad sz S)) (va_Qi (fun (r : Int32) (u : MS) => Q r u ∧ wfM u ∧ shy S u ∧ (r = 0 ∨ r = 1)) (fun (u : MS) (t : State) => qE g ad (va_A (Wd g ad S) sz) u t) (va_A (Wd g ad S) sz)) 0 0 (va_A (Wd g ad S) sz) := by
  refine Met.ofW (cc := cX14_stage) (maxL := 3) (ret := (some .boolean)) (by decide) rfl ?_
  intro p e s m args below meth c s₁ B hml hv
  obtain ⟨rfl, hsz, hP, hK, hD0, hex, hE⟩ := hv
  have hx := B.exec
  have hb := B.bytes
  have hr := B.returns
  have hts0 := atoms_spec (ws := wt2 yX14_stage cX14_stage 3 (some .boolean)) B.pre
  have hts : ∀ w ∈ tb2, w.before _ s = true := fun w h => hts0 w (List.mem_cons_of_mem _ h)
  have hown : s.vm.findClass RX14 = some m.cls := findClass_of_methodNamed B.named
  subst hsz
  have hD := hD0.self (sz := s.heap.size)
  generalize hAe : va_A (Wd g ad S) s.heap.size = A at hD hE ⊢
  have hA : ∀ q : Nat, s.heap.size ≤ q → A q := fun q h => by rw [← hAe]; exact Or.inr h
  have hR : Rep g ad A s S s.heap [] := ⟨hK, hP, hD, va_S.rf, hw⟩
  clear hK hP hD hD0
  have hl := lv_entry ([.ref (ad 0), .int x1]) (n := 3) (Nat.le_of_ble_eq_true rfl)
  rw [lg_entry_eq]
  generalize (lg_sl ([.ref (ad 0), .int x1]) ++ List.replicate (3 - (lg_sl ([.ref (ad 0), .int x1])).length) Slot.unset).toArray = ls at hl ⊢
  have hl : lv_has ls 3 [(0, .ref (ad 0)), (1, .int x1)] := hl
  have hsh : shy S S := shy.rf
  unfold w_stage at h
  refine lv_aload_n hx hb dX14_stage_0 rfl (lv_at hl 0 rfl) ?_
  refine lv_iload_n hx hb dX14_stage_1 rfl (lv_at hl 1 rfl) ?_
  obtain ⟨Q1, h0, h⟩ := h
  have hFc := rfree hR hA
  refine va_calli (va_runV (As := [.int x1]) (rest := []) ⟨hx, hb, hml, hown, hts⟩ (r_isRight l g ad s.heap.size S x1 hR.w  Q1 h0) (cwV 1 hts (gd2_V kx_523 kx_524 kx_525 kx_177 kx_526) rfl rfl rfl (by decide +kernel) ⟨Nat.le_of_ble_eq_true rfl, Nat.le_of_ble_eq_true rfl⟩) ⟨rblind, va_recv hR.K hR.P (ci := 13) (q0 := 0) rfl (hR.at14 hR.w.1), fun U hU hW9 => rmk hU hW9 hR hex hE hFc⟩ rfl rfl hl.1 rfl (lv_room (Nat.le_of_ble_eq_true rfl)) dX14_stage_2 ⟨Nat.le_of_ble_eq_true rfl, Nat.le_of_ble_eq_true rfl⟩) hR.sS (fun q _ h => hFc q h) hFc (fun r2 S3 t9 H1 locs ht9 hvm9 hw9 hB9 hz9 hk9 hS => ?_)
  obtain ⟨hq4, hw9, hs9, hz_r2⟩ := hw9
  have hR : Rep g ad A s S3 H1 locs := hR.call ht9 hB9 hw9 hS hFc
  have hsh := hsh.tr hs9
  replace h := h r2 S3 hq4
  clear hB9 hz9 hk9 hvm9 ht9 hw9 hs9 hS
  generalize H1 = H at hR ⊢
  refine lv_if_ne (tgt := 10) hx hb dX14_stage_5 (by decide) (fun c5 => ?_) (fun c5 => ?_)
  · replace h := h.2 (k_ne rfl (by decide) c5)
    refine lv_aload_n hx hb dX14_stage_10 rfl (lv_at hl 0 rfl) ?_
    refine lv_aload_n hx hb dX14_stage_11 rfl (lv_at hl 0 rfl) ?_
    refine va_get (D := rD g) (ci := 13) (v := .ref (ad 1)) (C := RX14) (T := TX14) (N := 143) hx hb hts in2X14 hown hR.K hR.P 0 (hR.at14 hR.w.1) rfl 0 (by decide) (hts _ kx_347) (fun _ h9 => h9) (congrArg (fun z => some (vf ad z)) (hR.w.2.1 _ fin_0).1) dX14_stage_12 ?_
    refine lv_iload_n hx hb dX14_stage_15 rfl (lv_at hl 1 rfl) ?_
    obtain ⟨hv6, h⟩ := h
    refine va_aldq hx hb hR.K hR.P 1 5 (hR.atF (hR.w.2.1 _ fin_0).2.1) rfl (k_ixN (k_ix (n := 12) (x := x1) (a := x1.toInt) rfl hv6) (hR.w.2.1 _ fin_0).2.2) dX14_stage_16 ?_
    obtain ⟨hv7, h⟩ := h
    have hT_b8 : qT S3 (qO S3 1 x1.toInt.toNat) = 11 := hR.w.ref hv7 (hR.w.2.1 _ fin_0).2.1
    rw [show va_rf (Option.map ad (qR S3 1 (x1 : Int32).toNatClampNeg)) = .ref (ad (qO S3 1 x1.toInt.toNat)) from congrArg (fun z => vf ad z) hv7]
    refine va_put (D := rD g) (ci := 13) (v := .ref (ad (qO S3 1 x1.toInt.toNat))) (ty := (.object "CodeFoundryModel$File")) (C := RX14) (T := TX14) (N := 143) hx hb hts in2X14 tyX14 tyX14_ok nmX14 hown hR.K hR.P hR.D hR.sS 0 (hR.at14 hR.w.1) rfl 80 (by decide) (hts _ kx_608) (fun _ h9 => h9) rfl (by decide +kernel) rfl rfl (Nat.le_of_ble_eq_true rfl) dX14_stage_17 (fun H locs hP hD hS => ?_)
    have hw9 : wfM (wR S3 0 80 (some (qO S3 1 x1.toInt.toNat))) := hR.w.put (fun b q9 => by cases q9; exact (hT_b8).trans (by rw [hR.w.1]; rfl)) (fun _ => nofin_80) (by rw [hR.w.1]; decide)
    have hR : Rep g ad A s (wR S3 0 80 (some (qO S3 1 x1.toInt.toNat))) H locs := hR.pR hR.w.1 F14_s80 hw9 hP hD hS
    obtain ⟨S9, eS9⟩ : ∃ z, z = wR S3 0 80 (some (qO S3 1 x1.toInt.toNat)) := ⟨_, rfl⟩
    rw [← eS9] at hR
    replace h := h S9 eS9
    have hsh : shy S S9 := by rw [eS9]; exact hsh
    refine lv_iconst (v := 0) hx hb dX14_stage_20 (by decide) ?_
    refine lv_istore_n (lv' := [(2, .int 0), (0, .ref (ad 0)), (1, .int x1)]) hx hb dX14_stage_21 rfl hl (by decide) rfl (fun ls hl => ?_)
    have J_22 : ∀ (n22 : Nat) (U22 : MS) (v22_2 : Int32) (H : Heap) (locs : List Loc) (ls : Array Slot), w_stage_L22 Q n22 U22 v22_2 → shy S U22 → Rep g ad A s U22 H locs → lv_has ls 3 [(0, .ref (ad 0)), (2, .int v22_2)] → W p l e (headSpec (wt2 yX14_stage cX14_stage 3 (some .boolean)) ({ frames := 2, cells := 0, slots := 0, locals := 42 })).room s m ([.ref (ad 0), .int x1] : List Value).toArray below meth c H locs 0 0 (MQ below (va_Qi (fun (r : Int32) (u : MS) => Q r u ∧ wfM u ∧ shy S u ∧ (r = 0 ∨ r = 1)) (fun (u : MS) (t : State) => qE g ad A u t) A) ([.ref (ad 0), .int x1] : List Value).toArray s 0 0 A) (F0 m 22 ls []) := by
      intro n22
      induction n22 with
      | zero => intro U22 v22_2 H locs ls h hsh hR hl; unfold w_stage_L22 at h; exact h.elim
      | succ n22 ih_22 =>
        intro U22 v22_2 H locs ls h hsh hR hl
        unfold w_stage_L22 at h
        refine lv_iload_n hx hb dX14_stage_22 rfl (lv_at hl 1 rfl) ?_
        refine lv_bipush (v := 24) hx hb dX14_stage_23 (by decide) ?_
        refine lv_icmp_ge (tgt := 41) hx hb dX14_stage_25 (by decide) (fun c10 => ?_) (fun c10 => ?_)
        · replace h := h.1 (k_le (by decide) rfl c10)
          refine lv_iconst (v := 0) hx hb dX14_stage_41 (by decide) ?_
          refine lv_istore_n (lv' := [(2, .int 0), (0, .ref (ad 0))]) hx hb dX14_stage_42 rfl hl (by decide) rfl (fun ls hl => ?_)
          have J_43 : ∀ (n43 : Nat) (U43 : MS) (v43_2 : Int32) (H : Heap) (locs : List Loc) (ls : Array Slot), w_stage_L43 Q n43 U43 v43_2 → shy S U43 → Rep g ad A s U43 H locs → lv_has ls 3 [(0, .ref (ad 0)), (2, .int v43_2)] → W p l e (headSpec (wt2 yX14_stage cX14_stage 3 (some .boolean)) ({ frames := 2, cells := 0, slots := 0, locals := 42 })).room s m ([.ref (ad 0), .int x1] : List Value).toArray below meth c H locs 0 0 (MQ below (va_Qi (fun (r : Int32) (u : MS) => Q r u ∧ wfM u ∧ shy S u ∧ (r = 0 ∨ r = 1)) (fun (u : MS) (t : State) => qE g ad A u t) A) ([.ref (ad 0), .int x1] : List Value).toArray s 0 0 A) (F0 m 43 ls []) := by
            intro n43
            induction n43 with
            | zero => intro U43 v43_2 H locs ls h hsh hR hl; unfold w_stage_L43 at h; exact h.elim
            | succ n43 ih_43 =>
              intro U43 v43_2 H locs ls h hsh hR hl
              unfold w_stage_L43 at h
              refine lv_iload_n hx hb dX14_stage_43 rfl (lv_at hl 1 rfl) ?_
              refine lv_sipush (v := 20000) hx hb dX14_stage_44 (by decide) ?_
              refine lv_icmp_ge (tgt := 63) hx hb dX14_stage_47 (by decide) (fun c11 => ?_) (fun c11 => ?_)
              · replace h := h.1 (k_le (by decide) rfl c11)
                refine lv_aload_n hx hb dX14_stage_63 rfl (lv_at hl 0 rfl) ?_
                refine lv_iconst (v := 0) hx hb dX14_stage_64 (by decide) ?_
                refine va_put (D := rD g) (ci := 13) (v := .int 0) (ty := .int) (C := RX14) (T := TX14) (N := 143) hx hb hts in2X14 tyX14 tyX14_ok nmX14 hown hR.K hR.P hR.D hR.sS 0 (hR.at14 hR.w.1) rfl 85 (by decide) (hts _ kx_609) (fun _ h9 => h9) rfl (by decide +kernel) rfl rfl (Nat.le_of_ble_eq_true rfl) dX14_stage_65 (fun H locs hP hD hS => ?_)
                have hR : Rep g ad A s (wI U43 0 85 0) H locs := hR.pI hR.w.1 F14_s85 hP hD hS
                obtain ⟨S12, eS12⟩ : ∃ z, z = wI U43 0 85 0 := ⟨_, rfl⟩
                rw [← eS12] at hR
                replace h := h S12 eS12
                have hsh : shy S S12 := by rw [eS12]; exact hsh
                refine lv_aload_n hx hb dX14_stage_68 rfl (lv_at hl 0 rfl) ?_
                refine lv_iconst (v := 0) hx hb dX14_stage_69 (by decide) ?_
                refine va_put (D := rD g) (ci := 13) (v := .int 0) (ty := .int) (C := RX14) (T := TX14) (N := 143) hx hb hts in2X14 tyX14 tyX14_ok nmX14 hown hR.K hR.P hR.D hR.sS 0 (hR.at14 hR.w.1) rfl 86 (by decide) (hts _ kx_610) (fun _ h9 => h9) rfl (by decide +kernel) rfl rfl (Nat.le_of_ble_eq_true rfl) dX14_stage_70 (fun H locs hP hD hS => ?_)
                have hR : Rep g ad A s (wI S12 0 86 0) H locs := hR.pI hR.w.1 F14_s86 hP hD hS
                obtain ⟨S13, eS13⟩ : ∃ z, z = wI S12 0 86 0 := ⟨_, rfl⟩
                rw [← eS13] at hR
                replace h := h S13 eS13
                have hsh : shy S S13 := by rw [eS13]; exact hsh
                refine lv_iconst (v := 1) hx hb dX14_stage_73 (by decide) ?_
                exact W.zret (v := 1) hx hb hr (nz (Or.inr rfl)) (fun t9 ht9 hW9 => ⟨⟨_, S13, rfl, ⟨h, hR.w, hsh, (Or.inr rfl)⟩, ⟨by rw [ht9]; exact hR.P, hR.D⟩⟩, hR.sS.F ht9⟩) hR.sS.2.2 dX14_stage_74
              · replace h := h.2 (k_nle (by decide) rfl c11)
                refine lv_aload_n hx hb dX14_stage_50 rfl (lv_at hl 0 rfl) ?_
                refine va_get (D := rD g) (ci := 13) (v := .ref (ad 38)) (C := RX14) (T := TX14) (N := 143) hx hb hts in2X14 hown hR.K hR.P 0 (hR.at14 hR.w.1) rfl 82 (by decide) (hts _ kx_611) (fun _ h9 => h9) (congrArg (fun z => some (vf ad z)) (hR.w.2.1 _ fin_82).1) dX14_stage_51 ?_
                refine lv_iload_n hx hb dX14_stage_54 rfl (lv_at hl 1 rfl) ?_
                refine lv_iconst (v := 0) hx hb dX14_stage_55 (by decide) ?_
                obtain ⟨hv14, h⟩ := h
                refine va_iast hx hb hR.K hR.P hR.D hR.sS 38 1 (hR.atI (hR.w.2.1 _ fin_82).2.1) rfl (k_ixN (k_ix (n := 20000) (x := v43_2) (a := v43_2.toInt) rfl hv14) (hR.w.2.1 _ fin_82).2.2) dX14_stage_56 (fun H locs hP hD hS => ?_)
                have hR : Rep g ad A s (wI U43 38 v43_2.toInt.toNat (0 : Int32)) H locs := hR.aI (hR.w.2.1 _ fin_82).2.1 hP hD hS
                obtain ⟨S15, eS15⟩ : ∃ z, z = wI U43 38 v43_2.toInt.toNat (0 : Int32) := ⟨_, rfl⟩
                rw [← eS15] at hR
                replace h := h S15 eS15
                have hsh : shy S S15 := by rw [eS15]; exact hsh
                obtain ⟨a16, ea16⟩ : ∃ z, z = (v43_2 + Int32.ofInt 1) := ⟨_, rfl⟩
                replace h := h a16 ea16
                refine lv_iinc (v := a16) (lv' := [(2, .int a16), (0, .ref (ad 0))]) hx hb dX14_stage_57 hl (k := 1) rfl ea16.symm (by decide) rfl (fun ls hl => ?_)
                refine lv_goto (tgt := 43) hx hb dX14_stage_60 (by decide) ?_
                exact ih_43 S15 a16 _ _ ls h  hsh hR (lv_sub hl [1, 0] rfl)
          obtain ⟨n9, h⟩ := h
          exact J_43 n9 U22 0 _ _ ls h  hsh hR (lv_sub hl [1, 0] rfl)
        · replace h := h.2 (k_nle (by decide) rfl c10)
          refine lv_aload_n hx hb dX14_stage_28 rfl (lv_at hl 0 rfl) ?_
          refine va_get (D := rD g) (ci := 13) (v := .ref (ad 37)) (C := RX14) (T := TX14) (N := 143) hx hb hts in2X14 hown hR.K hR.P 0 (hR.at14 hR.w.1) rfl 81 (by decide) (hts _ kx_612) (fun _ h9 => h9) (congrArg (fun z => some (vf ad z)) (hR.w.2.1 _ fin_81).1) dX14_stage_29 ?_
          refine lv_iload_n hx hb dX14_stage_32 rfl (lv_at hl 1 rfl) ?_
          refine lv_lconst (v := 0) hx hb dX14_stage_33 (by decide) ?_
          obtain ⟨hv17, h⟩ := h
          refine va_last hx hb hR.K hR.P hR.D hR.sS 37 3 (hR.atL (hR.w.2.1 _ fin_81).2.1) rfl (k_ixN (k_ix (n := 24) (x := v22_2) (a := v22_2.toInt) rfl hv17) (hR.w.2.1 _ fin_81).2.2) dX14_stage_34 (fun H locs hP hD hS => ?_)
          have hR : Rep g ad A s (wJ U22 37 v22_2.toInt.toNat 0) H locs := hR.aL (hR.w.2.1 _ fin_81).2.1 hP hD hS
          obtain ⟨S18, eS18⟩ : ∃ z, z = wJ U22 37 v22_2.toInt.toNat 0 := ⟨_, rfl⟩
          rw [← eS18] at hR
          replace h := h S18 eS18
          have hsh : shy S S18 := by rw [eS18]; exact hsh
          obtain ⟨a19, ea19⟩ : ∃ z, z = (v22_2 + Int32.ofInt 1) := ⟨_, rfl⟩
          replace h := h a19 ea19
          refine lv_iinc (v := a19) (lv' := [(2, .int a19), (0, .ref (ad 0))]) hx hb dX14_stage_35 hl (k := 1) rfl ea19.symm (by decide) rfl (fun ls hl => ?_)
          refine lv_goto (tgt := 22) hx hb dX14_stage_38 (by decide) ?_
          exact ih_22 S18 a19 _ _ ls h  hsh hR (lv_sub hl [1, 0] rfl)
    obtain ⟨n9, h⟩ := h
    exact J_22 n9 S9 0 _ _ ls h  hsh hR (lv_sub hl [1, 0] rfl)
  · replace h := h.1 (k_eq rfl (by decide) c5)
    refine lv_iconst (v := 0) hx hb dX14_stage_8 (by decide) ?_
    exact W.zret (v := 0) hx hb hr (nz (Or.inl rfl)) (fun t9 ht9 hW9 => ⟨⟨_, S3, rfl, ⟨h, hR.w, hsh, (Or.inl rfl)⟩, ⟨by rw [ht9]; exact hR.P, hR.D⟩⟩, hR.sS.F ht9⟩) hR.sS.2.2 dX14_stage_9
def w_argument (S : MS) (y1 : Int64) (Q : Int32 → MS → Prop) : Prop := (((qI S 0 88).toInt = 8 → Q (-1 : Int32) S) ∧ (¬ (qI S 0 88).toInt = 8 → (((0 : Int) ≤ (qI S 0 88).toInt ∧ (qI S 0 88).toInt < 8) ∧ (∀ S3, S3 = wJ S 41 (((qI S 0 88).toInt).toNat) y1 → (∀ S5, S5 = wI S3 0 88 ((qI S3 0 88) + (1 : Int32)) → Q (qI S5 0 88) S5)))))
set_option maxHeartbeats 2000000 in
set_option maxRecDepth 100000 in
theorem r_argument (l : Launch) (g : Gr) (ad : Nat → Nat) (sz : Nat) (S : MS) (y1 : Int64) (hw : wfM S) (Q : Int32 → MS → Prop) (h : w_argument S y1 Q) : Met l yX14_argument (wt2 yX14_argument cX14_argument 3 (some .int)) ({ frames := 0, cells := 0, slots := 0, locals := 0 }) (va_Pc [.ref (ad 0), .long y1] (st_R g ad sz S)) (va_Qi (fun (r : Int32) (u : MS) => Q r u ∧ wfM u ∧ shy S u) (fun (u : MS) (t : State) => qE g ad (va_A (Wd g ad S) sz) u t) (va_A (Wd g ad S) sz)) 0 0 (va_A (Wd g ad S) sz) := by
  refine Met.ofW (cc := cX14_argument) (maxL := 3) (ret := (some .int)) (by decide) rfl ?_
  intro p e s m args below meth c s₁ B hml hv
  obtain ⟨rfl, hsz, hP, hK, hD0, hex, hE⟩ := hv
  have hx := B.exec
  have hb := B.bytes
  have hr := B.returns
  have hts0 := atoms_spec (ws := wt2 yX14_argument cX14_argument 3 (some .int)) B.pre
  have hts : ∀ w ∈ tb2, w.before _ s = true := fun w h => hts0 w (List.mem_cons_of_mem _ h)
  have hown : s.vm.findClass RX14 = some m.cls := findClass_of_methodNamed B.named
  subst hsz
  have hD := hD0.self (sz := s.heap.size)
  generalize hAe : va_A (Wd g ad S) s.heap.size = A at hD hE ⊢
  have hA : ∀ q : Nat, s.heap.size ≤ q → A q := fun q h => by rw [← hAe]; exact Or.inr h
  have hR : Rep g ad A s S s.heap [] := ⟨hK, hP, hD, va_S.rf, hw⟩
  clear hK hP hD hD0
  have hl := lv_entry ([.ref (ad 0), .long y1]) (n := 3) (Nat.le_of_ble_eq_true rfl)
  rw [lg_entry_eq]
  generalize (lg_sl ([.ref (ad 0), .long y1]) ++ List.replicate (3 - (lg_sl ([.ref (ad 0), .long y1])).length) Slot.unset).toArray = ls at hl ⊢
  have hl : lv_has ls 3 [(0, .ref (ad 0)), (1, .long y1)] := hl
  have hsh : shy S S := shy.rf
  unfold w_argument at h
  refine lv_aload_n hx hb dX14_argument_0 rfl (lv_at hl 0 rfl) ?_
  refine va_get (D := rD g) (ci := 13) (v := .int (qI S 0 88)) (C := RX14) (T := TX14) (N := 143) hx hb hts in2X14 hown hR.K hR.P 0 (hR.at14 hR.w.1) rfl 88 (by decide) (hts _ kx_613) (fun _ h9 => h9) rfl dX14_argument_1 ?_
  refine lv_bipush (v := 8) hx hb dX14_argument_4 (by decide) ?_
  refine lv_icmp_ne (tgt := 11) hx hb dX14_argument_6 (by decide) (fun c1 => ?_) (fun c1 => ?_)
  · replace h := h.2 (k_ne rfl (by decide) c1)
    refine lv_aload_n hx hb dX14_argument_11 rfl (lv_at hl 0 rfl) ?_
    refine va_get (D := rD g) (ci := 13) (v := .ref (ad 41)) (C := RX14) (T := TX14) (N := 143) hx hb hts in2X14 hown hR.K hR.P 0 (hR.at14 hR.w.1) rfl 87 (by decide) (hts _ kx_614) (fun _ h9 => h9) (congrArg (fun z => some (vf ad z)) (hR.w.2.1 _ fin_87).1) dX14_argument_12 ?_
    refine lv_aload_n hx hb dX14_argument_15 rfl (lv_at hl 0 rfl) ?_
    refine va_get (D := rD g) (ci := 13) (v := .int (qI S 0 88)) (C := RX14) (T := TX14) (N := 143) hx hb hts in2X14 hown hR.K hR.P 0 (hR.at14 hR.w.1) rfl 88 (by decide) (hts _ kx_613) (fun _ h9 => h9) rfl dX14_argument_16 ?_
    refine lv_lload_n hx hb dX14_argument_19 rfl (lv_at hl 1 rfl) ?_
    obtain ⟨hv2, h⟩ := h
    refine va_last hx hb hR.K hR.P hR.D hR.sS 41 3 (hR.atL (hR.w.2.1 _ fin_87).2.1) rfl (k_ixN (k_ix (n := 8) (x := (qI S 0 88)) (a := (qI S 0 88).toInt) rfl hv2) (hR.w.2.1 _ fin_87).2.2) dX14_argument_20 (fun H locs hP hD hS => ?_)
    have hR : Rep g ad A s (wJ S 41 (((qI S 0 88).toInt).toNat) y1) H locs := hR.aL (hR.w.2.1 _ fin_87).2.1 hP hD hS
    obtain ⟨S3, eS3⟩ : ∃ z, z = wJ S 41 (((qI S 0 88).toInt).toNat) y1 := ⟨_, rfl⟩
    rw [← eS3] at hR
    replace h := h S3 eS3
    have hsh : shy S S3 := by rw [eS3]; exact hsh
    refine lv_aload_n hx hb dX14_argument_21 rfl (lv_at hl 0 rfl) ?_
    refine lv_dup hx hb dX14_argument_22 rfl ?_
    refine va_get (D := rD g) (ci := 13) (v := .int (qI S3 0 88)) (C := RX14) (T := TX14) (N := 143) hx hb hts in2X14 hown hR.K hR.P 0 (hR.at14 hR.w.1) rfl 88 (by decide) (hts _ kx_613) (fun _ h9 => h9) rfl dX14_argument_23 ?_
    refine lv_iconst (v := 1) hx hb dX14_argument_26 (by decide) ?_
    refine lv_iadd hx hb dX14_argument_27 ?_
    refine lv_topi (fun z4 ez4 => ?_)
    obtain rfl : z4 = ((qI S3 0 88) + (1 : Int32)) := ez4
    refine va_put (D := rD g) (ci := 13) (v := .int ((qI S3 0 88) + (1 : Int32))) (ty := .int) (C := RX14) (T := TX14) (N := 143) hx hb hts in2X14 tyX14 tyX14_ok nmX14 hown hR.K hR.P hR.D hR.sS 0 (hR.at14 hR.w.1) rfl 88 (by decide) (hts _ kx_613) (fun _ h9 => h9) rfl (by decide +kernel) rfl rfl (Nat.le_of_ble_eq_true rfl) dX14_argument_28 (fun H locs hP hD hS => ?_)
    have hR : Rep g ad A s (wI S3 0 88 ((qI S3 0 88) + (1 : Int32))) H locs := hR.pI hR.w.1 F14_s88 hP hD hS
    obtain ⟨S5, eS5⟩ : ∃ z, z = wI S3 0 88 ((qI S3 0 88) + (1 : Int32)) := ⟨_, rfl⟩
    rw [← eS5] at hR
    replace h := h S5 eS5
    have hsh : shy S S5 := by rw [eS5]; exact hsh
    refine lv_aload_n hx hb dX14_argument_31 rfl (lv_at hl 0 rfl) ?_
    refine va_get (D := rD g) (ci := 13) (v := .int (qI S5 0 88)) (C := RX14) (T := TX14) (N := 143) hx hb hts in2X14 hown hR.K hR.P 0 (hR.at14 hR.w.1) rfl 88 (by decide) (hts _ kx_613) (fun _ h9 => h9) rfl dX14_argument_32 ?_
    exact W.iret (v := (qI S5 0 88)) hx hb hr (fun t9 ht9 hW9 => ⟨⟨_, S5, rfl, ⟨h, hR.w, hsh⟩, ⟨by rw [ht9]; exact hR.P, hR.D⟩⟩, hR.sS.F ht9⟩) hR.sS.2.2 dX14_argument_35
  · replace h := h.1 (k_eq rfl (by decide) c1)
    refine lv_iconst (v := (-1)) hx hb dX14_argument_9 (by decide) ?_
    exact W.iret (v := (-1)) hx hb hr (fun t9 ht9 hW9 => ⟨⟨_, S, rfl, ⟨h, hR.w, hsh⟩, ⟨by rw [ht9]; exact hR.P, hR.D⟩⟩, hR.sS.F ht9⟩) hR.sS.2.2 dX14_argument_10
