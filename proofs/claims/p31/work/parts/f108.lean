def w_X7_isText_L16 (Q : Int32 → MS → Prop) : Nat → MS → Int32 → Nat → Int32 → Prop
  | 0, _, _, _, _ => False
  | n16 + 1, U16, v16_1, v16_2, v16_3 => (wfC U16 → qT U16 v16_2 = 12 → (((Int32.ofNat (qN U16 (v16_2 + 1))).toInt ≤ v16_3.toInt → Q (1 : Int32) U16) ∧ (¬ (Int32.ofNat (qN U16 (v16_2 + 1))).toInt ≤ v16_3.toInt → (d_X7_nameSign U16 v16_1 v16_3 ∧ (((0 : Int) ≤ v16_3.toInt ∧ v16_3.toInt < (qN U16 (v16_2 + 1) : Int)) ∧ (((fX7_nameSign U16 v16_1 v16_3).toInt = (cAt U16 v16_2 v16_3).toInt → (∀ a14 : Int32, a14 = (v16_3 + Int32.ofInt 1) → (w_X7_isText_L16 Q n16) U16 v16_1 v16_2 a14)) ∧ (¬ (fX7_nameSign U16 v16_1 v16_3).toInt = (cAt U16 v16_2 v16_3).toInt → Q (0 : Int32) U16)))))))
def wX7_isText (S : MS) (x1 : Int32) (p2 : Nat) (Q : Int32 → MS → Prop) : Prop := (d_X7_nameLength S x1 ∧ (((fX7_nameLength S x1).toInt = (Int32.ofNat (qN S (p2 + 1))).toInt → (∃ n, w_X7_isText_L16 Q n S x1 p2 0)) ∧ (¬ (fX7_nameLength S x1).toInt = (Int32.ofNat (qN S (p2 + 1))).toInt → Q (0 : Int32) S)))
set_option maxHeartbeats 2000000 in
set_option maxRecDepth 100000 in
theorem rX7_isText (l : Launch) (g : Gr) (ad : Nat → Nat) (sz : Nat) (S : MS) (x1 : Int32) (p2 : Nat) (hw : wfC S) (hT_p2 : qT S p2 = 12) (Q : Int32 → MS → Prop) (h : wX7_isText S x1 p2 Q) : Met l yX7_isText (wt yX7_isText cX7_isText 4 (some .boolean)) ({ frames := 4, cells := 0, slots := 0, locals := 85 }) (va_Pc [.ref (ad 9), .int x1, .ref (ad p2)] (st_C g ad sz S)) (va_Qi (fun (r : Int32) (u : MS) => Q r u ∧ wfC u ∧ shy S u ∧ (r = 0 ∨ r = 1)) (fun (u : MS) (t : State) => qEC g ad (va_A (WdC g ad S) sz) u t) (va_A (WdC g ad S) sz)) 0 0 (va_A (WdC g ad S) sz) := by
  refine Met.ofW (cc := cX7_isText) (maxL := 4) (ret := (some .boolean)) (by decide) rfl ?_
  intro p e s m args below meth c s₁ B hml hv
  obtain ⟨rfl, hsz, hP, hK, hD0, hex, hE⟩ := hv
  have hx := B.exec
  have hb := B.bytes
  have hr := B.returns
  have hts0 := atoms_spec (ws := wt yX7_isText cX7_isText 4 (some .boolean)) B.pre
  have hts : ∀ w ∈ tb, w.before _ s = true := fun w h => hts0 w (List.mem_cons_of_mem _ h)
  have hown : s.vm.findClass RX7 = some m.cls := findClass_of_methodNamed B.named
  subst hsz
  have hD := hD0.self (sz := s.heap.size)
  generalize hAe : va_A (WdC g ad S) s.heap.size = A at hD hE ⊢
  have hA : ∀ q : Nat, s.heap.size ≤ q → A q := fun q h => by rw [← hAe]; exact Or.inr h
  have hR : RepC g ad A s S s.heap [] := ⟨hK, hP, hD, va_S.rf, hw⟩
  clear hK hP hD hD0
  have hl := lv_entry ([.ref (ad 9), .int x1, .ref (ad p2)]) (n := 4) (Nat.le_of_ble_eq_true rfl)
  rw [lg_entry_eq]
  generalize (lg_sl ([.ref (ad 9), .int x1, .ref (ad p2)]) ++ List.replicate (4 - (lg_sl ([.ref (ad 9), .int x1, .ref (ad p2)])).length) Slot.unset).toArray = ls at hl ⊢
  have hl : lv_has ls 4 [(0, .ref (ad 9)), (1, .int x1), (2, .ref (ad p2))] := hl
  have hsh : shy S S := shy.rf
  unfold wX7_isText at h
  refine lv_aload_n hx hb dX7_isText_0 rfl (lv_at hl 0 rfl) ?_
  refine lv_iload_n hx hb dX7_isText_1 rfl (lv_at hl 1 rfl) ?_
  obtain ⟨hv1, h⟩ := h
  have hFc := cfree hR hA
  refine va_calli (va_runV (As := [.int x1]) (rest := []) ⟨hx, hb, hml, hown, hts⟩ (rX7_nameLength l g ad s.heap.size S x1 hR.w  hv1) (cwV 1 hts (gd_V kw_1349 kw_1406 kw_1407 kw_710 kw_1405) rfl rfl rfl (by decide +kernel) ⟨Nat.le_of_ble_eq_true rfl, Nat.le_of_ble_eq_true rfl⟩) ⟨cblind, va_recv hR.K hR.P (ci := 6) (q0 := 9) rfl (hR.at46 (hR.w.2.1 _ finC_2).2.1), fun U hU hW9 => cmk hU hW9 hR hex hE hFc⟩ rfl rfl hl.1 rfl (lv_room (Nat.le_of_ble_eq_true rfl)) dX7_isText_2 ⟨Nat.le_of_ble_eq_true rfl, Nat.le_of_ble_eq_true rfl⟩) hR.sS (fun q _ h => hFc q h) hFc (fun r2 u9 t9 H1 locs ht9 hvm9 hw9 hB9 hz9 hk9 hS => ?_)
  have hR : RepC g ad A s S H1 locs := hR.call ht9 hB9 hR.w hS hFc
  obtain rfl : r2 = (fX7_nameLength S x1) := hw9
  clear hB9 hz9 hk9 hvm9 ht9 hS
  generalize H1 = H at hR ⊢
  refine lv_aload_n hx hb dX7_isText_5 rfl (lv_at hl 2 rfl) ?_
  have hF : ∀ q, Ns H.size q → A q := fun q h => hA q (Nat.le_trans hR.sS.1 h)
  refine va_calli (va_runV (As := []) (rest := [.int (fX7_nameLength S x1)]) ⟨hx, hb, hml, hown, hts⟩ (sc_length l H.size (ad p2) (ad (p2 + 1)) (qN S (p2 + 1)) (qI S (p2 + 1))) (cwV 0 hts (gd_V kw_1379 kw_1752 kw_1753 kw_1754 kw_1751) rfl rfl rfl (by decide +kernel) ⟨Nat.le_of_ble_eq_true rfl, Nat.le_of_ble_eq_true rfl⟩) ⟨tblind (fun A u U H hv h => by exact tx1.moved hv h), (strC hR hE hT_p2), fun U hU hW9 => ⟨rfl, by rw [hU], str_atC hR hE hA hT_p2 hU hW9, by rw [hU]; exact ((hE.1.1.kept hR.sS.2.1).narrow hF).moved hW9.alike⟩⟩ rfl rfl hl.1 rfl (lv_room (Nat.le_of_ble_eq_true rfl)) dX7_isText_6 ⟨Nat.le_of_ble_eq_true rfl, Nat.le_of_ble_eq_true rfl⟩) hR.sS (fun q _ h => hF q h) hF (fun r4 u9 t9 H1 locs ht9 hvm9 hw9 hB9 hz9 hk9 hS => ?_)
  obtain rfl : r4 = (Int32.ofNat (qN S (p2 + 1))) := hw9
  have hR : RepC g ad A s S H1 locs := hR.keep hk9 hS
  clear hz9 hk9 hvm9 ht9 hB9 hF hS
  generalize H1 = H at hR ⊢
  refine lv_icmp_eq (tgt := 14) hx hb dX7_isText_9 (by decide) (fun c5 => ?_) (fun c5 => ?_)
  · replace h := h.1 (k_eq rfl rfl c5)
    refine lv_iconst (v := 0) hx hb dX7_isText_14 (by decide) ?_
    refine lv_istore_n (lv' := [(3, .int 0), (0, .ref (ad 9)), (1, .int x1), (2, .ref (ad p2))]) hx hb dX7_isText_15 rfl hl (by decide) rfl (fun ls hl => ?_)
    have J_16 : ∀ (n16 : Nat) (U16 : MS) (v16_1 : Int32) (v16_2 : Nat) (v16_3 : Int32) (H : Heap) (locs : List Loc) (ls : Array Slot), w_X7_isText_L16 Q n16 U16 v16_1 v16_2 v16_3 → qT U16 v16_2 = 12 → shy S U16 → RepC g ad A s U16 H locs → lv_has ls 4 [(0, .ref (ad 9)), (1, .int v16_1), (2, .ref (ad v16_2)), (3, .int v16_3)] → W p l e (headSpec (wt yX7_isText cX7_isText 4 (some .boolean)) ({ frames := 4, cells := 0, slots := 0, locals := 85 })).room s m ([.ref (ad 9), .int x1, .ref (ad p2)] : List Value).toArray below meth c H locs 0 0 (MQ below (va_Qi (fun (r : Int32) (u : MS) => Q r u ∧ wfC u ∧ shy S u ∧ (r = 0 ∨ r = 1)) (fun (u : MS) (t : State) => qEC g ad A u t) A) ([.ref (ad 9), .int x1, .ref (ad p2)] : List Value).toArray s 0 0 A) (F0 m 16 ls []) := by
      intro n16
      induction n16 with
      | zero => intro U16 v16_1 v16_2 v16_3 H locs ls h hT_v16_2 hsh hR hl; unfold w_X7_isText_L16 at h; exact h.elim
      | succ n16 ih_16 =>
        intro U16 v16_1 v16_2 v16_3 H locs ls h hT_v16_2 hsh hR hl
        unfold w_X7_isText_L16 at h
        replace h := h hR.w hT_v16_2
        refine lv_iload_n hx hb dX7_isText_16 rfl (lv_at hl 3 rfl) ?_
        refine lv_aload_n hx hb dX7_isText_17 rfl (lv_at hl 2 rfl) ?_
        have hF : ∀ q, Ns H.size q → A q := fun q h => hA q (Nat.le_trans hR.sS.1 h)
        refine va_calli (va_runV (As := []) (rest := [.int v16_3]) ⟨hx, hb, hml, hown, hts⟩ (sc_length l H.size (ad v16_2) (ad (v16_2 + 1)) (qN U16 (v16_2 + 1)) (qI U16 (v16_2 + 1))) (cwV 0 hts (gd_V kw_1379 kw_1752 kw_1753 kw_1754 kw_1751) rfl rfl rfl (by decide +kernel) ⟨Nat.le_of_ble_eq_true rfl, Nat.le_of_ble_eq_true rfl⟩) ⟨tblind (fun A u U H hv h => by exact tx1.moved hv h), (strC hR hE hT_v16_2), fun U hU hW9 => ⟨rfl, by rw [hU], str_atC hR hE hA hT_v16_2 hU hW9, by rw [hU]; exact ((hE.1.1.kept hR.sS.2.1).narrow hF).moved hW9.alike⟩⟩ rfl rfl hl.1 rfl (lv_room (Nat.le_of_ble_eq_true rfl)) dX7_isText_18 ⟨Nat.le_of_ble_eq_true rfl, Nat.le_of_ble_eq_true rfl⟩) hR.sS (fun q _ h => hF q h) hF (fun r6 u9 t9 H1 locs ht9 hvm9 hw9 hB9 hz9 hk9 hS => ?_)
        obtain rfl : r6 = (Int32.ofNat (qN U16 (v16_2 + 1))) := hw9
        have hR : RepC g ad A s U16 H1 locs := hR.keep hk9 hS
        clear hz9 hk9 hvm9 ht9 hB9 hF hS
        generalize H1 = H at hR ⊢
        refine lv_icmp_ge (tgt := 46) hx hb dX7_isText_21 (by decide) (fun c7 => ?_) (fun c7 => ?_)
        · replace h := h.1 (k_le rfl rfl c7)
          refine lv_iconst (v := 1) hx hb dX7_isText_46 (by decide) ?_
          exact W.zret (v := 1) hx hb hr (nz (Or.inr rfl)) (fun t9 ht9 hW9 => ⟨⟨_, U16, rfl, ⟨h, hR.w, hsh, (Or.inr rfl)⟩, ⟨by rw [ht9]; exact hR.P, hR.D⟩⟩, hR.sS.F ht9⟩) hR.sS.2.2 dX7_isText_47
        · replace h := h.2 (k_nle rfl rfl c7)
          refine lv_aload_n hx hb dX7_isText_24 rfl (lv_at hl 0 rfl) ?_
          refine lv_iload_n hx hb dX7_isText_25 rfl (lv_at hl 1 rfl) ?_
          refine lv_iload_n hx hb dX7_isText_26 rfl (lv_at hl 3 rfl) ?_
          obtain ⟨hv8, h⟩ := h
          have hFc := cfree hR hA
          refine va_calli (va_runV (As := [.int v16_1, .int v16_3]) (rest := []) ⟨hx, hb, hml, hown, hts⟩ (rX7_nameSign l g ad H.size U16 v16_1 v16_3 hR.w  hv8) (cwV 2 hts (gd_V kw_1350 kw_1412 kw_1413 kw_710 kw_1411) rfl rfl rfl (by decide +kernel) ⟨Nat.le_of_ble_eq_true rfl, Nat.le_of_ble_eq_true rfl⟩) ⟨cblind, va_recv hR.K hR.P (ci := 6) (q0 := 9) rfl (hR.at46 (hR.w.2.1 _ finC_2).2.1), fun U hU hW9 => cmk hU hW9 hR hex hE hFc⟩ rfl rfl hl.1 rfl (lv_room (Nat.le_of_ble_eq_true rfl)) dX7_isText_27 ⟨Nat.le_of_ble_eq_true rfl, Nat.le_of_ble_eq_true rfl⟩) hR.sS (fun q _ h => hFc q h) hFc (fun r9 u9 t9 H1 locs ht9 hvm9 hw9 hB9 hz9 hk9 hS => ?_)
          have hR : RepC g ad A s U16 H1 locs := hR.call ht9 hB9 hR.w hS hFc
          obtain rfl : r9 = (fX7_nameSign U16 v16_1 v16_3) := hw9
          clear hB9 hz9 hk9 hvm9 ht9 hS
          generalize H1 = H at hR ⊢
          refine lv_aload_n hx hb dX7_isText_30 rfl (lv_at hl 2 rfl) ?_
          refine lv_iload_n hx hb dX7_isText_31 rfl (lv_at hl 3 rfl) ?_
          obtain ⟨hv11, h⟩ := h
          have hF : ∀ q, Ns H.size q → A q := fun q h => hA q (Nat.le_trans hR.sS.1 h)
          refine va_calli (va_runV (As := [.int v16_3]) (rest := [.int (fX7_nameSign U16 v16_1 v16_3)]) ⟨hx, hb, hml, hown, hts⟩ (sc_charAt l H.size (ad v16_2) (ad (v16_2 + 1)) (qN U16 (v16_2 + 1)) (qI U16 (v16_2 + 1)) v16_3 (hR.w.len hT_v16_2) hv11) (cwV 1 hts (gd_V kw_1380 kw_1758 kw_1759 kw_1754 kw_1757) rfl rfl rfl (by decide +kernel) ⟨Nat.le_of_ble_eq_true rfl, Nat.le_of_ble_eq_true rfl⟩) ⟨tblind (fun A u U H hv h => by exact tx1.moved hv h), (strC hR hE hT_v16_2), fun U hU hW9 => ⟨rfl, by rw [hU], str_atC hR hE hA hT_v16_2 hU hW9, by rw [hU]; exact ((hE.1.1.kept hR.sS.2.1).narrow hF).moved hW9.alike⟩⟩ rfl rfl hl.1 rfl (lv_room (Nat.le_of_ble_eq_true rfl)) dX7_isText_32 ⟨Nat.le_of_ble_eq_true rfl, Nat.le_of_ble_eq_true rfl⟩) hR.sS (fun q _ h => hF q h) hF (fun r12 u9 t9 H1 locs ht9 hvm9 hw9 hB9 hz9 hk9 hS => ?_)
          obtain rfl : r12 = (cAt U16 v16_2 v16_3) := hw9
          have hR : RepC g ad A s U16 H1 locs := hR.keep hk9 hS
          clear hz9 hk9 hvm9 ht9 hB9 hF hS
          generalize H1 = H at hR ⊢
          refine lv_icmp_eq (tgt := 40) hx hb dX7_isText_35 (by decide) (fun c13 => ?_) (fun c13 => ?_)
          · replace h := h.1 (k_eq rfl rfl c13)
            obtain ⟨a14, ea14⟩ : ∃ z, z = (v16_3 + Int32.ofInt 1) := ⟨_, rfl⟩
            replace h := h a14 ea14
            refine lv_iinc (v := a14) (lv' := [(3, .int a14), (0, .ref (ad 9)), (1, .int v16_1), (2, .ref (ad v16_2))]) hx hb dX7_isText_40 hl (k := 3) rfl ea14.symm (by decide) rfl (fun ls hl => ?_)
            refine lv_goto (tgt := 16) hx hb dX7_isText_43 (by decide) ?_
            exact ih_16 U16 v16_1 v16_2 a14 _ _ ls h hT_v16_2 hsh hR (lv_sub hl [1, 2, 3, 0] rfl)
          · replace h := h.2 (k_ne rfl rfl c13)
            refine lv_iconst (v := 0) hx hb dX7_isText_38 (by decide) ?_
            exact W.zret (v := 0) hx hb hr (nz (Or.inl rfl)) (fun t9 ht9 hW9 => ⟨⟨_, U16, rfl, ⟨h, hR.w, hsh, (Or.inl rfl)⟩, ⟨by rw [ht9]; exact hR.P, hR.D⟩⟩, hR.sS.F ht9⟩) hR.sS.2.2 dX7_isText_39
    obtain ⟨n9, h⟩ := h
    exact J_16 n9 S x1 p2 0 _ _ ls h hT_p2 hsh hR (lv_sub hl [1, 2, 3, 0] rfl)
  · replace h := h.2 (k_ne rfl rfl c5)
    refine lv_iconst (v := 0) hx hb dX7_isText_12 (by decide) ?_
    exact W.zret (v := 0) hx hb hr (nz (Or.inl rfl)) (fun t9 ht9 hW9 => ⟨⟨_, S, rfl, ⟨h, hR.w, hsh, (Or.inl rfl)⟩, ⟨by rw [ht9]; exact hR.P, hR.D⟩⟩, hR.sS.F ht9⟩) hR.sS.2.2 dX7_isText_13
def w_X7_noTwins_L34 (Q : Int32 → MS → Prop) (k2 : MS → Int32 → Prop) : Nat → MS → Int32 → Int32 → Prop
  | 0, _, _, _ => False
  | n34 + 1, U34, v34_1, v34_3 => (wfC U34 → ((v34_1.toInt ≤ v34_3.toInt → (∀ a4 : Int32, a4 = (v34_1 + Int32.ofInt 1) → k2 U34 a4)) ∧ (¬ v34_1.toInt ≤ v34_3.toInt → (d_X7_nameOf U34 v34_3 ∧ (∀ a8 : Int32, a8 = (fX7_nameOf U34 v34_3) → (d_X7_nameOf U34 v34_1 ∧ (∀ a12 : Int32, a12 = (fX7_nameOf U34 v34_1) → (∃ Q13, wX7_isSameName U34 a8 a12 Q13 ∧ ∀ r14 S15, Q13 r14 S15 → wfC S15 → shy U34 S15 → ((r14.toInt = 0 → (∀ a18 : Int32, a18 = (v34_3 + Int32.ofInt 1) → (w_X7_noTwins_L34 Q k2 n34) S15 v34_1 a18)) ∧ (¬ r14.toInt = 0 → (d_X7_memberPlace S15 v34_1 ∧ (∀ a22 : Int32, a22 = (fX7_memberPlace S15 v34_1) → (∃ Q24, wX7_breaks S15 (11 : Int32) (a22 + (2 : Int32)) Q24 ∧ ∀ r25 S26, Q24 r25 S26 → wfC S26 → shy S15 S26 → Q r25 S26)))))))))))))
def w_X7_noTwins_J31 (Q : Int32 → MS → Prop) (k2 : MS → Int32 → Prop) (U31 : MS) (t31_0 : Int32) (v31_1 : Int32) : Prop := (wfC U31 → (∃ n, w_X7_noTwins_L34 Q k2 n U31 v31_1 t31_0))
def w_X7_noTwins_L2 (Q : Int32 → MS → Prop) : Nat → MS → Int32 → Prop
  | 0, _, _ => False
  | n2 + 1, U2, v2_1 => (wfC U2 → ((((qI U2 9 7) + (qI U2 9 8)).toInt ≤ v2_1.toInt → Q (1 : Int32) U2) ∧ (¬ ((qI U2 9 7) + (qI U2 9 8)).toInt ≤ v2_1.toInt → (((qI U2 9 7).toInt ≤ v2_1.toInt → w_X7_noTwins_J31 Q (w_X7_noTwins_L2 Q n2) U2 (qI U2 9 7) v2_1) ∧ (¬ (qI U2 9 7).toInt ≤ v2_1.toInt → w_X7_noTwins_J31 Q (w_X7_noTwins_L2 Q n2) U2 0 v2_1)))))
def wX7_noTwins (S : MS) (Q : Int32 → MS → Prop) : Prop := (∃ n, w_X7_noTwins_L2 Q n S 0)
set_option maxHeartbeats 2000000 in
set_option maxRecDepth 100000 in
theorem rX7_noTwins (l : Launch) (g : Gr) (ad : Nat → Nat) (sz : Nat) (S : MS) (hw : wfC S) (Q : Int32 → MS → Prop) (h : wX7_noTwins S Q) : Met l yX7_noTwins (wt yX7_noTwins cX7_noTwins 4 (some .boolean)) ({ frames := 2, cells := 0, slots := 0, locals := 47 }) (va_Pc [.ref (ad 9)] (st_C g ad sz S)) (va_Qi (fun (r : Int32) (u : MS) => Q r u ∧ wfC u ∧ shy S u ∧ (r = 0 ∨ r = 1)) (fun (u : MS) (t : State) => qEC g ad (va_A (WdC g ad S) sz) u t) (va_A (WdC g ad S) sz)) 0 0 (va_A (WdC g ad S) sz) := by
  refine Met.ofW (cc := cX7_noTwins) (maxL := 4) (ret := (some .boolean)) (by decide) rfl ?_
  intro p e s m args below meth c s₁ B hml hv
  obtain ⟨rfl, hsz, hP, hK, hD0, hex, hE⟩ := hv
  have hx := B.exec
  have hb := B.bytes
  have hr := B.returns
  have hts0 := atoms_spec (ws := wt yX7_noTwins cX7_noTwins 4 (some .boolean)) B.pre
  have hts : ∀ w ∈ tb, w.before _ s = true := fun w h => hts0 w (List.mem_cons_of_mem _ h)
  have hown : s.vm.findClass RX7 = some m.cls := findClass_of_methodNamed B.named
  subst hsz
  have hD := hD0.self (sz := s.heap.size)
  generalize hAe : va_A (WdC g ad S) s.heap.size = A at hD hE ⊢
  have hA : ∀ q : Nat, s.heap.size ≤ q → A q := fun q h => by rw [← hAe]; exact Or.inr h
  have hR : RepC g ad A s S s.heap [] := ⟨hK, hP, hD, va_S.rf, hw⟩
  clear hK hP hD hD0
  have hl := lv_entry ([.ref (ad 9)]) (n := 4) (Nat.le_of_ble_eq_true rfl)
  rw [lg_entry_eq]
  generalize (lg_sl ([.ref (ad 9)]) ++ List.replicate (4 - (lg_sl ([.ref (ad 9)])).length) Slot.unset).toArray = ls at hl ⊢
  have hl : lv_has ls 4 [(0, .ref (ad 9))] := hl
  have hsh : shy S S := shy.rf
  unfold wX7_noTwins at h
  refine lv_iconst (v := 0) hx hb dX7_noTwins_0 (by decide) ?_
  refine lv_istore_n (lv' := [(1, .int 0), (0, .ref (ad 9))]) hx hb dX7_noTwins_1 rfl hl (by decide) rfl (fun ls hl => ?_)
  have J_2 : ∀ (n2 : Nat) (U2 : MS) (v2_1 : Int32) (H : Heap) (locs : List Loc) (ls : Array Slot), w_X7_noTwins_L2 Q n2 U2 v2_1 → shy S U2 → RepC g ad A s U2 H locs → lv_has ls 4 [(0, .ref (ad 9)), (1, .int v2_1)] → W p l e (headSpec (wt yX7_noTwins cX7_noTwins 4 (some .boolean)) ({ frames := 2, cells := 0, slots := 0, locals := 47 })).room s m ([.ref (ad 9)] : List Value).toArray below meth c H locs 0 0 (MQ below (va_Qi (fun (r : Int32) (u : MS) => Q r u ∧ wfC u ∧ shy S u ∧ (r = 0 ∨ r = 1)) (fun (u : MS) (t : State) => qEC g ad A u t) A) ([.ref (ad 9)] : List Value).toArray s 0 0 A) (F0 m 2 ls []) := by
    intro n2
    induction n2 with
    | zero => intro U2 v2_1 H locs ls h hsh hR hl; unfold w_X7_noTwins_L2 at h; exact h.elim
    | succ n2 ih_2 =>
      intro U2 v2_1 H locs ls h hsh hR hl
      unfold w_X7_noTwins_L2 at h
      replace h := h hR.w
      refine lv_iload_n hx hb dX7_noTwins_2 rfl (lv_at hl 1 rfl) ?_
      refine lv_aload_n hx hb dX7_noTwins_3 rfl (lv_at hl 0 rfl) ?_
      refine va_get (D := rD g) (ci := 6) (v := .int (qI U2 9 7)) (C := RX7) (T := TX7) (N := 17) hx hb hts inX7 hown hR.K hR.P 9 (hR.at46 (hR.w.2.1 _ finC_2).2.1) rfl 7 (by decide) (hts _ kw_1287) (fun _ h9 => h9) rfl dX7_noTwins_4 ?_
      refine lv_aload_n hx hb dX7_noTwins_7 rfl (lv_at hl 0 rfl) ?_
      refine va_get (D := rD g) (ci := 6) (v := .int (qI U2 9 8)) (C := RX7) (T := TX7) (N := 17) hx hb hts inX7 hown hR.K hR.P 9 (hR.at46 (hR.w.2.1 _ finC_2).2.1) rfl 8 (by decide) (hts _ kw_1285) (fun _ h9 => h9) rfl dX7_noTwins_8 ?_
      refine lv_iadd hx hb dX7_noTwins_11 ?_
      refine lv_topi (fun z1 ez1 => ?_)
      obtain rfl : z1 = ((qI U2 9 7) + (qI U2 9 8)) := ez1
      refine lv_icmp_ge (tgt := 82) hx hb dX7_noTwins_12 (by decide) (fun c2 => ?_) (fun c2 => ?_)
      · replace h := h.1 (k_le rfl rfl c2)
        refine lv_iconst (v := 1) hx hb dX7_noTwins_82 (by decide) ?_
        exact W.zret (v := 1) hx hb hr (nz (Or.inr rfl)) (fun t9 ht9 hW9 => ⟨⟨_, U2, rfl, ⟨h, hR.w, hsh, (Or.inr rfl)⟩, ⟨by rw [ht9]; exact hR.P, hR.D⟩⟩, hR.sS.F ht9⟩) hR.sS.2.2 dX7_noTwins_83
      · replace h := h.2 (k_nle rfl rfl c2)
        refine lv_iload_n hx hb dX7_noTwins_15 rfl (lv_at hl 1 rfl) ?_
        refine lv_aload_n hx hb dX7_noTwins_16 rfl (lv_at hl 0 rfl) ?_
        refine va_get (D := rD g) (ci := 6) (v := .int (qI U2 9 7)) (C := RX7) (T := TX7) (N := 17) hx hb hts inX7 hown hR.K hR.P 9 (hR.at46 (hR.w.2.1 _ finC_2).2.1) rfl 7 (by decide) (hts _ kw_1287) (fun _ h9 => h9) rfl dX7_noTwins_17 ?_
        have J_31 : ∀ (U31 : MS) (t31_0 : Int32) (v31_1 : Int32) (H : Heap) (locs : List Loc) (ls : Array Slot), w_X7_noTwins_J31 Q (w_X7_noTwins_L2 Q n2) U31 t31_0 v31_1 → shy S U31 → RepC g ad A s U31 H locs → lv_has ls 4 [(0, .ref (ad 9)), (1, .int v31_1)] → W p l e (headSpec (wt yX7_noTwins cX7_noTwins 4 (some .boolean)) ({ frames := 2, cells := 0, slots := 0, locals := 47 })).room s m ([.ref (ad 9)] : List Value).toArray below meth c H locs 0 0 (MQ below (va_Qi (fun (r : Int32) (u : MS) => Q r u ∧ wfC u ∧ shy S u ∧ (r = 0 ∨ r = 1)) (fun (u : MS) (t : State) => qEC g ad A u t) A) ([.ref (ad 9)] : List Value).toArray s 0 0 A) (F0 m 31 ls [.int t31_0]) := by
          intro U31 t31_0 v31_1 H locs ls h hsh hR hl
          unfold w_X7_noTwins_J31 at h
          replace h := h hR.w
          refine lv_istore_n (lv' := [(2, .int t31_0), (0, .ref (ad 9)), (1, .int v31_1)]) hx hb dX7_noTwins_31 rfl hl (by decide) rfl (fun ls hl => ?_)
          refine lv_iload_n hx hb dX7_noTwins_32 rfl (lv_at hl 0 rfl) ?_
          refine lv_istore_n (lv' := [(3, .int t31_0), (2, .int t31_0), (0, .ref (ad 9)), (1, .int v31_1)]) hx hb dX7_noTwins_33 rfl hl (by decide) rfl (fun ls hl => ?_)
          have J_34 : ∀ (n34 : Nat) (U34 : MS) (v34_1 : Int32) (v34_3 : Int32) (H : Heap) (locs : List Loc) (ls : Array Slot), w_X7_noTwins_L34 Q (w_X7_noTwins_L2 Q n2) n34 U34 v34_1 v34_3 → shy S U34 → RepC g ad A s U34 H locs → lv_has ls 4 [(0, .ref (ad 9)), (1, .int v34_1), (3, .int v34_3)] → W p l e (headSpec (wt yX7_noTwins cX7_noTwins 4 (some .boolean)) ({ frames := 2, cells := 0, slots := 0, locals := 47 })).room s m ([.ref (ad 9)] : List Value).toArray below meth c H locs 0 0 (MQ below (va_Qi (fun (r : Int32) (u : MS) => Q r u ∧ wfC u ∧ shy S u ∧ (r = 0 ∨ r = 1)) (fun (u : MS) (t : State) => qEC g ad A u t) A) ([.ref (ad 9)] : List Value).toArray s 0 0 A) (F0 m 34 ls []) := by
            intro n34
            induction n34 with
            | zero => intro U34 v34_1 v34_3 H locs ls h hsh hR hl; unfold w_X7_noTwins_L34 at h; exact h.elim
            | succ n34 ih_34 =>
              intro U34 v34_1 v34_3 H locs ls h hsh hR hl
              unfold w_X7_noTwins_L34 at h
              replace h := h hR.w
              refine lv_iload_n hx hb dX7_noTwins_34 rfl (lv_at hl 2 rfl) ?_
              refine lv_iload_n hx hb dX7_noTwins_35 rfl (lv_at hl 1 rfl) ?_
              refine lv_icmp_ge (tgt := 76) hx hb dX7_noTwins_36 (by decide) (fun c3 => ?_) (fun c3 => ?_)
              · replace h := h.1 (k_le rfl rfl c3)
                obtain ⟨a4, ea4⟩ : ∃ z, z = (v34_1 + Int32.ofInt 1) := ⟨_, rfl⟩
                replace h := h a4 ea4
                refine lv_iinc (v := a4) (lv' := [(1, .int a4), (0, .ref (ad 9)), (3, .int v34_3)]) hx hb dX7_noTwins_76 hl (k := 1) rfl ea4.symm (by decide) rfl (fun ls hl => ?_)
                refine lv_goto (tgt := 2) hx hb dX7_noTwins_79 (by decide) ?_
                exact ih_2 U34 a4 _ _ ls h  hsh hR (lv_sub hl [1, 0] rfl)
              · replace h := h.2 (k_nle rfl rfl c3)
                refine lv_aload_n hx hb dX7_noTwins_39 rfl (lv_at hl 0 rfl) ?_
                refine lv_aload_n hx hb dX7_noTwins_40 rfl (lv_at hl 0 rfl) ?_
                refine lv_iload_n hx hb dX7_noTwins_41 rfl (lv_at hl 2 rfl) ?_
                obtain ⟨hv5, h⟩ := h
                have hFc := cfree hR hA
                refine va_calli (va_runV (As := [.int v34_3]) (rest := [.ref (ad 9)]) ⟨hx, hb, hml, hown, hts⟩ (rX7_nameOf l g ad H.size U34 v34_3 hR.w  hv5) (cwV 1 hts (gd_V kw_1421 kw_1409 kw_1410 kw_710 kw_1408) rfl rfl rfl (by decide +kernel) ⟨Nat.le_of_ble_eq_true rfl, Nat.le_of_ble_eq_true rfl⟩) ⟨cblind, va_recv hR.K hR.P (ci := 6) (q0 := 9) rfl (hR.at46 (hR.w.2.1 _ finC_2).2.1), fun U hU hW9 => cmk hU hW9 hR hex hE hFc⟩ rfl rfl hl.1 rfl (lv_room (Nat.le_of_ble_eq_true rfl)) dX7_noTwins_42 ⟨Nat.le_of_ble_eq_true rfl, Nat.le_of_ble_eq_true rfl⟩) hR.sS (fun q _ h => hFc q h) hFc (fun r6 u9 t9 H1 locs ht9 hvm9 hw9 hB9 hz9 hk9 hS => ?_)
                have hR : RepC g ad A s U34 H1 locs := hR.call ht9 hB9 hR.w hS hFc
                obtain rfl : r6 = (fX7_nameOf U34 v34_3) := hw9
                clear hB9 hz9 hk9 hvm9 ht9 hS
                generalize H1 = H at hR ⊢
                obtain ⟨a8, ea8⟩ : ∃ z, z = (fX7_nameOf U34 v34_3) := ⟨_, rfl⟩
                rw [← ea8]
                replace h := h a8 ea8
                refine lv_aload_n hx hb dX7_noTwins_45 rfl (lv_at hl 0 rfl) ?_
                refine lv_iload_n hx hb dX7_noTwins_46 rfl (lv_at hl 1 rfl) ?_
                obtain ⟨hv9, h⟩ := h
                have hFc := cfree hR hA
                refine va_calli (va_runV (As := [.int v34_1]) (rest := [.int a8, .ref (ad 9)]) ⟨hx, hb, hml, hown, hts⟩ (rX7_nameOf l g ad H.size U34 v34_1 hR.w  hv9) (cwV 1 hts (gd_V kw_1421 kw_1409 kw_1410 kw_710 kw_1408) rfl rfl rfl (by decide +kernel) ⟨Nat.le_of_ble_eq_true rfl, Nat.le_of_ble_eq_true rfl⟩) ⟨cblind, va_recv hR.K hR.P (ci := 6) (q0 := 9) rfl (hR.at46 (hR.w.2.1 _ finC_2).2.1), fun U hU hW9 => cmk hU hW9 hR hex hE hFc⟩ rfl rfl hl.1 rfl (lv_room (Nat.le_of_ble_eq_true rfl)) dX7_noTwins_47 ⟨Nat.le_of_ble_eq_true rfl, Nat.le_of_ble_eq_true rfl⟩) hR.sS (fun q _ h => hFc q h) hFc (fun r10 u9 t9 H1 locs ht9 hvm9 hw9 hB9 hz9 hk9 hS => ?_)
                have hR : RepC g ad A s U34 H1 locs := hR.call ht9 hB9 hR.w hS hFc
                obtain rfl : r10 = (fX7_nameOf U34 v34_1) := hw9
                clear hB9 hz9 hk9 hvm9 ht9 hS
                generalize H1 = H at hR ⊢
                obtain ⟨a12, ea12⟩ : ∃ z, z = (fX7_nameOf U34 v34_1) := ⟨_, rfl⟩
                rw [← ea12]
                replace h := h a12 ea12
                obtain ⟨Q13, h0, h⟩ := h
                have hFc := cfree hR hA
                refine va_calli (va_runV (As := [.int a8, .int a12]) (rest := []) ⟨hx, hb, hml, hown, hts⟩ (rX7_isSameName l g ad H.size U34 a8 a12 hR.w  Q13 h0) (cwV 2 hts (gd_V kw_1422 kw_1356 kw_1357 kw_710 kw_1355) rfl rfl rfl (by decide +kernel) ⟨Nat.le_of_ble_eq_true rfl, Nat.le_of_ble_eq_true rfl⟩) ⟨cblind, va_recv hR.K hR.P (ci := 6) (q0 := 9) rfl (hR.at46 (hR.w.2.1 _ finC_2).2.1), fun U hU hW9 => cmk hU hW9 hR hex hE hFc⟩ rfl rfl hl.1 rfl (lv_room (Nat.le_of_ble_eq_true rfl)) dX7_noTwins_50 ⟨Nat.le_of_ble_eq_true rfl, Nat.le_of_ble_eq_true rfl⟩) hR.sS (fun q _ h => hFc q h) hFc (fun r14 S15 t9 H1 locs ht9 hvm9 hw9 hB9 hz9 hk9 hS => ?_)
                obtain ⟨hq16, hw9, hs9, hz_r14⟩ := hw9
                have hR : RepC g ad A s S15 H1 locs := hR.call ht9 hB9 hw9 hS hFc
                have hsh := hsh.tr hs9
                replace h := h r14 S15 hq16 hw9 hs9
                clear hB9 hz9 hk9 hvm9 ht9 hw9 hs9 hS
                generalize H1 = H at hR ⊢
                refine lv_if_eq (tgt := 70) hx hb dX7_noTwins_53 (by decide) (fun c17 => ?_) (fun c17 => ?_)
                · replace h := h.1 (k_eq rfl (by decide) c17)
                  obtain ⟨a18, ea18⟩ : ∃ z, z = (v34_3 + Int32.ofInt 1) := ⟨_, rfl⟩
                  replace h := h a18 ea18
                  refine lv_iinc (v := a18) (lv' := [(3, .int a18), (0, .ref (ad 9)), (1, .int v34_1)]) hx hb dX7_noTwins_70 hl (k := 2) rfl ea18.symm (by decide) rfl (fun ls hl => ?_)
                  refine lv_goto (tgt := 34) hx hb dX7_noTwins_73 (by decide) ?_
                  exact ih_34 S15 v34_1 a18 _ _ ls h  hsh hR (lv_sub hl [1, 2, 0] rfl)
                · replace h := h.2 (k_ne rfl (by decide) c17)
                  refine lv_aload_n hx hb dX7_noTwins_56 rfl (lv_at hl 0 rfl) ?_
                  refine lv_bipush (v := 11) hx hb dX7_noTwins_57 (by decide) ?_
                  refine lv_aload_n hx hb dX7_noTwins_59 rfl (lv_at hl 0 rfl) ?_
                  refine lv_iload_n hx hb dX7_noTwins_60 rfl (lv_at hl 1 rfl) ?_
                  obtain ⟨hv19, h⟩ := h
                  have hFc := cfree hR hA
                  refine va_calli (va_runV (As := [.int v34_1]) (rest := [.int 11, .ref (ad 9)]) ⟨hx, hb, hml, hown, hts⟩ (rX7_memberPlace l g ad H.size S15 v34_1 hR.w  hv19) (cwV 1 hts (gd_V kw_1288 kw_1394 kw_1395 kw_710 kw_1393) rfl rfl rfl (by decide +kernel) ⟨Nat.le_of_ble_eq_true rfl, Nat.le_of_ble_eq_true rfl⟩) ⟨cblind, va_recv hR.K hR.P (ci := 6) (q0 := 9) rfl (hR.at46 (hR.w.2.1 _ finC_2).2.1), fun U hU hW9 => cmk hU hW9 hR hex hE hFc⟩ rfl rfl hl.1 rfl (lv_room (Nat.le_of_ble_eq_true rfl)) dX7_noTwins_61 ⟨Nat.le_of_ble_eq_true rfl, Nat.le_of_ble_eq_true rfl⟩) hR.sS (fun q _ h => hFc q h) hFc (fun r20 u9 t9 H1 locs ht9 hvm9 hw9 hB9 hz9 hk9 hS => ?_)
                  have hR : RepC g ad A s S15 H1 locs := hR.call ht9 hB9 hR.w hS hFc
                  obtain rfl : r20 = (fX7_memberPlace S15 v34_1) := hw9
                  clear hB9 hz9 hk9 hvm9 ht9 hS
                  generalize H1 = H at hR ⊢
                  obtain ⟨a22, ea22⟩ : ∃ z, z = (fX7_memberPlace S15 v34_1) := ⟨_, rfl⟩
                  rw [← ea22]
                  replace h := h a22 ea22
                  refine lv_iconst (v := 2) hx hb dX7_noTwins_64 (by decide) ?_
                  refine lv_iadd hx hb dX7_noTwins_65 ?_
                  refine lv_topi (fun z23 ez23 => ?_)
                  obtain rfl : z23 = (a22 + (2 : Int32)) := ez23
                  obtain ⟨Q24, h0, h⟩ := h
                  have hFc := cfree hR hA
                  refine va_calli (va_runV (As := [.int 11, .int (a22 + (2 : Int32))]) (rest := []) ⟨hx, hb, hml, hown, hts⟩ (rX7_breaks l g ad H.size S15 (11 : Int32) (a22 + (2 : Int32)) hR.w  Q24 h0) (cwV 2 hts (gd_V kw_1276 kw_1278 kw_1279 kw_710 kw_1277) rfl rfl rfl (by decide +kernel) ⟨Nat.le_of_ble_eq_true rfl, Nat.le_of_ble_eq_true rfl⟩) ⟨cblind, va_recv hR.K hR.P (ci := 6) (q0 := 9) rfl (hR.at46 (hR.w.2.1 _ finC_2).2.1), fun U hU hW9 => cmk hU hW9 hR hex hE hFc⟩ rfl rfl hl.1 rfl (lv_room (Nat.le_of_ble_eq_true rfl)) dX7_noTwins_66 ⟨Nat.le_of_ble_eq_true rfl, Nat.le_of_ble_eq_true rfl⟩) hR.sS (fun q _ h => hFc q h) hFc (fun r25 S26 t9 H1 locs ht9 hvm9 hw9 hB9 hz9 hk9 hS => ?_)
                  obtain ⟨hq27, hw9, hs9, hz_r25⟩ := hw9
                  have hR : RepC g ad A s S26 H1 locs := hR.call ht9 hB9 hw9 hS hFc
                  have hsh := hsh.tr hs9
                  replace h := h r25 S26 hq27 hw9 hs9
                  clear hB9 hz9 hk9 hvm9 ht9 hw9 hs9 hS
                  generalize H1 = H at hR ⊢
                  exact W.zret (v := r25) hx hb hr (nz hz_r25) (fun t9 ht9 hW9 => ⟨⟨_, S26, rfl, ⟨h, hR.w, hsh, hz_r25⟩, ⟨by rw [ht9]; exact hR.P, hR.D⟩⟩, hR.sS.F ht9⟩) hR.sS.2.2 dX7_noTwins_69
          obtain ⟨n9, h⟩ := h
          exact J_34 n9 U31 v31_1 t31_0 _ _ ls h  hsh hR (lv_sub hl [2, 3, 0] rfl)
        refine lv_icmp_ge (tgt := 27) hx hb dX7_noTwins_20 (by decide) (fun c28 => ?_) (fun c28 => ?_)
        · replace h := h.1 (k_le rfl rfl c28)
          refine lv_aload_n hx hb dX7_noTwins_27 rfl (lv_at hl 0 rfl) ?_
          refine va_get (D := rD g) (ci := 6) (v := .int (qI U2 9 7)) (C := RX7) (T := TX7) (N := 17) hx hb hts inX7 hown hR.K hR.P 9 (hR.at46 (hR.w.2.1 _ finC_2).2.1) rfl 7 (by decide) (hts _ kw_1287) (fun _ h9 => h9) rfl dX7_noTwins_28 ?_
          exact J_31 U2 (qI U2 9 7) v2_1 _ _ ls h  hsh hR (lv_sub hl [0, 1] rfl)
        · replace h := h.2 (k_nle rfl rfl c28)
          refine lv_iconst (v := 0) hx hb dX7_noTwins_23 (by decide) ?_
          refine lv_goto (tgt := 31) hx hb dX7_noTwins_24 (by decide) ?_
          exact J_31 U2 0 v2_1 _ _ ls h  hsh hR (lv_sub hl [0, 1] rfl)
  obtain ⟨n9, h⟩ := h
  exact J_2 n9 S 0 _ _ ls h  hsh hR (lv_sub hl [1, 0] rfl)
def w_X7_codesHold_J110 (Q : Int32 → MS → Prop) (k51 : MS → Int32 → Int32 → Int32 → Int32 → Int32 → Int32 → Prop) (U110 : MS) (v110_1 : Int32) (v110_2 : Int32) (v110_3 : Int32) (v110_5 : Int32) (v110_6 : Int32) (v110_7 : Int32) : Prop := (wfC U110 → (∀ a39 : Int32, a39 = (v110_6 + Int32.ofInt 1) → k51 U110 v110_1 v110_2 v110_3 v110_7 v110_5 a39))
def w_X7_codesHold_L51 (Q : Int32 → MS → Prop) (k2 : MS → Int32 → Prop) : Nat → MS → Int32 → Int32 → Int32 → Int32 → Int32 → Int32 → Prop
  | 0, _, _, _, _, _, _, _ => False
  | n51 + 1, U51, v51_1, v51_2, v51_3, v51_4, v51_5, v51_6 => (wfC U51 → ((v51_3.toInt ≤ v51_6.toInt → ((v51_5.toInt = 1 → (∀ a17 : Int32, a17 = (v51_1 + Int32.ofInt 1) → k2 U51 a17)) ∧ (¬ v51_5.toInt = 1 → (∃ Q18, wX7_breaks U51 (12 : Int32) v51_2 Q18 ∧ ∀ r19 S20, Q18 r19 S20 → wfC S20 → shy U51 S20 → Q r19 S20)))) ∧ (¬ v51_3.toInt ≤ v51_6.toInt → (d_X7_s4 U51 (v51_4 + (2 : Int32)) ∧ (∀ a27 : Int32, a27 = (fX7_s4 U51 (v51_4 + (2 : Int32))) → (∀ a29 : Int32, a29 = ((v51_4 + (6 : Int32)) + a27) → (d_X7_u2 U51 v51_4 ∧ (∀ a33 : Int32, a33 = (fX7_u2 U51 v51_4) → (qT U51 10000000 = 12 → (∃ Q35, wX7_isText U51 a33 10000000 Q35 ∧ ∀ r36 S37, Q35 r36 S37 → wfC S37 → shy U51 S37 → ((r36.toInt = 0 → w_X7_codesHold_J110 Q (w_X7_codesHold_L51 Q k2 n51) S37 v51_1 v51_2 v51_3 v51_5 v51_6 a29) ∧ (¬ r36.toInt = 0 → (∀ a41 : Int32, a41 = (v51_5 + Int32.ofInt 1) → (((0 : Int) ≤ v51_1.toInt ∧ v51_1.toInt < 24) ∧ (∀ S44, S44 = wI S37 13 v51_1.toInt.toNat (v51_4 + (6 : Int32)) → qT S37 13 = 220 → wfC S44 → (((0 : Int) ≤ v51_1.toInt ∧ v51_1.toInt < 24) ∧ (∀ S46, S46 = wI S44 14 v51_1.toInt.toNat a29 → qT S44 14 = 221 → wfC S46 → w_X7_codesHold_J110 Q (w_X7_codesHold_L51 Q k2 n51) S46 v51_1 v51_2 v51_3 a41 v51_6 a29)))))))))))))))))
def w_X7_codesHold_L2 (Q : Int32 → MS → Prop) : Nat → MS → Int32 → Prop
  | 0, _, _ => False
  | n2 + 1, U2, v2_1 => (wfC U2 → (((qI U2 9 8).toInt ≤ v2_1.toInt → Q (1 : Int32) U2) ∧ (¬ (qI U2 9 8).toInt ≤ v2_1.toInt → ((24 ≤ v2_1.toInt → Q (1 : Int32) U2) ∧ (¬ 24 ≤ v2_1.toInt → (d_X7_memberPlace U2 ((qI U2 9 7) + v2_1) ∧ (∀ a7 : Int32, a7 = (fX7_memberPlace U2 ((qI U2 9 7) + v2_1)) → (d_X7_u2 U2 (a7 + (6 : Int32)) ∧ (∀ a12 : Int32, a12 = (fX7_u2 U2 (a7 + (6 : Int32))) → (∀ a14 : Int32, a14 = (a7 + (8 : Int32)) → (∃ n, w_X7_codesHold_L51 Q (w_X7_codesHold_L2 Q n2) n U2 v2_1 a7 a12 a14 0 0)))))))))))
def wX7_codesHold (S : MS) (Q : Int32 → MS → Prop) : Prop := (∃ n, w_X7_codesHold_L2 Q n S 0)
set_option maxHeartbeats 2000000 in
set_option maxRecDepth 100000 in
theorem rX7_codesHold (l : Launch) (g : Gr) (ad : Nat → Nat) (sz : Nat) (S : MS) (hw : wfC S) (Q : Int32 → MS → Prop) (h : wX7_codesHold S Q) : Met l yX7_codesHold (wt yX7_codesHold cX7_codesHold 8 (some .boolean)) ({ frames := 5, cells := 0, slots := 0, locals := 108 }) (va_Pc [.ref (ad 9)] (st_C g ad sz S)) (va_Qi (fun (r : Int32) (u : MS) => Q r u ∧ wfC u ∧ shy S u ∧ (r = 0 ∨ r = 1)) (fun (u : MS) (t : State) => qEC g ad (va_A (WdC g ad S) sz) u t) (va_A (WdC g ad S) sz)) 0 0 (va_A (WdC g ad S) sz) := by
  refine Met.ofW (cc := cX7_codesHold) (maxL := 8) (ret := (some .boolean)) (by decide) rfl ?_
  intro p e s m args below meth c s₁ B hml hv
  obtain ⟨rfl, hsz, hP, hK, hD0, hex, hE⟩ := hv
  have hx := B.exec
  have hb := B.bytes
  have hr := B.returns
  have hts0 := atoms_spec (ws := wt yX7_codesHold cX7_codesHold 8 (some .boolean)) B.pre
  have hts : ∀ w ∈ tb, w.before _ s = true := fun w h => hts0 w (List.mem_cons_of_mem _ h)
  have hown : s.vm.findClass RX7 = some m.cls := findClass_of_methodNamed B.named
  subst hsz
  have hD := hD0.self (sz := s.heap.size)
  generalize hAe : va_A (WdC g ad S) s.heap.size = A at hD hE ⊢
  have hA : ∀ q : Nat, s.heap.size ≤ q → A q := fun q h => by rw [← hAe]; exact Or.inr h
  have hR : RepC g ad A s S s.heap [] := ⟨hK, hP, hD, va_S.rf, hw⟩
  clear hK hP hD hD0
  have hl := lv_entry ([.ref (ad 9)]) (n := 8) (Nat.le_of_ble_eq_true rfl)
  rw [lg_entry_eq]
  generalize (lg_sl ([.ref (ad 9)]) ++ List.replicate (8 - (lg_sl ([.ref (ad 9)])).length) Slot.unset).toArray = ls at hl ⊢
  have hl : lv_has ls 8 [(0, .ref (ad 9))] := hl
  have hsh : shy S S := shy.rf
  unfold wX7_codesHold at h
  refine lv_iconst (v := 0) hx hb dX7_codesHold_0 (by decide) ?_
  refine lv_istore_n (lv' := [(1, .int 0), (0, .ref (ad 9))]) hx hb dX7_codesHold_1 rfl hl (by decide) rfl (fun ls hl => ?_)
  have J_2 : ∀ (n2 : Nat) (U2 : MS) (v2_1 : Int32) (H : Heap) (locs : List Loc) (ls : Array Slot), w_X7_codesHold_L2 Q n2 U2 v2_1 → shy S U2 → RepC g ad A s U2 H locs → lv_has ls 8 [(0, .ref (ad 9)), (1, .int v2_1)] → W p l e (headSpec (wt yX7_codesHold cX7_codesHold 8 (some .boolean)) ({ frames := 5, cells := 0, slots := 0, locals := 108 })).room s m ([.ref (ad 9)] : List Value).toArray below meth c H locs 0 0 (MQ below (va_Qi (fun (r : Int32) (u : MS) => Q r u ∧ wfC u ∧ shy S u ∧ (r = 0 ∨ r = 1)) (fun (u : MS) (t : State) => qEC g ad A u t) A) ([.ref (ad 9)] : List Value).toArray s 0 0 A) (F0 m 2 ls []) := by
    intro n2
    induction n2 with
    | zero => intro U2 v2_1 H locs ls h hsh hR hl; unfold w_X7_codesHold_L2 at h; exact h.elim
    | succ n2 ih_2 =>
      intro U2 v2_1 H locs ls h hsh hR hl
      unfold w_X7_codesHold_L2 at h
      replace h := h hR.w
      refine lv_iload_n hx hb dX7_codesHold_2 rfl (lv_at hl 1 rfl) ?_
      refine lv_aload_n hx hb dX7_codesHold_3 rfl (lv_at hl 0 rfl) ?_
      refine va_get (D := rD g) (ci := 6) (v := .int (qI U2 9 8)) (C := RX7) (T := TX7) (N := 17) hx hb hts inX7 hown hR.K hR.P 9 (hR.at46 (hR.w.2.1 _ finC_2).2.1) rfl 8 (by decide) (hts _ kw_1285) (fun _ h9 => h9) rfl dX7_codesHold_4 ?_
      refine lv_icmp_ge (tgt := 140) hx hb dX7_codesHold_7 (by decide) (fun c1 => ?_) (fun c1 => ?_)
      · replace h := h.1 (k_le rfl rfl c1)
        refine lv_iconst (v := 1) hx hb dX7_codesHold_140 (by decide) ?_
        exact W.zret (v := 1) hx hb hr (nz (Or.inr rfl)) (fun t9 ht9 hW9 => ⟨⟨_, U2, rfl, ⟨h, hR.w, hsh, (Or.inr rfl)⟩, ⟨by rw [ht9]; exact hR.P, hR.D⟩⟩, hR.sS.F ht9⟩) hR.sS.2.2 dX7_codesHold_141
      · replace h := h.2 (k_nle rfl rfl c1)
        refine lv_iload_n hx hb dX7_codesHold_10 rfl (lv_at hl 1 rfl) ?_
        refine lv_aload_n hx hb dX7_codesHold_11 rfl (lv_at hl 0 rfl) ?_
        refine va_get (D := rD g) (ci := 6) (v := .ref (ad 13)) (C := RX7) (T := TX7) (N := 17) hx hb hts inX7 hown hR.K hR.P 9 (hR.at46 (hR.w.2.1 _ finC_2).2.1) rfl 10 (by decide) (hts _ kw_1286) (fun _ h9 => h9) (congrArg (fun z => some (vf ad z)) (hR.w.2.1 _ finC_9).1) dX7_codesHold_12 ?_
        refine va_alen (v := 24) hx hb hR.K hR.P 13 1 (hR.atI (hR.w.2.1 _ finC_9).2.1 (by decide)) rfl (by rw [(hR.w.2.1 _ finC_9).2.2]; rfl) dX7_codesHold_15 ?_
        refine lv_icmp_ge (tgt := 140) hx hb dX7_codesHold_16 (by decide) (fun c2 => ?_) (fun c2 => ?_)
        · replace h := h.1 (k_le (by decide) rfl c2)
          refine lv_iconst (v := 1) hx hb dX7_codesHold_140 (by decide) ?_
          exact W.zret (v := 1) hx hb hr (nz (Or.inr rfl)) (fun t9 ht9 hW9 => ⟨⟨_, U2, rfl, ⟨h, hR.w, hsh, (Or.inr rfl)⟩, ⟨by rw [ht9]; exact hR.P, hR.D⟩⟩, hR.sS.F ht9⟩) hR.sS.2.2 dX7_codesHold_141
        · replace h := h.2 (k_nle (by decide) rfl c2)
          refine lv_aload_n hx hb dX7_codesHold_19 rfl (lv_at hl 0 rfl) ?_
          refine lv_aload_n hx hb dX7_codesHold_20 rfl (lv_at hl 0 rfl) ?_
          refine va_get (D := rD g) (ci := 6) (v := .int (qI U2 9 7)) (C := RX7) (T := TX7) (N := 17) hx hb hts inX7 hown hR.K hR.P 9 (hR.at46 (hR.w.2.1 _ finC_2).2.1) rfl 7 (by decide) (hts _ kw_1287) (fun _ h9 => h9) rfl dX7_codesHold_21 ?_
          refine lv_iload_n hx hb dX7_codesHold_24 rfl (lv_at hl 1 rfl) ?_
          refine lv_iadd hx hb dX7_codesHold_25 ?_
          refine lv_topi (fun z3 ez3 => ?_)
          obtain rfl : z3 = ((qI U2 9 7) + v2_1) := ez3
          obtain ⟨hv4, h⟩ := h
          have hFc := cfree hR hA
          refine va_calli (va_runV (As := [.int ((qI U2 9 7) + v2_1)]) (rest := []) ⟨hx, hb, hml, hown, hts⟩ (rX7_memberPlace l g ad H.size U2 ((qI U2 9 7) + v2_1) hR.w  hv4) (cwV 1 hts (gd_V kw_1288 kw_1394 kw_1395 kw_710 kw_1393) rfl rfl rfl (by decide +kernel) ⟨Nat.le_of_ble_eq_true rfl, Nat.le_of_ble_eq_true rfl⟩) ⟨cblind, va_recv hR.K hR.P (ci := 6) (q0 := 9) rfl (hR.at46 (hR.w.2.1 _ finC_2).2.1), fun U hU hW9 => cmk hU hW9 hR hex hE hFc⟩ rfl rfl hl.1 rfl (lv_room (Nat.le_of_ble_eq_true rfl)) dX7_codesHold_26 ⟨Nat.le_of_ble_eq_true rfl, Nat.le_of_ble_eq_true rfl⟩) hR.sS (fun q _ h => hFc q h) hFc (fun r5 u9 t9 H1 locs ht9 hvm9 hw9 hB9 hz9 hk9 hS => ?_)
          have hR : RepC g ad A s U2 H1 locs := hR.call ht9 hB9 hR.w hS hFc
          obtain rfl : r5 = (fX7_memberPlace U2 ((qI U2 9 7) + v2_1)) := hw9
          clear hB9 hz9 hk9 hvm9 ht9 hS
          generalize H1 = H at hR ⊢
          obtain ⟨a7, ea7⟩ : ∃ z, z = (fX7_memberPlace U2 ((qI U2 9 7) + v2_1)) := ⟨_, rfl⟩
          rw [← ea7]
          replace h := h a7 ea7
          refine lv_istore_n (lv' := [(2, .int a7), (0, .ref (ad 9)), (1, .int v2_1)]) hx hb dX7_codesHold_29 rfl hl (by decide) rfl (fun ls hl => ?_)
          refine lv_aload_n hx hb dX7_codesHold_30 rfl (lv_at hl 1 rfl) ?_
          refine lv_iload_n hx hb dX7_codesHold_31 rfl (lv_at hl 0 rfl) ?_
          refine lv_bipush (v := 6) hx hb dX7_codesHold_32 (by decide) ?_
          refine lv_iadd hx hb dX7_codesHold_34 ?_
          refine lv_topi (fun z8 ez8 => ?_)
          obtain rfl : z8 = (a7 + (6 : Int32)) := ez8
          obtain ⟨hv9, h⟩ := h
          have hFc := cfree hR hA
          refine va_calli (va_runV (As := [.int (a7 + (6 : Int32))]) (rest := []) ⟨hx, hb, hml, hown, hts⟩ (rX7_u2 l g ad H.size U2 (a7 + (6 : Int32)) hR.w  hv9) (cwV 1 hts (gd_V kw_1266 kw_1450 kw_1451 kw_710 kw_1449) rfl rfl rfl (by decide +kernel) ⟨Nat.le_of_ble_eq_true rfl, Nat.le_of_ble_eq_true rfl⟩) ⟨cblind, va_recv hR.K hR.P (ci := 6) (q0 := 9) rfl (hR.at46 (hR.w.2.1 _ finC_2).2.1), fun U hU hW9 => cmk hU hW9 hR hex hE hFc⟩ rfl rfl hl.1 rfl (lv_room (Nat.le_of_ble_eq_true rfl)) dX7_codesHold_35 ⟨Nat.le_of_ble_eq_true rfl, Nat.le_of_ble_eq_true rfl⟩) hR.sS (fun q _ h => hFc q h) hFc (fun r10 u9 t9 H1 locs ht9 hvm9 hw9 hB9 hz9 hk9 hS => ?_)
          have hR : RepC g ad A s U2 H1 locs := hR.call ht9 hB9 hR.w hS hFc
          obtain rfl : r10 = (fX7_u2 U2 (a7 + (6 : Int32))) := hw9
          clear hB9 hz9 hk9 hvm9 ht9 hS
          generalize H1 = H at hR ⊢
          obtain ⟨a12, ea12⟩ : ∃ z, z = (fX7_u2 U2 (a7 + (6 : Int32))) := ⟨_, rfl⟩
          rw [← ea12]
          replace h := h a12 ea12
          refine lv_istore_n (lv' := [(3, .int a12), (2, .int a7), (0, .ref (ad 9)), (1, .int v2_1)]) hx hb dX7_codesHold_38 rfl hl (by decide) rfl (fun ls hl => ?_)
          refine lv_iload_n hx hb dX7_codesHold_39 rfl (lv_at hl 1 rfl) ?_
          refine lv_bipush (v := 8) hx hb dX7_codesHold_40 (by decide) ?_
          refine lv_iadd hx hb dX7_codesHold_42 ?_
          refine lv_topi (fun z13 ez13 => ?_)
          obtain rfl : z13 = (a7 + (8 : Int32)) := ez13
          obtain ⟨a14, ea14⟩ : ∃ z, z = (a7 + (8 : Int32)) := ⟨_, rfl⟩
          rw [← ea14]
          replace h := h a14 ea14
          refine lv_istore (lv' := [(4, .int a14), (3, .int a12), (2, .int a7), (0, .ref (ad 9)), (1, .int v2_1)]) hx hb dX7_codesHold_43 hl (by decide) rfl (fun ls hl => ?_)
          refine lv_iconst (v := 0) hx hb dX7_codesHold_45 (by decide) ?_
          refine lv_istore (lv' := [(5, .int 0), (4, .int a14), (3, .int a12), (2, .int a7), (0, .ref (ad 9)), (1, .int v2_1)]) hx hb dX7_codesHold_46 hl (by decide) rfl (fun ls hl => ?_)
          refine lv_iconst (v := 0) hx hb dX7_codesHold_48 (by decide) ?_
          refine lv_istore (lv' := [(6, .int 0), (5, .int 0), (4, .int a14), (3, .int a12), (2, .int a7), (0, .ref (ad 9)), (1, .int v2_1)]) hx hb dX7_codesHold_49 hl (by decide) rfl (fun ls hl => ?_)
          have J_51 : ∀ (n51 : Nat) (U51 : MS) (v51_1 : Int32) (v51_2 : Int32) (v51_3 : Int32) (v51_4 : Int32) (v51_5 : Int32) (v51_6 : Int32) (H : Heap) (locs : List Loc) (ls : Array Slot), w_X7_codesHold_L51 Q (w_X7_codesHold_L2 Q n2) n51 U51 v51_1 v51_2 v51_3 v51_4 v51_5 v51_6 → shy S U51 → RepC g ad A s U51 H locs → lv_has ls 8 [(0, .ref (ad 9)), (1, .int v51_1), (2, .int v51_2), (3, .int v51_3), (4, .int v51_4), (5, .int v51_5), (6, .int v51_6)] → W p l e (headSpec (wt yX7_codesHold cX7_codesHold 8 (some .boolean)) ({ frames := 5, cells := 0, slots := 0, locals := 108 })).room s m ([.ref (ad 9)] : List Value).toArray below meth c H locs 0 0 (MQ below (va_Qi (fun (r : Int32) (u : MS) => Q r u ∧ wfC u ∧ shy S u ∧ (r = 0 ∨ r = 1)) (fun (u : MS) (t : State) => qEC g ad A u t) A) ([.ref (ad 9)] : List Value).toArray s 0 0 A) (F0 m 51 ls []) := by
            intro n51
            induction n51 with
            | zero => intro U51 v51_1 v51_2 v51_3 v51_4 v51_5 v51_6 H locs ls h hsh hR hl; unfold w_X7_codesHold_L51 at h; exact h.elim
            | succ n51 ih_51 =>
              intro U51 v51_1 v51_2 v51_3 v51_4 v51_5 v51_6 H locs ls h hsh hR hl
              unfold w_X7_codesHold_L51 at h
              replace h := h hR.w
              refine lv_iload hx hb dX7_codesHold_51 (lv_at hl 6 rfl) ?_
              refine lv_iload_n hx hb dX7_codesHold_53 rfl (lv_at hl 3 rfl) ?_
              refine lv_icmp_ge (tgt := 120) hx hb dX7_codesHold_54 (by decide) (fun c15 => ?_) (fun c15 => ?_)
              · replace h := h.1 (k_le rfl rfl c15)
                refine lv_iload hx hb dX7_codesHold_120 (lv_at hl 5 rfl) ?_
                refine lv_iconst (v := 1) hx hb dX7_codesHold_122 (by decide) ?_
                refine lv_icmp_eq (tgt := 134) hx hb dX7_codesHold_123 (by decide) (fun c16 => ?_) (fun c16 => ?_)
                · replace h := h.1 (k_eq rfl (by decide) c16)
                  obtain ⟨a17, ea17⟩ : ∃ z, z = (v51_1 + Int32.ofInt 1) := ⟨_, rfl⟩
                  replace h := h a17 ea17
                  refine lv_iinc (v := a17) (lv' := [(1, .int a17), (0, .ref (ad 9)), (2, .int v51_2), (3, .int v51_3), (4, .int v51_4), (5, .int v51_5), (6, .int v51_6)]) hx hb dX7_codesHold_134 hl (k := 1) rfl ea17.symm (by decide) rfl (fun ls hl => ?_)
                  refine lv_goto (tgt := 2) hx hb dX7_codesHold_137 (by decide) ?_
                  exact ih_2 U51 a17 _ _ ls h  hsh hR (lv_sub hl [1, 0] rfl)
                · replace h := h.2 (k_ne rfl (by decide) c16)
                  refine lv_aload_n hx hb dX7_codesHold_126 rfl (lv_at hl 0 rfl) ?_
                  refine lv_bipush (v := 12) hx hb dX7_codesHold_127 (by decide) ?_
                  refine lv_iload_n hx hb dX7_codesHold_129 rfl (lv_at hl 2 rfl) ?_
                  obtain ⟨Q18, h0, h⟩ := h
                  have hFc := cfree hR hA
                  refine va_calli (va_runV (As := [.int 12, .int v51_2]) (rest := []) ⟨hx, hb, hml, hown, hts⟩ (rX7_breaks l g ad H.size U51 (12 : Int32) v51_2 hR.w  Q18 h0) (cwV 2 hts (gd_V kw_1276 kw_1278 kw_1279 kw_710 kw_1277) rfl rfl rfl (by decide +kernel) ⟨Nat.le_of_ble_eq_true rfl, Nat.le_of_ble_eq_true rfl⟩) ⟨cblind, va_recv hR.K hR.P (ci := 6) (q0 := 9) rfl (hR.at46 (hR.w.2.1 _ finC_2).2.1), fun U hU hW9 => cmk hU hW9 hR hex hE hFc⟩ rfl rfl hl.1 rfl (lv_room (Nat.le_of_ble_eq_true rfl)) dX7_codesHold_130 ⟨Nat.le_of_ble_eq_true rfl, Nat.le_of_ble_eq_true rfl⟩) hR.sS (fun q _ h => hFc q h) hFc (fun r19 S20 t9 H1 locs ht9 hvm9 hw9 hB9 hz9 hk9 hS => ?_)
                  obtain ⟨hq21, hw9, hs9, hz_r19⟩ := hw9
                  have hR : RepC g ad A s S20 H1 locs := hR.call ht9 hB9 hw9 hS hFc
                  have hsh := hsh.tr hs9
                  replace h := h r19 S20 hq21 hw9 hs9
                  clear hB9 hz9 hk9 hvm9 ht9 hw9 hs9 hS
                  generalize H1 = H at hR ⊢
                  exact W.zret (v := r19) hx hb hr (nz hz_r19) (fun t9 ht9 hW9 => ⟨⟨_, S20, rfl, ⟨h, hR.w, hsh, hz_r19⟩, ⟨by rw [ht9]; exact hR.P, hR.D⟩⟩, hR.sS.F ht9⟩) hR.sS.2.2 dX7_codesHold_133
              · replace h := h.2 (k_nle rfl rfl c15)
                refine lv_iload hx hb dX7_codesHold_57 (lv_at hl 4 rfl) ?_
                refine lv_bipush (v := 6) hx hb dX7_codesHold_59 (by decide) ?_
                refine lv_iadd hx hb dX7_codesHold_61 ?_
                refine lv_topi (fun z22 ez22 => ?_)
                obtain rfl : z22 = (v51_4 + (6 : Int32)) := ez22
                refine lv_aload_n hx hb dX7_codesHold_62 rfl (lv_at hl 0 rfl) ?_
                refine lv_iload hx hb dX7_codesHold_63 (lv_at hl 4 rfl) ?_
                refine lv_iconst (v := 2) hx hb dX7_codesHold_65 (by decide) ?_
                refine lv_iadd hx hb dX7_codesHold_66 ?_
                refine lv_topi (fun z23 ez23 => ?_)
                obtain rfl : z23 = (v51_4 + (2 : Int32)) := ez23
                obtain ⟨hv24, h⟩ := h
                have hFc := cfree hR hA
                refine va_calli (va_runV (As := [.int (v51_4 + (2 : Int32))]) (rest := [.int (v51_4 + (6 : Int32))]) ⟨hx, hb, hml, hown, hts⟩ (rX7_s4 l g ad H.size U51 (v51_4 + (2 : Int32)) hR.w  hv24) (cwV 1 hts (gd_V kw_1268 kw_1429 kw_1430 kw_710 kw_1428) rfl rfl rfl (by decide +kernel) ⟨Nat.le_of_ble_eq_true rfl, Nat.le_of_ble_eq_true rfl⟩) ⟨cblind, va_recv hR.K hR.P (ci := 6) (q0 := 9) rfl (hR.at46 (hR.w.2.1 _ finC_2).2.1), fun U hU hW9 => cmk hU hW9 hR hex hE hFc⟩ rfl rfl hl.1 rfl (lv_room (Nat.le_of_ble_eq_true rfl)) dX7_codesHold_67 ⟨Nat.le_of_ble_eq_true rfl, Nat.le_of_ble_eq_true rfl⟩) hR.sS (fun q _ h => hFc q h) hFc (fun r25 u9 t9 H1 locs ht9 hvm9 hw9 hB9 hz9 hk9 hS => ?_)
                have hR : RepC g ad A s U51 H1 locs := hR.call ht9 hB9 hR.w hS hFc
                obtain rfl : r25 = (fX7_s4 U51 (v51_4 + (2 : Int32))) := hw9
                clear hB9 hz9 hk9 hvm9 ht9 hS
                generalize H1 = H at hR ⊢
                obtain ⟨a27, ea27⟩ : ∃ z, z = (fX7_s4 U51 (v51_4 + (2 : Int32))) := ⟨_, rfl⟩
                rw [← ea27]
                replace h := h a27 ea27
                refine lv_iadd hx hb dX7_codesHold_70 ?_
                refine lv_topi (fun z28 ez28 => ?_)
                obtain rfl : z28 = ((v51_4 + (6 : Int32)) + a27) := ez28
                obtain ⟨a29, ea29⟩ : ∃ z, z = ((v51_4 + (6 : Int32)) + a27) := ⟨_, rfl⟩
                rw [← ea29]
                replace h := h a29 ea29
                refine lv_istore (lv' := [(7, .int a29), (0, .ref (ad 9)), (1, .int v51_1), (2, .int v51_2), (3, .int v51_3), (4, .int v51_4), (5, .int v51_5), (6, .int v51_6)]) hx hb dX7_codesHold_71 hl (by decide) rfl (fun ls hl => ?_)
                refine lv_aload_n hx hb dX7_codesHold_73 rfl (lv_at hl 1 rfl) ?_
                refine lv_aload_n hx hb dX7_codesHold_74 rfl (lv_at hl 1 rfl) ?_
                refine lv_iload hx hb dX7_codesHold_75 (lv_at hl 5 rfl) ?_
                obtain ⟨hv30, h⟩ := h
                have hFc := cfree hR hA
                refine va_calli (va_runV (As := [.int v51_4]) (rest := [.ref (ad 9)]) ⟨hx, hb, hml, hown, hts⟩ (rX7_u2 l g ad H.size U51 v51_4 hR.w  hv30) (cwV 1 hts (gd_V kw_1266 kw_1450 kw_1451 kw_710 kw_1449) rfl rfl rfl (by decide +kernel) ⟨Nat.le_of_ble_eq_true rfl, Nat.le_of_ble_eq_true rfl⟩) ⟨cblind, va_recv hR.K hR.P (ci := 6) (q0 := 9) rfl (hR.at46 (hR.w.2.1 _ finC_2).2.1), fun U hU hW9 => cmk hU hW9 hR hex hE hFc⟩ rfl rfl hl.1 rfl (lv_room (Nat.le_of_ble_eq_true rfl)) dX7_codesHold_77 ⟨Nat.le_of_ble_eq_true rfl, Nat.le_of_ble_eq_true rfl⟩) hR.sS (fun q _ h => hFc q h) hFc (fun r31 u9 t9 H1 locs ht9 hvm9 hw9 hB9 hz9 hk9 hS => ?_)
                have hR : RepC g ad A s U51 H1 locs := hR.call ht9 hB9 hR.w hS hFc
                obtain rfl : r31 = (fX7_u2 U51 v51_4) := hw9
                clear hB9 hz9 hk9 hvm9 ht9 hS
                generalize H1 = H at hR ⊢
                obtain ⟨a33, ea33⟩ : ∃ z, z = (fX7_u2 U51 v51_4) := ⟨_, rfl⟩
                rw [← ea33]
                replace h := h a33 ea33
                have hT_t34 : qT U51 10000000 = 12 := hR.w.txt (i := 0) (by decide)
                refine va_ldcS (tx := "Code") (q := ad 10000000) hx hb hown (hE.2.2 _ ldcC_4) dX7_codesHold_80 ?_
                replace h := h (hT_t34)
                obtain ⟨Q35, h0, h⟩ := h
                have hFc := cfree hR hA
                refine va_calli (va_runV (As := [.int a33, .ref (ad 10000000)]) (rest := []) ⟨hx, hb, hml, hown, hts⟩ (rX7_isText l g ad H.size U51 a33 10000000 hR.w hT_t34 Q35 h0) (cwV 2 hts (gd_V kw_1289 kw_1377 kw_1378 kw_710 kw_1376) rfl rfl rfl (by decide +kernel) ⟨Nat.le_of_ble_eq_true rfl, Nat.le_of_ble_eq_true rfl⟩) ⟨cblind, va_recv hR.K hR.P (ci := 6) (q0 := 9) rfl (hR.at46 (hR.w.2.1 _ finC_2).2.1), fun U hU hW9 => cmk hU hW9 hR hex hE hFc⟩ rfl rfl hl.1 rfl (lv_room (Nat.le_of_ble_eq_true rfl)) dX7_codesHold_82 ⟨Nat.le_of_ble_eq_true rfl, Nat.le_of_ble_eq_true rfl⟩) hR.sS (fun q _ h => hFc q h) hFc (fun r36 S37 t9 H1 locs ht9 hvm9 hw9 hB9 hz9 hk9 hS => ?_)
                obtain ⟨hq38, hw9, hs9, hz_r36⟩ := hw9
                have hR : RepC g ad A s S37 H1 locs := hR.call ht9 hB9 hw9 hS hFc
                have hsh := hsh.tr hs9
                replace h := h r36 S37 hq38 hw9 hs9
                clear hB9 hz9 hk9 hvm9 ht9 hw9 hs9 hS
                generalize H1 = H at hR ⊢
                have J_110 : ∀ (U110 : MS) (v110_1 : Int32) (v110_2 : Int32) (v110_3 : Int32) (v110_5 : Int32) (v110_6 : Int32) (v110_7 : Int32) (H : Heap) (locs : List Loc) (ls : Array Slot), w_X7_codesHold_J110 Q (w_X7_codesHold_L51 Q (w_X7_codesHold_L2 Q n2) n51) U110 v110_1 v110_2 v110_3 v110_5 v110_6 v110_7 → shy S U110 → RepC g ad A s U110 H locs → lv_has ls 8 [(0, .ref (ad 9)), (1, .int v110_1), (2, .int v110_2), (3, .int v110_3), (5, .int v110_5), (6, .int v110_6), (7, .int v110_7)] → W p l e (headSpec (wt yX7_codesHold cX7_codesHold 8 (some .boolean)) ({ frames := 5, cells := 0, slots := 0, locals := 108 })).room s m ([.ref (ad 9)] : List Value).toArray below meth c H locs 0 0 (MQ below (va_Qi (fun (r : Int32) (u : MS) => Q r u ∧ wfC u ∧ shy S u ∧ (r = 0 ∨ r = 1)) (fun (u : MS) (t : State) => qEC g ad A u t) A) ([.ref (ad 9)] : List Value).toArray s 0 0 A) (F0 m 110 ls []) := by
                  intro U110 v110_1 v110_2 v110_3 v110_5 v110_6 v110_7 H locs ls h hsh hR hl
                  unfold w_X7_codesHold_J110 at h
                  replace h := h hR.w
                  refine lv_iload hx hb dX7_codesHold_110 (lv_at hl 6 rfl) ?_
                  refine lv_istore (lv' := [(4, .int v110_7), (0, .ref (ad 9)), (1, .int v110_1), (2, .int v110_2), (3, .int v110_3), (5, .int v110_5), (6, .int v110_6), (7, .int v110_7)]) hx hb dX7_codesHold_112 hl (by decide) rfl (fun ls hl => ?_)
                  obtain ⟨a39, ea39⟩ : ∃ z, z = (v110_6 + Int32.ofInt 1) := ⟨_, rfl⟩
                  replace h := h a39 ea39
                  refine lv_iinc (v := a39) (lv' := [(6, .int a39), (4, .int v110_7), (0, .ref (ad 9)), (1, .int v110_1), (2, .int v110_2), (3, .int v110_3), (5, .int v110_5), (7, .int v110_7)]) hx hb dX7_codesHold_114 hl (k := 6) rfl ea39.symm (by decide) rfl (fun ls hl => ?_)
                  refine lv_goto (tgt := 51) hx hb dX7_codesHold_117 (by decide) ?_
                  exact ih_51 U110 v110_1 v110_2 v110_3 v110_7 v110_5 a39 _ _ ls h  hsh hR (lv_sub hl [2, 3, 4, 5, 1, 6, 0] rfl)
                refine lv_if_eq (tgt := 110) hx hb dX7_codesHold_85 (by decide) (fun c40 => ?_) (fun c40 => ?_)
                · replace h := h.1 (k_eq rfl (by decide) c40)
                  exact J_110 S37 v51_1 v51_2 v51_3 v51_5 v51_6 a29 _ _ ls h  hsh hR (lv_sub hl [1, 2, 3, 4, 6, 7, 0] rfl)
                · replace h := h.2 (k_ne rfl (by decide) c40)
                  obtain ⟨a41, ea41⟩ : ∃ z, z = (v51_5 + Int32.ofInt 1) := ⟨_, rfl⟩
                  replace h := h a41 ea41
                  refine lv_iinc (v := a41) (lv' := [(5, .int a41), (7, .int a29), (0, .ref (ad 9)), (1, .int v51_1), (2, .int v51_2), (3, .int v51_3), (4, .int v51_4), (6, .int v51_6)]) hx hb dX7_codesHold_88 hl (k := 6) rfl ea41.symm (by decide) rfl (fun ls hl => ?_)
                  refine lv_aload_n hx hb dX7_codesHold_91 rfl (lv_at hl 2 rfl) ?_
                  refine va_get (D := rD g) (ci := 6) (v := .ref (ad 13)) (C := RX7) (T := TX7) (N := 17) hx hb hts inX7 hown hR.K hR.P 9 (hR.at46 (hR.w.2.1 _ finC_2).2.1) rfl 10 (by decide) (hts _ kw_1286) (fun _ h9 => h9) (congrArg (fun z => some (vf ad z)) (hR.w.2.1 _ finC_9).1) dX7_codesHold_92 ?_
                  refine lv_iload_n hx hb dX7_codesHold_95 rfl (lv_at hl 3 rfl) ?_
                  refine lv_iload hx hb dX7_codesHold_96 (lv_at hl 6 rfl) ?_
                  refine lv_bipush (v := 6) hx hb dX7_codesHold_98 (by decide) ?_
                  refine lv_iadd hx hb dX7_codesHold_100 ?_
                  refine lv_topi (fun z42 ez42 => ?_)
                  obtain rfl : z42 = (v51_4 + (6 : Int32)) := ez42
                  obtain ⟨hv43, h⟩ := h
                  refine va_iast hx hb hR.K hR.P hR.D hR.sS 13 1 (hR.atI (hR.w.2.1 _ finC_9).2.1 (by decide)) rfl (k_ixN (k_ix (n := 24) (x := v51_1) (a := v51_1.toInt) rfl hv43) (hR.w.2.1 _ finC_9).2.2) dX7_codesHold_101 (fun H locs hP hD hS => ?_)
                  have hTk9 : qT S37 13 = 220 := (hR.w.2.1 _ finC_9).2.1
                  have hR : RepC g ad A s (wI S37 13 v51_1.toInt.toNat (v51_4 + (6 : Int32))) H locs := hR.aI (hR.w.2.1 _ finC_9).2.1 (by decide) hP hD hS
                  obtain ⟨S44, eS44⟩ : ∃ z, z = wI S37 13 v51_1.toInt.toNat (v51_4 + (6 : Int32)) := ⟨_, rfl⟩
                  rw [← eS44] at hR
                  replace h := h S44 eS44 hTk9 hR.w
                  have hsh : shy S S44 := by rw [eS44]; exact hsh
                  refine lv_aload_n hx hb dX7_codesHold_102 rfl (lv_at hl 2 rfl) ?_
                  refine va_get (D := rD g) (ci := 6) (v := .ref (ad 14)) (C := RX7) (T := TX7) (N := 17) hx hb hts inX7 hown hR.K hR.P 9 (hR.at46 (hR.w.2.1 _ finC_2).2.1) rfl 11 (by decide) (hts _ kw_1290) (fun _ h9 => h9) (congrArg (fun z => some (vf ad z)) (hR.w.2.1 _ finC_10).1) dX7_codesHold_103 ?_
                  refine lv_iload_n hx hb dX7_codesHold_106 rfl (lv_at hl 3 rfl) ?_
                  refine lv_iload hx hb dX7_codesHold_107 (lv_at hl 1 rfl) ?_
                  obtain ⟨hv45, h⟩ := h
                  refine va_iast hx hb hR.K hR.P hR.D hR.sS 14 1 (hR.atI (hR.w.2.1 _ finC_10).2.1 (by decide)) rfl (k_ixN (k_ix (n := 24) (x := v51_1) (a := v51_1.toInt) rfl hv45) (hR.w.2.1 _ finC_10).2.2) dX7_codesHold_109 (fun H locs hP hD hS => ?_)
                  have hTk9 : qT S44 14 = 221 := (hR.w.2.1 _ finC_10).2.1
                  have hR : RepC g ad A s (wI S44 14 v51_1.toInt.toNat a29) H locs := hR.aI (hR.w.2.1 _ finC_10).2.1 (by decide) hP hD hS
                  obtain ⟨S46, eS46⟩ : ∃ z, z = wI S44 14 v51_1.toInt.toNat a29 := ⟨_, rfl⟩
                  rw [← eS46] at hR
                  replace h := h S46 eS46 hTk9 hR.w
                  have hsh : shy S S46 := by rw [eS46]; exact hsh
                  exact J_110 S46 v51_1 v51_2 v51_3 a41 v51_6 a29 _ _ ls h  hsh hR (lv_sub hl [2, 3, 4, 5, 0, 7, 1] rfl)
          obtain ⟨n9, h⟩ := h
          exact J_51 n9 U2 v2_1 a7 a12 a14 0 0 _ _ ls h  hsh hR (lv_sub hl [5, 6, 4, 3, 2, 1, 0] rfl)
  obtain ⟨n9, h⟩ := h
  exact J_2 n9 S 0 _ _ ls h  hsh hR (lv_sub hl [1, 0] rfl)
def wX8_init (S : MS) (p0 : Nat) (x1 : Int32) (x2 : Int32) (x3 : Int32) (Q : MS → Prop) : Prop := (((0 : Int) ≤ x1.toInt ∧ (qn S + 1 ≤ KCC ∧ qu S + x1.toInt.toNat ≤ KSC)) ∧ (∀ S4, S4 = wN S 222 x1.toInt.toNat x1.toInt.toNat → wfC S4 → (((qn S) = p0 + 1) ∧ (∀ S7, S7 = wR S4 p0 0 (some (qn S)) → qT S4 p0 = 47 → wfC S7 → (((0 : Int) ≤ x1.toInt ∧ (qn S7 + 1 ≤ KCC ∧ qu S7 + x1.toInt.toNat ≤ KSC)) ∧ (∀ S11, S11 = wN S7 406 x1.toInt.toNat x1.toInt.toNat → wfC S11 → (((qn S7) = p0 + 2) ∧ (∀ S14, S14 = wR S11 p0 1 (some (qn S7)) → qT S11 p0 = 47 → wfC S14 → (((0 : Int) ≤ x2.toInt ∧ (qn S14 + 1 ≤ KCC ∧ qu S14 + x2.toInt.toNat ≤ KSC)) ∧ (∀ S18, S18 = wN S14 223 x2.toInt.toNat x2.toInt.toNat → wfC S18 → (((qn S14) = p0 + 3) ∧ (∀ S21, S21 = wR S18 p0 3 (some (qn S14)) → qT S18 p0 = 47 → wfC S21 → (((0 : Int) ≤ x3.toInt ∧ (qn S21 + 1 ≤ KCC ∧ qu S21 + x3.toInt.toNat ≤ KSC)) ∧ (∀ S25, S25 = wN S21 224 x3.toInt.toNat x3.toInt.toNat → wfC S25 → (((qn S21) = p0 + 4) ∧ (∀ S28, S28 = wR S25 p0 5 (some (qn S21)) → qT S25 p0 = 47 → wfC S28 → (((0 : Int) ≤ x3.toInt ∧ (qn S28 + 1 ≤ KCC ∧ qu S28 + x3.toInt.toNat ≤ KSC)) ∧ (∀ S32, S32 = wN S28 225 x3.toInt.toNat x3.toInt.toNat → wfC S32 → (((qn S28) = p0 + 5) ∧ (∀ S35, S35 = wR S32 p0 6 (some (qn S28)) → qT S32 p0 = 47 → wfC S35 → (((0 : Int) ≤ x3.toInt ∧ (qn S35 + 1 ≤ KCC ∧ qu S35 + x3.toInt.toNat ≤ KSC)) ∧ (∀ S39, S39 = wN S35 226 x3.toInt.toNat x3.toInt.toNat → wfC S39 → (((qn S35) = p0 + 6) ∧ (∀ S42, S42 = wR S39 p0 7 (some (qn S35)) → qT S39 p0 = 47 → wfC S42 → (((0 : Int) ≤ x3.toInt ∧ (qn S42 + 1 ≤ KCC ∧ qu S42 + x3.toInt.toNat ≤ KSC)) ∧ (∀ S46, S46 = wN S42 227 x3.toInt.toNat x3.toInt.toNat → wfC S46 → (((qn S42) = p0 + 7) ∧ (∀ S49, S49 = wR S46 p0 8 (some (qn S42)) → qT S46 p0 = 47 → wfC S49 → Q S49))))))))))))))))))))))))))))
set_option maxHeartbeats 2000000 in
set_option maxRecDepth 100000 in
theorem rX8_init (l : Launch) (g : Gr) (ad : Nat → Nat) (H0 : Heap) (S : MS) (p0 : Nat) (x1 : Int32) (x2 : Int32) (x3 : Int32) (hw : wfC S) (hT_p0 : qT S p0 = 47) (Q : MS → Prop) (h : wX8_init S p0 x1 x2 x3 Q) : Met l yX8_init (wt yX8_init cX8_init 4 none) ({ frames := 1, cells := KCC - qn S, slots := KSC - qu S, locals := 12 }) (va_Pc [.ref (ad p0), .int x1, .int x2, .int x3] (st_CH g ad H0 S)) (va_Qv (fun (u : MS × (Nat → Nat)) => Q u.1 ∧ wfC u.1 ∧ shx S u.1 ∧ adk ad u.2 S) (fun (u : MS × (Nat → Nat)) (t : State) => qEHC g (va_A (WdC g ad S) H0.size) S H0 u t) (va_A (WdC g ad S) H0.size)) (KCC - qn S) (KSC - qu S) (va_A (WdC g ad S) H0.size) := by
  refine Met.ofW (cc := cX8_init) (maxL := 4) (ret := none) (by decide) rfl ?_
  intro p e s m args below meth c s₁ B hml hv
  obtain ⟨rfl, hH0, hsz, hP, hK, hD0, hex, hE⟩ := hv
  have hx := B.exec
  have hb := B.bytes
  have hr := B.returns
  have hts0 := atoms_spec (ws := wt yX8_init cX8_init 4 none) B.pre
  have hts : ∀ w ∈ tb, w.before _ s = true := fun w h => hts0 w (List.mem_cons_of_mem _ h)
  have hown : s.vm.findClass RX8 = some m.cls := findClass_of_methodNamed B.named
  subst hH0
  have hD := hD0.self (sz := s.heap.size)
  generalize hAe : va_A (WdC g ad S) s.heap.size = A at hD hE ⊢
  have hA : ∀ q : Nat, s.heap.size ≤ q → A q := fun q h => by rw [← hAe]; exact Or.inr h
  have hR : RepC g ad A s S s.heap [] := ⟨hK, hP, hD, va_S.rf, hw⟩
  clear hK hP hD hD0
  have hl := lv_entry ([.ref (ad p0), .int x1, .int x2, .int x3]) (n := 4) (Nat.le_of_ble_eq_true rfl)
  rw [lg_entry_eq]
  generalize (lg_sl ([.ref (ad p0), .int x1, .int x2, .int x3]) ++ List.replicate (4 - (lg_sl ([.ref (ad p0), .int x1, .int x2, .int x3])).length) Slot.unset).toArray = ls at hl ⊢
  have hlg : lgC S S 0 0 := lgC.rf
  have hak : adk ad ad S := adk.rf
  have hin9 : meth.name = "<init>" := (name_of_methodNamed B.named B.method).1
  have hl : lv_has ls 4 [(0, .ref (ad p0)), (1, .int x1), (2, .int x2), (3, .int x3)] := hl
  have hsh : shx S S := shx.rf
  unfold wX8_init at h
  refine lv_aload_n hx hb dX8_init_0 rfl (lv_at hl 0 rfl) ?_
  refine W.objInit hx hb hown (hts _ kw_1498) (hts _ kw_9) (hts _ kw_10) rfl (by rw [hml]; exact hl.1) rfl dX8_init_1 (Nat.le_of_ble_eq_true rfl) (Nat.le_of_ble_eq_true rfl) ?_
  refine W.eq (g2 := F0 m 4 ls []) rfl ?_
  refine lv_aload_n hx hb dX8_init_4 rfl (lv_at hl 0 rfl) ?_
  refine lv_iload_n hx hb dX8_init_5 rfl (lv_at hl 1 rfl) ?_
  obtain ⟨hv1, h⟩ := h
  have e9 : KCC = 300000 := rfl
  have e8 : KSC = 3553400 := rfl
  have e7 : TXB = 10000000 := rfl
  have hTX : qn S < TXB := by have := hv1.2.1; omega
  refine va_newa (atype := .int) (ty := .int) (a0 := (x1.toInt.toNat, .inl (fun _ => 0))) (N' := x1.toInt.toNat) hx hb (hts (.arrayClass .int) kw_51) rfl hR.K hR.P hR.D hR.sS hA (fun _ => rfl) (fun q9 => absurd (k_lt (b := 0) rfl (by decide) q9) (Int.not_lt.mpr hv1.1)) rfl (by show x1.toInt.toNat * 4 ≤ 536870912; have := hv1.2.2; omega) (show 0 + 1 ≤ KCC - qn S from hlg.c1 hv1.2.1) (show 0 + x1.toInt.toNat ≤ KSC - qu S from hlg.s1 hv1.2.2) dX8_init_6 (fun q2 cA9 H hK9 hP hD hS => ?_)
  obtain rfl := cls_new3 hR.K hK9 (k := 1) rfl (fun _ h => by cases h)
  have hw8 := hR.w
  have hR := hR.new (t := 222) (n := x1.toInt.toNat) (k := x1.toInt.toNat) hTX (by decide) (by have := hv1.2.2; omega) (wN_CI (by decide)) hP hD hS
  have hk8 : adk ad (adx ad (qn S) q2) S := adk.rf.new (Nat.le_refl _) hTX
  have hak := hak.new (q := q2) hlg.2.2.1 hTX
  have hE := hE.ad hk8
  have hlg : lgC S (wN S 222 x1.toInt.toNat x1.toInt.toNat) (0 + 1) (0 + x1.toInt.toNat) := hlg.new (t := 222) (n := x1.toInt.toNat) ⟨hv1.2.1, hv1.2.2⟩
  have hs8 : shx S (wN S 222 x1.toInt.toNat x1.toInt.toNat) := shx.newC (t := 222) (n := x1.toInt.toNat) (k := x1.toInt.toNat) shx.rf hw8 hTX
  obtain ⟨am3, eam3⟩ : ∃ z, z = adx ad (qn S) q2 := ⟨_, rfl⟩
  have eq_q2 : am3 (qn S) = q2 := by rw [eam3]; exact if_pos rfl
  rw [← eam3] at hR hk8 hak hE
  obtain ⟨S4, eS4⟩ : ∃ z, z = wN S 222 x1.toInt.toNat x1.toInt.toNat := ⟨_, rfl⟩
  rw [← eS4] at hR hlg hs8
  replace h := h S4 eS4 hR.w
  have hsh := hsh.tr hs8
  have hT_b5 : qT S4 (qn S) = 222 := by rw [eS4]; exact if_pos rfl
  have ea_0 : am3 p0 = ad p0 := hk8 _ (hw8.hd hT_p0 (by decide) (by decide))
  have hT_p0 := hs8.T hT_p0 (by decide)
  have hl : lv_has ls 4 [(0, .ref (am3 p0)), (1, .int x1), (2, .int x2), (3, .int x3)] := by simp only [ea_0]; exact hl
  refine W.eq (g2 := F0 m 8 ls [.ref (am3 (qn S)), .ref (am3 p0)]) (by simp only [ea_0, eq_q2]) ?_
  clear hw8 hk8 hs8 hP hD hS e9 e8 e7 hTX
  refine va_put (D := rD g) (ci := 7) (v := .ref (am3 (qn S))) (ty := (.array .int)) (C := RX8) (T := TX8) (N := 15) hx hb hts inX8 tyX8 tyX8_ok nmX8 hown hR.K hR.P hR.D hR.sS p0 (hR.at47 hT_p0) rfl 0 (by decide) (hts _ kw_1460) (fun _ h9 => h9) rfl (by decide +kernel) rfl rfl (Nat.le_of_ble_eq_true rfl) dX8_init_8 (fun H locs hP hD hS => ?_)
  obtain ⟨hv6, h⟩ := h
  have hw9 : wfC (wR S4 p0 0 (some (qn S))) := hR.w.put (fun b q9 => by cases q9; exact (hT_b5).trans (by rw [hT_p0]; rfl)) (hR.w.noown hT_p0 (by decide) (by decide)) (by rw [hT_p0]; decide) (fun b q9 _ => by cases q9; rw [hT_p0]; exact hv6) (fun _ => Option.some_ne_none _)
  have hTk9 : qT S4 p0 = 47 := hT_p0
  have hR : RepC g am3 A s (wR S4 p0 0 (some (qn S))) H locs := hR.pR47 hT_p0 FX8_s0 hw9 hP hD hS
  obtain ⟨S7, eS7⟩ : ∃ z, z = wR S4 p0 0 (some (qn S)) := ⟨_, rfl⟩
  rw [← eS7] at hR
  replace h := h S7 eS7 hTk9 hR.w
  have hT_p0 : qT S7 p0 = 47 := (congrArg (fun z => qT z p0) eS7).trans hT_p0
  have hsh : shx S S7 := by rw [eS7]; exact hsh
  have hlg : lgC S S7 (0 + 1) (0 + x1.toInt.toNat) := by rw [eS7]; exact hlg
  refine lv_aload_n hx hb dX8_init_11 rfl (lv_at hl 0 rfl) ?_
  refine lv_iload_n hx hb dX8_init_12 rfl (lv_at hl 1 rfl) ?_
  obtain ⟨hv8, h⟩ := h
  have e9 : KCC = 300000 := rfl
  have e8 : KSC = 3553400 := rfl
  have e7 : TXB = 10000000 := rfl
  have hTX : qn S7 < TXB := by have := hv8.2.1; omega
  refine va_newa (atype := .long) (ty := .long) (a0 := (x1.toInt.toNat, .inr (.inl (fun _ => 0)))) (N' := x1.toInt.toNat) hx hb (hts (.arrayClass .long) kw_564) rfl hR.K hR.P hR.D hR.sS hA (fun _ => rfl) (fun q9 => absurd (k_lt (b := 0) rfl (by decide) q9) (Int.not_lt.mpr hv8.1)) rfl (by show x1.toInt.toNat * 8 ≤ 536870912; have := hv8.2.2; omega) (show 0 + 1 + 1 ≤ KCC - qn S from hlg.c1 hv8.2.1) (show 0 + x1.toInt.toNat + x1.toInt.toNat ≤ KSC - qu S from hlg.s1 hv8.2.2) dX8_init_13 (fun q9 cA9 H hK9 hP hD hS => ?_)
  obtain rfl := cls_new3 hR.K hK9 (k := 3) rfl (fun _ h => by cases h)
  have hw8 := hR.w
  have hR := hR.new (t := 406) (n := x1.toInt.toNat) (k := x1.toInt.toNat) hTX (by decide) (by have := hv8.2.2; omega) (wN_CL (by decide)) hP hD hS
  have hk8 : adk am3 (adx am3 (qn S7) q9) S7 := adk.rf.new (Nat.le_refl _) hTX
  have hak := hak.new (q := q9) hlg.2.2.1 hTX
  have hE := hE.ad hk8
  have hlg : lgC S (wN S7 406 x1.toInt.toNat x1.toInt.toNat) (0 + 1 + 1) (0 + x1.toInt.toNat + x1.toInt.toNat) := hlg.new (t := 406) (n := x1.toInt.toNat) ⟨hv8.2.1, hv8.2.2⟩
  have hs8 : shx S7 (wN S7 406 x1.toInt.toNat x1.toInt.toNat) := shx.newC (t := 406) (n := x1.toInt.toNat) (k := x1.toInt.toNat) shx.rf hw8 hTX
  obtain ⟨am10, eam10⟩ : ∃ z, z = adx am3 (qn S7) q9 := ⟨_, rfl⟩
  have eq_q9 : am10 (qn S7) = q9 := by rw [eam10]; exact if_pos rfl
  rw [← eam10] at hR hk8 hak hE
  obtain ⟨S11, eS11⟩ : ∃ z, z = wN S7 406 x1.toInt.toNat x1.toInt.toNat := ⟨_, rfl⟩
  rw [← eS11] at hR hlg hs8
  replace h := h S11 eS11 hR.w
  have hsh := hsh.tr hs8
  have hT_b12 : qT S11 (qn S7) = 406 := by rw [eS11]; exact if_pos rfl
  have ea_0 : am10 p0 = am3 p0 := hk8 _ (hw8.hd hT_p0 (by decide) (by decide))
  have hT_p0 := hs8.T hT_p0 (by decide)
  have hl : lv_has ls 4 [(0, .ref (am10 p0)), (1, .int x1), (2, .int x2), (3, .int x3)] := by simp only [ea_0]; exact hl
  refine W.eq (g2 := F0 m 15 ls [.ref (am10 (qn S7)), .ref (am10 p0)]) (by simp only [ea_0, eq_q9]) ?_
  clear hw8 hk8 hs8 hP hD hS e9 e8 e7 hTX
  refine va_put (D := rD g) (ci := 7) (v := .ref (am10 (qn S7))) (ty := (.array .long)) (C := RX8) (T := TX8) (N := 15) hx hb hts inX8 tyX8 tyX8_ok nmX8 hown hR.K hR.P hR.D hR.sS p0 (hR.at47 hT_p0) rfl 1 (by decide) (hts _ kw_1478) (fun _ h9 => h9) rfl (by decide +kernel) rfl rfl (Nat.le_of_ble_eq_true rfl) dX8_init_15 (fun H locs hP hD hS => ?_)
  obtain ⟨hv13, h⟩ := h
  have hw9 : wfC (wR S11 p0 1 (some (qn S7))) := hR.w.put (fun b q9 => by cases q9; exact (hT_b12).trans (by rw [hT_p0]; rfl)) (hR.w.noown hT_p0 (by decide) (by decide)) (by rw [hT_p0]; decide) (fun b q9 _ => by cases q9; rw [hT_p0]; exact hv13) (fun _ => Option.some_ne_none _)
  have hTk9 : qT S11 p0 = 47 := hT_p0
  have hR : RepC g am10 A s (wR S11 p0 1 (some (qn S7))) H locs := hR.pR47 hT_p0 FX8_s1 hw9 hP hD hS
  obtain ⟨S14, eS14⟩ : ∃ z, z = wR S11 p0 1 (some (qn S7)) := ⟨_, rfl⟩
  rw [← eS14] at hR
  replace h := h S14 eS14 hTk9 hR.w
  have hT_p0 : qT S14 p0 = 47 := (congrArg (fun z => qT z p0) eS14).trans hT_p0
  have hsh : shx S S14 := by rw [eS14]; exact hsh
  have hlg : lgC S S14 (0 + 1 + 1) (0 + x1.toInt.toNat + x1.toInt.toNat) := by rw [eS14]; exact hlg
  refine lv_aload_n hx hb dX8_init_18 rfl (lv_at hl 0 rfl) ?_
  refine lv_iload_n hx hb dX8_init_19 rfl (lv_at hl 2 rfl) ?_
  obtain ⟨hv15, h⟩ := h
  have e9 : KCC = 300000 := rfl
  have e8 : KSC = 3553400 := rfl
  have e7 : TXB = 10000000 := rfl
  have hTX : qn S14 < TXB := by have := hv15.2.1; omega
  refine va_newa (atype := .int) (ty := .int) (a0 := (x2.toInt.toNat, .inl (fun _ => 0))) (N' := x2.toInt.toNat) hx hb (hts (.arrayClass .int) kw_51) rfl hR.K hR.P hR.D hR.sS hA (fun _ => rfl) (fun q9 => absurd (k_lt (b := 0) rfl (by decide) q9) (Int.not_lt.mpr hv15.1)) rfl (by show x2.toInt.toNat * 4 ≤ 536870912; have := hv15.2.2; omega) (show 0 + 1 + 1 + 1 ≤ KCC - qn S from hlg.c1 hv15.2.1) (show 0 + x1.toInt.toNat + x1.toInt.toNat + x2.toInt.toNat ≤ KSC - qu S from hlg.s1 hv15.2.2) dX8_init_20 (fun q16 cA9 H hK9 hP hD hS => ?_)
  obtain rfl := cls_new3 hR.K hK9 (k := 1) rfl (fun _ h => by cases h)
  have hw8 := hR.w
  have hR := hR.new (t := 223) (n := x2.toInt.toNat) (k := x2.toInt.toNat) hTX (by decide) (by have := hv15.2.2; omega) (wN_CI (by decide)) hP hD hS
  have hk8 : adk am10 (adx am10 (qn S14) q16) S14 := adk.rf.new (Nat.le_refl _) hTX
  have hak := hak.new (q := q16) hlg.2.2.1 hTX
  have hE := hE.ad hk8
  have hlg : lgC S (wN S14 223 x2.toInt.toNat x2.toInt.toNat) (0 + 1 + 1 + 1) (0 + x1.toInt.toNat + x1.toInt.toNat + x2.toInt.toNat) := hlg.new (t := 223) (n := x2.toInt.toNat) ⟨hv15.2.1, hv15.2.2⟩
  have hs8 : shx S14 (wN S14 223 x2.toInt.toNat x2.toInt.toNat) := shx.newC (t := 223) (n := x2.toInt.toNat) (k := x2.toInt.toNat) shx.rf hw8 hTX
  obtain ⟨am17, eam17⟩ : ∃ z, z = adx am10 (qn S14) q16 := ⟨_, rfl⟩
  have eq_q16 : am17 (qn S14) = q16 := by rw [eam17]; exact if_pos rfl
  rw [← eam17] at hR hk8 hak hE
  obtain ⟨S18, eS18⟩ : ∃ z, z = wN S14 223 x2.toInt.toNat x2.toInt.toNat := ⟨_, rfl⟩
  rw [← eS18] at hR hlg hs8
  replace h := h S18 eS18 hR.w
  have hsh := hsh.tr hs8
  have hT_b19 : qT S18 (qn S14) = 223 := by rw [eS18]; exact if_pos rfl
  have ea_0 : am17 p0 = am10 p0 := hk8 _ (hw8.hd hT_p0 (by decide) (by decide))
  have hT_p0 := hs8.T hT_p0 (by decide)
  have hl : lv_has ls 4 [(0, .ref (am17 p0)), (1, .int x1), (2, .int x2), (3, .int x3)] := by simp only [ea_0]; exact hl
  refine W.eq (g2 := F0 m 22 ls [.ref (am17 (qn S14)), .ref (am17 p0)]) (by simp only [ea_0, eq_q16]) ?_
  clear hw8 hk8 hs8 hP hD hS e9 e8 e7 hTX
  refine va_put (D := rD g) (ci := 7) (v := .ref (am17 (qn S14))) (ty := (.array .int)) (C := RX8) (T := TX8) (N := 15) hx hb hts inX8 tyX8 tyX8_ok nmX8 hown hR.K hR.P hR.D hR.sS p0 (hR.at47 hT_p0) rfl 3 (by decide) (hts _ kw_1474) (fun _ h9 => h9) rfl (by decide +kernel) rfl rfl (Nat.le_of_ble_eq_true rfl) dX8_init_22 (fun H locs hP hD hS => ?_)
  obtain ⟨hv20, h⟩ := h
  have hw9 : wfC (wR S18 p0 3 (some (qn S14))) := hR.w.put (fun b q9 => by cases q9; exact (hT_b19).trans (by rw [hT_p0]; rfl)) (hR.w.noown hT_p0 (by decide) (by decide)) (by rw [hT_p0]; decide) (fun b q9 _ => by cases q9; rw [hT_p0]; exact hv20) (fun _ => Option.some_ne_none _)
  have hTk9 : qT S18 p0 = 47 := hT_p0
  have hR : RepC g am17 A s (wR S18 p0 3 (some (qn S14))) H locs := hR.pR47 hT_p0 FX8_s3 hw9 hP hD hS
  obtain ⟨S21, eS21⟩ : ∃ z, z = wR S18 p0 3 (some (qn S14)) := ⟨_, rfl⟩
  rw [← eS21] at hR
  replace h := h S21 eS21 hTk9 hR.w
  have hT_p0 : qT S21 p0 = 47 := (congrArg (fun z => qT z p0) eS21).trans hT_p0
  have hsh : shx S S21 := by rw [eS21]; exact hsh
  have hlg : lgC S S21 (0 + 1 + 1 + 1) (0 + x1.toInt.toNat + x1.toInt.toNat + x2.toInt.toNat) := by rw [eS21]; exact hlg
  refine lv_aload_n hx hb dX8_init_25 rfl (lv_at hl 0 rfl) ?_
  refine lv_iload_n hx hb dX8_init_26 rfl (lv_at hl 3 rfl) ?_
  obtain ⟨hv22, h⟩ := h
  have e9 : KCC = 300000 := rfl
  have e8 : KSC = 3553400 := rfl
  have e7 : TXB = 10000000 := rfl
  have hTX : qn S21 < TXB := by have := hv22.2.1; omega
  refine va_newa (atype := .int) (ty := .int) (a0 := (x3.toInt.toNat, .inl (fun _ => 0))) (N' := x3.toInt.toNat) hx hb (hts (.arrayClass .int) kw_51) rfl hR.K hR.P hR.D hR.sS hA (fun _ => rfl) (fun q9 => absurd (k_lt (b := 0) rfl (by decide) q9) (Int.not_lt.mpr hv22.1)) rfl (by show x3.toInt.toNat * 4 ≤ 536870912; have := hv22.2.2; omega) (show 0 + 1 + 1 + 1 + 1 ≤ KCC - qn S from hlg.c1 hv22.2.1) (show 0 + x1.toInt.toNat + x1.toInt.toNat + x2.toInt.toNat + x3.toInt.toNat ≤ KSC - qu S from hlg.s1 hv22.2.2) dX8_init_27 (fun q23 cA9 H hK9 hP hD hS => ?_)
  obtain rfl := cls_new3 hR.K hK9 (k := 1) rfl (fun _ h => by cases h)
  have hw8 := hR.w
  have hR := hR.new (t := 224) (n := x3.toInt.toNat) (k := x3.toInt.toNat) hTX (by decide) (by have := hv22.2.2; omega) (wN_CI (by decide)) hP hD hS
  have hk8 : adk am17 (adx am17 (qn S21) q23) S21 := adk.rf.new (Nat.le_refl _) hTX
  have hak := hak.new (q := q23) hlg.2.2.1 hTX
  have hE := hE.ad hk8
  have hlg : lgC S (wN S21 224 x3.toInt.toNat x3.toInt.toNat) (0 + 1 + 1 + 1 + 1) (0 + x1.toInt.toNat + x1.toInt.toNat + x2.toInt.toNat + x3.toInt.toNat) := hlg.new (t := 224) (n := x3.toInt.toNat) ⟨hv22.2.1, hv22.2.2⟩
  have hs8 : shx S21 (wN S21 224 x3.toInt.toNat x3.toInt.toNat) := shx.newC (t := 224) (n := x3.toInt.toNat) (k := x3.toInt.toNat) shx.rf hw8 hTX
  obtain ⟨am24, eam24⟩ : ∃ z, z = adx am17 (qn S21) q23 := ⟨_, rfl⟩
  have eq_q23 : am24 (qn S21) = q23 := by rw [eam24]; exact if_pos rfl
  rw [← eam24] at hR hk8 hak hE
  obtain ⟨S25, eS25⟩ : ∃ z, z = wN S21 224 x3.toInt.toNat x3.toInt.toNat := ⟨_, rfl⟩
  rw [← eS25] at hR hlg hs8
  replace h := h S25 eS25 hR.w
  have hsh := hsh.tr hs8
  have hT_b26 : qT S25 (qn S21) = 224 := by rw [eS25]; exact if_pos rfl
  have ea_0 : am24 p0 = am17 p0 := hk8 _ (hw8.hd hT_p0 (by decide) (by decide))
  have hT_p0 := hs8.T hT_p0 (by decide)
  have hl : lv_has ls 4 [(0, .ref (am24 p0)), (1, .int x1), (2, .int x2), (3, .int x3)] := by simp only [ea_0]; exact hl
  refine W.eq (g2 := F0 m 29 ls [.ref (am24 (qn S21)), .ref (am24 p0)]) (by simp only [ea_0, eq_q23]) ?_
  clear hw8 hk8 hs8 hP hD hS e9 e8 e7 hTX
  refine va_put (D := rD g) (ci := 7) (v := .ref (am24 (qn S21))) (ty := (.array .int)) (C := RX8) (T := TX8) (N := 15) hx hb hts inX8 tyX8 tyX8_ok nmX8 hown hR.K hR.P hR.D hR.sS p0 (hR.at47 hT_p0) rfl 5 (by decide) (hts _ kw_1466) (fun _ h9 => h9) rfl (by decide +kernel) rfl rfl (Nat.le_of_ble_eq_true rfl) dX8_init_29 (fun H locs hP hD hS => ?_)
  obtain ⟨hv27, h⟩ := h
  have hw9 : wfC (wR S25 p0 5 (some (qn S21))) := hR.w.put (fun b q9 => by cases q9; exact (hT_b26).trans (by rw [hT_p0]; rfl)) (hR.w.noown hT_p0 (by decide) (by decide)) (by rw [hT_p0]; decide) (fun b q9 _ => by cases q9; rw [hT_p0]; exact hv27) (fun _ => Option.some_ne_none _)
  have hTk9 : qT S25 p0 = 47 := hT_p0
  have hR : RepC g am24 A s (wR S25 p0 5 (some (qn S21))) H locs := hR.pR47 hT_p0 FX8_s5 hw9 hP hD hS
  obtain ⟨S28, eS28⟩ : ∃ z, z = wR S25 p0 5 (some (qn S21)) := ⟨_, rfl⟩
  rw [← eS28] at hR
  replace h := h S28 eS28 hTk9 hR.w
  have hT_p0 : qT S28 p0 = 47 := (congrArg (fun z => qT z p0) eS28).trans hT_p0
  have hsh : shx S S28 := by rw [eS28]; exact hsh
  have hlg : lgC S S28 (0 + 1 + 1 + 1 + 1) (0 + x1.toInt.toNat + x1.toInt.toNat + x2.toInt.toNat + x3.toInt.toNat) := by rw [eS28]; exact hlg
  refine lv_aload_n hx hb dX8_init_32 rfl (lv_at hl 0 rfl) ?_
  refine lv_iload_n hx hb dX8_init_33 rfl (lv_at hl 3 rfl) ?_
  obtain ⟨hv29, h⟩ := h
  have e9 : KCC = 300000 := rfl
  have e8 : KSC = 3553400 := rfl
  have e7 : TXB = 10000000 := rfl
  have hTX : qn S28 < TXB := by have := hv29.2.1; omega
  refine va_newa (atype := .int) (ty := .int) (a0 := (x3.toInt.toNat, .inl (fun _ => 0))) (N' := x3.toInt.toNat) hx hb (hts (.arrayClass .int) kw_51) rfl hR.K hR.P hR.D hR.sS hA (fun _ => rfl) (fun q9 => absurd (k_lt (b := 0) rfl (by decide) q9) (Int.not_lt.mpr hv29.1)) rfl (by show x3.toInt.toNat * 4 ≤ 536870912; have := hv29.2.2; omega) (show 0 + 1 + 1 + 1 + 1 + 1 ≤ KCC - qn S from hlg.c1 hv29.2.1) (show 0 + x1.toInt.toNat + x1.toInt.toNat + x2.toInt.toNat + x3.toInt.toNat + x3.toInt.toNat ≤ KSC - qu S from hlg.s1 hv29.2.2) dX8_init_34 (fun q30 cA9 H hK9 hP hD hS => ?_)
  obtain rfl := cls_new3 hR.K hK9 (k := 1) rfl (fun _ h => by cases h)
  have hw8 := hR.w
  have hR := hR.new (t := 225) (n := x3.toInt.toNat) (k := x3.toInt.toNat) hTX (by decide) (by have := hv29.2.2; omega) (wN_CI (by decide)) hP hD hS
  have hk8 : adk am24 (adx am24 (qn S28) q30) S28 := adk.rf.new (Nat.le_refl _) hTX
  have hak := hak.new (q := q30) hlg.2.2.1 hTX
  have hE := hE.ad hk8
  have hlg : lgC S (wN S28 225 x3.toInt.toNat x3.toInt.toNat) (0 + 1 + 1 + 1 + 1 + 1) (0 + x1.toInt.toNat + x1.toInt.toNat + x2.toInt.toNat + x3.toInt.toNat + x3.toInt.toNat) := hlg.new (t := 225) (n := x3.toInt.toNat) ⟨hv29.2.1, hv29.2.2⟩
  have hs8 : shx S28 (wN S28 225 x3.toInt.toNat x3.toInt.toNat) := shx.newC (t := 225) (n := x3.toInt.toNat) (k := x3.toInt.toNat) shx.rf hw8 hTX
  obtain ⟨am31, eam31⟩ : ∃ z, z = adx am24 (qn S28) q30 := ⟨_, rfl⟩
  have eq_q30 : am31 (qn S28) = q30 := by rw [eam31]; exact if_pos rfl
  rw [← eam31] at hR hk8 hak hE
  obtain ⟨S32, eS32⟩ : ∃ z, z = wN S28 225 x3.toInt.toNat x3.toInt.toNat := ⟨_, rfl⟩
  rw [← eS32] at hR hlg hs8
  replace h := h S32 eS32 hR.w
  have hsh := hsh.tr hs8
  have hT_b33 : qT S32 (qn S28) = 225 := by rw [eS32]; exact if_pos rfl
  have ea_0 : am31 p0 = am24 p0 := hk8 _ (hw8.hd hT_p0 (by decide) (by decide))
  have hT_p0 := hs8.T hT_p0 (by decide)
  have hl : lv_has ls 4 [(0, .ref (am31 p0)), (1, .int x1), (2, .int x2), (3, .int x3)] := by simp only [ea_0]; exact hl
  refine W.eq (g2 := F0 m 36 ls [.ref (am31 (qn S28)), .ref (am31 p0)]) (by simp only [ea_0, eq_q30]) ?_
  clear hw8 hk8 hs8 hP hD hS e9 e8 e7 hTX
  refine va_put (D := rD g) (ci := 7) (v := .ref (am31 (qn S28))) (ty := (.array .int)) (C := RX8) (T := TX8) (N := 15) hx hb hts inX8 tyX8 tyX8_ok nmX8 hown hR.K hR.P hR.D hR.sS p0 (hR.at47 hT_p0) rfl 6 (by decide) (hts _ kw_1467) (fun _ h9 => h9) rfl (by decide +kernel) rfl rfl (Nat.le_of_ble_eq_true rfl) dX8_init_36 (fun H locs hP hD hS => ?_)
  obtain ⟨hv34, h⟩ := h
  have hw9 : wfC (wR S32 p0 6 (some (qn S28))) := hR.w.put (fun b q9 => by cases q9; exact (hT_b33).trans (by rw [hT_p0]; rfl)) (hR.w.noown hT_p0 (by decide) (by decide)) (by rw [hT_p0]; decide) (fun b q9 _ => by cases q9; rw [hT_p0]; exact hv34) (fun _ => Option.some_ne_none _)
  have hTk9 : qT S32 p0 = 47 := hT_p0
  have hR : RepC g am31 A s (wR S32 p0 6 (some (qn S28))) H locs := hR.pR47 hT_p0 FX8_s6 hw9 hP hD hS
  obtain ⟨S35, eS35⟩ : ∃ z, z = wR S32 p0 6 (some (qn S28)) := ⟨_, rfl⟩
  rw [← eS35] at hR
  replace h := h S35 eS35 hTk9 hR.w
  have hT_p0 : qT S35 p0 = 47 := (congrArg (fun z => qT z p0) eS35).trans hT_p0
  have hsh : shx S S35 := by rw [eS35]; exact hsh
  have hlg : lgC S S35 (0 + 1 + 1 + 1 + 1 + 1) (0 + x1.toInt.toNat + x1.toInt.toNat + x2.toInt.toNat + x3.toInt.toNat + x3.toInt.toNat) := by rw [eS35]; exact hlg
  refine lv_aload_n hx hb dX8_init_39 rfl (lv_at hl 0 rfl) ?_
  refine lv_iload_n hx hb dX8_init_40 rfl (lv_at hl 3 rfl) ?_
  obtain ⟨hv36, h⟩ := h
  have e9 : KCC = 300000 := rfl
  have e8 : KSC = 3553400 := rfl
  have e7 : TXB = 10000000 := rfl
  have hTX : qn S35 < TXB := by have := hv36.2.1; omega
  refine va_newa (atype := .int) (ty := .int) (a0 := (x3.toInt.toNat, .inl (fun _ => 0))) (N' := x3.toInt.toNat) hx hb (hts (.arrayClass .int) kw_51) rfl hR.K hR.P hR.D hR.sS hA (fun _ => rfl) (fun q9 => absurd (k_lt (b := 0) rfl (by decide) q9) (Int.not_lt.mpr hv36.1)) rfl (by show x3.toInt.toNat * 4 ≤ 536870912; have := hv36.2.2; omega) (show 0 + 1 + 1 + 1 + 1 + 1 + 1 ≤ KCC - qn S from hlg.c1 hv36.2.1) (show 0 + x1.toInt.toNat + x1.toInt.toNat + x2.toInt.toNat + x3.toInt.toNat + x3.toInt.toNat + x3.toInt.toNat ≤ KSC - qu S from hlg.s1 hv36.2.2) dX8_init_41 (fun q37 cA9 H hK9 hP hD hS => ?_)
  obtain rfl := cls_new3 hR.K hK9 (k := 1) rfl (fun _ h => by cases h)
  have hw8 := hR.w
  have hR := hR.new (t := 226) (n := x3.toInt.toNat) (k := x3.toInt.toNat) hTX (by decide) (by have := hv36.2.2; omega) (wN_CI (by decide)) hP hD hS
  have hk8 : adk am31 (adx am31 (qn S35) q37) S35 := adk.rf.new (Nat.le_refl _) hTX
  have hak := hak.new (q := q37) hlg.2.2.1 hTX
  have hE := hE.ad hk8
  have hlg : lgC S (wN S35 226 x3.toInt.toNat x3.toInt.toNat) (0 + 1 + 1 + 1 + 1 + 1 + 1) (0 + x1.toInt.toNat + x1.toInt.toNat + x2.toInt.toNat + x3.toInt.toNat + x3.toInt.toNat + x3.toInt.toNat) := hlg.new (t := 226) (n := x3.toInt.toNat) ⟨hv36.2.1, hv36.2.2⟩
  have hs8 : shx S35 (wN S35 226 x3.toInt.toNat x3.toInt.toNat) := shx.newC (t := 226) (n := x3.toInt.toNat) (k := x3.toInt.toNat) shx.rf hw8 hTX
  obtain ⟨am38, eam38⟩ : ∃ z, z = adx am31 (qn S35) q37 := ⟨_, rfl⟩
  have eq_q37 : am38 (qn S35) = q37 := by rw [eam38]; exact if_pos rfl
  rw [← eam38] at hR hk8 hak hE
  obtain ⟨S39, eS39⟩ : ∃ z, z = wN S35 226 x3.toInt.toNat x3.toInt.toNat := ⟨_, rfl⟩
  rw [← eS39] at hR hlg hs8
  replace h := h S39 eS39 hR.w
  have hsh := hsh.tr hs8
  have hT_b40 : qT S39 (qn S35) = 226 := by rw [eS39]; exact if_pos rfl
  have ea_0 : am38 p0 = am31 p0 := hk8 _ (hw8.hd hT_p0 (by decide) (by decide))
  have hT_p0 := hs8.T hT_p0 (by decide)
  have hl : lv_has ls 4 [(0, .ref (am38 p0)), (1, .int x1), (2, .int x2), (3, .int x3)] := by simp only [ea_0]; exact hl
  refine W.eq (g2 := F0 m 43 ls [.ref (am38 (qn S35)), .ref (am38 p0)]) (by simp only [ea_0, eq_q37]) ?_
  clear hw8 hk8 hs8 hP hD hS e9 e8 e7 hTX
  refine va_put (D := rD g) (ci := 7) (v := .ref (am38 (qn S35))) (ty := (.array .int)) (C := RX8) (T := TX8) (N := 15) hx hb hts inX8 tyX8 tyX8_ok nmX8 hown hR.K hR.P hR.D hR.sS p0 (hR.at47 hT_p0) rfl 7 (by decide) (hts _ kw_1468) (fun _ h9 => h9) rfl (by decide +kernel) rfl rfl (Nat.le_of_ble_eq_true rfl) dX8_init_43 (fun H locs hP hD hS => ?_)
  obtain ⟨hv41, h⟩ := h
  have hw9 : wfC (wR S39 p0 7 (some (qn S35))) := hR.w.put (fun b q9 => by cases q9; exact (hT_b40).trans (by rw [hT_p0]; rfl)) (hR.w.noown hT_p0 (by decide) (by decide)) (by rw [hT_p0]; decide) (fun b q9 _ => by cases q9; rw [hT_p0]; exact hv41) (fun _ => Option.some_ne_none _)
  have hTk9 : qT S39 p0 = 47 := hT_p0
  have hR : RepC g am38 A s (wR S39 p0 7 (some (qn S35))) H locs := hR.pR47 hT_p0 FX8_s7 hw9 hP hD hS
  obtain ⟨S42, eS42⟩ : ∃ z, z = wR S39 p0 7 (some (qn S35)) := ⟨_, rfl⟩
  rw [← eS42] at hR
  replace h := h S42 eS42 hTk9 hR.w
  have hT_p0 : qT S42 p0 = 47 := (congrArg (fun z => qT z p0) eS42).trans hT_p0
  have hsh : shx S S42 := by rw [eS42]; exact hsh
  have hlg : lgC S S42 (0 + 1 + 1 + 1 + 1 + 1 + 1) (0 + x1.toInt.toNat + x1.toInt.toNat + x2.toInt.toNat + x3.toInt.toNat + x3.toInt.toNat + x3.toInt.toNat) := by rw [eS42]; exact hlg
  refine lv_aload_n hx hb dX8_init_46 rfl (lv_at hl 0 rfl) ?_
  refine lv_iload_n hx hb dX8_init_47 rfl (lv_at hl 3 rfl) ?_
  obtain ⟨hv43, h⟩ := h
  have e9 : KCC = 300000 := rfl
  have e8 : KSC = 3553400 := rfl
  have e7 : TXB = 10000000 := rfl
  have hTX : qn S42 < TXB := by have := hv43.2.1; omega
  refine va_newa (atype := .int) (ty := .int) (a0 := (x3.toInt.toNat, .inl (fun _ => 0))) (N' := x3.toInt.toNat) hx hb (hts (.arrayClass .int) kw_51) rfl hR.K hR.P hR.D hR.sS hA (fun _ => rfl) (fun q9 => absurd (k_lt (b := 0) rfl (by decide) q9) (Int.not_lt.mpr hv43.1)) rfl (by show x3.toInt.toNat * 4 ≤ 536870912; have := hv43.2.2; omega) (show 0 + 1 + 1 + 1 + 1 + 1 + 1 + 1 ≤ KCC - qn S from hlg.c1 hv43.2.1) (show 0 + x1.toInt.toNat + x1.toInt.toNat + x2.toInt.toNat + x3.toInt.toNat + x3.toInt.toNat + x3.toInt.toNat + x3.toInt.toNat ≤ KSC - qu S from hlg.s1 hv43.2.2) dX8_init_48 (fun q44 cA9 H hK9 hP hD hS => ?_)
  obtain rfl := cls_new3 hR.K hK9 (k := 1) rfl (fun _ h => by cases h)
  have hw8 := hR.w
  have hR := hR.new (t := 227) (n := x3.toInt.toNat) (k := x3.toInt.toNat) hTX (by decide) (by have := hv43.2.2; omega) (wN_CI (by decide)) hP hD hS
  have hk8 : adk am38 (adx am38 (qn S42) q44) S42 := adk.rf.new (Nat.le_refl _) hTX
  have hak := hak.new (q := q44) hlg.2.2.1 hTX
  have hE := hE.ad hk8
  have hlg : lgC S (wN S42 227 x3.toInt.toNat x3.toInt.toNat) (0 + 1 + 1 + 1 + 1 + 1 + 1 + 1) (0 + x1.toInt.toNat + x1.toInt.toNat + x2.toInt.toNat + x3.toInt.toNat + x3.toInt.toNat + x3.toInt.toNat + x3.toInt.toNat) := hlg.new (t := 227) (n := x3.toInt.toNat) ⟨hv43.2.1, hv43.2.2⟩
  have hs8 : shx S42 (wN S42 227 x3.toInt.toNat x3.toInt.toNat) := shx.newC (t := 227) (n := x3.toInt.toNat) (k := x3.toInt.toNat) shx.rf hw8 hTX
  obtain ⟨am45, eam45⟩ : ∃ z, z = adx am38 (qn S42) q44 := ⟨_, rfl⟩
  have eq_q44 : am45 (qn S42) = q44 := by rw [eam45]; exact if_pos rfl
  rw [← eam45] at hR hk8 hak hE
  obtain ⟨S46, eS46⟩ : ∃ z, z = wN S42 227 x3.toInt.toNat x3.toInt.toNat := ⟨_, rfl⟩
  rw [← eS46] at hR hlg hs8
  replace h := h S46 eS46 hR.w
  have hsh := hsh.tr hs8
  have hT_b47 : qT S46 (qn S42) = 227 := by rw [eS46]; exact if_pos rfl
  have ea_0 : am45 p0 = am38 p0 := hk8 _ (hw8.hd hT_p0 (by decide) (by decide))
  have hT_p0 := hs8.T hT_p0 (by decide)
  have hl : lv_has ls 4 [(0, .ref (am45 p0)), (1, .int x1), (2, .int x2), (3, .int x3)] := by simp only [ea_0]; exact hl
  refine W.eq (g2 := F0 m 50 ls [.ref (am45 (qn S42)), .ref (am45 p0)]) (by simp only [ea_0, eq_q44]) ?_
  clear hw8 hk8 hs8 hP hD hS e9 e8 e7 hTX
  refine va_put (D := rD g) (ci := 7) (v := .ref (am45 (qn S42))) (ty := (.array .int)) (C := RX8) (T := TX8) (N := 15) hx hb hts inX8 tyX8 tyX8_ok nmX8 hown hR.K hR.P hR.D hR.sS p0 (hR.at47 hT_p0) rfl 8 (by decide) (hts _ kw_1469) (fun _ h9 => h9) rfl (by decide +kernel) rfl rfl (Nat.le_of_ble_eq_true rfl) dX8_init_50 (fun H locs hP hD hS => ?_)
  obtain ⟨hv48, h⟩ := h
  have hw9 : wfC (wR S46 p0 8 (some (qn S42))) := hR.w.put (fun b q9 => by cases q9; exact (hT_b47).trans (by rw [hT_p0]; rfl)) (hR.w.noown hT_p0 (by decide) (by decide)) (by rw [hT_p0]; decide) (fun b q9 _ => by cases q9; rw [hT_p0]; exact hv48) (fun _ => Option.some_ne_none _)
  have hTk9 : qT S46 p0 = 47 := hT_p0
  have hR : RepC g am45 A s (wR S46 p0 8 (some (qn S42))) H locs := hR.pR47 hT_p0 FX8_s8 hw9 hP hD hS
  obtain ⟨S49, eS49⟩ : ∃ z, z = wR S46 p0 8 (some (qn S42)) := ⟨_, rfl⟩
  rw [← eS49] at hR
  replace h := h S49 eS49 hTk9 hR.w
  have hT_p0 : qT S49 p0 = 47 := (congrArg (fun z => qT z p0) eS49).trans hT_p0
  have hsh : shx S S49 := by rw [eS49]; exact hsh
  have hlg : lgC S S49 (0 + 1 + 1 + 1 + 1 + 1 + 1 + 1) (0 + x1.toInt.toNat + x1.toInt.toNat + x2.toInt.toNat + x3.toInt.toNat + x3.toInt.toNat + x3.toInt.toNat + x3.toInt.toNat) := by rw [eS49]; exact hlg
  refine W_led2 (fun hLd => ?_)
  refine W.widen (k := KCC - qn S) (n := KSC - qu S) hlg.c hlg.s ?_
  exact W.vret hx hb hr (fun t9 ht9 hW9 => ⟨⟨(S49, am45), rfl, ⟨h, hR.w, hsh, hak⟩, ⟨⟨by rw [ht9]; exact hR.P, hR.D⟩, _, _, by rw [ht9]; exact hLd, hlg⟩⟩, hR.sS.F ht9⟩) hR.sS.2.2 dX8_init_53
def f_X8_opAt_J12 (S : MS) : Int32 := (-1 : Int32)
def d_X8_opAt_J12 (S : MS) : Prop := True
def fX8_opAt (S : MS) (p0 : Nat) (x1 : Int32) : Int32 := (if x1.toInt < 0 then f_X8_opAt_J12 S else (if x1.toInt < (qI S p0 2).toInt then (qI S (qO S p0 0) x1.toInt.toNat) else f_X8_opAt_J12 S))
def d_X8_opAt (S : MS) (p0 : Nat) (x1 : Int32) : Prop := (if x1.toInt < 0 then d_X8_opAt_J12 S else (if x1.toInt < (qI S p0 2).toInt then ((qR S p0 0 = some (qO S p0 0)) ∧ (((0 : Int) ≤ x1.toInt ∧ x1.toInt < (qN S (qO S p0 0) : Int)) ∧ True)) else d_X8_opAt_J12 S))
set_option maxHeartbeats 2000000 in
set_option maxRecDepth 100000 in
theorem rX8_opAt (l : Launch) (g : Gr) (ad : Nat → Nat) (sz : Nat) (S : MS) (p0 : Nat) (x1 : Int32) (hw : wfC S) (hT_p0 : qT S p0 = 47) (hd : d_X8_opAt S p0 x1) : Met l yX8_opAt (wt yX8_opAt cX8_opAt 2 (some .int)) ({ frames := 0, cells := 0, slots := 0, locals := 0 }) (va_Pc [.ref (ad p0), .int x1] (st_C g ad sz S)) (va_Qi (fun (r : Int32) (_ : Unit) => r = fX8_opAt S p0 x1) (fun (_ : Unit) (t : State) => qEC g ad (va_A (WdC g ad S) sz) S t) (va_A (WdC g ad S) sz)) 0 0 (va_A (WdC g ad S) sz) := by
  refine Met.ofW (cc := cX8_opAt) (maxL := 2) (ret := (some .int)) (by decide) rfl ?_
  intro p e s m args below meth c s₁ B hml hv
  obtain ⟨rfl, hsz, hP, hK, hD0, hex, hE⟩ := hv
  have hx := B.exec
  have hb := B.bytes
  have hr := B.returns
  have hts0 := atoms_spec (ws := wt yX8_opAt cX8_opAt 2 (some .int)) B.pre
  have hts : ∀ w ∈ tb, w.before _ s = true := fun w h => hts0 w (List.mem_cons_of_mem _ h)
  have hown : s.vm.findClass RX8 = some m.cls := findClass_of_methodNamed B.named
  subst hsz
  have hD := hD0.self (sz := s.heap.size)
  generalize hAe : va_A (WdC g ad S) s.heap.size = A at hD hE ⊢
  have hA : ∀ q : Nat, s.heap.size ≤ q → A q := fun q h => by rw [← hAe]; exact Or.inr h
  have hR : RepC g ad A s S s.heap [] := ⟨hK, hP, hD, va_S.rf, hw⟩
  clear hK hP hD hD0
  have hl := lv_entry ([.ref (ad p0), .int x1]) (n := 2) (Nat.le_of_ble_eq_true rfl)
  rw [lg_entry_eq]
  generalize (lg_sl ([.ref (ad p0), .int x1]) ++ List.replicate (2 - (lg_sl ([.ref (ad p0), .int x1])).length) Slot.unset).toArray = ls at hl ⊢
  have hl : lv_has ls 2 [(0, .ref (ad p0)), (1, .int x1)] := hl
  obtain ⟨r0, hf⟩ : ∃ r0, fX8_opAt S p0 x1 = r0 := ⟨_, rfl⟩
  have hf0 := hf
  unfold fX8_opAt at hf
  unfold d_X8_opAt at hd
  refine lv_iload_n hx hb dX8_opAt_0 rfl (lv_at hl 1 rfl) ?_
  have J_12 : ∀ (H : Heap) (locs : List Loc) (ls : Array Slot), d_X8_opAt_J12 S → f_X8_opAt_J12 S = r0 → RepC g ad A s S H locs → lv_has ls 2 [] → W p l e (headSpec (wt yX8_opAt cX8_opAt 2 (some .int)) ({ frames := 0, cells := 0, slots := 0, locals := 0 })).room s m ([.ref (ad p0), .int x1] : List Value).toArray below meth c H locs 0 0 (MQ below (va_Qi (fun (r : Int32) (_ : Unit) => r = fX8_opAt S p0 x1) (fun (_ : Unit) (t : State) => qEC g ad A S t) A) ([.ref (ad p0), .int x1] : List Value).toArray s 0 0 A) (F0 m 12 ls []) := by
    intro H locs ls hd hf hR hl
    unfold d_X8_opAt_J12 at hd
    unfold f_X8_opAt_J12 at hf
    refine lv_iconst (v := (-1)) hx hb dX8_opAt_12 (by decide) ?_
    refine lv_goto (tgt := 22) hx hb dX8_opAt_13 (by decide) ?_
    exact W.iret (v := (-1)) hx hb hr (fun t9 ht9 hW9 => ⟨⟨_, (), rfl, hf.trans hf0.symm, ⟨by rw [ht9]; exact hR.P, hR.D⟩⟩, hR.sS.F ht9⟩) hR.sS.2.2 dX8_opAt_22
  refine lv_if_lt (tgt := 12) hx hb dX8_opAt_1 (by decide) (fun c1 => ?_) (fun c1 => ?_)
  · rw [if_pos (k_lt rfl (by decide) c1)] at hf
    (try rw [if_pos (k_lt rfl (by decide) c1)] at hd)
    exact J_12 _ _ ls hd hf  hR (lv_sub hl [] rfl)
  · rw [if_neg (k_nlt rfl (by decide) c1)] at hf
    (try rw [if_neg (k_nlt rfl (by decide) c1)] at hd)
    refine lv_iload_n hx hb dX8_opAt_4 rfl (lv_at hl 1 rfl) ?_
    refine lv_aload_n hx hb dX8_opAt_5 rfl (lv_at hl 0 rfl) ?_
    refine va_get (D := rD g) (ci := 7) (v := .int (qI S p0 2)) (C := RX8) (T := TX8) (N := 15) hx hb hts inX8 hown hR.K hR.P p0 (hR.at47 hT_p0) rfl 2 (by decide) (hts _ kw_1459) (fun _ h9 => h9) rfl dX8_opAt_6 ?_
    refine lv_icmp_lt (tgt := 16) hx hb dX8_opAt_9 (by decide) (fun c2 => ?_) (fun c2 => ?_)
    · rw [if_pos (k_lt rfl rfl c2)] at hf
      (try rw [if_pos (k_lt rfl rfl c2)] at hd)
      refine lv_aload_n hx hb dX8_opAt_16 rfl (lv_at hl 0 rfl) ?_
      obtain ⟨hv4, hd⟩ := hd
      have hT_b3 : qT S (qO S p0 0) = 222 := hR.w.ref hv4 hT_p0
      refine va_get (D := rD g) (ci := 7) (v := .ref (ad (qO S p0 0))) (C := RX8) (T := TX8) (N := 15) hx hb hts inX8 hown hR.K hR.P p0 (hR.at47 hT_p0) rfl 0 (by decide) (hts _ kw_1460) (fun _ h9 => h9) (congrArg (fun z => some (vf ad z)) hv4) dX8_opAt_17 ?_
      refine lv_iload_n hx hb dX8_opAt_20 rfl (lv_at hl 1 rfl) ?_
      obtain ⟨hv5, hd⟩ := hd
      refine va_iald hx hb hR.K hR.P (qO S p0 0) 1 (hR.atI hT_b3 (by decide)) rfl (k_ix (x := x1) (a := x1.toInt) rfl hv5) dX8_opAt_21 ?_
      refine lv_topi (fun z6 ez6 => ?_)
      obtain rfl : z6 = (qI S (qO S p0 0) x1.toInt.toNat) := ez6
      exact W.iret (v := (qI S (qO S p0 0) x1.toInt.toNat)) hx hb hr (fun t9 ht9 hW9 => ⟨⟨_, (), rfl, hf.trans hf0.symm, ⟨by rw [ht9]; exact hR.P, hR.D⟩⟩, hR.sS.F ht9⟩) hR.sS.2.2 dX8_opAt_22
    · rw [if_neg (k_nlt rfl rfl c2)] at hf
      (try rw [if_neg (k_nlt rfl rfl c2)] at hd)
      exact J_12 _ _ ls hd hf  hR (lv_sub hl [] rfl)
def f_X8_argAt_J12 (S : MS) : Int64 := 0
def d_X8_argAt_J12 (S : MS) : Prop := True
def fX8_argAt (S : MS) (p0 : Nat) (x1 : Int32) : Int64 := (if x1.toInt < 0 then f_X8_argAt_J12 S else (if x1.toInt < (qI S p0 2).toInt then (qJ S (qO S p0 1) x1.toInt.toNat) else f_X8_argAt_J12 S))
def d_X8_argAt (S : MS) (p0 : Nat) (x1 : Int32) : Prop := (if x1.toInt < 0 then d_X8_argAt_J12 S else (if x1.toInt < (qI S p0 2).toInt then ((qR S p0 1 = some (qO S p0 1)) ∧ (((0 : Int) ≤ x1.toInt ∧ x1.toInt < (qN S (qO S p0 1) : Int)) ∧ True)) else d_X8_argAt_J12 S))
set_option maxHeartbeats 2000000 in
set_option maxRecDepth 100000 in
theorem rX8_argAt (l : Launch) (g : Gr) (ad : Nat → Nat) (sz : Nat) (S : MS) (p0 : Nat) (x1 : Int32) (hw : wfC S) (hT_p0 : qT S p0 = 47) (hd : d_X8_argAt S p0 x1) : Met l yX8_argAt (wt yX8_argAt cX8_argAt 2 (some .long)) ({ frames := 0, cells := 0, slots := 0, locals := 0 }) (va_Pc [.ref (ad p0), .int x1] (st_C g ad sz S)) (va_Ql (fun (r : Int64) (_ : Unit) => r = fX8_argAt S p0 x1) (fun (_ : Unit) (t : State) => qEC g ad (va_A (WdC g ad S) sz) S t) (va_A (WdC g ad S) sz)) 0 0 (va_A (WdC g ad S) sz) := by
  refine Met.ofW (cc := cX8_argAt) (maxL := 2) (ret := (some .long)) (by decide) rfl ?_
  intro p e s m args below meth c s₁ B hml hv
  obtain ⟨rfl, hsz, hP, hK, hD0, hex, hE⟩ := hv
  have hx := B.exec
  have hb := B.bytes
  have hr := B.returns
  have hts0 := atoms_spec (ws := wt yX8_argAt cX8_argAt 2 (some .long)) B.pre
  have hts : ∀ w ∈ tb, w.before _ s = true := fun w h => hts0 w (List.mem_cons_of_mem _ h)
  have hown : s.vm.findClass RX8 = some m.cls := findClass_of_methodNamed B.named
  subst hsz
  have hD := hD0.self (sz := s.heap.size)
  generalize hAe : va_A (WdC g ad S) s.heap.size = A at hD hE ⊢
  have hA : ∀ q : Nat, s.heap.size ≤ q → A q := fun q h => by rw [← hAe]; exact Or.inr h
  have hR : RepC g ad A s S s.heap [] := ⟨hK, hP, hD, va_S.rf, hw⟩
  clear hK hP hD hD0
  have hl := lv_entry ([.ref (ad p0), .int x1]) (n := 2) (Nat.le_of_ble_eq_true rfl)
  rw [lg_entry_eq]
  generalize (lg_sl ([.ref (ad p0), .int x1]) ++ List.replicate (2 - (lg_sl ([.ref (ad p0), .int x1])).length) Slot.unset).toArray = ls at hl ⊢
  have hl : lv_has ls 2 [(0, .ref (ad p0)), (1, .int x1)] := hl
  obtain ⟨r0, hf⟩ : ∃ r0, fX8_argAt S p0 x1 = r0 := ⟨_, rfl⟩
  have hf0 := hf
  unfold fX8_argAt at hf
  unfold d_X8_argAt at hd
  refine lv_iload_n hx hb dX8_argAt_0 rfl (lv_at hl 1 rfl) ?_
  have J_12 : ∀ (H : Heap) (locs : List Loc) (ls : Array Slot), d_X8_argAt_J12 S → f_X8_argAt_J12 S = r0 → RepC g ad A s S H locs → lv_has ls 2 [] → W p l e (headSpec (wt yX8_argAt cX8_argAt 2 (some .long)) ({ frames := 0, cells := 0, slots := 0, locals := 0 })).room s m ([.ref (ad p0), .int x1] : List Value).toArray below meth c H locs 0 0 (MQ below (va_Ql (fun (r : Int64) (_ : Unit) => r = fX8_argAt S p0 x1) (fun (_ : Unit) (t : State) => qEC g ad A S t) A) ([.ref (ad p0), .int x1] : List Value).toArray s 0 0 A) (F0 m 12 ls []) := by
    intro H locs ls hd hf hR hl
    unfold d_X8_argAt_J12 at hd
    unfold f_X8_argAt_J12 at hf
    refine lv_lconst (v := 0) hx hb dX8_argAt_12 (by decide) ?_
    refine lv_goto (tgt := 22) hx hb dX8_argAt_13 (by decide) ?_
    exact W.lret (v := 0) hx hb hr (fun t9 ht9 hW9 => ⟨⟨_, (), rfl, hf.trans hf0.symm, ⟨by rw [ht9]; exact hR.P, hR.D⟩⟩, hR.sS.F ht9⟩) hR.sS.2.2 dX8_argAt_22
  refine lv_if_lt (tgt := 12) hx hb dX8_argAt_1 (by decide) (fun c1 => ?_) (fun c1 => ?_)
  · rw [if_pos (k_lt rfl (by decide) c1)] at hf
    (try rw [if_pos (k_lt rfl (by decide) c1)] at hd)
    exact J_12 _ _ ls hd hf  hR (lv_sub hl [] rfl)
  · rw [if_neg (k_nlt rfl (by decide) c1)] at hf
    (try rw [if_neg (k_nlt rfl (by decide) c1)] at hd)
    refine lv_iload_n hx hb dX8_argAt_4 rfl (lv_at hl 1 rfl) ?_
    refine lv_aload_n hx hb dX8_argAt_5 rfl (lv_at hl 0 rfl) ?_
    refine va_get (D := rD g) (ci := 7) (v := .int (qI S p0 2)) (C := RX8) (T := TX8) (N := 15) hx hb hts inX8 hown hR.K hR.P p0 (hR.at47 hT_p0) rfl 2 (by decide) (hts _ kw_1459) (fun _ h9 => h9) rfl dX8_argAt_6 ?_
    refine lv_icmp_lt (tgt := 16) hx hb dX8_argAt_9 (by decide) (fun c2 => ?_) (fun c2 => ?_)
    · rw [if_pos (k_lt rfl rfl c2)] at hf
      (try rw [if_pos (k_lt rfl rfl c2)] at hd)
      refine lv_aload_n hx hb dX8_argAt_16 rfl (lv_at hl 0 rfl) ?_
      obtain ⟨hv4, hd⟩ := hd
      have hT_b3 : qT S (qO S p0 1) = 406 := hR.w.ref hv4 hT_p0
      refine va_get (D := rD g) (ci := 7) (v := .ref (ad (qO S p0 1))) (C := RX8) (T := TX8) (N := 15) hx hb hts inX8 hown hR.K hR.P p0 (hR.at47 hT_p0) rfl 1 (by decide) (hts _ kw_1478) (fun _ h9 => h9) (congrArg (fun z => some (vf ad z)) hv4) dX8_argAt_17 ?_
      refine lv_iload_n hx hb dX8_argAt_20 rfl (lv_at hl 1 rfl) ?_
      obtain ⟨hv5, hd⟩ := hd
      refine va_lald hx hb hR.K hR.P (qO S p0 1) 3 (hR.atL hT_b3 (by decide)) rfl (k_ix (x := x1) (a := x1.toInt) rfl hv5) dX8_argAt_21 ?_
      refine lv_topl (fun z6 ez6 => ?_)
      obtain rfl : z6 = (qJ S (qO S p0 1) x1.toInt.toNat) := ez6
      exact W.lret (v := (qJ S (qO S p0 1) x1.toInt.toNat)) hx hb hr (fun t9 ht9 hW9 => ⟨⟨_, (), rfl, hf.trans hf0.symm, ⟨by rw [ht9]; exact hR.P, hR.D⟩⟩, hR.sS.F ht9⟩) hR.sS.2.2 dX8_argAt_22
    · rw [if_neg (k_nlt rfl rfl c2)] at hf
      (try rw [if_neg (k_nlt rfl rfl c2)] at hd)
      exact J_12 _ _ ls hd hf  hR (lv_sub hl [] rfl)
def f_X8_tableAt_J12 (S : MS) : Int32 := (0 : Int32)
def d_X8_tableAt_J12 (S : MS) : Prop := True
def fX8_tableAt (S : MS) (p0 : Nat) (x1 : Int32) : Int32 := (if x1.toInt < 0 then f_X8_tableAt_J12 S else (if x1.toInt < (qI S p0 4).toInt then (qI S (qO S p0 3) x1.toInt.toNat) else f_X8_tableAt_J12 S))
def d_X8_tableAt (S : MS) (p0 : Nat) (x1 : Int32) : Prop := (if x1.toInt < 0 then d_X8_tableAt_J12 S else (if x1.toInt < (qI S p0 4).toInt then ((qR S p0 3 = some (qO S p0 3)) ∧ (((0 : Int) ≤ x1.toInt ∧ x1.toInt < (qN S (qO S p0 3) : Int)) ∧ True)) else d_X8_tableAt_J12 S))
set_option maxHeartbeats 2000000 in
set_option maxRecDepth 100000 in
theorem rX8_tableAt (l : Launch) (g : Gr) (ad : Nat → Nat) (sz : Nat) (S : MS) (p0 : Nat) (x1 : Int32) (hw : wfC S) (hT_p0 : qT S p0 = 47) (hd : d_X8_tableAt S p0 x1) : Met l yX8_tableAt (wt yX8_tableAt cX8_tableAt 2 (some .int)) ({ frames := 0, cells := 0, slots := 0, locals := 0 }) (va_Pc [.ref (ad p0), .int x1] (st_C g ad sz S)) (va_Qi (fun (r : Int32) (_ : Unit) => r = fX8_tableAt S p0 x1) (fun (_ : Unit) (t : State) => qEC g ad (va_A (WdC g ad S) sz) S t) (va_A (WdC g ad S) sz)) 0 0 (va_A (WdC g ad S) sz) := by
  refine Met.ofW (cc := cX8_tableAt) (maxL := 2) (ret := (some .int)) (by decide) rfl ?_
  intro p e s m args below meth c s₁ B hml hv
  obtain ⟨rfl, hsz, hP, hK, hD0, hex, hE⟩ := hv
  have hx := B.exec
  have hb := B.bytes
  have hr := B.returns
  have hts0 := atoms_spec (ws := wt yX8_tableAt cX8_tableAt 2 (some .int)) B.pre
  have hts : ∀ w ∈ tb, w.before _ s = true := fun w h => hts0 w (List.mem_cons_of_mem _ h)
  have hown : s.vm.findClass RX8 = some m.cls := findClass_of_methodNamed B.named
  subst hsz
  have hD := hD0.self (sz := s.heap.size)
  generalize hAe : va_A (WdC g ad S) s.heap.size = A at hD hE ⊢
  have hA : ∀ q : Nat, s.heap.size ≤ q → A q := fun q h => by rw [← hAe]; exact Or.inr h
  have hR : RepC g ad A s S s.heap [] := ⟨hK, hP, hD, va_S.rf, hw⟩
  clear hK hP hD hD0
  have hl := lv_entry ([.ref (ad p0), .int x1]) (n := 2) (Nat.le_of_ble_eq_true rfl)
  rw [lg_entry_eq]
  generalize (lg_sl ([.ref (ad p0), .int x1]) ++ List.replicate (2 - (lg_sl ([.ref (ad p0), .int x1])).length) Slot.unset).toArray = ls at hl ⊢
  have hl : lv_has ls 2 [(0, .ref (ad p0)), (1, .int x1)] := hl
  obtain ⟨r0, hf⟩ : ∃ r0, fX8_tableAt S p0 x1 = r0 := ⟨_, rfl⟩
  have hf0 := hf
  unfold fX8_tableAt at hf
  unfold d_X8_tableAt at hd
  refine lv_iload_n hx hb dX8_tableAt_0 rfl (lv_at hl 1 rfl) ?_
  have J_12 : ∀ (H : Heap) (locs : List Loc) (ls : Array Slot), d_X8_tableAt_J12 S → f_X8_tableAt_J12 S = r0 → RepC g ad A s S H locs → lv_has ls 2 [] → W p l e (headSpec (wt yX8_tableAt cX8_tableAt 2 (some .int)) ({ frames := 0, cells := 0, slots := 0, locals := 0 })).room s m ([.ref (ad p0), .int x1] : List Value).toArray below meth c H locs 0 0 (MQ below (va_Qi (fun (r : Int32) (_ : Unit) => r = fX8_tableAt S p0 x1) (fun (_ : Unit) (t : State) => qEC g ad A S t) A) ([.ref (ad p0), .int x1] : List Value).toArray s 0 0 A) (F0 m 12 ls []) := by
    intro H locs ls hd hf hR hl
    unfold d_X8_tableAt_J12 at hd
    unfold f_X8_tableAt_J12 at hf
    refine lv_iconst (v := 0) hx hb dX8_tableAt_12 (by decide) ?_
    refine lv_goto (tgt := 22) hx hb dX8_tableAt_13 (by decide) ?_
    exact W.iret (v := 0) hx hb hr (fun t9 ht9 hW9 => ⟨⟨_, (), rfl, hf.trans hf0.symm, ⟨by rw [ht9]; exact hR.P, hR.D⟩⟩, hR.sS.F ht9⟩) hR.sS.2.2 dX8_tableAt_22
  refine lv_if_lt (tgt := 12) hx hb dX8_tableAt_1 (by decide) (fun c1 => ?_) (fun c1 => ?_)
  · rw [if_pos (k_lt rfl (by decide) c1)] at hf
    (try rw [if_pos (k_lt rfl (by decide) c1)] at hd)
    exact J_12 _ _ ls hd hf  hR (lv_sub hl [] rfl)
  · rw [if_neg (k_nlt rfl (by decide) c1)] at hf
    (try rw [if_neg (k_nlt rfl (by decide) c1)] at hd)
    refine lv_iload_n hx hb dX8_tableAt_4 rfl (lv_at hl 1 rfl) ?_
    refine lv_aload_n hx hb dX8_tableAt_5 rfl (lv_at hl 0 rfl) ?_
    refine va_get (D := rD g) (ci := 7) (v := .int (qI S p0 4)) (C := RX8) (T := TX8) (N := 15) hx hb hts inX8 hown hR.K hR.P p0 (hR.at47 hT_p0) rfl 4 (by decide) (hts _ kw_1473) (fun _ h9 => h9) rfl dX8_tableAt_6 ?_
    refine lv_icmp_lt (tgt := 16) hx hb dX8_tableAt_9 (by decide) (fun c2 => ?_) (fun c2 => ?_)
    · rw [if_pos (k_lt rfl rfl c2)] at hf
      (try rw [if_pos (k_lt rfl rfl c2)] at hd)
      refine lv_aload_n hx hb dX8_tableAt_16 rfl (lv_at hl 0 rfl) ?_
      obtain ⟨hv4, hd⟩ := hd
      have hT_b3 : qT S (qO S p0 3) = 223 := hR.w.ref hv4 hT_p0
      refine va_get (D := rD g) (ci := 7) (v := .ref (ad (qO S p0 3))) (C := RX8) (T := TX8) (N := 15) hx hb hts inX8 hown hR.K hR.P p0 (hR.at47 hT_p0) rfl 3 (by decide) (hts _ kw_1474) (fun _ h9 => h9) (congrArg (fun z => some (vf ad z)) hv4) dX8_tableAt_17 ?_
      refine lv_iload_n hx hb dX8_tableAt_20 rfl (lv_at hl 1 rfl) ?_
      obtain ⟨hv5, hd⟩ := hd
      refine va_iald hx hb hR.K hR.P (qO S p0 3) 1 (hR.atI hT_b3 (by decide)) rfl (k_ix (x := x1) (a := x1.toInt) rfl hv5) dX8_tableAt_21 ?_
      refine lv_topi (fun z6 ez6 => ?_)
      obtain rfl : z6 = (qI S (qO S p0 3) x1.toInt.toNat) := ez6
      exact W.iret (v := (qI S (qO S p0 3) x1.toInt.toNat)) hx hb hr (fun t9 ht9 hW9 => ⟨⟨_, (), rfl, hf.trans hf0.symm, ⟨by rw [ht9]; exact hR.P, hR.D⟩⟩, hR.sS.F ht9⟩) hR.sS.2.2 dX8_tableAt_22
    · rw [if_neg (k_nlt rfl rfl c2)] at hf
      (try rw [if_neg (k_nlt rfl rfl c2)] at hd)
      exact J_12 _ _ ls hd hf  hR (lv_sub hl [] rfl)
def fX8_localOf (S : MS) (p0 : Nat) (x1 : Int32) : Int32 := (((fX8_argAt S p0 x1).toInt32) &&& (255 : Int32))
def d_X8_localOf (S : MS) (p0 : Nat) (x1 : Int32) : Prop := (d_X8_argAt S p0 x1 ∧ True)
set_option maxHeartbeats 2000000 in
set_option maxRecDepth 100000 in
theorem rX8_localOf (l : Launch) (g : Gr) (ad : Nat → Nat) (sz : Nat) (S : MS) (p0 : Nat) (x1 : Int32) (hw : wfC S) (hT_p0 : qT S p0 = 47) (hd : d_X8_localOf S p0 x1) : Met l yX8_localOf (wt yX8_localOf cX8_localOf 2 (some .int)) ({ frames := 1, cells := 0, slots := 0, locals := 21 }) (va_Pc [.ref (ad p0), .int x1] (st_C g ad sz S)) (va_Qi (fun (r : Int32) (_ : Unit) => r = fX8_localOf S p0 x1) (fun (_ : Unit) (t : State) => qEC g ad (va_A (WdC g ad S) sz) S t) (va_A (WdC g ad S) sz)) 0 0 (va_A (WdC g ad S) sz) := by
  refine Met.ofW (cc := cX8_localOf) (maxL := 2) (ret := (some .int)) (by decide) rfl ?_
  intro p e s m args below meth c s₁ B hml hv
  obtain ⟨rfl, hsz, hP, hK, hD0, hex, hE⟩ := hv
  have hx := B.exec
  have hb := B.bytes
  have hr := B.returns
  have hts0 := atoms_spec (ws := wt yX8_localOf cX8_localOf 2 (some .int)) B.pre
  have hts : ∀ w ∈ tb, w.before _ s = true := fun w h => hts0 w (List.mem_cons_of_mem _ h)
  have hown : s.vm.findClass RX8 = some m.cls := findClass_of_methodNamed B.named
  subst hsz
  have hD := hD0.self (sz := s.heap.size)
  generalize hAe : va_A (WdC g ad S) s.heap.size = A at hD hE ⊢
  have hA : ∀ q : Nat, s.heap.size ≤ q → A q := fun q h => by rw [← hAe]; exact Or.inr h
  have hR : RepC g ad A s S s.heap [] := ⟨hK, hP, hD, va_S.rf, hw⟩
  clear hK hP hD hD0
  have hl := lv_entry ([.ref (ad p0), .int x1]) (n := 2) (Nat.le_of_ble_eq_true rfl)
  rw [lg_entry_eq]
  generalize (lg_sl ([.ref (ad p0), .int x1]) ++ List.replicate (2 - (lg_sl ([.ref (ad p0), .int x1])).length) Slot.unset).toArray = ls at hl ⊢
  have hl : lv_has ls 2 [(0, .ref (ad p0)), (1, .int x1)] := hl
  obtain ⟨r0, hf⟩ : ∃ r0, fX8_localOf S p0 x1 = r0 := ⟨_, rfl⟩
  have hf0 := hf
  unfold fX8_localOf at hf
  unfold d_X8_localOf at hd
  refine lv_aload_n hx hb dX8_localOf_0 rfl (lv_at hl 0 rfl) ?_
  refine lv_iload_n hx hb dX8_localOf_1 rfl (lv_at hl 1 rfl) ?_
  obtain ⟨hv1, hd⟩ := hd
  have hFc := cfree hR hA
  refine va_calll (va_runV (As := [.int x1]) (rest := []) ⟨hx, hb, hml, hown, hts⟩ (rX8_argAt l g ad s.heap.size S p0 x1 hR.w hT_p0 hv1) (cwV 1 hts (gd_V kw_1511 kw_1476 kw_1477 kw_782 kw_1475) rfl rfl rfl (by decide +kernel) ⟨Nat.le_of_ble_eq_true rfl, Nat.le_of_ble_eq_true rfl⟩) ⟨cblind, va_recv hR.K hR.P (ci := 7) (q0 := p0) rfl (hR.at47 hT_p0), fun U hU hW9 => cmk hU hW9 hR hex hE hFc⟩ rfl rfl hl.1 rfl (lv_room (Nat.le_of_ble_eq_true rfl)) dX8_localOf_2 ⟨Nat.le_of_ble_eq_true rfl, Nat.le_of_ble_eq_true rfl⟩) hR.sS (fun q _ h => hFc q h) hFc (fun r2 u9 t9 H1 locs ht9 hvm9 hw9 hB9 hz9 hk9 hS => ?_)
  have hR : RepC g ad A s S H1 locs := hR.call ht9 hB9 hR.w hS hFc
  obtain rfl : r2 = (fX8_argAt S p0 x1) := hw9
  clear hB9 hz9 hk9 hvm9 ht9 hS
  generalize H1 = H at hR ⊢
  refine lv_l2i (v := ((fX8_argAt S p0 x1).toInt32)) hx hb dX8_localOf_5 rfl ?_
  refine lv_sipush (v := 255) hx hb dX8_localOf_6 (by decide) ?_
  refine lv_iand hx hb dX8_localOf_9 ?_
  refine lv_topi (fun z4 ez4 => ?_)
  obtain rfl : z4 = (((fX8_argAt S p0 x1).toInt32) &&& (255 : Int32)) := ez4
  exact W.iret (v := (((fX8_argAt S p0 x1).toInt32) &&& (255 : Int32))) hx hb hr (fun t9 ht9 hW9 => ⟨⟨_, (), rfl, hf.trans hf0.symm, ⟨by rw [ht9]; exact hR.P, hR.D⟩⟩, hR.sS.F ht9⟩) hR.sS.2.2 dX8_localOf_10
def fX8_stepOf (S : MS) (p0 : Nat) (x1 : Int32) : Int32 := (((fX8_argAt S p0 x1) >>> ((8 : Int32).toInt64 &&& 63)).toInt32)
def d_X8_stepOf (S : MS) (p0 : Nat) (x1 : Int32) : Prop := (d_X8_argAt S p0 x1 ∧ True)
set_option maxHeartbeats 2000000 in
set_option maxRecDepth 100000 in
theorem rX8_stepOf (l : Launch) (g : Gr) (ad : Nat → Nat) (sz : Nat) (S : MS) (p0 : Nat) (x1 : Int32) (hw : wfC S) (hT_p0 : qT S p0 = 47) (hd : d_X8_stepOf S p0 x1) : Met l yX8_stepOf (wt yX8_stepOf cX8_stepOf 2 (some .int)) ({ frames := 1, cells := 0, slots := 0, locals := 21 }) (va_Pc [.ref (ad p0), .int x1] (st_C g ad sz S)) (va_Qi (fun (r : Int32) (_ : Unit) => r = fX8_stepOf S p0 x1) (fun (_ : Unit) (t : State) => qEC g ad (va_A (WdC g ad S) sz) S t) (va_A (WdC g ad S) sz)) 0 0 (va_A (WdC g ad S) sz) := by
  refine Met.ofW (cc := cX8_stepOf) (maxL := 2) (ret := (some .int)) (by decide) rfl ?_
  intro p e s m args below meth c s₁ B hml hv
  obtain ⟨rfl, hsz, hP, hK, hD0, hex, hE⟩ := hv
  have hx := B.exec
  have hb := B.bytes
  have hr := B.returns
  have hts0 := atoms_spec (ws := wt yX8_stepOf cX8_stepOf 2 (some .int)) B.pre
  have hts : ∀ w ∈ tb, w.before _ s = true := fun w h => hts0 w (List.mem_cons_of_mem _ h)
  have hown : s.vm.findClass RX8 = some m.cls := findClass_of_methodNamed B.named
  subst hsz
  have hD := hD0.self (sz := s.heap.size)
  generalize hAe : va_A (WdC g ad S) s.heap.size = A at hD hE ⊢
  have hA : ∀ q : Nat, s.heap.size ≤ q → A q := fun q h => by rw [← hAe]; exact Or.inr h
  have hR : RepC g ad A s S s.heap [] := ⟨hK, hP, hD, va_S.rf, hw⟩
  clear hK hP hD hD0
  have hl := lv_entry ([.ref (ad p0), .int x1]) (n := 2) (Nat.le_of_ble_eq_true rfl)
  rw [lg_entry_eq]
  generalize (lg_sl ([.ref (ad p0), .int x1]) ++ List.replicate (2 - (lg_sl ([.ref (ad p0), .int x1])).length) Slot.unset).toArray = ls at hl ⊢
  have hl : lv_has ls 2 [(0, .ref (ad p0)), (1, .int x1)] := hl
  obtain ⟨r0, hf⟩ : ∃ r0, fX8_stepOf S p0 x1 = r0 := ⟨_, rfl⟩
  have hf0 := hf
  unfold fX8_stepOf at hf
  unfold d_X8_stepOf at hd
  refine lv_aload_n hx hb dX8_stepOf_0 rfl (lv_at hl 0 rfl) ?_
  refine lv_iload_n hx hb dX8_stepOf_1 rfl (lv_at hl 1 rfl) ?_
  obtain ⟨hv1, hd⟩ := hd
  have hFc := cfree hR hA
  refine va_calll (va_runV (As := [.int x1]) (rest := []) ⟨hx, hb, hml, hown, hts⟩ (rX8_argAt l g ad s.heap.size S p0 x1 hR.w hT_p0 hv1) (cwV 1 hts (gd_V kw_1511 kw_1476 kw_1477 kw_782 kw_1475) rfl rfl rfl (by decide +kernel) ⟨Nat.le_of_ble_eq_true rfl, Nat.le_of_ble_eq_true rfl⟩) ⟨cblind, va_recv hR.K hR.P (ci := 7) (q0 := p0) rfl (hR.at47 hT_p0), fun U hU hW9 => cmk hU hW9 hR hex hE hFc⟩ rfl rfl hl.1 rfl (lv_room (Nat.le_of_ble_eq_true rfl)) dX8_stepOf_2 ⟨Nat.le_of_ble_eq_true rfl, Nat.le_of_ble_eq_true rfl⟩) hR.sS (fun q _ h => hFc q h) hFc (fun r2 u9 t9 H1 locs ht9 hvm9 hw9 hB9 hz9 hk9 hS => ?_)
  have hR : RepC g ad A s S H1 locs := hR.call ht9 hB9 hR.w hS hFc
  obtain rfl : r2 = (fX8_argAt S p0 x1) := hw9
  clear hB9 hz9 hk9 hvm9 ht9 hS
  generalize H1 = H at hR ⊢
  refine lv_bipush (v := 8) hx hb dX8_stepOf_5 (by decide) ?_
  refine lv_lshr (v := ((fX8_argAt S p0 x1) >>> ((8 : Int32).toInt64 &&& 63))) hx hb dX8_stepOf_7 rfl ?_
  refine lv_l2i (v := (((fX8_argAt S p0 x1) >>> ((8 : Int32).toInt64 &&& 63)).toInt32)) hx hb dX8_stepOf_8 rfl ?_
  exact W.iret (v := (((fX8_argAt S p0 x1) >>> ((8 : Int32).toInt64 &&& 63)).toInt32)) hx hb hr (fun t9 ht9 hW9 => ⟨⟨_, (), rfl, hf.trans hf0.symm, ⟨by rw [ht9]; exact hR.P, hR.D⟩⟩, hR.sS.F ht9⟩) hR.sS.2.2 dX8_stepOf_9
def wX8_set (S : MS) (p0 : Nat) (x1 : Int32) (x2 : Int32) (y3 : Int64) (Q : MS → Prop) : Prop := ((x1.toInt < 0 → Q S) ∧ (¬ x1.toInt < 0 → ((qR S p0 0 = some (qO S p0 0)) ∧ (((qN S (qO S p0 0) : Int) ≤ x1.toInt → Q S) ∧ (¬ (qN S (qO S p0 0) : Int) ≤ x1.toInt → ((qR S p0 0 = some (qO S p0 0)) ∧ (((0 : Int) ≤ x1.toInt ∧ x1.toInt < (qN S (qO S p0 0) : Int)) ∧ (∀ S9, S9 = wI S (qO S p0 0) x1.toInt.toNat x2 → qT S (qO S p0 0) = 222 → wfC S9 → ((qR S9 p0 1 = some (qO S9 p0 1)) ∧ (((0 : Int) ≤ x1.toInt ∧ x1.toInt < (qN S9 (qO S9 p0 1) : Int)) ∧ (∀ S13, S13 = wJ S9 (qO S9 p0 1) x1.toInt.toNat y3 → qT S9 (qO S9 p0 1) = 406 → wfC S13 → Q S13)))))))))))
set_option maxHeartbeats 2000000 in
set_option maxRecDepth 100000 in
theorem rX8_set (l : Launch) (g : Gr) (ad : Nat → Nat) (sz : Nat) (S : MS) (p0 : Nat) (x1 : Int32) (x2 : Int32) (y3 : Int64) (hw : wfC S) (hT_p0 : qT S p0 = 47) (Q : MS → Prop) (h : wX8_set S p0 x1 x2 y3 Q) : Met l yX8_set (wt yX8_set cX8_set 5 none) ({ frames := 0, cells := 0, slots := 0, locals := 0 }) (va_Pc [.ref (ad p0), .int x1, .int x2, .long y3] (st_C g ad sz S)) (va_Qv (fun (u : MS) => Q u ∧ wfC u ∧ shy S u) (fun (u : MS) (t : State) => qEC g ad (va_A (WdC g ad S) sz) u t) (va_A (WdC g ad S) sz)) 0 0 (va_A (WdC g ad S) sz) := by
  refine Met.ofW (cc := cX8_set) (maxL := 5) (ret := none) (by decide) rfl ?_
  intro p e s m args below meth c s₁ B hml hv
  obtain ⟨rfl, hsz, hP, hK, hD0, hex, hE⟩ := hv
  have hx := B.exec
  have hb := B.bytes
  have hr := B.returns
  have hts0 := atoms_spec (ws := wt yX8_set cX8_set 5 none) B.pre
  have hts : ∀ w ∈ tb, w.before _ s = true := fun w h => hts0 w (List.mem_cons_of_mem _ h)
  have hown : s.vm.findClass RX8 = some m.cls := findClass_of_methodNamed B.named
  subst hsz
  have hD := hD0.self (sz := s.heap.size)
  generalize hAe : va_A (WdC g ad S) s.heap.size = A at hD hE ⊢
  have hA : ∀ q : Nat, s.heap.size ≤ q → A q := fun q h => by rw [← hAe]; exact Or.inr h
  have hR : RepC g ad A s S s.heap [] := ⟨hK, hP, hD, va_S.rf, hw⟩
  clear hK hP hD hD0
  have hl := lv_entry ([.ref (ad p0), .int x1, .int x2, .long y3]) (n := 5) (Nat.le_of_ble_eq_true rfl)
  rw [lg_entry_eq]
  generalize (lg_sl ([.ref (ad p0), .int x1, .int x2, .long y3]) ++ List.replicate (5 - (lg_sl ([.ref (ad p0), .int x1, .int x2, .long y3])).length) Slot.unset).toArray = ls at hl ⊢
  have hl : lv_has ls 5 [(0, .ref (ad p0)), (1, .int x1), (2, .int x2), (3, .long y3)] := hl
  have hsh : shy S S := shy.rf
  unfold wX8_set at h
  refine lv_iload_n hx hb dX8_set_0 rfl (lv_at hl 1 rfl) ?_
  refine lv_if_lt (tgt := 27) hx hb dX8_set_1 (by decide) (fun c1 => ?_) (fun c1 => ?_)
  · replace h := h.1 (k_lt rfl (by decide) c1)
    exact W.vret hx hb hr (fun t9 ht9 hW9 => ⟨⟨S, rfl, ⟨h, hR.w, hsh⟩, ⟨by rw [ht9]; exact hR.P, hR.D⟩⟩, hR.sS.F ht9⟩) hR.sS.2.2 dX8_set_27
  · replace h := h.2 (k_nlt rfl (by decide) c1)
    refine lv_iload_n hx hb dX8_set_4 rfl (lv_at hl 1 rfl) ?_
    refine lv_aload_n hx hb dX8_set_5 rfl (lv_at hl 0 rfl) ?_
    obtain ⟨hv3, h⟩ := h
    have hT_b2 : qT S (qO S p0 0) = 222 := hR.w.ref hv3 hT_p0
    refine va_get (D := rD g) (ci := 7) (v := .ref (ad (qO S p0 0))) (C := RX8) (T := TX8) (N := 15) hx hb hts inX8 hown hR.K hR.P p0 (hR.at47 hT_p0) rfl 0 (by decide) (hts _ kw_1460) (fun _ h9 => h9) (congrArg (fun z => some (vf ad z)) hv3) dX8_set_6 ?_
    refine va_alen (v := (Int32.ofNat (qN S (qO S p0 0)))) hx hb hR.K hR.P (qO S p0 0) 1 (hR.atI hT_b2 (by decide)) rfl rfl dX8_set_9 ?_
    have hln4 : (Int32.ofNat (qN S (qO S p0 0))).toInt = (qN S (qO S p0 0) : Int) := toI_len (hR.w.len9 (hT_b2) (by decide))
    refine lv_icmp_ge (tgt := 27) hx hb dX8_set_10 (by decide) (fun c5 => ?_) (fun c5 => ?_)
    · replace h := h.1 (k_le hln4 rfl c5)
      exact W.vret hx hb hr (fun t9 ht9 hW9 => ⟨⟨S, rfl, ⟨h, hR.w, hsh⟩, ⟨by rw [ht9]; exact hR.P, hR.D⟩⟩, hR.sS.F ht9⟩) hR.sS.2.2 dX8_set_27
    · replace h := h.2 (k_nle hln4 rfl c5)
      refine lv_aload_n hx hb dX8_set_13 rfl (lv_at hl 0 rfl) ?_
      obtain ⟨hv7, h⟩ := h
      have hT_b6 : qT S (qO S p0 0) = 222 := hR.w.ref hv7 hT_p0
      refine va_get (D := rD g) (ci := 7) (v := .ref (ad (qO S p0 0))) (C := RX8) (T := TX8) (N := 15) hx hb hts inX8 hown hR.K hR.P p0 (hR.at47 hT_p0) rfl 0 (by decide) (hts _ kw_1460) (fun _ h9 => h9) (congrArg (fun z => some (vf ad z)) hv7) dX8_set_14 ?_
      refine lv_iload_n hx hb dX8_set_17 rfl (lv_at hl 1 rfl) ?_
      refine lv_iload_n hx hb dX8_set_18 rfl (lv_at hl 2 rfl) ?_
      obtain ⟨hv8, h⟩ := h
      refine va_iast hx hb hR.K hR.P hR.D hR.sS (qO S p0 0) 1 (hR.atI hT_b6 (by decide)) rfl (k_ix (x := x1) (a := x1.toInt) rfl hv8) dX8_set_19 (fun H locs hP hD hS => ?_)
      have hTk9 : qT S (qO S p0 0) = 222 := hT_b6
      have hR : RepC g ad A s (wI S (qO S p0 0) x1.toInt.toNat x2) H locs := hR.aI hT_b6 (by decide) hP hD hS
      obtain ⟨S9, eS9⟩ : ∃ z, z = wI S (qO S p0 0) x1.toInt.toNat x2 := ⟨_, rfl⟩
      rw [← eS9] at hR
      replace h := h S9 eS9 hTk9 hR.w
      have hT_p0 : qT S9 p0 = 47 := (congrArg (fun z => qT z p0) eS9).trans hT_p0
      have hsh : shy S S9 := by rw [eS9]; exact hsh
      refine lv_aload_n hx hb dX8_set_20 rfl (lv_at hl 0 rfl) ?_
      obtain ⟨hv11, h⟩ := h
      have hT_b10 : qT S9 (qO S9 p0 1) = 406 := hR.w.ref hv11 hT_p0
      refine va_get (D := rD g) (ci := 7) (v := .ref (ad (qO S9 p0 1))) (C := RX8) (T := TX8) (N := 15) hx hb hts inX8 hown hR.K hR.P p0 (hR.at47 hT_p0) rfl 1 (by decide) (hts _ kw_1478) (fun _ h9 => h9) (congrArg (fun z => some (vf ad z)) hv11) dX8_set_21 ?_
      refine lv_iload_n hx hb dX8_set_24 rfl (lv_at hl 1 rfl) ?_
      refine lv_lload_n hx hb dX8_set_25 rfl (lv_at hl 3 rfl) ?_
      obtain ⟨hv12, h⟩ := h
      refine va_last hx hb hR.K hR.P hR.D hR.sS (qO S9 p0 1) 3 (hR.atL hT_b10 (by decide)) rfl (k_ix (x := x1) (a := x1.toInt) rfl hv12) dX8_set_26 (fun H locs hP hD hS => ?_)
      have hTk9 : qT S9 (qO S9 p0 1) = 406 := hT_b10
      have hR : RepC g ad A s (wJ S9 (qO S9 p0 1) x1.toInt.toNat y3) H locs := hR.aL hT_b10 (by decide) hP hD hS
      obtain ⟨S13, eS13⟩ : ∃ z, z = wJ S9 (qO S9 p0 1) x1.toInt.toNat y3 := ⟨_, rfl⟩
      rw [← eS13] at hR
      replace h := h S13 eS13 hTk9 hR.w
      have hT_p0 : qT S13 p0 = 47 := (congrArg (fun z => qT z p0) eS13).trans hT_p0
      have hsh : shy S S13 := by rw [eS13]; exact hsh
      exact W.vret hx hb hr (fun t9 ht9 hW9 => ⟨⟨S13, rfl, ⟨h, hR.w, hsh⟩, ⟨by rw [ht9]; exact hR.P, hR.D⟩⟩, hR.sS.F ht9⟩) hR.sS.2.2 dX8_set_27
def wX8_add (S : MS) (p0 : Nat) (x1 : Int32) (y2 : Int64) (Q : MS → Prop) : Prop := ((qR S p0 0 = some (qO S p0 0)) ∧ (((qN S (qO S p0 0) : Int) ≤ (qI S p0 2).toInt → Q S) ∧ (¬ (qN S (qO S p0 0) : Int) ≤ (qI S p0 2).toInt → (qT S p0 = 47 → (∃ Q5, wX8_set S p0 (qI S p0 2) x1 y2 Q5 ∧ ∀ S6, Q5 S6 → wfC S6 → shy S S6 → (∀ S9, S9 = wI S6 p0 2 ((qI S6 p0 2) + (1 : Int32)) → qT S6 p0 = 47 → wfC S9 → Q S9))))))
set_option maxHeartbeats 2000000 in
set_option maxRecDepth 100000 in
theorem rX8_add (l : Launch) (g : Gr) (ad : Nat → Nat) (sz : Nat) (S : MS) (p0 : Nat) (x1 : Int32) (y2 : Int64) (hw : wfC S) (hT_p0 : qT S p0 = 47) (Q : MS → Prop) (h : wX8_add S p0 x1 y2 Q) : Met l yX8_add (wt yX8_add cX8_add 4 none) ({ frames := 1, cells := 0, slots := 0, locals := 24 }) (va_Pc [.ref (ad p0), .int x1, .long y2] (st_C g ad sz S)) (va_Qv (fun (u : MS) => Q u ∧ wfC u ∧ shy S u) (fun (u : MS) (t : State) => qEC g ad (va_A (WdC g ad S) sz) u t) (va_A (WdC g ad S) sz)) 0 0 (va_A (WdC g ad S) sz) := by
  refine Met.ofW (cc := cX8_add) (maxL := 4) (ret := none) (by decide) rfl ?_
  intro p e s m args below meth c s₁ B hml hv
  obtain ⟨rfl, hsz, hP, hK, hD0, hex, hE⟩ := hv
  have hx := B.exec
  have hb := B.bytes
  have hr := B.returns
  have hts0 := atoms_spec (ws := wt yX8_add cX8_add 4 none) B.pre
  have hts : ∀ w ∈ tb, w.before _ s = true := fun w h => hts0 w (List.mem_cons_of_mem _ h)
  have hown : s.vm.findClass RX8 = some m.cls := findClass_of_methodNamed B.named
  subst hsz
  have hD := hD0.self (sz := s.heap.size)
  generalize hAe : va_A (WdC g ad S) s.heap.size = A at hD hE ⊢
  have hA : ∀ q : Nat, s.heap.size ≤ q → A q := fun q h => by rw [← hAe]; exact Or.inr h
  have hR : RepC g ad A s S s.heap [] := ⟨hK, hP, hD, va_S.rf, hw⟩
  clear hK hP hD hD0
  have hl := lv_entry ([.ref (ad p0), .int x1, .long y2]) (n := 4) (Nat.le_of_ble_eq_true rfl)
  rw [lg_entry_eq]
  generalize (lg_sl ([.ref (ad p0), .int x1, .long y2]) ++ List.replicate (4 - (lg_sl ([.ref (ad p0), .int x1, .long y2])).length) Slot.unset).toArray = ls at hl ⊢
  have hl : lv_has ls 4 [(0, .ref (ad p0)), (1, .int x1), (2, .long y2)] := hl
  have hsh : shy S S := shy.rf
  unfold wX8_add at h
  refine lv_aload_n hx hb dX8_add_0 rfl (lv_at hl 0 rfl) ?_
  refine va_get (D := rD g) (ci := 7) (v := .int (qI S p0 2)) (C := RX8) (T := TX8) (N := 15) hx hb hts inX8 hown hR.K hR.P p0 (hR.at47 hT_p0) rfl 2 (by decide) (hts _ kw_1459) (fun _ h9 => h9) rfl dX8_add_1 ?_
  refine lv_aload_n hx hb dX8_add_4 rfl (lv_at hl 0 rfl) ?_
  obtain ⟨hv2, h⟩ := h
  have hT_b1 : qT S (qO S p0 0) = 222 := hR.w.ref hv2 hT_p0
  refine va_get (D := rD g) (ci := 7) (v := .ref (ad (qO S p0 0))) (C := RX8) (T := TX8) (N := 15) hx hb hts inX8 hown hR.K hR.P p0 (hR.at47 hT_p0) rfl 0 (by decide) (hts _ kw_1460) (fun _ h9 => h9) (congrArg (fun z => some (vf ad z)) hv2) dX8_add_5 ?_
  refine va_alen (v := (Int32.ofNat (qN S (qO S p0 0)))) hx hb hR.K hR.P (qO S p0 0) 1 (hR.atI hT_b1 (by decide)) rfl rfl dX8_add_8 ?_
  have hln3 : (Int32.ofNat (qN S (qO S p0 0))).toInt = (qN S (qO S p0 0) : Int) := toI_len (hR.w.len9 (hT_b1) (by decide))
  refine lv_icmp_ge (tgt := 32) hx hb dX8_add_9 (by decide) (fun c4 => ?_) (fun c4 => ?_)
  · replace h := h.1 (k_le hln3 rfl c4)
    exact W.vret hx hb hr (fun t9 ht9 hW9 => ⟨⟨S, rfl, ⟨h, hR.w, hsh⟩, ⟨by rw [ht9]; exact hR.P, hR.D⟩⟩, hR.sS.F ht9⟩) hR.sS.2.2 dX8_add_32
  · replace h := h.2 (k_nle hln3 rfl c4)
    refine lv_aload_n hx hb dX8_add_12 rfl (lv_at hl 0 rfl) ?_
    refine lv_aload_n hx hb dX8_add_13 rfl (lv_at hl 0 rfl) ?_
    refine va_get (D := rD g) (ci := 7) (v := .int (qI S p0 2)) (C := RX8) (T := TX8) (N := 15) hx hb hts inX8 hown hR.K hR.P p0 (hR.at47 hT_p0) rfl 2 (by decide) (hts _ kw_1459) (fun _ h9 => h9) rfl dX8_add_14 ?_
    refine lv_iload_n hx hb dX8_add_17 rfl (lv_at hl 1 rfl) ?_
    refine lv_lload_n hx hb dX8_add_18 rfl (lv_at hl 2 rfl) ?_
    replace h := h (hT_p0)
    obtain ⟨Q5, h0, h⟩ := h
    have hFc := cfree hR hA
    refine va_callv (va_runV (As := [.int (qI S p0 2), .int x1, .long y2]) (rest := []) ⟨hx, hb, hml, hown, hts⟩ (rX8_set l g ad s.heap.size S p0 (qI S p0 2) x1 y2 hR.w hT_p0 Q5 h0) (cwV 3 hts (gd_V kw_1461 kw_1523 kw_1524 kw_782 kw_1522) rfl rfl rfl (by decide +kernel) ⟨Nat.le_of_ble_eq_true rfl, Nat.le_of_ble_eq_true rfl⟩) ⟨cblind, va_recv hR.K hR.P (ci := 7) (q0 := p0) rfl (hR.at47 hT_p0), fun U hU hW9 => cmk hU hW9 hR hex hE hFc⟩ rfl rfl hl.1 rfl (lv_room (Nat.le_of_ble_eq_true rfl)) dX8_add_19 ⟨Nat.le_of_ble_eq_true rfl, Nat.le_of_ble_eq_true rfl⟩) hR.sS (fun q _ h => hFc q h) hFc (fun  S6 t9 H1 locs ht9 hvm9 hw9 hB9 hz9 hk9 hS => ?_)
    obtain ⟨hq7, hw9, hs9⟩ := hw9
    have hR : RepC g ad A s S6 H1 locs := hR.call ht9 hB9 hw9 hS hFc
    have hsh := hsh.tr hs9
    replace h := h  S6 hq7 hw9 hs9
    have hT_p0 := hs9.T hT_p0 (by decide)
    clear hB9 hz9 hk9 hvm9 ht9 hw9 hs9 hS
    generalize H1 = H at hR ⊢
    refine lv_aload_n hx hb dX8_add_22 rfl (lv_at hl 0 rfl) ?_
    refine lv_dup hx hb dX8_add_23 rfl ?_
    refine va_get (D := rD g) (ci := 7) (v := .int (qI S6 p0 2)) (C := RX8) (T := TX8) (N := 15) hx hb hts inX8 hown hR.K hR.P p0 (hR.at47 hT_p0) rfl 2 (by decide) (hts _ kw_1459) (fun _ h9 => h9) rfl dX8_add_24 ?_
    refine lv_iconst (v := 1) hx hb dX8_add_27 (by decide) ?_
    refine lv_iadd hx hb dX8_add_28 ?_
    refine lv_topi (fun z8 ez8 => ?_)
    obtain rfl : z8 = ((qI S6 p0 2) + (1 : Int32)) := ez8
    refine va_put (D := rD g) (ci := 7) (v := .int ((qI S6 p0 2) + (1 : Int32))) (ty := .int) (C := RX8) (T := TX8) (N := 15) hx hb hts inX8 tyX8 tyX8_ok nmX8 hown hR.K hR.P hR.D hR.sS p0 (hR.at47 hT_p0) rfl 2 (by decide) (hts _ kw_1459) (fun _ h9 => h9) rfl (by decide +kernel) rfl rfl (Nat.le_of_ble_eq_true rfl) dX8_add_29 (fun H locs hP hD hS => ?_)
    have hTk9 : qT S6 p0 = 47 := hT_p0
    have hR : RepC g ad A s (wI S6 p0 2 ((qI S6 p0 2) + (1 : Int32))) H locs := hR.pI47 hT_p0 FX8_s2 (fun q9 => absurd q9 (by decide)) hP hD hS
    obtain ⟨S9, eS9⟩ : ∃ z, z = wI S6 p0 2 ((qI S6 p0 2) + (1 : Int32)) := ⟨_, rfl⟩
    rw [← eS9] at hR
    replace h := h S9 eS9 hTk9 hR.w
    have hT_p0 : qT S9 p0 = 47 := (congrArg (fun z => qT z p0) eS9).trans hT_p0
    have hsh : shy S S9 := by rw [eS9]; exact hsh
    exact W.vret hx hb hr (fun t9 ht9 hW9 => ⟨⟨S9, rfl, ⟨h, hR.w, hsh⟩, ⟨by rw [ht9]; exact hR.P, hR.D⟩⟩, hR.sS.F ht9⟩) hR.sS.2.2 dX8_add_32
def wX8_addToTable (S : MS) (p0 : Nat) (x1 : Int32) (Q : MS → Prop) : Prop := ((qR S p0 3 = some (qO S p0 3)) ∧ (((qN S (qO S p0 3) : Int) ≤ (qI S p0 4).toInt → Q S) ∧ (¬ (qN S (qO S p0 3) : Int) ≤ (qI S p0 4).toInt → ((qR S p0 3 = some (qO S p0 3)) ∧ (((0 : Int) ≤ (qI S p0 4).toInt ∧ (qI S p0 4).toInt < (qN S (qO S p0 3) : Int)) ∧ (∀ S8, S8 = wI S (qO S p0 3) (((qI S p0 4).toInt).toNat) x1 → qT S (qO S p0 3) = 223 → wfC S8 → (∀ S10, S10 = wI S8 p0 4 ((qI S8 p0 4) + (1 : Int32)) → qT S8 p0 = 47 → wfC S10 → Q S10)))))))
set_option maxHeartbeats 2000000 in
set_option maxRecDepth 100000 in
theorem rX8_addToTable (l : Launch) (g : Gr) (ad : Nat → Nat) (sz : Nat) (S : MS) (p0 : Nat) (x1 : Int32) (hw : wfC S) (hT_p0 : qT S p0 = 47) (Q : MS → Prop) (h : wX8_addToTable S p0 x1 Q) : Met l yX8_addToTable (wt yX8_addToTable cX8_addToTable 2 none) ({ frames := 0, cells := 0, slots := 0, locals := 0 }) (va_Pc [.ref (ad p0), .int x1] (st_C g ad sz S)) (va_Qv (fun (u : MS) => Q u ∧ wfC u ∧ shy S u) (fun (u : MS) (t : State) => qEC g ad (va_A (WdC g ad S) sz) u t) (va_A (WdC g ad S) sz)) 0 0 (va_A (WdC g ad S) sz) := by
  refine Met.ofW (cc := cX8_addToTable) (maxL := 2) (ret := none) (by decide) rfl ?_
  intro p e s m args below meth c s₁ B hml hv
  obtain ⟨rfl, hsz, hP, hK, hD0, hex, hE⟩ := hv
  have hx := B.exec
  have hb := B.bytes
  have hr := B.returns
  have hts0 := atoms_spec (ws := wt yX8_addToTable cX8_addToTable 2 none) B.pre
  have hts : ∀ w ∈ tb, w.before _ s = true := fun w h => hts0 w (List.mem_cons_of_mem _ h)
  have hown : s.vm.findClass RX8 = some m.cls := findClass_of_methodNamed B.named
  subst hsz
  have hD := hD0.self (sz := s.heap.size)
  generalize hAe : va_A (WdC g ad S) s.heap.size = A at hD hE ⊢
  have hA : ∀ q : Nat, s.heap.size ≤ q → A q := fun q h => by rw [← hAe]; exact Or.inr h
  have hR : RepC g ad A s S s.heap [] := ⟨hK, hP, hD, va_S.rf, hw⟩
  clear hK hP hD hD0
  have hl := lv_entry ([.ref (ad p0), .int x1]) (n := 2) (Nat.le_of_ble_eq_true rfl)
  rw [lg_entry_eq]
  generalize (lg_sl ([.ref (ad p0), .int x1]) ++ List.replicate (2 - (lg_sl ([.ref (ad p0), .int x1])).length) Slot.unset).toArray = ls at hl ⊢
  have hl : lv_has ls 2 [(0, .ref (ad p0)), (1, .int x1)] := hl
  have hsh : shy S S := shy.rf
  unfold wX8_addToTable at h
  refine lv_aload_n hx hb dX8_addToTable_0 rfl (lv_at hl 0 rfl) ?_
  refine va_get (D := rD g) (ci := 7) (v := .int (qI S p0 4)) (C := RX8) (T := TX8) (N := 15) hx hb hts inX8 hown hR.K hR.P p0 (hR.at47 hT_p0) rfl 4 (by decide) (hts _ kw_1473) (fun _ h9 => h9) rfl dX8_addToTable_1 ?_
  refine lv_aload_n hx hb dX8_addToTable_4 rfl (lv_at hl 0 rfl) ?_
  obtain ⟨hv2, h⟩ := h
  have hT_b1 : qT S (qO S p0 3) = 223 := hR.w.ref hv2 hT_p0
  refine va_get (D := rD g) (ci := 7) (v := .ref (ad (qO S p0 3))) (C := RX8) (T := TX8) (N := 15) hx hb hts inX8 hown hR.K hR.P p0 (hR.at47 hT_p0) rfl 3 (by decide) (hts _ kw_1474) (fun _ h9 => h9) (congrArg (fun z => some (vf ad z)) hv2) dX8_addToTable_5 ?_
  refine va_alen (v := (Int32.ofNat (qN S (qO S p0 3)))) hx hb hR.K hR.P (qO S p0 3) 1 (hR.atI hT_b1 (by decide)) rfl rfl dX8_addToTable_8 ?_
  have hln3 : (Int32.ofNat (qN S (qO S p0 3))).toInt = (qN S (qO S p0 3) : Int) := toI_len (hR.w.len9 (hT_b1) (by decide))
  refine lv_icmp_ge (tgt := 32) hx hb dX8_addToTable_9 (by decide) (fun c4 => ?_) (fun c4 => ?_)
  · replace h := h.1 (k_le hln3 rfl c4)
    exact W.vret hx hb hr (fun t9 ht9 hW9 => ⟨⟨S, rfl, ⟨h, hR.w, hsh⟩, ⟨by rw [ht9]; exact hR.P, hR.D⟩⟩, hR.sS.F ht9⟩) hR.sS.2.2 dX8_addToTable_32
  · replace h := h.2 (k_nle hln3 rfl c4)
    refine lv_aload_n hx hb dX8_addToTable_12 rfl (lv_at hl 0 rfl) ?_
    obtain ⟨hv6, h⟩ := h
    have hT_b5 : qT S (qO S p0 3) = 223 := hR.w.ref hv6 hT_p0
    refine va_get (D := rD g) (ci := 7) (v := .ref (ad (qO S p0 3))) (C := RX8) (T := TX8) (N := 15) hx hb hts inX8 hown hR.K hR.P p0 (hR.at47 hT_p0) rfl 3 (by decide) (hts _ kw_1474) (fun _ h9 => h9) (congrArg (fun z => some (vf ad z)) hv6) dX8_addToTable_13 ?_
    refine lv_aload_n hx hb dX8_addToTable_16 rfl (lv_at hl 0 rfl) ?_
    refine va_get (D := rD g) (ci := 7) (v := .int (qI S p0 4)) (C := RX8) (T := TX8) (N := 15) hx hb hts inX8 hown hR.K hR.P p0 (hR.at47 hT_p0) rfl 4 (by decide) (hts _ kw_1473) (fun _ h9 => h9) rfl dX8_addToTable_17 ?_
    refine lv_iload_n hx hb dX8_addToTable_20 rfl (lv_at hl 1 rfl) ?_
    obtain ⟨hv7, h⟩ := h
    refine va_iast hx hb hR.K hR.P hR.D hR.sS (qO S p0 3) 1 (hR.atI hT_b5 (by decide)) rfl (k_ix (x := (qI S p0 4)) (a := (qI S p0 4).toInt) rfl hv7) dX8_addToTable_21 (fun H locs hP hD hS => ?_)
    have hTk9 : qT S (qO S p0 3) = 223 := hT_b5
    have hR : RepC g ad A s (wI S (qO S p0 3) (((qI S p0 4).toInt).toNat) x1) H locs := hR.aI hT_b5 (by decide) hP hD hS
    obtain ⟨S8, eS8⟩ : ∃ z, z = wI S (qO S p0 3) (((qI S p0 4).toInt).toNat) x1 := ⟨_, rfl⟩
    rw [← eS8] at hR
    replace h := h S8 eS8 hTk9 hR.w
    have hT_p0 : qT S8 p0 = 47 := (congrArg (fun z => qT z p0) eS8).trans hT_p0
    have hsh : shy S S8 := by rw [eS8]; exact hsh
    refine lv_aload_n hx hb dX8_addToTable_22 rfl (lv_at hl 0 rfl) ?_
    refine lv_dup hx hb dX8_addToTable_23 rfl ?_
    refine va_get (D := rD g) (ci := 7) (v := .int (qI S8 p0 4)) (C := RX8) (T := TX8) (N := 15) hx hb hts inX8 hown hR.K hR.P p0 (hR.at47 hT_p0) rfl 4 (by decide) (hts _ kw_1473) (fun _ h9 => h9) rfl dX8_addToTable_24 ?_
    refine lv_iconst (v := 1) hx hb dX8_addToTable_27 (by decide) ?_
    refine lv_iadd hx hb dX8_addToTable_28 ?_
    refine lv_topi (fun z9 ez9 => ?_)
    obtain rfl : z9 = ((qI S8 p0 4) + (1 : Int32)) := ez9
    refine va_put (D := rD g) (ci := 7) (v := .int ((qI S8 p0 4) + (1 : Int32))) (ty := .int) (C := RX8) (T := TX8) (N := 15) hx hb hts inX8 tyX8 tyX8_ok nmX8 hown hR.K hR.P hR.D hR.sS p0 (hR.at47 hT_p0) rfl 4 (by decide) (hts _ kw_1473) (fun _ h9 => h9) rfl (by decide +kernel) rfl rfl (Nat.le_of_ble_eq_true rfl) dX8_addToTable_29 (fun H locs hP hD hS => ?_)
    have hTk9 : qT S8 p0 = 47 := hT_p0
    have hR : RepC g ad A s (wI S8 p0 4 ((qI S8 p0 4) + (1 : Int32))) H locs := hR.pI47 hT_p0 FX8_s4 (fun q9 => absurd q9 (by decide)) hP hD hS
    obtain ⟨S10, eS10⟩ : ∃ z, z = wI S8 p0 4 ((qI S8 p0 4) + (1 : Int32)) := ⟨_, rfl⟩
    rw [← eS10] at hR
    replace h := h S10 eS10 hTk9 hR.w
    have hT_p0 : qT S10 p0 = 47 := (congrArg (fun z => qT z p0) eS10).trans hT_p0
    have hsh : shy S S10 := by rw [eS10]; exact hsh
    exact W.vret hx hb hr (fun t9 ht9 hW9 => ⟨⟨S10, rfl, ⟨h, hR.w, hsh⟩, ⟨by rw [ht9]; exact hR.P, hR.D⟩⟩, hR.sS.F ht9⟩) hR.sS.2.2 dX8_addToTable_32
def wX8_addCatch (S : MS) (p0 : Nat) (x1 : Int32) (x2 : Int32) (x3 : Int32) (x4 : Int32) (Q : MS → Prop) : Prop := ((qR S p0 5 = some (qO S p0 5)) ∧ (((qN S (qO S p0 5) : Int) ≤ (qI S p0 9).toInt → Q S) ∧ (¬ (qN S (qO S p0 5) : Int) ≤ (qI S p0 9).toInt → ((qR S p0 5 = some (qO S p0 5)) ∧ (((0 : Int) ≤ (qI S p0 9).toInt ∧ (qI S p0 9).toInt < (qN S (qO S p0 5) : Int)) ∧ (∀ S8, S8 = wI S (qO S p0 5) (((qI S p0 9).toInt).toNat) x1 → qT S (qO S p0 5) = 224 → wfC S8 → ((qR S8 p0 6 = some (qO S8 p0 6)) ∧ (((0 : Int) ≤ (qI S8 p0 9).toInt ∧ (qI S8 p0 9).toInt < (qN S8 (qO S8 p0 6) : Int)) ∧ (∀ S12, S12 = wI S8 (qO S8 p0 6) (((qI S8 p0 9).toInt).toNat) x2 → qT S8 (qO S8 p0 6) = 225 → wfC S12 → ((qR S12 p0 7 = some (qO S12 p0 7)) ∧ (((0 : Int) ≤ (qI S12 p0 9).toInt ∧ (qI S12 p0 9).toInt < (qN S12 (qO S12 p0 7) : Int)) ∧ (∀ S16, S16 = wI S12 (qO S12 p0 7) (((qI S12 p0 9).toInt).toNat) x3 → qT S12 (qO S12 p0 7) = 226 → wfC S16 → ((qR S16 p0 8 = some (qO S16 p0 8)) ∧ (((0 : Int) ≤ (qI S16 p0 9).toInt ∧ (qI S16 p0 9).toInt < (qN S16 (qO S16 p0 8) : Int)) ∧ (∀ S20, S20 = wI S16 (qO S16 p0 8) (((qI S16 p0 9).toInt).toNat) x4 → qT S16 (qO S16 p0 8) = 227 → wfC S20 → (∀ S22, S22 = wI S20 p0 9 ((qI S20 p0 9) + (1 : Int32)) → qT S20 p0 = 47 → wfC S22 → Q S22))))))))))))))))
set_option maxHeartbeats 2000000 in
set_option maxRecDepth 100000 in
theorem rX8_addCatch (l : Launch) (g : Gr) (ad : Nat → Nat) (sz : Nat) (S : MS) (p0 : Nat) (x1 : Int32) (x2 : Int32) (x3 : Int32) (x4 : Int32) (hw : wfC S) (hT_p0 : qT S p0 = 47) (Q : MS → Prop) (h : wX8_addCatch S p0 x1 x2 x3 x4 Q) : Met l yX8_addCatch (wt yX8_addCatch cX8_addCatch 5 none) ({ frames := 0, cells := 0, slots := 0, locals := 0 }) (va_Pc [.ref (ad p0), .int x1, .int x2, .int x3, .int x4] (st_C g ad sz S)) (va_Qv (fun (u : MS) => Q u ∧ wfC u ∧ shy S u) (fun (u : MS) (t : State) => qEC g ad (va_A (WdC g ad S) sz) u t) (va_A (WdC g ad S) sz)) 0 0 (va_A (WdC g ad S) sz) := by
  refine Met.ofW (cc := cX8_addCatch) (maxL := 5) (ret := none) (by decide) rfl ?_
  intro p e s m args below meth c s₁ B hml hv
  obtain ⟨rfl, hsz, hP, hK, hD0, hex, hE⟩ := hv
  have hx := B.exec
  have hb := B.bytes
  have hr := B.returns
  have hts0 := atoms_spec (ws := wt yX8_addCatch cX8_addCatch 5 none) B.pre
  have hts : ∀ w ∈ tb, w.before _ s = true := fun w h => hts0 w (List.mem_cons_of_mem _ h)
  have hown : s.vm.findClass RX8 = some m.cls := findClass_of_methodNamed B.named
  subst hsz
  have hD := hD0.self (sz := s.heap.size)
  generalize hAe : va_A (WdC g ad S) s.heap.size = A at hD hE ⊢
  have hA : ∀ q : Nat, s.heap.size ≤ q → A q := fun q h => by rw [← hAe]; exact Or.inr h
  have hR : RepC g ad A s S s.heap [] := ⟨hK, hP, hD, va_S.rf, hw⟩
  clear hK hP hD hD0
  have hl := lv_entry ([.ref (ad p0), .int x1, .int x2, .int x3, .int x4]) (n := 5) (Nat.le_of_ble_eq_true rfl)
  rw [lg_entry_eq]
  generalize (lg_sl ([.ref (ad p0), .int x1, .int x2, .int x3, .int x4]) ++ List.replicate (5 - (lg_sl ([.ref (ad p0), .int x1, .int x2, .int x3, .int x4])).length) Slot.unset).toArray = ls at hl ⊢
  have hl : lv_has ls 5 [(0, .ref (ad p0)), (1, .int x1), (2, .int x2), (3, .int x3), (4, .int x4)] := hl
  have hsh : shy S S := shy.rf
  unfold wX8_addCatch at h
  refine lv_aload_n hx hb dX8_addCatch_0 rfl (lv_at hl 0 rfl) ?_
  refine va_get (D := rD g) (ci := 7) (v := .int (qI S p0 9)) (C := RX8) (T := TX8) (N := 15) hx hb hts inX8 hown hR.K hR.P p0 (hR.at47 hT_p0) rfl 9 (by decide) (hts _ kw_1465) (fun _ h9 => h9) rfl dX8_addCatch_1 ?_
  refine lv_aload_n hx hb dX8_addCatch_4 rfl (lv_at hl 0 rfl) ?_
  obtain ⟨hv2, h⟩ := h
  have hT_b1 : qT S (qO S p0 5) = 224 := hR.w.ref hv2 hT_p0
  refine va_get (D := rD g) (ci := 7) (v := .ref (ad (qO S p0 5))) (C := RX8) (T := TX8) (N := 15) hx hb hts inX8 hown hR.K hR.P p0 (hR.at47 hT_p0) rfl 5 (by decide) (hts _ kw_1466) (fun _ h9 => h9) (congrArg (fun z => some (vf ad z)) hv2) dX8_addCatch_5 ?_
  refine va_alen (v := (Int32.ofNat (qN S (qO S p0 5)))) hx hb hR.K hR.P (qO S p0 5) 1 (hR.atI hT_b1 (by decide)) rfl rfl dX8_addCatch_8 ?_
  have hln3 : (Int32.ofNat (qN S (qO S p0 5))).toInt = (qN S (qO S p0 5) : Int) := toI_len (hR.w.len9 (hT_b1) (by decide))
  refine lv_icmp_ge (tgt := 63) hx hb dX8_addCatch_9 (by decide) (fun c4 => ?_) (fun c4 => ?_)
  · replace h := h.1 (k_le hln3 rfl c4)
    exact W.vret hx hb hr (fun t9 ht9 hW9 => ⟨⟨S, rfl, ⟨h, hR.w, hsh⟩, ⟨by rw [ht9]; exact hR.P, hR.D⟩⟩, hR.sS.F ht9⟩) hR.sS.2.2 dX8_addCatch_63
  · replace h := h.2 (k_nle hln3 rfl c4)
    refine lv_aload_n hx hb dX8_addCatch_12 rfl (lv_at hl 0 rfl) ?_
    obtain ⟨hv6, h⟩ := h
    have hT_b5 : qT S (qO S p0 5) = 224 := hR.w.ref hv6 hT_p0
    refine va_get (D := rD g) (ci := 7) (v := .ref (ad (qO S p0 5))) (C := RX8) (T := TX8) (N := 15) hx hb hts inX8 hown hR.K hR.P p0 (hR.at47 hT_p0) rfl 5 (by decide) (hts _ kw_1466) (fun _ h9 => h9) (congrArg (fun z => some (vf ad z)) hv6) dX8_addCatch_13 ?_
    refine lv_aload_n hx hb dX8_addCatch_16 rfl (lv_at hl 0 rfl) ?_
    refine va_get (D := rD g) (ci := 7) (v := .int (qI S p0 9)) (C := RX8) (T := TX8) (N := 15) hx hb hts inX8 hown hR.K hR.P p0 (hR.at47 hT_p0) rfl 9 (by decide) (hts _ kw_1465) (fun _ h9 => h9) rfl dX8_addCatch_17 ?_
    refine lv_iload_n hx hb dX8_addCatch_20 rfl (lv_at hl 1 rfl) ?_
    obtain ⟨hv7, h⟩ := h
    refine va_iast hx hb hR.K hR.P hR.D hR.sS (qO S p0 5) 1 (hR.atI hT_b5 (by decide)) rfl (k_ix (x := (qI S p0 9)) (a := (qI S p0 9).toInt) rfl hv7) dX8_addCatch_21 (fun H locs hP hD hS => ?_)
    have hTk9 : qT S (qO S p0 5) = 224 := hT_b5
    have hR : RepC g ad A s (wI S (qO S p0 5) (((qI S p0 9).toInt).toNat) x1) H locs := hR.aI hT_b5 (by decide) hP hD hS
    obtain ⟨S8, eS8⟩ : ∃ z, z = wI S (qO S p0 5) (((qI S p0 9).toInt).toNat) x1 := ⟨_, rfl⟩
    rw [← eS8] at hR
    replace h := h S8 eS8 hTk9 hR.w
    have hT_p0 : qT S8 p0 = 47 := (congrArg (fun z => qT z p0) eS8).trans hT_p0
    have hsh : shy S S8 := by rw [eS8]; exact hsh
    refine lv_aload_n hx hb dX8_addCatch_22 rfl (lv_at hl 0 rfl) ?_
    obtain ⟨hv10, h⟩ := h
    have hT_b9 : qT S8 (qO S8 p0 6) = 225 := hR.w.ref hv10 hT_p0
    refine va_get (D := rD g) (ci := 7) (v := .ref (ad (qO S8 p0 6))) (C := RX8) (T := TX8) (N := 15) hx hb hts inX8 hown hR.K hR.P p0 (hR.at47 hT_p0) rfl 6 (by decide) (hts _ kw_1467) (fun _ h9 => h9) (congrArg (fun z => some (vf ad z)) hv10) dX8_addCatch_23 ?_
    refine lv_aload_n hx hb dX8_addCatch_26 rfl (lv_at hl 0 rfl) ?_
    refine va_get (D := rD g) (ci := 7) (v := .int (qI S8 p0 9)) (C := RX8) (T := TX8) (N := 15) hx hb hts inX8 hown hR.K hR.P p0 (hR.at47 hT_p0) rfl 9 (by decide) (hts _ kw_1465) (fun _ h9 => h9) rfl dX8_addCatch_27 ?_
    refine lv_iload_n hx hb dX8_addCatch_30 rfl (lv_at hl 2 rfl) ?_
    obtain ⟨hv11, h⟩ := h
    refine va_iast hx hb hR.K hR.P hR.D hR.sS (qO S8 p0 6) 1 (hR.atI hT_b9 (by decide)) rfl (k_ix (x := (qI S8 p0 9)) (a := (qI S8 p0 9).toInt) rfl hv11) dX8_addCatch_31 (fun H locs hP hD hS => ?_)
    have hTk9 : qT S8 (qO S8 p0 6) = 225 := hT_b9
    have hR : RepC g ad A s (wI S8 (qO S8 p0 6) (((qI S8 p0 9).toInt).toNat) x2) H locs := hR.aI hT_b9 (by decide) hP hD hS
    obtain ⟨S12, eS12⟩ : ∃ z, z = wI S8 (qO S8 p0 6) (((qI S8 p0 9).toInt).toNat) x2 := ⟨_, rfl⟩
    rw [← eS12] at hR
    replace h := h S12 eS12 hTk9 hR.w
    have hT_p0 : qT S12 p0 = 47 := (congrArg (fun z => qT z p0) eS12).trans hT_p0
    have hsh : shy S S12 := by rw [eS12]; exact hsh
    refine lv_aload_n hx hb dX8_addCatch_32 rfl (lv_at hl 0 rfl) ?_
    obtain ⟨hv14, h⟩ := h
    have hT_b13 : qT S12 (qO S12 p0 7) = 226 := hR.w.ref hv14 hT_p0
    refine va_get (D := rD g) (ci := 7) (v := .ref (ad (qO S12 p0 7))) (C := RX8) (T := TX8) (N := 15) hx hb hts inX8 hown hR.K hR.P p0 (hR.at47 hT_p0) rfl 7 (by decide) (hts _ kw_1468) (fun _ h9 => h9) (congrArg (fun z => some (vf ad z)) hv14) dX8_addCatch_33 ?_
    refine lv_aload_n hx hb dX8_addCatch_36 rfl (lv_at hl 0 rfl) ?_
    refine va_get (D := rD g) (ci := 7) (v := .int (qI S12 p0 9)) (C := RX8) (T := TX8) (N := 15) hx hb hts inX8 hown hR.K hR.P p0 (hR.at47 hT_p0) rfl 9 (by decide) (hts _ kw_1465) (fun _ h9 => h9) rfl dX8_addCatch_37 ?_
    refine lv_iload_n hx hb dX8_addCatch_40 rfl (lv_at hl 3 rfl) ?_
    obtain ⟨hv15, h⟩ := h
    refine va_iast hx hb hR.K hR.P hR.D hR.sS (qO S12 p0 7) 1 (hR.atI hT_b13 (by decide)) rfl (k_ix (x := (qI S12 p0 9)) (a := (qI S12 p0 9).toInt) rfl hv15) dX8_addCatch_41 (fun H locs hP hD hS => ?_)
    have hTk9 : qT S12 (qO S12 p0 7) = 226 := hT_b13
    have hR : RepC g ad A s (wI S12 (qO S12 p0 7) (((qI S12 p0 9).toInt).toNat) x3) H locs := hR.aI hT_b13 (by decide) hP hD hS
    obtain ⟨S16, eS16⟩ : ∃ z, z = wI S12 (qO S12 p0 7) (((qI S12 p0 9).toInt).toNat) x3 := ⟨_, rfl⟩
    rw [← eS16] at hR
    replace h := h S16 eS16 hTk9 hR.w
    have hT_p0 : qT S16 p0 = 47 := (congrArg (fun z => qT z p0) eS16).trans hT_p0
    have hsh : shy S S16 := by rw [eS16]; exact hsh
    refine lv_aload_n hx hb dX8_addCatch_42 rfl (lv_at hl 0 rfl) ?_
    obtain ⟨hv18, h⟩ := h
    have hT_b17 : qT S16 (qO S16 p0 8) = 227 := hR.w.ref hv18 hT_p0
    refine va_get (D := rD g) (ci := 7) (v := .ref (ad (qO S16 p0 8))) (C := RX8) (T := TX8) (N := 15) hx hb hts inX8 hown hR.K hR.P p0 (hR.at47 hT_p0) rfl 8 (by decide) (hts _ kw_1469) (fun _ h9 => h9) (congrArg (fun z => some (vf ad z)) hv18) dX8_addCatch_43 ?_
    refine lv_aload_n hx hb dX8_addCatch_46 rfl (lv_at hl 0 rfl) ?_
    refine va_get (D := rD g) (ci := 7) (v := .int (qI S16 p0 9)) (C := RX8) (T := TX8) (N := 15) hx hb hts inX8 hown hR.K hR.P p0 (hR.at47 hT_p0) rfl 9 (by decide) (hts _ kw_1465) (fun _ h9 => h9) rfl dX8_addCatch_47 ?_
    refine lv_iload hx hb dX8_addCatch_50 (lv_at hl 4 rfl) ?_
    obtain ⟨hv19, h⟩ := h
    refine va_iast hx hb hR.K hR.P hR.D hR.sS (qO S16 p0 8) 1 (hR.atI hT_b17 (by decide)) rfl (k_ix (x := (qI S16 p0 9)) (a := (qI S16 p0 9).toInt) rfl hv19) dX8_addCatch_52 (fun H locs hP hD hS => ?_)
    have hTk9 : qT S16 (qO S16 p0 8) = 227 := hT_b17
    have hR : RepC g ad A s (wI S16 (qO S16 p0 8) (((qI S16 p0 9).toInt).toNat) x4) H locs := hR.aI hT_b17 (by decide) hP hD hS
    obtain ⟨S20, eS20⟩ : ∃ z, z = wI S16 (qO S16 p0 8) (((qI S16 p0 9).toInt).toNat) x4 := ⟨_, rfl⟩
    rw [← eS20] at hR
    replace h := h S20 eS20 hTk9 hR.w
    have hT_p0 : qT S20 p0 = 47 := (congrArg (fun z => qT z p0) eS20).trans hT_p0
    have hsh : shy S S20 := by rw [eS20]; exact hsh
    refine lv_aload_n hx hb dX8_addCatch_53 rfl (lv_at hl 0 rfl) ?_
    refine lv_dup hx hb dX8_addCatch_54 rfl ?_
    refine va_get (D := rD g) (ci := 7) (v := .int (qI S20 p0 9)) (C := RX8) (T := TX8) (N := 15) hx hb hts inX8 hown hR.K hR.P p0 (hR.at47 hT_p0) rfl 9 (by decide) (hts _ kw_1465) (fun _ h9 => h9) rfl dX8_addCatch_55 ?_
    refine lv_iconst (v := 1) hx hb dX8_addCatch_58 (by decide) ?_
    refine lv_iadd hx hb dX8_addCatch_59 ?_
    refine lv_topi (fun z21 ez21 => ?_)
    obtain rfl : z21 = ((qI S20 p0 9) + (1 : Int32)) := ez21
    refine va_put (D := rD g) (ci := 7) (v := .int ((qI S20 p0 9) + (1 : Int32))) (ty := .int) (C := RX8) (T := TX8) (N := 15) hx hb hts inX8 tyX8 tyX8_ok nmX8 hown hR.K hR.P hR.D hR.sS p0 (hR.at47 hT_p0) rfl 9 (by decide) (hts _ kw_1465) (fun _ h9 => h9) rfl (by decide +kernel) rfl rfl (Nat.le_of_ble_eq_true rfl) dX8_addCatch_60 (fun H locs hP hD hS => ?_)
    have hTk9 : qT S20 p0 = 47 := hT_p0
    have hR : RepC g ad A s (wI S20 p0 9 ((qI S20 p0 9) + (1 : Int32))) H locs := hR.pI47 hT_p0 FX8_s9 (fun q9 => absurd q9 (by decide)) hP hD hS
    obtain ⟨S22, eS22⟩ : ∃ z, z = wI S20 p0 9 ((qI S20 p0 9) + (1 : Int32)) := ⟨_, rfl⟩
    rw [← eS22] at hR
    replace h := h S22 eS22 hTk9 hR.w
    have hT_p0 : qT S22 p0 = 47 := (congrArg (fun z => qT z p0) eS22).trans hT_p0
    have hsh : shy S S22 := by rw [eS22]; exact hsh
    exact W.vret hx hb hr (fun t9 ht9 hW9 => ⟨⟨S22, rfl, ⟨h, hR.w, hsh⟩, ⟨by rw [ht9]; exact hR.P, hR.D⟩⟩, hR.sS.F ht9⟩) hR.sS.2.2 dX8_addCatch_63
def fX8_targetCount (S : MS) (p0 : Nat) (x1 : Int32) : Int32 := (if (fX6_isJump S (fX8_opAt S p0 x1)).toInt = 0 then (if (fX6_isSwitch S (fX8_opAt S p0 x1)).toInt = 0 then (0 : Int32) else (fX8_tableAt S p0 ((fX8_argAt S p0 x1).toInt32))) else (1 : Int32))
def d_X8_targetCount (S : MS) (p0 : Nat) (x1 : Int32) : Prop := (d_X8_opAt S p0 x1 ∧ (d_X6_isJump S (fX8_opAt S p0 x1) ∧ (if (fX6_isJump S (fX8_opAt S p0 x1)).toInt = 0 then (d_X6_isSwitch S (fX8_opAt S p0 x1) ∧ (if (fX6_isSwitch S (fX8_opAt S p0 x1)).toInt = 0 then True else (d_X8_argAt S p0 x1 ∧ (d_X8_tableAt S p0 ((fX8_argAt S p0 x1).toInt32) ∧ True)))) else True)))
set_option maxHeartbeats 2000000 in
set_option maxRecDepth 100000 in
theorem rX8_targetCount (l : Launch) (g : Gr) (ad : Nat → Nat) (sz : Nat) (S : MS) (p0 : Nat) (x1 : Int32) (hw : wfC S) (hT_p0 : qT S p0 = 47) (hd : d_X8_targetCount S p0 x1) : Met l yX8_targetCount (wt yX8_targetCount cX8_targetCount 3 (some .int)) ({ frames := 1, cells := 0, slots := 0, locals := 21 }) (va_Pc [.ref (ad p0), .int x1] (st_C g ad sz S)) (va_Qi (fun (r : Int32) (_ : Unit) => r = fX8_targetCount S p0 x1) (fun (_ : Unit) (t : State) => qEC g ad (va_A (WdC g ad S) sz) S t) (va_A (WdC g ad S) sz)) 0 0 (va_A (WdC g ad S) sz) := by
  refine Met.ofW (cc := cX8_targetCount) (maxL := 3) (ret := (some .int)) (by decide) rfl ?_
  intro p e s m args below meth c s₁ B hml hv
  obtain ⟨rfl, hsz, hP, hK, hD0, hex, hE⟩ := hv
  have hx := B.exec
  have hb := B.bytes
  have hr := B.returns
  have hts0 := atoms_spec (ws := wt yX8_targetCount cX8_targetCount 3 (some .int)) B.pre
  have hts : ∀ w ∈ tb, w.before _ s = true := fun w h => hts0 w (List.mem_cons_of_mem _ h)
  have hown : s.vm.findClass RX8 = some m.cls := findClass_of_methodNamed B.named
  subst hsz
  have hD := hD0.self (sz := s.heap.size)
  generalize hAe : va_A (WdC g ad S) s.heap.size = A at hD hE ⊢
  have hA : ∀ q : Nat, s.heap.size ≤ q → A q := fun q h => by rw [← hAe]; exact Or.inr h
  have hR : RepC g ad A s S s.heap [] := ⟨hK, hP, hD, va_S.rf, hw⟩
  clear hK hP hD hD0
  have hl := lv_entry ([.ref (ad p0), .int x1]) (n := 3) (Nat.le_of_ble_eq_true rfl)
  rw [lg_entry_eq]
  generalize (lg_sl ([.ref (ad p0), .int x1]) ++ List.replicate (3 - (lg_sl ([.ref (ad p0), .int x1])).length) Slot.unset).toArray = ls at hl ⊢
  have hl : lv_has ls 3 [(0, .ref (ad p0)), (1, .int x1)] := hl
  obtain ⟨r0, hf⟩ : ∃ r0, fX8_targetCount S p0 x1 = r0 := ⟨_, rfl⟩
  have hf0 := hf
  unfold fX8_targetCount at hf
  unfold d_X8_targetCount at hd
  refine lv_aload_n hx hb dX8_targetCount_0 rfl (lv_at hl 0 rfl) ?_
  refine lv_iload_n hx hb dX8_targetCount_1 rfl (lv_at hl 1 rfl) ?_
  obtain ⟨hv1, hd⟩ := hd
  have hFc := cfree hR hA
  refine va_calli (va_runV (As := [.int x1]) (rest := []) ⟨hx, hb, hml, hown, hts⟩ (rX8_opAt l g ad s.heap.size S p0 x1 hR.w hT_p0 hv1) (cwV 1 hts (gd_V kw_1528 kw_1513 kw_1514 kw_782 kw_1512) rfl rfl rfl (by decide +kernel) ⟨Nat.le_of_ble_eq_true rfl, Nat.le_of_ble_eq_true rfl⟩) ⟨cblind, va_recv hR.K hR.P (ci := 7) (q0 := p0) rfl (hR.at47 hT_p0), fun U hU hW9 => cmk hU hW9 hR hex hE hFc⟩ rfl rfl hl.1 rfl (lv_room (Nat.le_of_ble_eq_true rfl)) dX8_targetCount_2 ⟨Nat.le_of_ble_eq_true rfl, Nat.le_of_ble_eq_true rfl⟩) hR.sS (fun q _ h => hFc q h) hFc (fun r2 u9 t9 H1 locs ht9 hvm9 hw9 hB9 hz9 hk9 hS => ?_)
  have hR : RepC g ad A s S H1 locs := hR.call ht9 hB9 hR.w hS hFc
  obtain rfl : r2 = (fX8_opAt S p0 x1) := hw9
  clear hB9 hz9 hk9 hvm9 ht9 hS
  generalize H1 = H at hR ⊢
  refine lv_istore_n (lv' := [(2, .int (fX8_opAt S p0 x1)), (0, .ref (ad p0)), (1, .int x1)]) hx hb dX8_targetCount_5 rfl hl (by decide) rfl (fun ls hl => ?_)
  refine lv_iload_n hx hb dX8_targetCount_6 rfl (lv_at hl 0 rfl) ?_
  obtain ⟨hv4, hd⟩ := hd
  have hFc := cfree hR hA
  refine va_calli (va_runS (As := [.int (fX8_opAt S p0 x1)]) (rest := []) ⟨hx, hb, hml, hown, hts⟩ (rX6_isJump l g ad H.size S (fX8_opAt S p0 x1) hR.w  hv4) (va_cwS 1 hts (gd_S kw_1529 kw_1225 kw_1207 kw_1224) rfl rfl rfl (by decide +kernel) ⟨Nat.le_of_ble_eq_true rfl, Nat.le_of_ble_eq_true rfl⟩) ⟨cblind, fun U hU hW9 => cmk hU hW9 hR hex hE hFc⟩ rfl rfl hl.1 rfl (lv_room (Nat.le_of_ble_eq_true rfl)) dX8_targetCount_7 ⟨Nat.le_of_ble_eq_true rfl, Nat.le_of_ble_eq_true rfl⟩) hR.sS (fun q _ h => hFc q h) hFc (fun r5 u9 t9 H1 locs ht9 hvm9 hw9 hB9 hz9 hk9 hS => ?_)
  have hR : RepC g ad A s S H1 locs := hR.call ht9 hB9 hR.w hS hFc
  obtain ⟨rfl, hz_r5⟩ := hw9
  clear hB9 hz9 hk9 hvm9 ht9 hS
  generalize H1 = H at hR ⊢
  refine lv_if_eq (tgt := 15) hx hb dX8_targetCount_10 (by decide) (fun c7 => ?_) (fun c7 => ?_)
  · rw [if_pos (k_eq rfl (by decide) c7)] at hf
    (try rw [if_pos (k_eq rfl (by decide) c7)] at hd)
    refine lv_iload_n hx hb dX8_targetCount_15 rfl (lv_at hl 0 rfl) ?_
    obtain ⟨hv8, hd⟩ := hd
    have hFc := cfree hR hA
    refine va_calli (va_runS (As := [.int (fX8_opAt S p0 x1)]) (rest := []) ⟨hx, hb, hml, hown, hts⟩ (rX6_isSwitch l g ad H.size S (fX8_opAt S p0 x1) hR.w  hv8) (va_cwS 1 hts (gd_S kw_1543 kw_1233 kw_1207 kw_1232) rfl rfl rfl (by decide +kernel) ⟨Nat.le_of_ble_eq_true rfl, Nat.le_of_ble_eq_true rfl⟩) ⟨cblind, fun U hU hW9 => cmk hU hW9 hR hex hE hFc⟩ rfl rfl hl.1 rfl (lv_room (Nat.le_of_ble_eq_true rfl)) dX8_targetCount_16 ⟨Nat.le_of_ble_eq_true rfl, Nat.le_of_ble_eq_true rfl⟩) hR.sS (fun q _ h => hFc q h) hFc (fun r9 u9 t9 H1 locs ht9 hvm9 hw9 hB9 hz9 hk9 hS => ?_)
    have hR : RepC g ad A s S H1 locs := hR.call ht9 hB9 hR.w hS hFc
    obtain ⟨rfl, hz_r9⟩ := hw9
    clear hB9 hz9 hk9 hvm9 ht9 hS
    generalize H1 = H at hR ⊢
    refine lv_if_eq (tgt := 35) hx hb dX8_targetCount_19 (by decide) (fun c11 => ?_) (fun c11 => ?_)
    · rw [if_pos (k_eq rfl (by decide) c11)] at hf
      (try rw [if_pos (k_eq rfl (by decide) c11)] at hd)
      refine lv_iconst (v := 0) hx hb dX8_targetCount_35 (by decide) ?_
      exact W.iret (v := 0) hx hb hr (fun t9 ht9 hW9 => ⟨⟨_, (), rfl, hf.trans hf0.symm, ⟨by rw [ht9]; exact hR.P, hR.D⟩⟩, hR.sS.F ht9⟩) hR.sS.2.2 dX8_targetCount_36
    · rw [if_neg (k_ne rfl (by decide) c11)] at hf
      (try rw [if_neg (k_ne rfl (by decide) c11)] at hd)
      refine lv_aload_n hx hb dX8_targetCount_22 rfl (lv_at hl 1 rfl) ?_
      refine lv_aload_n hx hb dX8_targetCount_23 rfl (lv_at hl 1 rfl) ?_
      refine lv_iload_n hx hb dX8_targetCount_24 rfl (lv_at hl 2 rfl) ?_
      obtain ⟨hv12, hd⟩ := hd
      have hFc := cfree hR hA
      refine va_calll (va_runV (As := [.int x1]) (rest := [.ref (ad p0)]) ⟨hx, hb, hml, hown, hts⟩ (rX8_argAt l g ad H.size S p0 x1 hR.w hT_p0 hv12) (cwV 1 hts (gd_V kw_1511 kw_1476 kw_1477 kw_782 kw_1475) rfl rfl rfl (by decide +kernel) ⟨Nat.le_of_ble_eq_true rfl, Nat.le_of_ble_eq_true rfl⟩) ⟨cblind, va_recv hR.K hR.P (ci := 7) (q0 := p0) rfl (hR.at47 hT_p0), fun U hU hW9 => cmk hU hW9 hR hex hE hFc⟩ rfl rfl hl.1 rfl (lv_room (Nat.le_of_ble_eq_true rfl)) dX8_targetCount_25 ⟨Nat.le_of_ble_eq_true rfl, Nat.le_of_ble_eq_true rfl⟩) hR.sS (fun q _ h => hFc q h) hFc (fun r13 u9 t9 H1 locs ht9 hvm9 hw9 hB9 hz9 hk9 hS => ?_)
      have hR : RepC g ad A s S H1 locs := hR.call ht9 hB9 hR.w hS hFc
      obtain rfl : r13 = (fX8_argAt S p0 x1) := hw9
      clear hB9 hz9 hk9 hvm9 ht9 hS
      generalize H1 = H at hR ⊢
      refine lv_l2i (v := ((fX8_argAt S p0 x1).toInt32)) hx hb dX8_targetCount_28 rfl ?_
      obtain ⟨hv15, hd⟩ := hd
      have hFc := cfree hR hA
      refine va_calli (va_runV (As := [.int ((fX8_argAt S p0 x1).toInt32)]) (rest := []) ⟨hx, hb, hml, hown, hts⟩ (rX8_tableAt l g ad H.size S p0 ((fX8_argAt S p0 x1).toInt32) hR.w hT_p0 hv15) (cwV 1 hts (gd_V kw_1539 kw_1534 kw_1535 kw_782 kw_1533) rfl rfl rfl (by decide +kernel) ⟨Nat.le_of_ble_eq_true rfl, Nat.le_of_ble_eq_true rfl⟩) ⟨cblind, va_recv hR.K hR.P (ci := 7) (q0 := p0) rfl (hR.at47 hT_p0), fun U hU hW9 => cmk hU hW9 hR hex hE hFc⟩ rfl rfl hl.1 rfl (lv_room (Nat.le_of_ble_eq_true rfl)) dX8_targetCount_29 ⟨Nat.le_of_ble_eq_true rfl, Nat.le_of_ble_eq_true rfl⟩) hR.sS (fun q _ h => hFc q h) hFc (fun r16 u9 t9 H1 locs ht9 hvm9 hw9 hB9 hz9 hk9 hS => ?_)
      have hR : RepC g ad A s S H1 locs := hR.call ht9 hB9 hR.w hS hFc
      obtain rfl : r16 = (fX8_tableAt S p0 ((fX8_argAt S p0 x1).toInt32)) := hw9
      clear hB9 hz9 hk9 hvm9 ht9 hS
      generalize H1 = H at hR ⊢
      refine lv_goto (tgt := 36) hx hb dX8_targetCount_32 (by decide) ?_
      exact W.iret (v := (fX8_tableAt S p0 ((fX8_argAt S p0 x1).toInt32))) hx hb hr (fun t9 ht9 hW9 => ⟨⟨_, (), rfl, hf.trans hf0.symm, ⟨by rw [ht9]; exact hR.P, hR.D⟩⟩, hR.sS.F ht9⟩) hR.sS.2.2 dX8_targetCount_36
  · rw [if_neg (k_ne rfl (by decide) c7)] at hf
    (try rw [if_neg (k_ne rfl (by decide) c7)] at hd)
    refine lv_iconst (v := 1) hx hb dX8_targetCount_13 (by decide) ?_
    exact W.iret (v := 1) hx hb hr (fun t9 ht9 hW9 => ⟨⟨_, (), rfl, hf.trans hf0.symm, ⟨by rw [ht9]; exact hR.P, hR.D⟩⟩, hR.sS.F ht9⟩) hR.sS.2.2 dX8_targetCount_14
def fX8_targetAt (S : MS) (p0 : Nat) (x1 : Int32) (x2 : Int32) : Int32 := (if (fX6_isJump S (fX8_opAt S p0 x1)).toInt = 0 then (fX8_tableAt S p0 ((((fX8_argAt S p0 x1).toInt32) + (2 : Int32)) + x2)) else ((fX8_argAt S p0 x1).toInt32))
def d_X8_targetAt (S : MS) (p0 : Nat) (x1 : Int32) (x2 : Int32) : Prop := (d_X8_opAt S p0 x1 ∧ (d_X6_isJump S (fX8_opAt S p0 x1) ∧ (if (fX6_isJump S (fX8_opAt S p0 x1)).toInt = 0 then (d_X8_argAt S p0 x1 ∧ (d_X8_tableAt S p0 ((((fX8_argAt S p0 x1).toInt32) + (2 : Int32)) + x2) ∧ True)) else (d_X8_argAt S p0 x1 ∧ True))))
set_option maxHeartbeats 2000000 in
set_option maxRecDepth 100000 in
theorem rX8_targetAt (l : Launch) (g : Gr) (ad : Nat → Nat) (sz : Nat) (S : MS) (p0 : Nat) (x1 : Int32) (x2 : Int32) (hw : wfC S) (hT_p0 : qT S p0 = 47) (hd : d_X8_targetAt S p0 x1 x2) : Met l yX8_targetAt (wt yX8_targetAt cX8_targetAt 3 (some .int)) ({ frames := 1, cells := 0, slots := 0, locals := 21 }) (va_Pc [.ref (ad p0), .int x1, .int x2] (st_C g ad sz S)) (va_Qi (fun (r : Int32) (_ : Unit) => r = fX8_targetAt S p0 x1 x2) (fun (_ : Unit) (t : State) => qEC g ad (va_A (WdC g ad S) sz) S t) (va_A (WdC g ad S) sz)) 0 0 (va_A (WdC g ad S) sz) := by
  refine Met.ofW (cc := cX8_targetAt) (maxL := 3) (ret := (some .int)) (by decide) rfl ?_
  intro p e s m args below meth c s₁ B hml hv
  obtain ⟨rfl, hsz, hP, hK, hD0, hex, hE⟩ := hv
  have hx := B.exec
  have hb := B.bytes
  have hr := B.returns
  have hts0 := atoms_spec (ws := wt yX8_targetAt cX8_targetAt 3 (some .int)) B.pre
  have hts : ∀ w ∈ tb, w.before _ s = true := fun w h => hts0 w (List.mem_cons_of_mem _ h)
  have hown : s.vm.findClass RX8 = some m.cls := findClass_of_methodNamed B.named
  subst hsz
  have hD := hD0.self (sz := s.heap.size)
  generalize hAe : va_A (WdC g ad S) s.heap.size = A at hD hE ⊢
  have hA : ∀ q : Nat, s.heap.size ≤ q → A q := fun q h => by rw [← hAe]; exact Or.inr h
  have hR : RepC g ad A s S s.heap [] := ⟨hK, hP, hD, va_S.rf, hw⟩
  clear hK hP hD hD0
  have hl := lv_entry ([.ref (ad p0), .int x1, .int x2]) (n := 3) (Nat.le_of_ble_eq_true rfl)
  rw [lg_entry_eq]
  generalize (lg_sl ([.ref (ad p0), .int x1, .int x2]) ++ List.replicate (3 - (lg_sl ([.ref (ad p0), .int x1, .int x2])).length) Slot.unset).toArray = ls at hl ⊢
  have hl : lv_has ls 3 [(0, .ref (ad p0)), (1, .int x1), (2, .int x2)] := hl
  obtain ⟨r0, hf⟩ : ∃ r0, fX8_targetAt S p0 x1 x2 = r0 := ⟨_, rfl⟩
  have hf0 := hf
  unfold fX8_targetAt at hf
  unfold d_X8_targetAt at hd
  refine lv_aload_n hx hb dX8_targetAt_0 rfl (lv_at hl 0 rfl) ?_
  refine lv_iload_n hx hb dX8_targetAt_1 rfl (lv_at hl 1 rfl) ?_
  obtain ⟨hv1, hd⟩ := hd
  have hFc := cfree hR hA
  refine va_calli (va_runV (As := [.int x1]) (rest := []) ⟨hx, hb, hml, hown, hts⟩ (rX8_opAt l g ad s.heap.size S p0 x1 hR.w hT_p0 hv1) (cwV 1 hts (gd_V kw_1528 kw_1513 kw_1514 kw_782 kw_1512) rfl rfl rfl (by decide +kernel) ⟨Nat.le_of_ble_eq_true rfl, Nat.le_of_ble_eq_true rfl⟩) ⟨cblind, va_recv hR.K hR.P (ci := 7) (q0 := p0) rfl (hR.at47 hT_p0), fun U hU hW9 => cmk hU hW9 hR hex hE hFc⟩ rfl rfl hl.1 rfl (lv_room (Nat.le_of_ble_eq_true rfl)) dX8_targetAt_2 ⟨Nat.le_of_ble_eq_true rfl, Nat.le_of_ble_eq_true rfl⟩) hR.sS (fun q _ h => hFc q h) hFc (fun r2 u9 t9 H1 locs ht9 hvm9 hw9 hB9 hz9 hk9 hS => ?_)
  have hR : RepC g ad A s S H1 locs := hR.call ht9 hB9 hR.w hS hFc
  obtain rfl : r2 = (fX8_opAt S p0 x1) := hw9
  clear hB9 hz9 hk9 hvm9 ht9 hS
  generalize H1 = H at hR ⊢
  obtain ⟨hv4, hd⟩ := hd
  have hFc := cfree hR hA
  refine va_calli (va_runS (As := [.int (fX8_opAt S p0 x1)]) (rest := []) ⟨hx, hb, hml, hown, hts⟩ (rX6_isJump l g ad H.size S (fX8_opAt S p0 x1) hR.w  hv4) (va_cwS 1 hts (gd_S kw_1529 kw_1225 kw_1207 kw_1224) rfl rfl rfl (by decide +kernel) ⟨Nat.le_of_ble_eq_true rfl, Nat.le_of_ble_eq_true rfl⟩) ⟨cblind, fun U hU hW9 => cmk hU hW9 hR hex hE hFc⟩ rfl rfl hl.1 rfl (lv_room (Nat.le_of_ble_eq_true rfl)) dX8_targetAt_5 ⟨Nat.le_of_ble_eq_true rfl, Nat.le_of_ble_eq_true rfl⟩) hR.sS (fun q _ h => hFc q h) hFc (fun r5 u9 t9 H1 locs ht9 hvm9 hw9 hB9 hz9 hk9 hS => ?_)
  have hR : RepC g ad A s S H1 locs := hR.call ht9 hB9 hR.w hS hFc
  obtain ⟨rfl, hz_r5⟩ := hw9
  clear hB9 hz9 hk9 hvm9 ht9 hS
  generalize H1 = H at hR ⊢
  refine lv_if_eq (tgt := 20) hx hb dX8_targetAt_8 (by decide) (fun c7 => ?_) (fun c7 => ?_)
  · rw [if_pos (k_eq rfl (by decide) c7)] at hf
    (try rw [if_pos (k_eq rfl (by decide) c7)] at hd)
    refine lv_aload_n hx hb dX8_targetAt_20 rfl (lv_at hl 0 rfl) ?_
    refine lv_aload_n hx hb dX8_targetAt_21 rfl (lv_at hl 0 rfl) ?_
    refine lv_iload_n hx hb dX8_targetAt_22 rfl (lv_at hl 1 rfl) ?_
    obtain ⟨hv8, hd⟩ := hd
    have hFc := cfree hR hA
    refine va_calll (va_runV (As := [.int x1]) (rest := [.ref (ad p0)]) ⟨hx, hb, hml, hown, hts⟩ (rX8_argAt l g ad H.size S p0 x1 hR.w hT_p0 hv8) (cwV 1 hts (gd_V kw_1511 kw_1476 kw_1477 kw_782 kw_1475) rfl rfl rfl (by decide +kernel) ⟨Nat.le_of_ble_eq_true rfl, Nat.le_of_ble_eq_true rfl⟩) ⟨cblind, va_recv hR.K hR.P (ci := 7) (q0 := p0) rfl (hR.at47 hT_p0), fun U hU hW9 => cmk hU hW9 hR hex hE hFc⟩ rfl rfl hl.1 rfl (lv_room (Nat.le_of_ble_eq_true rfl)) dX8_targetAt_23 ⟨Nat.le_of_ble_eq_true rfl, Nat.le_of_ble_eq_true rfl⟩) hR.sS (fun q _ h => hFc q h) hFc (fun r9 u9 t9 H1 locs ht9 hvm9 hw9 hB9 hz9 hk9 hS => ?_)
    have hR : RepC g ad A s S H1 locs := hR.call ht9 hB9 hR.w hS hFc
    obtain rfl : r9 = (fX8_argAt S p0 x1) := hw9
    clear hB9 hz9 hk9 hvm9 ht9 hS
    generalize H1 = H at hR ⊢
    refine lv_l2i (v := ((fX8_argAt S p0 x1).toInt32)) hx hb dX8_targetAt_26 rfl ?_
    refine lv_iconst (v := 2) hx hb dX8_targetAt_27 (by decide) ?_
    refine lv_iadd hx hb dX8_targetAt_28 ?_
    refine lv_topi (fun z11 ez11 => ?_)
    obtain rfl : z11 = (((fX8_argAt S p0 x1).toInt32) + (2 : Int32)) := ez11
    refine lv_iload_n hx hb dX8_targetAt_29 rfl (lv_at hl 2 rfl) ?_
    refine lv_iadd hx hb dX8_targetAt_30 ?_
    refine lv_topi (fun z12 ez12 => ?_)
    obtain rfl : z12 = ((((fX8_argAt S p0 x1).toInt32) + (2 : Int32)) + x2) := ez12
    obtain ⟨hv13, hd⟩ := hd
    have hFc := cfree hR hA
    refine va_calli (va_runV (As := [.int ((((fX8_argAt S p0 x1).toInt32) + (2 : Int32)) + x2)]) (rest := []) ⟨hx, hb, hml, hown, hts⟩ (rX8_tableAt l g ad H.size S p0 ((((fX8_argAt S p0 x1).toInt32) + (2 : Int32)) + x2) hR.w hT_p0 hv13) (cwV 1 hts (gd_V kw_1539 kw_1534 kw_1535 kw_782 kw_1533) rfl rfl rfl (by decide +kernel) ⟨Nat.le_of_ble_eq_true rfl, Nat.le_of_ble_eq_true rfl⟩) ⟨cblind, va_recv hR.K hR.P (ci := 7) (q0 := p0) rfl (hR.at47 hT_p0), fun U hU hW9 => cmk hU hW9 hR hex hE hFc⟩ rfl rfl hl.1 rfl (lv_room (Nat.le_of_ble_eq_true rfl)) dX8_targetAt_31 ⟨Nat.le_of_ble_eq_true rfl, Nat.le_of_ble_eq_true rfl⟩) hR.sS (fun q _ h => hFc q h) hFc (fun r14 u9 t9 H1 locs ht9 hvm9 hw9 hB9 hz9 hk9 hS => ?_)
    have hR : RepC g ad A s S H1 locs := hR.call ht9 hB9 hR.w hS hFc
    obtain rfl : r14 = (fX8_tableAt S p0 ((((fX8_argAt S p0 x1).toInt32) + (2 : Int32)) + x2)) := hw9
    clear hB9 hz9 hk9 hvm9 ht9 hS
    generalize H1 = H at hR ⊢
    exact W.iret (v := (fX8_tableAt S p0 ((((fX8_argAt S p0 x1).toInt32) + (2 : Int32)) + x2))) hx hb hr (fun t9 ht9 hW9 => ⟨⟨_, (), rfl, hf.trans hf0.symm, ⟨by rw [ht9]; exact hR.P, hR.D⟩⟩, hR.sS.F ht9⟩) hR.sS.2.2 dX8_targetAt_34
  · rw [if_neg (k_ne rfl (by decide) c7)] at hf
    (try rw [if_neg (k_ne rfl (by decide) c7)] at hd)
    refine lv_aload_n hx hb dX8_targetAt_11 rfl (lv_at hl 0 rfl) ?_
    refine lv_iload_n hx hb dX8_targetAt_12 rfl (lv_at hl 1 rfl) ?_
    obtain ⟨hv16, hd⟩ := hd
    have hFc := cfree hR hA
    refine va_calll (va_runV (As := [.int x1]) (rest := []) ⟨hx, hb, hml, hown, hts⟩ (rX8_argAt l g ad H.size S p0 x1 hR.w hT_p0 hv16) (cwV 1 hts (gd_V kw_1511 kw_1476 kw_1477 kw_782 kw_1475) rfl rfl rfl (by decide +kernel) ⟨Nat.le_of_ble_eq_true rfl, Nat.le_of_ble_eq_true rfl⟩) ⟨cblind, va_recv hR.K hR.P (ci := 7) (q0 := p0) rfl (hR.at47 hT_p0), fun U hU hW9 => cmk hU hW9 hR hex hE hFc⟩ rfl rfl hl.1 rfl (lv_room (Nat.le_of_ble_eq_true rfl)) dX8_targetAt_13 ⟨Nat.le_of_ble_eq_true rfl, Nat.le_of_ble_eq_true rfl⟩) hR.sS (fun q _ h => hFc q h) hFc (fun r17 u9 t9 H1 locs ht9 hvm9 hw9 hB9 hz9 hk9 hS => ?_)
    have hR : RepC g ad A s S H1 locs := hR.call ht9 hB9 hR.w hS hFc
    obtain rfl : r17 = (fX8_argAt S p0 x1) := hw9
    clear hB9 hz9 hk9 hvm9 ht9 hS
    generalize H1 = H at hR ⊢
    refine lv_l2i (v := ((fX8_argAt S p0 x1).toInt32)) hx hb dX8_targetAt_16 rfl ?_
    refine lv_goto (tgt := 34) hx hb dX8_targetAt_17 (by decide) ?_
    exact W.iret (v := ((fX8_argAt S p0 x1).toInt32)) hx hb hr (fun t9 ht9 hW9 => ⟨⟨_, (), rfl, hf.trans hf0.symm, ⟨by rw [ht9]; exact hR.P, hR.D⟩⟩, hR.sS.F ht9⟩) hR.sS.2.2 dX8_targetAt_34
