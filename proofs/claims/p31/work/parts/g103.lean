def w_isSame_L19 (Q : Int32 → MS → Prop) : Nat → MS → Int32 → Int32 → Int32 → Prop
  | 0, _, _, _, _ => False
  | n19 + 1, U19, v19_1, v19_2, v19_3 => (((0 : Int) ≤ v19_1.toInt ∧ v19_1.toInt < 502) ∧ (((qI U19 7 v19_1.toInt.toNat).toInt ≤ v19_3.toInt → Q (1 : Int32) U19) ∧ (¬ (qI U19 7 v19_1.toInt.toNat).toInt ≤ v19_3.toInt → (d_letter U19 v19_1 v19_3 ∧ (d_letter U19 v19_2 v19_3 ∧ (((f_letter U19 v19_1 v19_3).toInt = (f_letter U19 v19_2 v19_3).toInt → (∀ a16 : Int32, a16 = (v19_3 + Int32.ofInt 1) → (w_isSame_L19 Q n19) U19 v19_1 v19_2 a16)) ∧ (¬ (f_letter U19 v19_1 v19_3).toInt = (f_letter U19 v19_2 v19_3).toInt → Q (0 : Int32) U19)))))))
def w_isSame (S : MS) (x1 : Int32) (x2 : Int32) (Q : Int32 → MS → Prop) : Prop := (((0 : Int) ≤ x1.toInt ∧ x1.toInt < 502) ∧ (((0 : Int) ≤ x2.toInt ∧ x2.toInt < 502) ∧ (((qI S 7 x1.toInt.toNat).toInt = (qI S 7 x2.toInt.toNat).toInt → (∃ n, w_isSame_L19 Q n S x1 x2 0)) ∧ (¬ (qI S 7 x1.toInt.toNat).toInt = (qI S 7 x2.toInt.toNat).toInt → Q (0 : Int32) S))))
set_option maxHeartbeats 2000000 in
set_option maxRecDepth 100000 in
theorem r_isSame (l : Launch) (g : Gr) (ad : Nat → Nat) (sz : Nat) (S : MS) (x1 : Int32) (x2 : Int32) (hw : wfM S) (Q : Int32 → MS → Prop) (h : w_isSame S x1 x2 Q) : Met l yX14_isSame (wt2 yX14_isSame cX14_isSame 4 (some .boolean)) ({ frames := 1, cells := 0, slots := 0, locals := 22 }) (va_Pc [.ref (ad 0), .int x1, .int x2] (st_R g ad sz S)) (va_Qi (fun (r : Int32) (u : MS) => Q r u ∧ wfM u ∧ shy S u ∧ (r = 0 ∨ r = 1)) (fun (u : MS) (t : State) => qE g ad (va_A (Wd g ad S) sz) u t) (va_A (Wd g ad S) sz)) 0 0 (va_A (Wd g ad S) sz) := by
  refine Met.ofW (cc := cX14_isSame) (maxL := 4) (ret := (some .boolean)) (by decide) rfl ?_
  intro p e s m args below meth c s₁ B hml hv
  obtain ⟨rfl, hsz, hP, hK, hD0, hex, hE⟩ := hv
  have hx := B.exec
  have hb := B.bytes
  have hr := B.returns
  have hts0 := atoms_spec (ws := wt2 yX14_isSame cX14_isSame 4 (some .boolean)) B.pre
  have hts : ∀ w ∈ tb2, w.before _ s = true := fun w h => hts0 w (List.mem_cons_of_mem _ h)
  have hown : s.vm.findClass RX14 = some m.cls := findClass_of_methodNamed B.named
  subst hsz
  have hD := hD0.self (sz := s.heap.size)
  generalize hAe : va_A (Wd g ad S) s.heap.size = A at hD hE ⊢
  have hA : ∀ q : Nat, s.heap.size ≤ q → A q := fun q h => by rw [← hAe]; exact Or.inr h
  have hR : Rep g ad A s S s.heap [] := ⟨hK, hP, hD, va_S.rf, hw⟩
  clear hK hP hD hD0
  have hl := lv_entry ([.ref (ad 0), .int x1, .int x2]) (n := 4) (Nat.le_of_ble_eq_true rfl)
  rw [lg_entry_eq]
  generalize (lg_sl ([.ref (ad 0), .int x1, .int x2]) ++ List.replicate (4 - (lg_sl ([.ref (ad 0), .int x1, .int x2])).length) Slot.unset).toArray = ls at hl ⊢
  have hl : lv_has ls 4 [(0, .ref (ad 0)), (1, .int x1), (2, .int x2)] := hl
  have hsh : shy S S := shy.rf
  unfold w_isSame at h
  refine lv_aload_n hx hb dX14_isSame_0 rfl (lv_at hl 0 rfl) ?_
  refine va_get (D := rD g) (ci := 13) (v := .ref (ad 7)) (C := RX14) (T := TX14) (N := 143) hx hb hts in2X14 hown hR.K hR.P 0 (hR.at14 hR.w.1) rfl 18 (by decide) (hts _ kx_209) (fun _ h9 => h9) (congrArg (fun z => some (vf ad z)) (hR.w.2.1 _ fin_18).1) dX14_isSame_1 ?_
  refine lv_iload_n hx hb dX14_isSame_4 rfl (lv_at hl 1 rfl) ?_
  obtain ⟨hv1, h⟩ := h
  refine va_iald hx hb hR.K hR.P 7 1 (hR.atI (hR.w.2.1 _ fin_18).2.1) rfl (k_ixN (k_ix (n := 502) (x := x1) (a := x1.toInt) rfl hv1) (hR.w.2.1 _ fin_18).2.2) dX14_isSame_5 ?_
  refine lv_topi (fun z2 ez2 => ?_)
  obtain rfl : z2 = (qI S 7 x1.toInt.toNat) := ez2
  refine lv_aload_n hx hb dX14_isSame_6 rfl (lv_at hl 0 rfl) ?_
  refine va_get (D := rD g) (ci := 13) (v := .ref (ad 7)) (C := RX14) (T := TX14) (N := 143) hx hb hts in2X14 hown hR.K hR.P 0 (hR.at14 hR.w.1) rfl 18 (by decide) (hts _ kx_209) (fun _ h9 => h9) (congrArg (fun z => some (vf ad z)) (hR.w.2.1 _ fin_18).1) dX14_isSame_7 ?_
  refine lv_iload_n hx hb dX14_isSame_10 rfl (lv_at hl 2 rfl) ?_
  obtain ⟨hv3, h⟩ := h
  refine va_iald hx hb hR.K hR.P 7 1 (hR.atI (hR.w.2.1 _ fin_18).2.1) rfl (k_ixN (k_ix (n := 502) (x := x2) (a := x2.toInt) rfl hv3) (hR.w.2.1 _ fin_18).2.2) dX14_isSame_11 ?_
  refine lv_topi (fun z4 ez4 => ?_)
  obtain rfl : z4 = (qI S 7 x2.toInt.toNat) := ez4
  refine lv_icmp_eq (tgt := 17) hx hb dX14_isSame_12 (by decide) (fun c5 => ?_) (fun c5 => ?_)
  · replace h := h.1 (k_eq rfl rfl c5)
    refine lv_iconst (v := 0) hx hb dX14_isSame_17 (by decide) ?_
    refine lv_istore_n (lv' := [(3, .int 0), (0, .ref (ad 0)), (1, .int x1), (2, .int x2)]) hx hb dX14_isSame_18 rfl hl (by decide) rfl (fun ls hl => ?_)
    have J_19 : ∀ (n19 : Nat) (U19 : MS) (v19_1 : Int32) (v19_2 : Int32) (v19_3 : Int32) (H : Heap) (locs : List Loc) (ls : Array Slot), w_isSame_L19 Q n19 U19 v19_1 v19_2 v19_3 → shy S U19 → Rep g ad A s U19 H locs → lv_has ls 4 [(0, .ref (ad 0)), (1, .int v19_1), (2, .int v19_2), (3, .int v19_3)] → W p l e (headSpec (wt2 yX14_isSame cX14_isSame 4 (some .boolean)) ({ frames := 1, cells := 0, slots := 0, locals := 22 })).room s m ([.ref (ad 0), .int x1, .int x2] : List Value).toArray below meth c H locs 0 0 (MQ below (va_Qi (fun (r : Int32) (u : MS) => Q r u ∧ wfM u ∧ shy S u ∧ (r = 0 ∨ r = 1)) (fun (u : MS) (t : State) => qE g ad A u t) A) ([.ref (ad 0), .int x1, .int x2] : List Value).toArray s 0 0 A) (F0 m 19 ls []) := by
      intro n19
      induction n19 with
      | zero => intro U19 v19_1 v19_2 v19_3 H locs ls h hsh hR hl; unfold w_isSame_L19 at h; exact h.elim
      | succ n19 ih_19 =>
        intro U19 v19_1 v19_2 v19_3 H locs ls h hsh hR hl
        unfold w_isSame_L19 at h
        refine lv_iload_n hx hb dX14_isSame_19 rfl (lv_at hl 3 rfl) ?_
        refine lv_aload_n hx hb dX14_isSame_20 rfl (lv_at hl 0 rfl) ?_
        refine va_get (D := rD g) (ci := 13) (v := .ref (ad 7)) (C := RX14) (T := TX14) (N := 143) hx hb hts in2X14 hown hR.K hR.P 0 (hR.at14 hR.w.1) rfl 18 (by decide) (hts _ kx_209) (fun _ h9 => h9) (congrArg (fun z => some (vf ad z)) (hR.w.2.1 _ fin_18).1) dX14_isSame_21 ?_
        refine lv_iload_n hx hb dX14_isSame_24 rfl (lv_at hl 1 rfl) ?_
        obtain ⟨hv6, h⟩ := h
        refine va_iald hx hb hR.K hR.P 7 1 (hR.atI (hR.w.2.1 _ fin_18).2.1) rfl (k_ixN (k_ix (n := 502) (x := v19_1) (a := v19_1.toInt) rfl hv6) (hR.w.2.1 _ fin_18).2.2) dX14_isSame_25 ?_
        refine lv_topi (fun z7 ez7 => ?_)
        obtain rfl : z7 = (qI U19 7 v19_1.toInt.toNat) := ez7
        refine lv_icmp_ge (tgt := 52) hx hb dX14_isSame_26 (by decide) (fun c8 => ?_) (fun c8 => ?_)
        · replace h := h.1 (k_le rfl rfl c8)
          refine lv_iconst (v := 1) hx hb dX14_isSame_52 (by decide) ?_
          exact W.zret (v := 1) hx hb hr (nz (Or.inr rfl)) (fun t9 ht9 hW9 => ⟨⟨_, U19, rfl, ⟨h, hR.w, hsh, (Or.inr rfl)⟩, ⟨by rw [ht9]; exact hR.P, hR.D⟩⟩, hR.sS.F ht9⟩) hR.sS.2.2 dX14_isSame_53
        · replace h := h.2 (k_nle rfl rfl c8)
          refine lv_aload_n hx hb dX14_isSame_29 rfl (lv_at hl 0 rfl) ?_
          refine lv_iload_n hx hb dX14_isSame_30 rfl (lv_at hl 1 rfl) ?_
          refine lv_iload_n hx hb dX14_isSame_31 rfl (lv_at hl 3 rfl) ?_
          obtain ⟨hv9, h⟩ := h
          have hFc := rfree hR hA
          refine va_calli (va_runV (As := [.int v19_1, .int v19_3]) (rest := []) ⟨hx, hb, hml, hown, hts⟩ (r_letter l g ad H.size U19 v19_1 v19_3 hR.w  hv9) (cwV 2 hts (gd2_V kx_227 kx_228 kx_229 kx_177 kx_230) rfl rfl rfl (by decide +kernel) ⟨Nat.le_of_ble_eq_true rfl, Nat.le_of_ble_eq_true rfl⟩) ⟨rblind, va_recv hR.K hR.P (ci := 13) (q0 := 0) rfl (hR.at14 hR.w.1), fun U hU hW9 => rmk hU hW9 hR hex hE hFc⟩ rfl rfl hl.1 rfl (lv_room (Nat.le_of_ble_eq_true rfl)) dX14_isSame_32 ⟨Nat.le_of_ble_eq_true rfl, Nat.le_of_ble_eq_true rfl⟩) hR.sS (fun q _ h => hFc q h) hFc (fun r10 u9 t9 H1 locs ht9 hvm9 hw9 hB9 hz9 hk9 hS => ?_)
          have hR : Rep g ad A s U19 H1 locs := hR.call ht9 hB9 hR.w hS hFc
          obtain rfl : r10 = (f_letter U19 v19_1 v19_3) := hw9
          clear hB9 hz9 hk9 hvm9 ht9 hS
          generalize H1 = H at hR ⊢
          refine lv_aload_n hx hb dX14_isSame_35 rfl (lv_at hl 0 rfl) ?_
          refine lv_iload_n hx hb dX14_isSame_36 rfl (lv_at hl 2 rfl) ?_
          refine lv_iload_n hx hb dX14_isSame_37 rfl (lv_at hl 3 rfl) ?_
          obtain ⟨hv12, h⟩ := h
          have hFc := rfree hR hA
          refine va_calli (va_runV (As := [.int v19_2, .int v19_3]) (rest := [.int (f_letter U19 v19_1 v19_3)]) ⟨hx, hb, hml, hown, hts⟩ (r_letter l g ad H.size U19 v19_2 v19_3 hR.w  hv12) (cwV 2 hts (gd2_V kx_227 kx_228 kx_229 kx_177 kx_230) rfl rfl rfl (by decide +kernel) ⟨Nat.le_of_ble_eq_true rfl, Nat.le_of_ble_eq_true rfl⟩) ⟨rblind, va_recv hR.K hR.P (ci := 13) (q0 := 0) rfl (hR.at14 hR.w.1), fun U hU hW9 => rmk hU hW9 hR hex hE hFc⟩ rfl rfl hl.1 rfl (lv_room (Nat.le_of_ble_eq_true rfl)) dX14_isSame_38 ⟨Nat.le_of_ble_eq_true rfl, Nat.le_of_ble_eq_true rfl⟩) hR.sS (fun q _ h => hFc q h) hFc (fun r13 u9 t9 H1 locs ht9 hvm9 hw9 hB9 hz9 hk9 hS => ?_)
          have hR : Rep g ad A s U19 H1 locs := hR.call ht9 hB9 hR.w hS hFc
          obtain rfl : r13 = (f_letter U19 v19_2 v19_3) := hw9
          clear hB9 hz9 hk9 hvm9 ht9 hS
          generalize H1 = H at hR ⊢
          refine lv_icmp_eq (tgt := 46) hx hb dX14_isSame_41 (by decide) (fun c15 => ?_) (fun c15 => ?_)
          · replace h := h.1 (k_eq rfl rfl c15)
            obtain ⟨a16, ea16⟩ : ∃ z, z = (v19_3 + Int32.ofInt 1) := ⟨_, rfl⟩
            replace h := h a16 ea16
            refine lv_iinc (v := a16) (lv' := [(3, .int a16), (0, .ref (ad 0)), (1, .int v19_1), (2, .int v19_2)]) hx hb dX14_isSame_46 hl (k := 3) rfl ea16.symm (by decide) rfl (fun ls hl => ?_)
            refine lv_goto (tgt := 19) hx hb dX14_isSame_49 (by decide) ?_
            exact ih_19 U19 v19_1 v19_2 a16 _ _ ls h  hsh hR (lv_sub hl [1, 2, 3, 0] rfl)
          · replace h := h.2 (k_ne rfl rfl c15)
            refine lv_iconst (v := 0) hx hb dX14_isSame_44 (by decide) ?_
            exact W.zret (v := 0) hx hb hr (nz (Or.inl rfl)) (fun t9 ht9 hW9 => ⟨⟨_, U19, rfl, ⟨h, hR.w, hsh, (Or.inl rfl)⟩, ⟨by rw [ht9]; exact hR.P, hR.D⟩⟩, hR.sS.F ht9⟩) hR.sS.2.2 dX14_isSame_45
    obtain ⟨n9, h⟩ := h
    exact J_19 n9 S x1 x2 0 _ _ ls h  hsh hR (lv_sub hl [1, 2, 3, 0] rfl)
  · replace h := h.2 (k_ne rfl rfl c5)
    refine lv_iconst (v := 0) hx hb dX14_isSame_15 (by decide) ?_
    exact W.zret (v := 0) hx hb hr (nz (Or.inl rfl)) (fun t9 ht9 hW9 => ⟨⟨_, S, rfl, ⟨h, hR.w, hsh, (Or.inl rfl)⟩, ⟨by rw [ht9]; exact hR.P, hR.D⟩⟩, hR.sS.F ht9⟩) hR.sS.2.2 dX14_isSame_16
def w_twice_J71 (Q : MS → Prop) (E : MS → Prop) (k29 : MS → Int32 → Int32 → Prop) (U71 : MS) (t71_0 : Int32) (v71_1 : Int32) (v71_3 : Int32) : Prop := (((0 : Int) ≤ v71_1.toInt ∧ v71_1.toInt < 48) ∧ (∃ Q23 EQ23, w_must U71 t71_0 (11 : Int32) ((qI U71 9 v71_1.toInt.toNat) + (2 : Int32)) Q23 EQ23 ∧ (∀ S24, Q23 S24 → (∀ a26 : Int32, a26 = (v71_3 + Int32.ofInt 1) → k29 S24 v71_1 a26)) ∧ (∀ u9, EQ23 u9 → E u9)))
def w_twice_L29 (Q : MS → Prop) (E : MS → Prop) (k2 : MS → Int32 → Prop) : Nat → MS → Int32 → Int32 → Prop
  | 0, _, _, _ => False
  | n29 + 1, U29, v29_1, v29_3 => ((v29_1.toInt ≤ v29_3.toInt → (∀ a3 : Int32, a3 = (v29_1 + Int32.ofInt 1) → k2 U29 a3)) ∧ (¬ v29_1.toInt ≤ v29_3.toInt → (((0 : Int) ≤ v29_3.toInt ∧ v29_3.toInt < 48) ∧ (d_two U29 ((qI U29 9 v29_3.toInt.toNat) + (2 : Int32)) ∧ (((0 : Int) ≤ v29_1.toInt ∧ v29_1.toInt < 48) ∧ (d_two U29 ((qI U29 9 v29_1.toInt.toNat) + (2 : Int32)) ∧ (∃ Q16, w_isSame U29 (f_two U29 ((qI U29 9 v29_3.toInt.toNat) + (2 : Int32))) (f_two U29 ((qI U29 9 v29_1.toInt.toNat) + (2 : Int32))) Q16 ∧ ∀ r17 S18, Q16 r17 S18 → ((r17.toInt = 0 → w_twice_J71 Q E (w_twice_L29 Q E k2 n29) S18 1 v29_1 v29_3) ∧ (¬ r17.toInt = 0 → w_twice_J71 Q E (w_twice_L29 Q E k2 n29) S18 0 v29_1 v29_3)))))))))
def w_twice_J26 (Q : MS → Prop) (E : MS → Prop) (k2 : MS → Int32 → Prop) (U26 : MS) (t26_0 : Int32) (v26_1 : Int32) : Prop := (∃ n, w_twice_L29 Q E k2 n U26 v26_1 t26_0)
def w_twice_L2 (Q : MS → Prop) (E : MS → Prop) : Nat → MS → Int32 → Prop
  | 0, _, _ => False
  | n2 + 1, U2, v2_1 => (((qI U2 0 21).toInt ≤ v2_1.toInt → Q U2) ∧ (¬ (qI U2 0 21).toInt ≤ v2_1.toInt → (((qI U2 0 22).toInt ≤ v2_1.toInt → w_twice_J26 Q E (w_twice_L2 Q E n2) U2 (qI U2 0 22) v2_1) ∧ (¬ (qI U2 0 22).toInt ≤ v2_1.toInt → w_twice_J26 Q E (w_twice_L2 Q E n2) U2 0 v2_1))))
def w_twice (S : MS) (Q : MS → Prop) (E : MS → Prop) : Prop := (∃ n, w_twice_L2 Q E n S 0)
set_option maxHeartbeats 2000000 in
set_option maxRecDepth 100000 in
theorem r_twice (l : Launch) (g : Gr) (ad : Nat → Nat) (sz : Nat) (S : MS) (hw : wfM S) (Q : MS → Prop) (E : MS → Prop) (h : w_twice S Q E) : vx_Met l yX14_twice (wt2 yX14_twice cX14_twice 4 none) ({ frames := 2, cells := 0, slots := 0, locals := 45 }) (va_Pc [.ref (ad 0)] (st_R g ad sz S)) (va_Qv (fun (u : MS) => Q u ∧ wfM u ∧ shy S u) (fun (u : MS) (t : State) => qE g ad (va_A (Wd g ad S) sz) u t) (va_A (Wd g ad S) sz)) (vx_X (fun (u : MS) => E u ∧ wfM u ∧ shy S u) (fun (n9 : String) (u : MS) (t : State) => n9 = RJxb5711 ∧ qE g ad (va_A (Wd g ad S) sz) u t) (va_A (Wd g ad S) sz)) 0 0 (va_A (Wd g ad S) sz) := by
  refine vx_ofW (cc := cX14_twice) (maxL := 4) (ret := none) (by decide) rfl ?_
  intro p e s m args below meth c s₁ B hml hnt hv
  obtain ⟨rfl, hsz, hP, hK, hD0, hex, hE⟩ := hv
  have hx := B.exec
  have hb := B.bytes
  have hr := B.returns
  have hlocks := B.notSynchronized
  have hts0 := atoms_spec (ws := wt2 yX14_twice cX14_twice 4 none) B.pre
  have hts : ∀ w ∈ tb2, w.before _ s = true := fun w h => hts0 w (List.mem_cons_of_mem _ h)
  have hown : s.vm.findClass RX14 = some m.cls := findClass_of_methodNamed B.named
  subst hsz
  have hD := hD0.self (sz := s.heap.size)
  generalize hAe : va_A (Wd g ad S) s.heap.size = A at hD hE ⊢
  have hA : ∀ q : Nat, s.heap.size ≤ q → A q := fun q h => by rw [← hAe]; exact Or.inr h
  have hR : Rep g ad A s S s.heap [] := ⟨hK, hP, hD, va_S.rf, hw⟩
  clear hK hP hD hD0
  have hl := lv_entry ([.ref (ad 0)]) (n := 4) (Nat.le_of_ble_eq_true rfl)
  rw [lg_entry_eq]
  generalize (lg_sl ([.ref (ad 0)]) ++ List.replicate (4 - (lg_sl ([.ref (ad 0)])).length) Slot.unset).toArray = ls at hl ⊢
  have hl : lv_has ls 4 [(0, .ref (ad 0))] := hl
  have hsh : shy S S := shy.rf
  unfold w_twice at h
  refine lv_iconst (v := 0) hx hb dX14_twice_0 (by decide) ?_
  refine lv_istore_n (lv' := [(1, .int 0), (0, .ref (ad 0))]) hx hb dX14_twice_1 rfl hl (by decide) rfl (fun ls hl => ?_)
  have J_2 : ∀ (n2 : Nat) (U2 : MS) (v2_1 : Int32) (H : Heap) (locs : List Loc) (ls : Array Slot), w_twice_L2 Q E n2 U2 v2_1 → shy S U2 → Rep g ad A s U2 H locs → lv_has ls 4 [(0, .ref (ad 0)), (1, .int v2_1)] → W p l e (headSpec (wt2 yX14_twice cX14_twice 4 none) ({ frames := 2, cells := 0, slots := 0, locals := 45 })).room s m ([.ref (ad 0)] : List Value).toArray below meth c H locs 0 0 (vx_MQ below (va_Qv (fun (u : MS) => Q u ∧ wfM u ∧ shy S u) (fun (u : MS) (t : State) => qE g ad A u t) A) ((vx_X (fun (u : MS) => E u ∧ wfM u ∧ shy S u) (fun (n9 : String) (u : MS) (t : State) => n9 = RJxb5711 ∧ qE g ad A u t) A)) ([.ref (ad 0)] : List Value).toArray s 0 0 A) (F0 m 2 ls []) := by
    intro n2
    induction n2 with
    | zero => intro U2 v2_1 H locs ls h hsh hR hl; unfold w_twice_L2 at h; exact h.elim
    | succ n2 ih_2 =>
      intro U2 v2_1 H locs ls h hsh hR hl
      unfold w_twice_L2 at h
      refine lv_iload_n hx hb dX14_twice_2 rfl (lv_at hl 1 rfl) ?_
      refine lv_aload_n hx hb dX14_twice_3 rfl (lv_at hl 0 rfl) ?_
      refine va_get (D := rD g) (ci := 13) (v := .int (qI U2 0 21)) (C := RX14) (T := TX14) (N := 143) hx hb hts in2X14 hown hR.K hR.P 0 (hR.at14 hR.w.1) rfl 21 (by decide) (hts _ kx_205) (fun _ h9 => h9) rfl dX14_twice_4 ?_
      refine lv_icmp_ge (tgt := 96) hx hb dX14_twice_7 (by decide) (fun c1 => ?_) (fun c1 => ?_)
      · replace h := h.1 (k_le rfl rfl c1)
        exact vx_ret (W.vret hx hb hr (fun t9 ht9 hW9 => ⟨⟨U2, rfl, ⟨h, hR.w, hsh⟩, ⟨by rw [ht9]; exact hR.P, hR.D⟩⟩, hR.sS.F ht9⟩) hR.sS.2.2 dX14_twice_96)
      · replace h := h.2 (k_nle rfl rfl c1)
        refine lv_iload_n hx hb dX14_twice_10 rfl (lv_at hl 1 rfl) ?_
        refine lv_aload_n hx hb dX14_twice_11 rfl (lv_at hl 0 rfl) ?_
        refine va_get (D := rD g) (ci := 13) (v := .int (qI U2 0 22)) (C := RX14) (T := TX14) (N := 143) hx hb hts in2X14 hown hR.K hR.P 0 (hR.at14 hR.w.1) rfl 22 (by decide) (hts _ kx_239) (fun _ h9 => h9) rfl dX14_twice_12 ?_
        have J_26 : ∀ (U26 : MS) (t26_0 : Int32) (v26_1 : Int32) (H : Heap) (locs : List Loc) (ls : Array Slot), w_twice_J26 Q E (w_twice_L2 Q E n2) U26 t26_0 v26_1 → shy S U26 → Rep g ad A s U26 H locs → lv_has ls 4 [(0, .ref (ad 0)), (1, .int v26_1)] → W p l e (headSpec (wt2 yX14_twice cX14_twice 4 none) ({ frames := 2, cells := 0, slots := 0, locals := 45 })).room s m ([.ref (ad 0)] : List Value).toArray below meth c H locs 0 0 (vx_MQ below (va_Qv (fun (u : MS) => Q u ∧ wfM u ∧ shy S u) (fun (u : MS) (t : State) => qE g ad A u t) A) ((vx_X (fun (u : MS) => E u ∧ wfM u ∧ shy S u) (fun (n9 : String) (u : MS) (t : State) => n9 = RJxb5711 ∧ qE g ad A u t) A)) ([.ref (ad 0)] : List Value).toArray s 0 0 A) (F0 m 26 ls [.int t26_0]) := by
          intro U26 t26_0 v26_1 H locs ls h hsh hR hl
          unfold w_twice_J26 at h
          refine lv_istore_n (lv' := [(2, .int t26_0), (0, .ref (ad 0)), (1, .int v26_1)]) hx hb dX14_twice_26 rfl hl (by decide) rfl (fun ls hl => ?_)
          refine lv_iload_n hx hb dX14_twice_27 rfl (lv_at hl 0 rfl) ?_
          refine lv_istore_n (lv' := [(3, .int t26_0), (2, .int t26_0), (0, .ref (ad 0)), (1, .int v26_1)]) hx hb dX14_twice_28 rfl hl (by decide) rfl (fun ls hl => ?_)
          have J_29 : ∀ (n29 : Nat) (U29 : MS) (v29_1 : Int32) (v29_3 : Int32) (H : Heap) (locs : List Loc) (ls : Array Slot), w_twice_L29 Q E (w_twice_L2 Q E n2) n29 U29 v29_1 v29_3 → shy S U29 → Rep g ad A s U29 H locs → lv_has ls 4 [(0, .ref (ad 0)), (1, .int v29_1), (3, .int v29_3)] → W p l e (headSpec (wt2 yX14_twice cX14_twice 4 none) ({ frames := 2, cells := 0, slots := 0, locals := 45 })).room s m ([.ref (ad 0)] : List Value).toArray below meth c H locs 0 0 (vx_MQ below (va_Qv (fun (u : MS) => Q u ∧ wfM u ∧ shy S u) (fun (u : MS) (t : State) => qE g ad A u t) A) ((vx_X (fun (u : MS) => E u ∧ wfM u ∧ shy S u) (fun (n9 : String) (u : MS) (t : State) => n9 = RJxb5711 ∧ qE g ad A u t) A)) ([.ref (ad 0)] : List Value).toArray s 0 0 A) (F0 m 29 ls []) := by
            intro n29
            induction n29 with
            | zero => intro U29 v29_1 v29_3 H locs ls h hsh hR hl; unfold w_twice_L29 at h; exact h.elim
            | succ n29 ih_29 =>
              intro U29 v29_1 v29_3 H locs ls h hsh hR hl
              unfold w_twice_L29 at h
              refine lv_iload_n hx hb dX14_twice_29 rfl (lv_at hl 2 rfl) ?_
              refine lv_iload_n hx hb dX14_twice_30 rfl (lv_at hl 1 rfl) ?_
              refine lv_icmp_ge (tgt := 90) hx hb dX14_twice_31 (by decide) (fun c2 => ?_) (fun c2 => ?_)
              · replace h := h.1 (k_le rfl rfl c2)
                obtain ⟨a3, ea3⟩ : ∃ z, z = (v29_1 + Int32.ofInt 1) := ⟨_, rfl⟩
                replace h := h a3 ea3
                refine lv_iinc (v := a3) (lv' := [(1, .int a3), (0, .ref (ad 0)), (3, .int v29_3)]) hx hb dX14_twice_90 hl (k := 1) rfl ea3.symm (by decide) rfl (fun ls hl => ?_)
                refine lv_goto (tgt := 2) hx hb dX14_twice_93 (by decide) ?_
                exact ih_2 U29 a3 _ _ ls h  hsh hR (lv_sub hl [1, 0] rfl)
              · replace h := h.2 (k_nle rfl rfl c2)
                refine lv_aload_n hx hb dX14_twice_34 rfl (lv_at hl 0 rfl) ?_
                refine lv_aload_n hx hb dX14_twice_35 rfl (lv_at hl 0 rfl) ?_
                refine lv_aload_n hx hb dX14_twice_36 rfl (lv_at hl 0 rfl) ?_
                refine lv_aload_n hx hb dX14_twice_37 rfl (lv_at hl 0 rfl) ?_
                refine va_get (D := rD g) (ci := 13) (v := .ref (ad 9)) (C := RX14) (T := TX14) (N := 143) hx hb hts in2X14 hown hR.K hR.P 0 (hR.at14 hR.w.1) rfl 24 (by decide) (hts _ kx_210) (fun _ h9 => h9) (congrArg (fun z => some (vf ad z)) (hR.w.2.1 _ fin_24).1) dX14_twice_38 ?_
                refine lv_iload_n hx hb dX14_twice_41 rfl (lv_at hl 2 rfl) ?_
                obtain ⟨hv4, h⟩ := h
                refine va_iald hx hb hR.K hR.P 9 1 (hR.atI (hR.w.2.1 _ fin_24).2.1) rfl (k_ixN (k_ix (n := 48) (x := v29_3) (a := v29_3.toInt) rfl hv4) (hR.w.2.1 _ fin_24).2.2) dX14_twice_42 ?_
                refine lv_topi (fun z5 ez5 => ?_)
                obtain rfl : z5 = (qI U29 9 v29_3.toInt.toNat) := ez5
                refine lv_iconst (v := 2) hx hb dX14_twice_43 (by decide) ?_
                refine lv_iadd hx hb dX14_twice_44 ?_
                refine lv_topi (fun z6 ez6 => ?_)
                obtain rfl : z6 = ((qI U29 9 v29_3.toInt.toNat) + (2 : Int32)) := ez6
                obtain ⟨hv7, h⟩ := h
                have hFc := rfree hR hA
                refine va_calli (va_runV (As := [.int ((qI U29 9 v29_3.toInt.toNat) + (2 : Int32))]) (rest := [.ref (ad 0), .ref (ad 0)]) ⟨hx, hb, hml, hown, hts⟩ (r_two l g ad H.size U29 ((qI U29 9 v29_3.toInt.toNat) + (2 : Int32)) hR.w  hv7) (cwV 1 hts (gd2_V kx_186 kx_187 kx_188 kx_177 kx_189) rfl rfl rfl (by decide +kernel) ⟨Nat.le_of_ble_eq_true rfl, Nat.le_of_ble_eq_true rfl⟩) ⟨rblind, va_recv hR.K hR.P (ci := 13) (q0 := 0) rfl (hR.at14 hR.w.1), fun U hU hW9 => rmk hU hW9 hR hex hE hFc⟩ rfl rfl hl.1 rfl (lv_room (Nat.le_of_ble_eq_true rfl)) dX14_twice_45 ⟨Nat.le_of_ble_eq_true rfl, Nat.le_of_ble_eq_true rfl⟩) hR.sS (fun q _ h => hFc q h) hFc (fun r8 u9 t9 H1 locs ht9 hvm9 hw9 hB9 hz9 hk9 hS => ?_)
                have hR : Rep g ad A s U29 H1 locs := hR.call ht9 hB9 hR.w hS hFc
                obtain rfl : r8 = (f_two U29 ((qI U29 9 v29_3.toInt.toNat) + (2 : Int32))) := hw9
                clear hB9 hz9 hk9 hvm9 ht9 hS
                generalize H1 = H at hR ⊢
                refine lv_aload_n hx hb dX14_twice_48 rfl (lv_at hl 0 rfl) ?_
                refine lv_aload_n hx hb dX14_twice_49 rfl (lv_at hl 0 rfl) ?_
                refine va_get (D := rD g) (ci := 13) (v := .ref (ad 9)) (C := RX14) (T := TX14) (N := 143) hx hb hts in2X14 hown hR.K hR.P 0 (hR.at14 hR.w.1) rfl 24 (by decide) (hts _ kx_210) (fun _ h9 => h9) (congrArg (fun z => some (vf ad z)) (hR.w.2.1 _ fin_24).1) dX14_twice_50 ?_
                refine lv_iload_n hx hb dX14_twice_53 rfl (lv_at hl 1 rfl) ?_
                obtain ⟨hv10, h⟩ := h
                refine va_iald hx hb hR.K hR.P 9 1 (hR.atI (hR.w.2.1 _ fin_24).2.1) rfl (k_ixN (k_ix (n := 48) (x := v29_1) (a := v29_1.toInt) rfl hv10) (hR.w.2.1 _ fin_24).2.2) dX14_twice_54 ?_
                refine lv_topi (fun z11 ez11 => ?_)
                obtain rfl : z11 = (qI U29 9 v29_1.toInt.toNat) := ez11
                refine lv_iconst (v := 2) hx hb dX14_twice_55 (by decide) ?_
                refine lv_iadd hx hb dX14_twice_56 ?_
                refine lv_topi (fun z12 ez12 => ?_)
                obtain rfl : z12 = ((qI U29 9 v29_1.toInt.toNat) + (2 : Int32)) := ez12
                obtain ⟨hv13, h⟩ := h
                have hFc := rfree hR hA
                refine va_calli (va_runV (As := [.int ((qI U29 9 v29_1.toInt.toNat) + (2 : Int32))]) (rest := [.int (f_two U29 ((qI U29 9 v29_3.toInt.toNat) + (2 : Int32))), .ref (ad 0), .ref (ad 0)]) ⟨hx, hb, hml, hown, hts⟩ (r_two l g ad H.size U29 ((qI U29 9 v29_1.toInt.toNat) + (2 : Int32)) hR.w  hv13) (cwV 1 hts (gd2_V kx_186 kx_187 kx_188 kx_177 kx_189) rfl rfl rfl (by decide +kernel) ⟨Nat.le_of_ble_eq_true rfl, Nat.le_of_ble_eq_true rfl⟩) ⟨rblind, va_recv hR.K hR.P (ci := 13) (q0 := 0) rfl (hR.at14 hR.w.1), fun U hU hW9 => rmk hU hW9 hR hex hE hFc⟩ rfl rfl hl.1 rfl (lv_room (Nat.le_of_ble_eq_true rfl)) dX14_twice_57 ⟨Nat.le_of_ble_eq_true rfl, Nat.le_of_ble_eq_true rfl⟩) hR.sS (fun q _ h => hFc q h) hFc (fun r14 u9 t9 H1 locs ht9 hvm9 hw9 hB9 hz9 hk9 hS => ?_)
                have hR : Rep g ad A s U29 H1 locs := hR.call ht9 hB9 hR.w hS hFc
                obtain rfl : r14 = (f_two U29 ((qI U29 9 v29_1.toInt.toNat) + (2 : Int32))) := hw9
                clear hB9 hz9 hk9 hvm9 ht9 hS
                generalize H1 = H at hR ⊢
                obtain ⟨Q16, h0, h⟩ := h
                have hFc := rfree hR hA
                refine va_calli (va_runV (As := [.int (f_two U29 ((qI U29 9 v29_3.toInt.toNat) + (2 : Int32))), .int (f_two U29 ((qI U29 9 v29_1.toInt.toNat) + (2 : Int32)))]) (rest := [.ref (ad 0)]) ⟨hx, hb, hml, hown, hts⟩ (r_isSame l g ad H.size U29 (f_two U29 ((qI U29 9 v29_3.toInt.toNat) + (2 : Int32))) (f_two U29 ((qI U29 9 v29_1.toInt.toNat) + (2 : Int32))) hR.w  Q16 h0) (cwV 2 hts (gd2_V kx_244 kx_245 kx_246 kx_177 kx_247) rfl rfl rfl (by decide +kernel) ⟨Nat.le_of_ble_eq_true rfl, Nat.le_of_ble_eq_true rfl⟩) ⟨rblind, va_recv hR.K hR.P (ci := 13) (q0 := 0) rfl (hR.at14 hR.w.1), fun U hU hW9 => rmk hU hW9 hR hex hE hFc⟩ rfl rfl hl.1 rfl (lv_room (Nat.le_of_ble_eq_true rfl)) dX14_twice_60 ⟨Nat.le_of_ble_eq_true rfl, Nat.le_of_ble_eq_true rfl⟩) hR.sS (fun q _ h => hFc q h) hFc (fun r17 S18 t9 H1 locs ht9 hvm9 hw9 hB9 hz9 hk9 hS => ?_)
                obtain ⟨hq19, hw9, hs9, hz_r17⟩ := hw9
                have hR : Rep g ad A s S18 H1 locs := hR.call ht9 hB9 hw9 hS hFc
                have hsh := hsh.tr hs9
                replace h := h r17 S18 hq19
                clear hB9 hz9 hk9 hvm9 ht9 hw9 hs9 hS
                generalize H1 = H at hR ⊢
                have J_71 : ∀ (U71 : MS) (t71_0 : Int32) (v71_1 : Int32) (v71_3 : Int32) (H : Heap) (locs : List Loc) (ls : Array Slot), w_twice_J71 Q E (w_twice_L29 Q E (w_twice_L2 Q E n2) n29) U71 t71_0 v71_1 v71_3 → (t71_0 = 0 ∨ t71_0 = 1) → shy S U71 → Rep g ad A s U71 H locs → lv_has ls 4 [(0, .ref (ad 0)), (1, .int v71_1), (3, .int v71_3)] → W p l e (headSpec (wt2 yX14_twice cX14_twice 4 none) ({ frames := 2, cells := 0, slots := 0, locals := 45 })).room s m ([.ref (ad 0)] : List Value).toArray below meth c H locs 0 0 (vx_MQ below (va_Qv (fun (u : MS) => Q u ∧ wfM u ∧ shy S u) (fun (u : MS) (t : State) => qE g ad A u t) A) ((vx_X (fun (u : MS) => E u ∧ wfM u ∧ shy S u) (fun (n9 : String) (u : MS) (t : State) => n9 = RJxb5711 ∧ qE g ad A u t) A)) ([.ref (ad 0)] : List Value).toArray s 0 0 A) (F0 m 71 ls [.int t71_0, .ref (ad 0)]) := by
                  intro U71 t71_0 v71_1 v71_3 H locs ls h hz_t71_0 hsh hR hl
                  unfold w_twice_J71 at h
                  refine lv_bipush (v := 11) hx hb dX14_twice_71 (by decide) ?_
                  refine lv_aload_n hx hb dX14_twice_73 rfl (lv_at hl 0 rfl) ?_
                  refine va_get (D := rD g) (ci := 13) (v := .ref (ad 9)) (C := RX14) (T := TX14) (N := 143) hx hb hts in2X14 hown hR.K hR.P 0 (hR.at14 hR.w.1) rfl 24 (by decide) (hts _ kx_210) (fun _ h9 => h9) (congrArg (fun z => some (vf ad z)) (hR.w.2.1 _ fin_24).1) dX14_twice_74 ?_
                  refine lv_iload_n hx hb dX14_twice_77 rfl (lv_at hl 1 rfl) ?_
                  obtain ⟨hv20, h⟩ := h
                  refine va_iald hx hb hR.K hR.P 9 1 (hR.atI (hR.w.2.1 _ fin_24).2.1) rfl (k_ixN (k_ix (n := 48) (x := v71_1) (a := v71_1.toInt) rfl hv20) (hR.w.2.1 _ fin_24).2.2) dX14_twice_78 ?_
                  refine lv_topi (fun z21 ez21 => ?_)
                  obtain rfl : z21 = (qI U71 9 v71_1.toInt.toNat) := ez21
                  refine lv_iconst (v := 2) hx hb dX14_twice_79 (by decide) ?_
                  refine lv_iadd hx hb dX14_twice_80 ?_
                  refine lv_topi (fun z22 ez22 => ?_)
                  obtain rfl : z22 = ((qI U71 9 v71_1.toInt.toNat) + (2 : Int32)) := ez22
                  obtain ⟨Q23, EQ23, h0, h⟩ := h
                  have hFc := rfree hR hA
                  refine vx_callv (vx_runV (As := [.int t71_0, .int 11, .int ((qI U71 9 v71_1.toInt.toNat) + (2 : Int32))]) (rest := []) ⟨hx, hb, hml, hown, hts⟩ (r_must l g ad H.size U71 t71_0 (11 : Int32) ((qI U71 9 v71_1.toInt.toNat) + (2 : Int32)) hR.w hz_t71_0 Q23 EQ23 h0) (cwV 3 hts (gd2_V kx_198 kx_199 kx_200 kx_177 kx_201) rfl rfl rfl (by decide +kernel) ⟨Nat.le_of_ble_eq_true rfl, Nat.le_of_ble_eq_true rfl⟩) ⟨rblind, va_recv hR.K hR.P (ci := 13) (q0 := 0) rfl (hR.at14 hR.w.1), fun U hU hW9 => rmk hU hW9 hR hex hE hFc⟩ rfl rfl hl.1 rfl (lv_room (Nat.le_of_ble_eq_true rfl)) dX14_twice_81 ⟨Nat.le_of_ble_eq_true rfl, Nat.le_of_ble_eq_true rfl⟩) hR.sS (fun q _ h => hFc q h) hFc (fun q _ h => hFc q h) (fun E9 ce9 q9 u9 t9 H1 locs ht9 hvm9 hp9 hB9 hz9 hk9 hS hce9 hcv9 hcl9 => ?_) (fun  S24 t9 H1 locs ht9 hvm9 hw9 hB9 hz9 hk9 hS => ?_)
                  · obtain ⟨hp9, hwx, hsx⟩ := hp9
                    obtain ⟨rfl, hBx⟩ := hB9
                    replace h := h.2 u9 hp9
                    have hR : Rep g ad A s u9 H1 locs := hR.call ht9 hBx hwx hS hFc
                    have hsh := hsh.tr hsx
                    exact vx_out (E := RJxb5711) (q := q9) (fun x h9 => (hnt x h9).elim) hlocks hce9 hcv9 hcl9 (fun t9 ht9 ha9 => ⟨u9, ⟨h, hR.w, hsh⟩, ⟨rfl, by rw [ht9]; exact hR.P, hR.D⟩, hR.sS.F ht9⟩) hR.sS.2.2 (Nat.le_of_ble_eq_true rfl) (Nat.le_of_ble_eq_true rfl)
                  · obtain ⟨hq25, hw9, hs9⟩ := hw9
                    have hR : Rep g ad A s S24 H1 locs := hR.call ht9 hB9 hw9 hS hFc
                    have hsh := hsh.tr hs9
                    replace h := h.1  S24 hq25
                    clear hB9 hz9 hk9 hvm9 ht9 hw9 hs9 hS
                    generalize H1 = H at hR ⊢
                    obtain ⟨a26, ea26⟩ : ∃ z, z = (v71_3 + Int32.ofInt 1) := ⟨_, rfl⟩
                    replace h := h a26 ea26
                    refine lv_iinc (v := a26) (lv' := [(3, .int a26), (0, .ref (ad 0)), (1, .int v71_1)]) hx hb dX14_twice_84 hl (k := 2) rfl ea26.symm (by decide) rfl (fun ls hl => ?_)
                    refine lv_goto (tgt := 29) hx hb dX14_twice_87 (by decide) ?_
                    exact ih_29 S24 v71_1 a26 _ _ ls h  hsh hR (lv_sub hl [1, 2, 0] rfl)
                refine lv_if_ne (tgt := 70) hx hb dX14_twice_63 (by decide) (fun c27 => ?_) (fun c27 => ?_)
                · replace h := h.2 (k_ne rfl (by decide) c27)
                  refine lv_iconst (v := 0) hx hb dX14_twice_70 (by decide) ?_
                  exact J_71 S18 0 v29_1 v29_3 _ _ ls h (Or.inl rfl) hsh hR (lv_sub hl [0, 1, 2] rfl)
                · replace h := h.1 (k_eq rfl (by decide) c27)
                  refine lv_iconst (v := 1) hx hb dX14_twice_66 (by decide) ?_
                  refine lv_goto (tgt := 71) hx hb dX14_twice_67 (by decide) ?_
                  exact J_71 S18 1 v29_1 v29_3 _ _ ls h (Or.inr rfl) hsh hR (lv_sub hl [0, 1, 2] rfl)
          obtain ⟨n9, h⟩ := h
          exact J_29 n9 U26 v26_1 t26_0 _ _ ls h  hsh hR (lv_sub hl [2, 3, 0] rfl)
        refine lv_icmp_ge (tgt := 22) hx hb dX14_twice_15 (by decide) (fun c28 => ?_) (fun c28 => ?_)
        · replace h := h.1 (k_le rfl rfl c28)
          refine lv_aload_n hx hb dX14_twice_22 rfl (lv_at hl 0 rfl) ?_
          refine va_get (D := rD g) (ci := 13) (v := .int (qI U2 0 22)) (C := RX14) (T := TX14) (N := 143) hx hb hts in2X14 hown hR.K hR.P 0 (hR.at14 hR.w.1) rfl 22 (by decide) (hts _ kx_239) (fun _ h9 => h9) rfl dX14_twice_23 ?_
          exact J_26 U2 (qI U2 0 22) v2_1 _ _ ls h  hsh hR (lv_sub hl [0, 1] rfl)
        · replace h := h.2 (k_nle rfl rfl c28)
          refine lv_iconst (v := 0) hx hb dX14_twice_18 (by decide) ?_
          refine lv_goto (tgt := 26) hx hb dX14_twice_19 (by decide) ?_
          exact J_26 U2 0 v2_1 _ _ ls h  hsh hR (lv_sub hl [0, 1] rfl)
  obtain ⟨n9, h⟩ := h
  exact J_2 n9 S 0 _ _ ls h  hsh hR (lv_sub hl [1, 0] rfl)
def w_isText_L17 (Q : Int32 → MS → Prop) : Nat → MS → Int32 → Nat → Int32 → Prop
  | 0, _, _, _, _ => False
  | n17 + 1, U17, v17_1, v17_2, v17_3 => (((Int32.ofNat (qN U17 (v17_2 + 1))).toInt ≤ v17_3.toInt → Q (1 : Int32) U17) ∧ (¬ (Int32.ofNat (qN U17 (v17_2 + 1))).toInt ≤ v17_3.toInt → (d_letter U17 v17_1 v17_3 ∧ (((0 : Int) ≤ v17_3.toInt ∧ v17_3.toInt < (qN U17 (v17_2 + 1) : Int)) ∧ (((f_letter U17 v17_1 v17_3).toInt = (cAt U17 v17_2 v17_3).toInt → (∀ a13 : Int32, a13 = (v17_3 + Int32.ofInt 1) → (w_isText_L17 Q n17) U17 v17_1 v17_2 a13)) ∧ (¬ (f_letter U17 v17_1 v17_3).toInt = (cAt U17 v17_2 v17_3).toInt → Q (0 : Int32) U17))))))
def w_isText (S : MS) (x1 : Int32) (p2 : Nat) (Q : Int32 → MS → Prop) : Prop := (((0 : Int) ≤ x1.toInt ∧ x1.toInt < 502) ∧ (((qI S 7 x1.toInt.toNat).toInt = (Int32.ofNat (qN S (p2 + 1))).toInt → (∃ n, w_isText_L17 Q n S x1 p2 0)) ∧ (¬ (qI S 7 x1.toInt.toNat).toInt = (Int32.ofNat (qN S (p2 + 1))).toInt → Q (0 : Int32) S)))
set_option maxHeartbeats 2000000 in
set_option maxRecDepth 100000 in
theorem r_isText (l : Launch) (g : Gr) (ad : Nat → Nat) (sz : Nat) (S : MS) (x1 : Int32) (p2 : Nat) (hw : wfM S) (hT_p2 : qT S p2 = 12) (Q : Int32 → MS → Prop) (h : w_isText S x1 p2 Q) : Met l yX14_isText (wt2 yX14_isText cX14_isText 4 (some .boolean)) ({ frames := 4, cells := 0, slots := 0, locals := 85 }) (va_Pc [.ref (ad 0), .int x1, .ref (ad p2)] (st_R g ad sz S)) (va_Qi (fun (r : Int32) (u : MS) => Q r u ∧ wfM u ∧ shy S u ∧ (r = 0 ∨ r = 1)) (fun (u : MS) (t : State) => qE g ad (va_A (Wd g ad S) sz) u t) (va_A (Wd g ad S) sz)) 0 0 (va_A (Wd g ad S) sz) := by
  refine Met.ofW (cc := cX14_isText) (maxL := 4) (ret := (some .boolean)) (by decide) rfl ?_
  intro p e s m args below meth c s₁ B hml hv
  obtain ⟨rfl, hsz, hP, hK, hD0, hex, hE⟩ := hv
  have hx := B.exec
  have hb := B.bytes
  have hr := B.returns
  have hts0 := atoms_spec (ws := wt2 yX14_isText cX14_isText 4 (some .boolean)) B.pre
  have hts : ∀ w ∈ tb2, w.before _ s = true := fun w h => hts0 w (List.mem_cons_of_mem _ h)
  have hown : s.vm.findClass RX14 = some m.cls := findClass_of_methodNamed B.named
  subst hsz
  have hD := hD0.self (sz := s.heap.size)
  generalize hAe : va_A (Wd g ad S) s.heap.size = A at hD hE ⊢
  have hA : ∀ q : Nat, s.heap.size ≤ q → A q := fun q h => by rw [← hAe]; exact Or.inr h
  have hR : Rep g ad A s S s.heap [] := ⟨hK, hP, hD, va_S.rf, hw⟩
  clear hK hP hD hD0
  have hl := lv_entry ([.ref (ad 0), .int x1, .ref (ad p2)]) (n := 4) (Nat.le_of_ble_eq_true rfl)
  rw [lg_entry_eq]
  generalize (lg_sl ([.ref (ad 0), .int x1, .ref (ad p2)]) ++ List.replicate (4 - (lg_sl ([.ref (ad 0), .int x1, .ref (ad p2)])).length) Slot.unset).toArray = ls at hl ⊢
  have hl : lv_has ls 4 [(0, .ref (ad 0)), (1, .int x1), (2, .ref (ad p2))] := hl
  have hsh : shy S S := shy.rf
  unfold w_isText at h
  refine lv_aload_n hx hb dX14_isText_0 rfl (lv_at hl 0 rfl) ?_
  refine va_get (D := rD g) (ci := 13) (v := .ref (ad 7)) (C := RX14) (T := TX14) (N := 143) hx hb hts in2X14 hown hR.K hR.P 0 (hR.at14 hR.w.1) rfl 18 (by decide) (hts _ kx_209) (fun _ h9 => h9) (congrArg (fun z => some (vf ad z)) (hR.w.2.1 _ fin_18).1) dX14_isText_1 ?_
  refine lv_iload_n hx hb dX14_isText_4 rfl (lv_at hl 1 rfl) ?_
  obtain ⟨hv1, h⟩ := h
  refine va_iald hx hb hR.K hR.P 7 1 (hR.atI (hR.w.2.1 _ fin_18).2.1) rfl (k_ixN (k_ix (n := 502) (x := x1) (a := x1.toInt) rfl hv1) (hR.w.2.1 _ fin_18).2.2) dX14_isText_5 ?_
  refine lv_topi (fun z2 ez2 => ?_)
  obtain rfl : z2 = (qI S 7 x1.toInt.toNat) := ez2
  refine lv_aload_n hx hb dX14_isText_6 rfl (lv_at hl 2 rfl) ?_
  have hF : ∀ q, Ns s.heap.size q → A q := fun q h => hA q (Nat.le_trans hR.sS.1 h)
  refine va_calli (va_runV (As := []) (rest := [.int (qI S 7 x1.toInt.toNat)]) ⟨hx, hb, hml, hown, hts⟩ (s_length l s.heap.size (ad p2) (ad (p2 + 1)) (qN S (p2 + 1)) (qI S (p2 + 1))) (cwV 0 hts (gd2_V kx_248 kx_143 kx_144 kx_6 kx_145) rfl rfl rfl (by decide +kernel) ⟨Nat.le_of_ble_eq_true rfl, Nat.le_of_ble_eq_true rfl⟩) ⟨tblind (fun A u U H hv h => by exact tx1.moved hv h), (strR hts hR hE hA hT_p2), fun U hU hW9 => ⟨rfl, by rw [hU], str_at hts hR hE hA hT_p2 hU hW9, by rw [hU]; exact ((hE.1.kept hR.sS.2.1).narrow hF).moved hW9.alike⟩⟩ rfl rfl hl.1 rfl (lv_room (Nat.le_of_ble_eq_true rfl)) dX14_isText_7 ⟨Nat.le_of_ble_eq_true rfl, Nat.le_of_ble_eq_true rfl⟩) hR.sS (fun q _ h => hF q h) hF (fun r3 u9 t9 H1 locs ht9 hvm9 hw9 hB9 hz9 hk9 hS => ?_)
  obtain rfl : r3 = (Int32.ofNat (qN S (p2 + 1))) := hw9
  have hR : Rep g ad A s S H1 locs := hR.keep hk9 hS
  clear hz9 hk9 hvm9 ht9 hB9 hF hS
  generalize H1 = H at hR ⊢
  refine lv_icmp_eq (tgt := 15) hx hb dX14_isText_10 (by decide) (fun c4 => ?_) (fun c4 => ?_)
  · replace h := h.1 (k_eq rfl rfl c4)
    refine lv_iconst (v := 0) hx hb dX14_isText_15 (by decide) ?_
    refine lv_istore_n (lv' := [(3, .int 0), (0, .ref (ad 0)), (1, .int x1), (2, .ref (ad p2))]) hx hb dX14_isText_16 rfl hl (by decide) rfl (fun ls hl => ?_)
    have J_17 : ∀ (n17 : Nat) (U17 : MS) (v17_1 : Int32) (v17_2 : Nat) (v17_3 : Int32) (H : Heap) (locs : List Loc) (ls : Array Slot), w_isText_L17 Q n17 U17 v17_1 v17_2 v17_3 → qT U17 v17_2 = 12 → shy S U17 → Rep g ad A s U17 H locs → lv_has ls 4 [(0, .ref (ad 0)), (1, .int v17_1), (2, .ref (ad v17_2)), (3, .int v17_3)] → W p l e (headSpec (wt2 yX14_isText cX14_isText 4 (some .boolean)) ({ frames := 4, cells := 0, slots := 0, locals := 85 })).room s m ([.ref (ad 0), .int x1, .ref (ad p2)] : List Value).toArray below meth c H locs 0 0 (MQ below (va_Qi (fun (r : Int32) (u : MS) => Q r u ∧ wfM u ∧ shy S u ∧ (r = 0 ∨ r = 1)) (fun (u : MS) (t : State) => qE g ad A u t) A) ([.ref (ad 0), .int x1, .ref (ad p2)] : List Value).toArray s 0 0 A) (F0 m 17 ls []) := by
      intro n17
      induction n17 with
      | zero => intro U17 v17_1 v17_2 v17_3 H locs ls h hT_v17_2 hsh hR hl; unfold w_isText_L17 at h; exact h.elim
      | succ n17 ih_17 =>
        intro U17 v17_1 v17_2 v17_3 H locs ls h hT_v17_2 hsh hR hl
        unfold w_isText_L17 at h
        refine lv_iload_n hx hb dX14_isText_17 rfl (lv_at hl 3 rfl) ?_
        refine lv_aload_n hx hb dX14_isText_18 rfl (lv_at hl 2 rfl) ?_
        have hF : ∀ q, Ns H.size q → A q := fun q h => hA q (Nat.le_trans hR.sS.1 h)
        refine va_calli (va_runV (As := []) (rest := [.int v17_3]) ⟨hx, hb, hml, hown, hts⟩ (s_length l H.size (ad v17_2) (ad (v17_2 + 1)) (qN U17 (v17_2 + 1)) (qI U17 (v17_2 + 1))) (cwV 0 hts (gd2_V kx_248 kx_143 kx_144 kx_6 kx_145) rfl rfl rfl (by decide +kernel) ⟨Nat.le_of_ble_eq_true rfl, Nat.le_of_ble_eq_true rfl⟩) ⟨tblind (fun A u U H hv h => by exact tx1.moved hv h), (strR hts hR hE hA hT_v17_2), fun U hU hW9 => ⟨rfl, by rw [hU], str_at hts hR hE hA hT_v17_2 hU hW9, by rw [hU]; exact ((hE.1.kept hR.sS.2.1).narrow hF).moved hW9.alike⟩⟩ rfl rfl hl.1 rfl (lv_room (Nat.le_of_ble_eq_true rfl)) dX14_isText_19 ⟨Nat.le_of_ble_eq_true rfl, Nat.le_of_ble_eq_true rfl⟩) hR.sS (fun q _ h => hF q h) hF (fun r5 u9 t9 H1 locs ht9 hvm9 hw9 hB9 hz9 hk9 hS => ?_)
        obtain rfl : r5 = (Int32.ofNat (qN U17 (v17_2 + 1))) := hw9
        have hR : Rep g ad A s U17 H1 locs := hR.keep hk9 hS
        clear hz9 hk9 hvm9 ht9 hB9 hF hS
        generalize H1 = H at hR ⊢
        refine lv_icmp_ge (tgt := 47) hx hb dX14_isText_22 (by decide) (fun c6 => ?_) (fun c6 => ?_)
        · replace h := h.1 (k_le rfl rfl c6)
          refine lv_iconst (v := 1) hx hb dX14_isText_47 (by decide) ?_
          exact W.zret (v := 1) hx hb hr (nz (Or.inr rfl)) (fun t9 ht9 hW9 => ⟨⟨_, U17, rfl, ⟨h, hR.w, hsh, (Or.inr rfl)⟩, ⟨by rw [ht9]; exact hR.P, hR.D⟩⟩, hR.sS.F ht9⟩) hR.sS.2.2 dX14_isText_48
        · replace h := h.2 (k_nle rfl rfl c6)
          refine lv_aload_n hx hb dX14_isText_25 rfl (lv_at hl 0 rfl) ?_
          refine lv_iload_n hx hb dX14_isText_26 rfl (lv_at hl 1 rfl) ?_
          refine lv_iload_n hx hb dX14_isText_27 rfl (lv_at hl 3 rfl) ?_
          obtain ⟨hv7, h⟩ := h
          have hFc := rfree hR hA
          refine va_calli (va_runV (As := [.int v17_1, .int v17_3]) (rest := []) ⟨hx, hb, hml, hown, hts⟩ (r_letter l g ad H.size U17 v17_1 v17_3 hR.w  hv7) (cwV 2 hts (gd2_V kx_227 kx_228 kx_229 kx_177 kx_230) rfl rfl rfl (by decide +kernel) ⟨Nat.le_of_ble_eq_true rfl, Nat.le_of_ble_eq_true rfl⟩) ⟨rblind, va_recv hR.K hR.P (ci := 13) (q0 := 0) rfl (hR.at14 hR.w.1), fun U hU hW9 => rmk hU hW9 hR hex hE hFc⟩ rfl rfl hl.1 rfl (lv_room (Nat.le_of_ble_eq_true rfl)) dX14_isText_28 ⟨Nat.le_of_ble_eq_true rfl, Nat.le_of_ble_eq_true rfl⟩) hR.sS (fun q _ h => hFc q h) hFc (fun r8 u9 t9 H1 locs ht9 hvm9 hw9 hB9 hz9 hk9 hS => ?_)
          have hR : Rep g ad A s U17 H1 locs := hR.call ht9 hB9 hR.w hS hFc
          obtain rfl : r8 = (f_letter U17 v17_1 v17_3) := hw9
          clear hB9 hz9 hk9 hvm9 ht9 hS
          generalize H1 = H at hR ⊢
          refine lv_aload_n hx hb dX14_isText_31 rfl (lv_at hl 2 rfl) ?_
          refine lv_iload_n hx hb dX14_isText_32 rfl (lv_at hl 3 rfl) ?_
          obtain ⟨hv10, h⟩ := h
          have hF : ∀ q, Ns H.size q → A q := fun q h => hA q (Nat.le_trans hR.sS.1 h)
          refine va_calli (va_runV (As := [.int v17_3]) (rest := [.int (f_letter U17 v17_1 v17_3)]) ⟨hx, hb, hml, hown, hts⟩ (s_charAt l H.size (ad v17_2) (ad (v17_2 + 1)) (qN U17 (v17_2 + 1)) (qI U17 (v17_2 + 1)) v17_3 (hR.w.len hT_v17_2) hv10) (cwV 1 hts (gd2_V kx_249 kx_250 kx_251 kx_6 kx_252) rfl rfl rfl (by decide +kernel) ⟨Nat.le_of_ble_eq_true rfl, Nat.le_of_ble_eq_true rfl⟩) ⟨tblind (fun A u U H hv h => by exact tx1.moved hv h), (strR hts hR hE hA hT_v17_2), fun U hU hW9 => ⟨rfl, by rw [hU], str_at hts hR hE hA hT_v17_2 hU hW9, by rw [hU]; exact ((hE.1.kept hR.sS.2.1).narrow hF).moved hW9.alike⟩⟩ rfl rfl hl.1 rfl (lv_room (Nat.le_of_ble_eq_true rfl)) dX14_isText_33 ⟨Nat.le_of_ble_eq_true rfl, Nat.le_of_ble_eq_true rfl⟩) hR.sS (fun q _ h => hF q h) hF (fun r11 u9 t9 H1 locs ht9 hvm9 hw9 hB9 hz9 hk9 hS => ?_)
          obtain rfl : r11 = (cAt U17 v17_2 v17_3) := hw9
          have hR : Rep g ad A s U17 H1 locs := hR.keep hk9 hS
          clear hz9 hk9 hvm9 ht9 hB9 hF hS
          generalize H1 = H at hR ⊢
          refine lv_icmp_eq (tgt := 41) hx hb dX14_isText_36 (by decide) (fun c12 => ?_) (fun c12 => ?_)
          · replace h := h.1 (k_eq rfl rfl c12)
            obtain ⟨a13, ea13⟩ : ∃ z, z = (v17_3 + Int32.ofInt 1) := ⟨_, rfl⟩
            replace h := h a13 ea13
            refine lv_iinc (v := a13) (lv' := [(3, .int a13), (0, .ref (ad 0)), (1, .int v17_1), (2, .ref (ad v17_2))]) hx hb dX14_isText_41 hl (k := 3) rfl ea13.symm (by decide) rfl (fun ls hl => ?_)
            refine lv_goto (tgt := 17) hx hb dX14_isText_44 (by decide) ?_
            exact ih_17 U17 v17_1 v17_2 a13 _ _ ls h hT_v17_2 hsh hR (lv_sub hl [1, 2, 3, 0] rfl)
          · replace h := h.2 (k_ne rfl rfl c12)
            refine lv_iconst (v := 0) hx hb dX14_isText_39 (by decide) ?_
            exact W.zret (v := 0) hx hb hr (nz (Or.inl rfl)) (fun t9 ht9 hW9 => ⟨⟨_, U17, rfl, ⟨h, hR.w, hsh, (Or.inl rfl)⟩, ⟨by rw [ht9]; exact hR.P, hR.D⟩⟩, hR.sS.F ht9⟩) hR.sS.2.2 dX14_isText_40
    obtain ⟨n9, h⟩ := h
    exact J_17 n9 S x1 p2 0 _ _ ls h hT_p2 hsh hR (lv_sub hl [1, 2, 3, 0] rfl)
  · replace h := h.2 (k_ne rfl rfl c4)
    refine lv_iconst (v := 0) hx hb dX14_isText_13 (by decide) ?_
    exact W.zret (v := 0) hx hb hr (nz (Or.inl rfl)) (fun t9 ht9 hW9 => ⟨⟨_, S, rfl, ⟨h, hR.w, hsh, (Or.inl rfl)⟩, ⟨by rw [ht9]; exact hR.P, hR.D⟩⟩, hR.sS.F ht9⟩) hR.sS.2.2 dX14_isText_14
def w_codeOf_J59 (Q : Int32 → MS → Prop) (k4 : MS → Int32 → Int32 → Int32 → Prop) (U59 : MS) (v59_1 : Int32) (v59_2 : Int32) (v59_3 : Int32) : Prop := (∀ a4 : Int32, a4 = (v59_3 + Int32.ofInt 1) → k4 U59 v59_1 v59_2 a4)
def w_codeOf_L4 (Q : Int32 → MS → Prop) : Nat → MS → Int32 → Int32 → Int32 → Prop
  | 0, _, _, _, _ => False
  | n4 + 1, U4, v4_1, v4_2, v4_3 => (((qI U4 0 25).toInt ≤ v4_3.toInt → Q v4_2 U4) ∧ (¬ (qI U4 0 25).toInt ≤ v4_3.toInt → (((0 : Int) ≤ v4_3.toInt ∧ v4_3.toInt < 3000) ∧ (((qI U4 11 v4_3.toInt.toNat).toInt = v4_1.toInt → (((0 : Int) ≤ v4_3.toInt ∧ v4_3.toInt < 3000) ∧ (d_two U4 (qI U4 10 v4_3.toInt.toNat) ∧ (∃ Q12, w_isText U4 (f_two U4 (qI U4 10 v4_3.toInt.toNat)) 10000000 Q12 ∧ ∀ r13 S14, Q12 r13 S14 → ((r13.toInt = 0 → w_codeOf_J59 Q (w_codeOf_L4 Q n4) S14 v4_1 v4_2 v4_3) ∧ (¬ r13.toInt = 0 → ((v4_2.toInt < 0 → (((0 : Int) ≤ v4_3.toInt ∧ v4_3.toInt < 3000) ∧ (∀ a20 : Int32, a20 = (qI S14 10 v4_3.toInt.toNat) → w_codeOf_J59 Q (w_codeOf_L4 Q n4) S14 v4_1 a20 v4_3))) ∧ (¬ v4_2.toInt < 0 → Q (-2 : Int32) S14)))))))) ∧ (¬ (qI U4 11 v4_3.toInt.toNat).toInt = v4_1.toInt → w_codeOf_J59 Q (w_codeOf_L4 Q n4) U4 v4_1 v4_2 v4_3)))))
def w_codeOf (S : MS) (x1 : Int32) (Q : Int32 → MS → Prop) : Prop := (∃ n, w_codeOf_L4 Q n S x1 (-1) 0)
set_option maxHeartbeats 2000000 in
set_option maxRecDepth 100000 in
theorem r_codeOf (l : Launch) (g : Gr) (ad : Nat → Nat) (sz : Nat) (S : MS) (x1 : Int32) (hw : wfM S) (Q : Int32 → MS → Prop) (h : w_codeOf S x1 Q) : Met l yX14_codeOf (wt2 yX14_codeOf cX14_codeOf 4 (some .int)) ({ frames := 5, cells := 0, slots := 0, locals := 108 }) (va_Pc [.ref (ad 0), .int x1] (st_R g ad sz S)) (va_Qi (fun (r : Int32) (u : MS) => Q r u ∧ wfM u ∧ shy S u) (fun (u : MS) (t : State) => qE g ad (va_A (Wd g ad S) sz) u t) (va_A (Wd g ad S) sz)) 0 0 (va_A (Wd g ad S) sz) := by
  refine Met.ofW (cc := cX14_codeOf) (maxL := 4) (ret := (some .int)) (by decide) rfl ?_
  intro p e s m args below meth c s₁ B hml hv
  obtain ⟨rfl, hsz, hP, hK, hD0, hex, hE⟩ := hv
  have hx := B.exec
  have hb := B.bytes
  have hr := B.returns
  have hts0 := atoms_spec (ws := wt2 yX14_codeOf cX14_codeOf 4 (some .int)) B.pre
  have hts : ∀ w ∈ tb2, w.before _ s = true := fun w h => hts0 w (List.mem_cons_of_mem _ h)
  have hown : s.vm.findClass RX14 = some m.cls := findClass_of_methodNamed B.named
  subst hsz
  have hD := hD0.self (sz := s.heap.size)
  generalize hAe : va_A (Wd g ad S) s.heap.size = A at hD hE ⊢
  have hA : ∀ q : Nat, s.heap.size ≤ q → A q := fun q h => by rw [← hAe]; exact Or.inr h
  have hR : Rep g ad A s S s.heap [] := ⟨hK, hP, hD, va_S.rf, hw⟩
  clear hK hP hD hD0
  have hl := lv_entry ([.ref (ad 0), .int x1]) (n := 4) (Nat.le_of_ble_eq_true rfl)
  rw [lg_entry_eq]
  generalize (lg_sl ([.ref (ad 0), .int x1]) ++ List.replicate (4 - (lg_sl ([.ref (ad 0), .int x1])).length) Slot.unset).toArray = ls at hl ⊢
  have hl : lv_has ls 4 [(0, .ref (ad 0)), (1, .int x1)] := hl
  have hsh : shy S S := shy.rf
  unfold w_codeOf at h
  refine lv_iconst (v := (-1)) hx hb dX14_codeOf_0 (by decide) ?_
  refine lv_istore_n (lv' := [(2, .int (-1)), (0, .ref (ad 0)), (1, .int x1)]) hx hb dX14_codeOf_1 rfl hl (by decide) rfl (fun ls hl => ?_)
  refine lv_iconst (v := 0) hx hb dX14_codeOf_2 (by decide) ?_
  refine lv_istore_n (lv' := [(3, .int 0), (2, .int (-1)), (0, .ref (ad 0)), (1, .int x1)]) hx hb dX14_codeOf_3 rfl hl (by decide) rfl (fun ls hl => ?_)
  have J_4 : ∀ (n4 : Nat) (U4 : MS) (v4_1 : Int32) (v4_2 : Int32) (v4_3 : Int32) (H : Heap) (locs : List Loc) (ls : Array Slot), w_codeOf_L4 Q n4 U4 v4_1 v4_2 v4_3 → shy S U4 → Rep g ad A s U4 H locs → lv_has ls 4 [(0, .ref (ad 0)), (1, .int v4_1), (2, .int v4_2), (3, .int v4_3)] → W p l e (headSpec (wt2 yX14_codeOf cX14_codeOf 4 (some .int)) ({ frames := 5, cells := 0, slots := 0, locals := 108 })).room s m ([.ref (ad 0), .int x1] : List Value).toArray below meth c H locs 0 0 (MQ below (va_Qi (fun (r : Int32) (u : MS) => Q r u ∧ wfM u ∧ shy S u) (fun (u : MS) (t : State) => qE g ad A u t) A) ([.ref (ad 0), .int x1] : List Value).toArray s 0 0 A) (F0 m 4 ls []) := by
    intro n4
    induction n4 with
    | zero => intro U4 v4_1 v4_2 v4_3 H locs ls h hsh hR hl; unfold w_codeOf_L4 at h; exact h.elim
    | succ n4 ih_4 =>
      intro U4 v4_1 v4_2 v4_3 H locs ls h hsh hR hl
      unfold w_codeOf_L4 at h
      refine lv_iload_n hx hb dX14_codeOf_4 rfl (lv_at hl 3 rfl) ?_
      refine lv_aload_n hx hb dX14_codeOf_5 rfl (lv_at hl 0 rfl) ?_
      refine va_get (D := rD g) (ci := 13) (v := .int (qI U4 0 25)) (C := RX14) (T := TX14) (N := 143) hx hb hts in2X14 hown hR.K hR.P 0 (hR.at14 hR.w.1) rfl 25 (by decide) (hts _ kx_206) (fun _ h9 => h9) rfl dX14_codeOf_6 ?_
      refine lv_icmp_ge (tgt := 65) hx hb dX14_codeOf_9 (by decide) (fun c1 => ?_) (fun c1 => ?_)
      · replace h := h.1 (k_le rfl rfl c1)
        refine lv_iload_n hx hb dX14_codeOf_65 rfl (lv_at hl 2 rfl) ?_
        exact W.iret (v := v4_2) hx hb hr (fun t9 ht9 hW9 => ⟨⟨_, U4, rfl, ⟨h, hR.w, hsh⟩, ⟨by rw [ht9]; exact hR.P, hR.D⟩⟩, hR.sS.F ht9⟩) hR.sS.2.2 dX14_codeOf_66
      · replace h := h.2 (k_nle rfl rfl c1)
        refine lv_aload_n hx hb dX14_codeOf_12 rfl (lv_at hl 0 rfl) ?_
        refine va_get (D := rD g) (ci := 13) (v := .ref (ad 11)) (C := RX14) (T := TX14) (N := 143) hx hb hts in2X14 hown hR.K hR.P 0 (hR.at14 hR.w.1) rfl 27 (by decide) (hts _ kx_218) (fun _ h9 => h9) (congrArg (fun z => some (vf ad z)) (hR.w.2.1 _ fin_27).1) dX14_codeOf_13 ?_
        refine lv_iload_n hx hb dX14_codeOf_16 rfl (lv_at hl 3 rfl) ?_
        obtain ⟨hv2, h⟩ := h
        refine va_iald hx hb hR.K hR.P 11 1 (hR.atI (hR.w.2.1 _ fin_27).2.1) rfl (k_ixN (k_ix (n := 3000) (x := v4_3) (a := v4_3.toInt) rfl hv2) (hR.w.2.1 _ fin_27).2.2) dX14_codeOf_17 ?_
        refine lv_topi (fun z3 ez3 => ?_)
        obtain rfl : z3 = (qI U4 11 v4_3.toInt.toNat) := ez3
        refine lv_iload_n hx hb dX14_codeOf_18 rfl (lv_at hl 1 rfl) ?_
        have J_59 : ∀ (U59 : MS) (v59_1 : Int32) (v59_2 : Int32) (v59_3 : Int32) (H : Heap) (locs : List Loc) (ls : Array Slot), w_codeOf_J59 Q (w_codeOf_L4 Q n4) U59 v59_1 v59_2 v59_3 → shy S U59 → Rep g ad A s U59 H locs → lv_has ls 4 [(0, .ref (ad 0)), (1, .int v59_1), (2, .int v59_2), (3, .int v59_3)] → W p l e (headSpec (wt2 yX14_codeOf cX14_codeOf 4 (some .int)) ({ frames := 5, cells := 0, slots := 0, locals := 108 })).room s m ([.ref (ad 0), .int x1] : List Value).toArray below meth c H locs 0 0 (MQ below (va_Qi (fun (r : Int32) (u : MS) => Q r u ∧ wfM u ∧ shy S u) (fun (u : MS) (t : State) => qE g ad A u t) A) ([.ref (ad 0), .int x1] : List Value).toArray s 0 0 A) (F0 m 59 ls []) := by
          intro U59 v59_1 v59_2 v59_3 H locs ls h hsh hR hl
          unfold w_codeOf_J59 at h
          obtain ⟨a4, ea4⟩ : ∃ z, z = (v59_3 + Int32.ofInt 1) := ⟨_, rfl⟩
          replace h := h a4 ea4
          refine lv_iinc (v := a4) (lv' := [(3, .int a4), (0, .ref (ad 0)), (1, .int v59_1), (2, .int v59_2)]) hx hb dX14_codeOf_59 hl (k := 3) rfl ea4.symm (by decide) rfl (fun ls hl => ?_)
          refine lv_goto (tgt := 4) hx hb dX14_codeOf_62 (by decide) ?_
          exact ih_4 U59 v59_1 v59_2 a4 _ _ ls h  hsh hR (lv_sub hl [1, 2, 3, 0] rfl)
        refine lv_icmp_ne (tgt := 59) hx hb dX14_codeOf_19 (by decide) (fun c5 => ?_) (fun c5 => ?_)
        · replace h := h.2 (k_ne rfl rfl c5)
          exact J_59 U4 v4_1 v4_2 v4_3 _ _ ls h  hsh hR (lv_sub hl [0, 1, 2, 3] rfl)
        · replace h := h.1 (k_eq rfl rfl c5)
          refine lv_aload_n hx hb dX14_codeOf_22 rfl (lv_at hl 0 rfl) ?_
          refine lv_aload_n hx hb dX14_codeOf_23 rfl (lv_at hl 0 rfl) ?_
          refine lv_aload_n hx hb dX14_codeOf_24 rfl (lv_at hl 0 rfl) ?_
          refine va_get (D := rD g) (ci := 13) (v := .ref (ad 10)) (C := RX14) (T := TX14) (N := 143) hx hb hts in2X14 hown hR.K hR.P 0 (hR.at14 hR.w.1) rfl 26 (by decide) (hts _ kx_217) (fun _ h9 => h9) (congrArg (fun z => some (vf ad z)) (hR.w.2.1 _ fin_26).1) dX14_codeOf_25 ?_
          refine lv_iload_n hx hb dX14_codeOf_28 rfl (lv_at hl 3 rfl) ?_
          obtain ⟨hv6, h⟩ := h
          refine va_iald hx hb hR.K hR.P 10 1 (hR.atI (hR.w.2.1 _ fin_26).2.1) rfl (k_ixN (k_ix (n := 3000) (x := v4_3) (a := v4_3.toInt) rfl hv6) (hR.w.2.1 _ fin_26).2.2) dX14_codeOf_29 ?_
          refine lv_topi (fun z7 ez7 => ?_)
          obtain rfl : z7 = (qI U4 10 v4_3.toInt.toNat) := ez7
          obtain ⟨hv8, h⟩ := h
          have hFc := rfree hR hA
          refine va_calli (va_runV (As := [.int (qI U4 10 v4_3.toInt.toNat)]) (rest := [.ref (ad 0)]) ⟨hx, hb, hml, hown, hts⟩ (r_two l g ad H.size U4 (qI U4 10 v4_3.toInt.toNat) hR.w  hv8) (cwV 1 hts (gd2_V kx_186 kx_187 kx_188 kx_177 kx_189) rfl rfl rfl (by decide +kernel) ⟨Nat.le_of_ble_eq_true rfl, Nat.le_of_ble_eq_true rfl⟩) ⟨rblind, va_recv hR.K hR.P (ci := 13) (q0 := 0) rfl (hR.at14 hR.w.1), fun U hU hW9 => rmk hU hW9 hR hex hE hFc⟩ rfl rfl hl.1 rfl (lv_room (Nat.le_of_ble_eq_true rfl)) dX14_codeOf_30 ⟨Nat.le_of_ble_eq_true rfl, Nat.le_of_ble_eq_true rfl⟩) hR.sS (fun q _ h => hFc q h) hFc (fun r9 u9 t9 H1 locs ht9 hvm9 hw9 hB9 hz9 hk9 hS => ?_)
          have hR : Rep g ad A s U4 H1 locs := hR.call ht9 hB9 hR.w hS hFc
          obtain rfl : r9 = (f_two U4 (qI U4 10 v4_3.toInt.toNat)) := hw9
          clear hB9 hz9 hk9 hvm9 ht9 hS
          generalize H1 = H at hR ⊢
          have hT_t11 : qT U4 10000000 = 12 := hR.w.txt (i := 0) (by decide)
          refine va_ldcSW (tx := "Code") (q := ad 10000000) hx hb hown (hE.2.2 _ ldc_412) dX14_codeOf_33 ?_
          obtain ⟨Q12, h0, h⟩ := h
          have hFc := rfree hR hA
          refine va_calli (va_runV (As := [.int (f_two U4 (qI U4 10 v4_3.toInt.toNat)), .ref (ad 10000000)]) (rest := []) ⟨hx, hb, hml, hown, hts⟩ (r_isText l g ad H.size U4 (f_two U4 (qI U4 10 v4_3.toInt.toNat)) 10000000 hR.w hT_t11 Q12 h0) (cwV 2 hts (gd2_V kx_253 kx_254 kx_255 kx_177 kx_256) rfl rfl rfl (by decide +kernel) ⟨Nat.le_of_ble_eq_true rfl, Nat.le_of_ble_eq_true rfl⟩) ⟨rblind, va_recv hR.K hR.P (ci := 13) (q0 := 0) rfl (hR.at14 hR.w.1), fun U hU hW9 => rmk hU hW9 hR hex hE hFc⟩ rfl rfl hl.1 rfl (lv_room (Nat.le_of_ble_eq_true rfl)) dX14_codeOf_36 ⟨Nat.le_of_ble_eq_true rfl, Nat.le_of_ble_eq_true rfl⟩) hR.sS (fun q _ h => hFc q h) hFc (fun r13 S14 t9 H1 locs ht9 hvm9 hw9 hB9 hz9 hk9 hS => ?_)
          obtain ⟨hq15, hw9, hs9, hz_r13⟩ := hw9
          have hR : Rep g ad A s S14 H1 locs := hR.call ht9 hB9 hw9 hS hFc
          have hsh := hsh.tr hs9
          replace h := h r13 S14 hq15
          clear hB9 hz9 hk9 hvm9 ht9 hw9 hs9 hS
          generalize H1 = H at hR ⊢
          refine lv_if_ne (tgt := 45) hx hb dX14_codeOf_39 (by decide) (fun c16 => ?_) (fun c16 => ?_)
          · replace h := h.2 (k_ne rfl (by decide) c16)
            refine lv_iload_n hx hb dX14_codeOf_45 rfl (lv_at hl 2 rfl) ?_
            refine lv_if_lt (tgt := 52) hx hb dX14_codeOf_46 (by decide) (fun c17 => ?_) (fun c17 => ?_)
            · replace h := h.1 (k_lt rfl (by decide) c17)
              refine lv_aload_n hx hb dX14_codeOf_52 rfl (lv_at hl 0 rfl) ?_
              refine va_get (D := rD g) (ci := 13) (v := .ref (ad 10)) (C := RX14) (T := TX14) (N := 143) hx hb hts in2X14 hown hR.K hR.P 0 (hR.at14 hR.w.1) rfl 26 (by decide) (hts _ kx_217) (fun _ h9 => h9) (congrArg (fun z => some (vf ad z)) (hR.w.2.1 _ fin_26).1) dX14_codeOf_53 ?_
              refine lv_iload_n hx hb dX14_codeOf_56 rfl (lv_at hl 3 rfl) ?_
              obtain ⟨hv18, h⟩ := h
              refine va_iald hx hb hR.K hR.P 10 1 (hR.atI (hR.w.2.1 _ fin_26).2.1) rfl (k_ixN (k_ix (n := 3000) (x := v4_3) (a := v4_3.toInt) rfl hv18) (hR.w.2.1 _ fin_26).2.2) dX14_codeOf_57 ?_
              refine lv_topi (fun z19 ez19 => ?_)
              obtain rfl : z19 = (qI S14 10 v4_3.toInt.toNat) := ez19
              obtain ⟨a20, ea20⟩ : ∃ z, z = (qI S14 10 v4_3.toInt.toNat) := ⟨_, rfl⟩
              rw [← ea20]
              replace h := h a20 ea20
              refine lv_istore_n (lv' := [(2, .int a20), (0, .ref (ad 0)), (1, .int v4_1), (3, .int v4_3)]) hx hb dX14_codeOf_58 rfl hl (by decide) rfl (fun ls hl => ?_)
              exact J_59 S14 v4_1 a20 v4_3 _ _ ls h  hsh hR (lv_sub hl [1, 2, 0, 3] rfl)
            · replace h := h.2 (k_nlt rfl (by decide) c17)
              refine lv_bipush (v := (-2)) hx hb dX14_codeOf_49 (by decide) ?_
              exact W.iret (v := (-2)) hx hb hr (fun t9 ht9 hW9 => ⟨⟨_, S14, rfl, ⟨h, hR.w, hsh⟩, ⟨by rw [ht9]; exact hR.P, hR.D⟩⟩, hR.sS.F ht9⟩) hR.sS.2.2 dX14_codeOf_51
          · replace h := h.1 (k_eq rfl (by decide) c16)
            refine lv_goto (tgt := 59) hx hb dX14_codeOf_42 (by decide) ?_
            exact J_59 S14 v4_1 v4_2 v4_3 _ _ ls h  hsh hR (lv_sub hl [0, 1, 2, 3] rfl)
  obtain ⟨n9, h⟩ := h
  exact J_4 n9 S x1 (-1) 0 _ _ ls h  hsh hR (lv_sub hl [2, 3, 1, 0] rfl)
def w_codes_J27 (Q : MS → Prop) (E : MS → Prop) (k5 : MS → Int32 → Prop) (U27 : MS) (t27_0 : Int32) (v27_1 : Int32) : Prop := (((0 : Int) ≤ v27_1.toInt ∧ v27_1.toInt < 48) ∧ (∃ Q9 EQ9, w_must U27 t27_0 (12 : Int32) (qI U27 9 v27_1.toInt.toNat) Q9 EQ9 ∧ (∀ S10, Q9 S10 → (∀ a12 : Int32, a12 = (v27_1 + Int32.ofInt 1) → k5 S10 a12)) ∧ (∀ u9, EQ9 u9 → E u9)))
def w_codes_L5 (Q : MS → Prop) (E : MS → Prop) : Nat → MS → Int32 → Prop
  | 0, _, _ => False
  | n5 + 1, U5, v5_1 => (((qI U5 0 21).toInt ≤ v5_1.toInt → Q U5) ∧ (¬ (qI U5 0 21).toInt ≤ v5_1.toInt → (∃ Q3, w_codeOf U5 v5_1 Q3 ∧ ∀ r4 S5, Q3 r4 S5 → ((r4.toInt < 0 → w_codes_J27 Q E (w_codes_L5 Q E n5) S5 0 v5_1) ∧ (¬ r4.toInt < 0 → w_codes_J27 Q E (w_codes_L5 Q E n5) S5 1 v5_1)))))
def w_codes (S : MS) (Q : MS → Prop) (E : MS → Prop) : Prop := (∀ a1 : Int32, a1 = (qI S 0 22) → (∃ n, w_codes_L5 Q E n S a1))
set_option maxHeartbeats 2000000 in
set_option maxRecDepth 100000 in
theorem r_codes (l : Launch) (g : Gr) (ad : Nat → Nat) (sz : Nat) (S : MS) (hw : wfM S) (Q : MS → Prop) (E : MS → Prop) (h : w_codes S Q E) : vx_Met l yX14_codes (wt2 yX14_codes cX14_codes 2 none) ({ frames := 6, cells := 0, slots := 0, locals := 131 }) (va_Pc [.ref (ad 0)] (st_R g ad sz S)) (va_Qv (fun (u : MS) => Q u ∧ wfM u ∧ shy S u) (fun (u : MS) (t : State) => qE g ad (va_A (Wd g ad S) sz) u t) (va_A (Wd g ad S) sz)) (vx_X (fun (u : MS) => E u ∧ wfM u ∧ shy S u) (fun (n9 : String) (u : MS) (t : State) => n9 = RJxb5711 ∧ qE g ad (va_A (Wd g ad S) sz) u t) (va_A (Wd g ad S) sz)) 0 0 (va_A (Wd g ad S) sz) := by
  refine vx_ofW (cc := cX14_codes) (maxL := 2) (ret := none) (by decide) rfl ?_
  intro p e s m args below meth c s₁ B hml hnt hv
  obtain ⟨rfl, hsz, hP, hK, hD0, hex, hE⟩ := hv
  have hx := B.exec
  have hb := B.bytes
  have hr := B.returns
  have hlocks := B.notSynchronized
  have hts0 := atoms_spec (ws := wt2 yX14_codes cX14_codes 2 none) B.pre
  have hts : ∀ w ∈ tb2, w.before _ s = true := fun w h => hts0 w (List.mem_cons_of_mem _ h)
  have hown : s.vm.findClass RX14 = some m.cls := findClass_of_methodNamed B.named
  subst hsz
  have hD := hD0.self (sz := s.heap.size)
  generalize hAe : va_A (Wd g ad S) s.heap.size = A at hD hE ⊢
  have hA : ∀ q : Nat, s.heap.size ≤ q → A q := fun q h => by rw [← hAe]; exact Or.inr h
  have hR : Rep g ad A s S s.heap [] := ⟨hK, hP, hD, va_S.rf, hw⟩
  clear hK hP hD hD0
  have hl := lv_entry ([.ref (ad 0)]) (n := 2) (Nat.le_of_ble_eq_true rfl)
  rw [lg_entry_eq]
  generalize (lg_sl ([.ref (ad 0)]) ++ List.replicate (2 - (lg_sl ([.ref (ad 0)])).length) Slot.unset).toArray = ls at hl ⊢
  have hl : lv_has ls 2 [(0, .ref (ad 0))] := hl
  have hsh : shy S S := shy.rf
  unfold w_codes at h
  refine lv_aload_n hx hb dX14_codes_0 rfl (lv_at hl 0 rfl) ?_
  refine va_get (D := rD g) (ci := 13) (v := .int (qI S 0 22)) (C := RX14) (T := TX14) (N := 143) hx hb hts in2X14 hown hR.K hR.P 0 (hR.at14 hR.w.1) rfl 22 (by decide) (hts _ kx_239) (fun _ h9 => h9) rfl dX14_codes_1 ?_
  obtain ⟨a1, ea1⟩ : ∃ z, z = (qI S 0 22) := ⟨_, rfl⟩
  rw [← ea1]
  replace h := h a1 ea1
  refine lv_istore_n (lv' := [(1, .int a1), (0, .ref (ad 0))]) hx hb dX14_codes_4 rfl hl (by decide) rfl (fun ls hl => ?_)
  have J_5 : ∀ (n5 : Nat) (U5 : MS) (v5_1 : Int32) (H : Heap) (locs : List Loc) (ls : Array Slot), w_codes_L5 Q E n5 U5 v5_1 → shy S U5 → Rep g ad A s U5 H locs → lv_has ls 2 [(0, .ref (ad 0)), (1, .int v5_1)] → W p l e (headSpec (wt2 yX14_codes cX14_codes 2 none) ({ frames := 6, cells := 0, slots := 0, locals := 131 })).room s m ([.ref (ad 0)] : List Value).toArray below meth c H locs 0 0 (vx_MQ below (va_Qv (fun (u : MS) => Q u ∧ wfM u ∧ shy S u) (fun (u : MS) (t : State) => qE g ad A u t) A) ((vx_X (fun (u : MS) => E u ∧ wfM u ∧ shy S u) (fun (n9 : String) (u : MS) (t : State) => n9 = RJxb5711 ∧ qE g ad A u t) A)) ([.ref (ad 0)] : List Value).toArray s 0 0 A) (F0 m 5 ls []) := by
    intro n5
    induction n5 with
    | zero => intro U5 v5_1 H locs ls h hsh hR hl; unfold w_codes_L5 at h; exact h.elim
    | succ n5 ih_5 =>
      intro U5 v5_1 H locs ls h hsh hR hl
      unfold w_codes_L5 at h
      refine lv_iload_n hx hb dX14_codes_5 rfl (lv_at hl 1 rfl) ?_
      refine lv_aload_n hx hb dX14_codes_6 rfl (lv_at hl 0 rfl) ?_
      refine va_get (D := rD g) (ci := 13) (v := .int (qI U5 0 21)) (C := RX14) (T := TX14) (N := 143) hx hb hts in2X14 hown hR.K hR.P 0 (hR.at14 hR.w.1) rfl 21 (by decide) (hts _ kx_205) (fun _ h9 => h9) rfl dX14_codes_7 ?_
      refine lv_icmp_ge (tgt := 44) hx hb dX14_codes_10 (by decide) (fun c2 => ?_) (fun c2 => ?_)
      · replace h := h.1 (k_le rfl rfl c2)
        exact vx_ret (W.vret hx hb hr (fun t9 ht9 hW9 => ⟨⟨U5, rfl, ⟨h, hR.w, hsh⟩, ⟨by rw [ht9]; exact hR.P, hR.D⟩⟩, hR.sS.F ht9⟩) hR.sS.2.2 dX14_codes_44)
      · replace h := h.2 (k_nle rfl rfl c2)
        refine lv_aload_n hx hb dX14_codes_13 rfl (lv_at hl 0 rfl) ?_
        refine lv_aload_n hx hb dX14_codes_14 rfl (lv_at hl 0 rfl) ?_
        refine lv_iload_n hx hb dX14_codes_15 rfl (lv_at hl 1 rfl) ?_
        obtain ⟨Q3, h0, h⟩ := h
        have hFc := rfree hR hA
        refine va_calli (va_runV (As := [.int v5_1]) (rest := [.ref (ad 0)]) ⟨hx, hb, hml, hown, hts⟩ (r_codeOf l g ad H.size U5 v5_1 hR.w  Q3 h0) (cwV 1 hts (gd2_V kx_257 kx_258 kx_259 kx_177 kx_260) rfl rfl rfl (by decide +kernel) ⟨Nat.le_of_ble_eq_true rfl, Nat.le_of_ble_eq_true rfl⟩) ⟨rblind, va_recv hR.K hR.P (ci := 13) (q0 := 0) rfl (hR.at14 hR.w.1), fun U hU hW9 => rmk hU hW9 hR hex hE hFc⟩ rfl rfl hl.1 rfl (lv_room (Nat.le_of_ble_eq_true rfl)) dX14_codes_16 ⟨Nat.le_of_ble_eq_true rfl, Nat.le_of_ble_eq_true rfl⟩) hR.sS (fun q _ h => hFc q h) hFc (fun r4 S5 t9 H1 locs ht9 hvm9 hw9 hB9 hz9 hk9 hS => ?_)
        obtain ⟨hq6, hw9, hs9⟩ := hw9
        have hR : Rep g ad A s S5 H1 locs := hR.call ht9 hB9 hw9 hS hFc
        have hsh := hsh.tr hs9
        replace h := h r4 S5 hq6
        clear hB9 hz9 hk9 hvm9 ht9 hw9 hs9 hS
        generalize H1 = H at hR ⊢
        have J_27 : ∀ (U27 : MS) (t27_0 : Int32) (v27_1 : Int32) (H : Heap) (locs : List Loc) (ls : Array Slot), w_codes_J27 Q E (w_codes_L5 Q E n5) U27 t27_0 v27_1 → (t27_0 = 0 ∨ t27_0 = 1) → shy S U27 → Rep g ad A s U27 H locs → lv_has ls 2 [(0, .ref (ad 0)), (1, .int v27_1)] → W p l e (headSpec (wt2 yX14_codes cX14_codes 2 none) ({ frames := 6, cells := 0, slots := 0, locals := 131 })).room s m ([.ref (ad 0)] : List Value).toArray below meth c H locs 0 0 (vx_MQ below (va_Qv (fun (u : MS) => Q u ∧ wfM u ∧ shy S u) (fun (u : MS) (t : State) => qE g ad A u t) A) ((vx_X (fun (u : MS) => E u ∧ wfM u ∧ shy S u) (fun (n9 : String) (u : MS) (t : State) => n9 = RJxb5711 ∧ qE g ad A u t) A)) ([.ref (ad 0)] : List Value).toArray s 0 0 A) (F0 m 27 ls [.int t27_0, .ref (ad 0)]) := by
          intro U27 t27_0 v27_1 H locs ls h hz_t27_0 hsh hR hl
          unfold w_codes_J27 at h
          refine lv_bipush (v := 12) hx hb dX14_codes_27 (by decide) ?_
          refine lv_aload_n hx hb dX14_codes_29 rfl (lv_at hl 0 rfl) ?_
          refine va_get (D := rD g) (ci := 13) (v := .ref (ad 9)) (C := RX14) (T := TX14) (N := 143) hx hb hts in2X14 hown hR.K hR.P 0 (hR.at14 hR.w.1) rfl 24 (by decide) (hts _ kx_210) (fun _ h9 => h9) (congrArg (fun z => some (vf ad z)) (hR.w.2.1 _ fin_24).1) dX14_codes_30 ?_
          refine lv_iload_n hx hb dX14_codes_33 rfl (lv_at hl 1 rfl) ?_
          obtain ⟨hv7, h⟩ := h
          refine va_iald hx hb hR.K hR.P 9 1 (hR.atI (hR.w.2.1 _ fin_24).2.1) rfl (k_ixN (k_ix (n := 48) (x := v27_1) (a := v27_1.toInt) rfl hv7) (hR.w.2.1 _ fin_24).2.2) dX14_codes_34 ?_
          refine lv_topi (fun z8 ez8 => ?_)
          obtain rfl : z8 = (qI U27 9 v27_1.toInt.toNat) := ez8
          obtain ⟨Q9, EQ9, h0, h⟩ := h
          have hFc := rfree hR hA
          refine vx_callv (vx_runV (As := [.int t27_0, .int 12, .int (qI U27 9 v27_1.toInt.toNat)]) (rest := []) ⟨hx, hb, hml, hown, hts⟩ (r_must l g ad H.size U27 t27_0 (12 : Int32) (qI U27 9 v27_1.toInt.toNat) hR.w hz_t27_0 Q9 EQ9 h0) (cwV 3 hts (gd2_V kx_198 kx_199 kx_200 kx_177 kx_201) rfl rfl rfl (by decide +kernel) ⟨Nat.le_of_ble_eq_true rfl, Nat.le_of_ble_eq_true rfl⟩) ⟨rblind, va_recv hR.K hR.P (ci := 13) (q0 := 0) rfl (hR.at14 hR.w.1), fun U hU hW9 => rmk hU hW9 hR hex hE hFc⟩ rfl rfl hl.1 rfl (lv_room (Nat.le_of_ble_eq_true rfl)) dX14_codes_35 ⟨Nat.le_of_ble_eq_true rfl, Nat.le_of_ble_eq_true rfl⟩) hR.sS (fun q _ h => hFc q h) hFc (fun q _ h => hFc q h) (fun E9 ce9 q9 u9 t9 H1 locs ht9 hvm9 hp9 hB9 hz9 hk9 hS hce9 hcv9 hcl9 => ?_) (fun  S10 t9 H1 locs ht9 hvm9 hw9 hB9 hz9 hk9 hS => ?_)
          · obtain ⟨hp9, hwx, hsx⟩ := hp9
            obtain ⟨rfl, hBx⟩ := hB9
            replace h := h.2 u9 hp9
            have hR : Rep g ad A s u9 H1 locs := hR.call ht9 hBx hwx hS hFc
            have hsh := hsh.tr hsx
            exact vx_out (E := RJxb5711) (q := q9) (fun x h9 => (hnt x h9).elim) hlocks hce9 hcv9 hcl9 (fun t9 ht9 ha9 => ⟨u9, ⟨h, hR.w, hsh⟩, ⟨rfl, by rw [ht9]; exact hR.P, hR.D⟩, hR.sS.F ht9⟩) hR.sS.2.2 (Nat.le_of_ble_eq_true rfl) (Nat.le_of_ble_eq_true rfl)
          · obtain ⟨hq11, hw9, hs9⟩ := hw9
            have hR : Rep g ad A s S10 H1 locs := hR.call ht9 hB9 hw9 hS hFc
            have hsh := hsh.tr hs9
            replace h := h.1  S10 hq11
            clear hB9 hz9 hk9 hvm9 ht9 hw9 hs9 hS
            generalize H1 = H at hR ⊢
            obtain ⟨a12, ea12⟩ : ∃ z, z = (v27_1 + Int32.ofInt 1) := ⟨_, rfl⟩
            replace h := h a12 ea12
            refine lv_iinc (v := a12) (lv' := [(1, .int a12), (0, .ref (ad 0))]) hx hb dX14_codes_38 hl (k := 1) rfl ea12.symm (by decide) rfl (fun ls hl => ?_)
            refine lv_goto (tgt := 5) hx hb dX14_codes_41 (by decide) ?_
            exact ih_5 S10 a12 _ _ ls h  hsh hR (lv_sub hl [1, 0] rfl)
        refine lv_if_lt (tgt := 26) hx hb dX14_codes_19 (by decide) (fun c13 => ?_) (fun c13 => ?_)
        · replace h := h.1 (k_lt rfl (by decide) c13)
          refine lv_iconst (v := 0) hx hb dX14_codes_26 (by decide) ?_
          exact J_27 S5 0 v5_1 _ _ ls h (Or.inl rfl) hsh hR (lv_sub hl [0, 1] rfl)
        · replace h := h.2 (k_nlt rfl (by decide) c13)
          refine lv_iconst (v := 1) hx hb dX14_codes_22 (by decide) ?_
          refine lv_goto (tgt := 27) hx hb dX14_codes_23 (by decide) ?_
          exact J_27 S5 1 v5_1 _ _ ls h (Or.inr rfl) hsh hR (lv_sub hl [0, 1] rfl)
  obtain ⟨n9, h⟩ := h
  exact J_5 n9 S a1 _ _ ls h  hsh hR (lv_sub hl [1, 0] rfl)
def w_within (S : MS) (y1 : Int64) (Q : Int32 → MS → Prop) (E : MS → Prop) : Prop := (((lg_cmp (((qI S 0 13).toInt64) + y1) ((qI S 0 35).toInt64)).toInt ≤ 0 → (∀ a4 : Int32, a4 = (qI S 0 13) → (∀ S6, S6 = wI S 0 13 ((qI S 0 13) + (y1.toInt32)) → Q a4 S6))) ∧ (¬ (lg_cmp (((qI S 0 13).toInt64) + y1) ((qI S 0 35).toInt64)).toInt ≤ 0 → (∃ Q7, w_broken S (14 : Int32) (qI S 0 35) Q7 ∧ ∀ b11 S9, Q7 b11 S9 → E S9)))
set_option maxHeartbeats 2000000 in
set_option maxRecDepth 100000 in
theorem r_within (l : Launch) (g : Gr) (ad : Nat → Nat) (sz : Nat) (S : MS) (y1 : Int64) (hw : wfM S) (Q : Int32 → MS → Prop) (E : MS → Prop) (h : w_within S y1 Q E) : vx_Met l yX14_within (wt2 yX14_within cX14_within 4 (some .int)) ({ frames := 1, cells := 0, slots := 0, locals := 22 }) (va_Pc [.ref (ad 0), .long y1] (st_R g ad sz S)) (va_Qi (fun (r : Int32) (u : MS) => Q r u ∧ wfM u ∧ shy S u) (fun (u : MS) (t : State) => qE g ad (va_A (Wd g ad S) sz) u t) (va_A (Wd g ad S) sz)) (vx_X (fun (u : MS) => E u ∧ wfM u ∧ shy S u) (fun (n9 : String) (u : MS) (t : State) => n9 = RJxb5711 ∧ qE g ad (va_A (Wd g ad S) sz) u t) (va_A (Wd g ad S) sz)) 0 0 (va_A (Wd g ad S) sz) := by
  refine vx_ofW (cc := cX14_within) (maxL := 4) (ret := (some .int)) (by decide) rfl ?_
  intro p e s m args below meth c s₁ B hml hnt hv
  obtain ⟨rfl, hsz, hP, hK, hD0, hex, hE⟩ := hv
  have hx := B.exec
  have hb := B.bytes
  have hr := B.returns
  have hlocks := B.notSynchronized
  have hts0 := atoms_spec (ws := wt2 yX14_within cX14_within 4 (some .int)) B.pre
  have hts : ∀ w ∈ tb2, w.before _ s = true := fun w h => hts0 w (List.mem_cons_of_mem _ h)
  have hown : s.vm.findClass RX14 = some m.cls := findClass_of_methodNamed B.named
  subst hsz
  have hD := hD0.self (sz := s.heap.size)
  generalize hAe : va_A (Wd g ad S) s.heap.size = A at hD hE ⊢
  have hA : ∀ q : Nat, s.heap.size ≤ q → A q := fun q h => by rw [← hAe]; exact Or.inr h
  have hR : Rep g ad A s S s.heap [] := ⟨hK, hP, hD, va_S.rf, hw⟩
  clear hK hP hD hD0
  have hl := lv_entry ([.ref (ad 0), .long y1]) (n := 4) (Nat.le_of_ble_eq_true rfl)
  rw [lg_entry_eq]
  generalize (lg_sl ([.ref (ad 0), .long y1]) ++ List.replicate (4 - (lg_sl ([.ref (ad 0), .long y1])).length) Slot.unset).toArray = ls at hl ⊢
  have hl : lv_has ls 4 [(0, .ref (ad 0)), (1, .long y1)] := hl
  have hsh : shy S S := shy.rf
  unfold w_within at h
  refine lv_aload_n hx hb dX14_within_0 rfl (lv_at hl 0 rfl) ?_
  refine va_get (D := rD g) (ci := 13) (v := .int (qI S 0 13)) (C := RX14) (T := TX14) (N := 143) hx hb hts in2X14 hown hR.K hR.P 0 (hR.at14 hR.w.1) rfl 13 (by decide) (hts _ kx_190) (fun _ h9 => h9) rfl dX14_within_1 ?_
  refine lv_i2l (v := ((qI S 0 13).toInt64)) hx hb dX14_within_4 rfl ?_
  refine lv_lload_n hx hb dX14_within_5 rfl (lv_at hl 1 rfl) ?_
  refine lv_ladd hx hb dX14_within_6 ?_
  refine lv_topl (fun z1 ez1 => ?_)
  obtain rfl : z1 = (((qI S 0 13).toInt64) + y1) := ez1
  refine lv_aload_n hx hb dX14_within_7 rfl (lv_at hl 0 rfl) ?_
  refine va_get (D := rD g) (ci := 13) (v := .int (qI S 0 35)) (C := RX14) (T := TX14) (N := 143) hx hb hts in2X14 hown hR.K hR.P 0 (hR.at14 hR.w.1) rfl 35 (by decide) (hts _ kx_261) (fun _ h9 => h9) rfl dX14_within_8 ?_
  refine lv_i2l (v := ((qI S 0 35).toInt64)) hx hb dX14_within_11 rfl ?_
  refine W.lcmp hx hb dX14_within_12 ?_
  refine lv_topi (fun z2 ez2 => ?_)
  obtain rfl : z2 = (lg_cmp (((qI S 0 13).toInt64) + y1) ((qI S 0 35).toInt64)) := ez2
  refine lv_if_le (tgt := 27) hx hb dX14_within_13 (by decide) (fun c3 => ?_) (fun c3 => ?_)
  · replace h := h.1 (k_le rfl (by decide) c3)
    refine lv_aload_n hx hb dX14_within_27 rfl (lv_at hl 0 rfl) ?_
    refine va_get (D := rD g) (ci := 13) (v := .int (qI S 0 13)) (C := RX14) (T := TX14) (N := 143) hx hb hts in2X14 hown hR.K hR.P 0 (hR.at14 hR.w.1) rfl 13 (by decide) (hts _ kx_190) (fun _ h9 => h9) rfl dX14_within_28 ?_
    obtain ⟨a4, ea4⟩ : ∃ z, z = (qI S 0 13) := ⟨_, rfl⟩
    rw [← ea4]
    replace h := h a4 ea4
    refine lv_istore_n (lv' := [(3, .int a4), (0, .ref (ad 0)), (1, .long y1)]) hx hb dX14_within_31 rfl hl (by decide) rfl (fun ls hl => ?_)
    refine lv_aload_n hx hb dX14_within_32 rfl (lv_at hl 1 rfl) ?_
    refine lv_dup hx hb dX14_within_33 rfl ?_
    refine va_get (D := rD g) (ci := 13) (v := .int (qI S 0 13)) (C := RX14) (T := TX14) (N := 143) hx hb hts in2X14 hown hR.K hR.P 0 (hR.at14 hR.w.1) rfl 13 (by decide) (hts _ kx_190) (fun _ h9 => h9) rfl dX14_within_34 ?_
    refine lv_lload_n hx hb dX14_within_37 rfl (lv_at hl 2 rfl) ?_
    refine lv_l2i (v := (y1.toInt32)) hx hb dX14_within_38 rfl ?_
    refine lv_iadd hx hb dX14_within_39 ?_
    refine lv_topi (fun z5 ez5 => ?_)
    obtain rfl : z5 = ((qI S 0 13) + (y1.toInt32)) := ez5
    refine va_put (D := rD g) (ci := 13) (v := .int ((qI S 0 13) + (y1.toInt32))) (ty := .int) (C := RX14) (T := TX14) (N := 143) hx hb hts in2X14 tyX14 tyX14_ok nmX14 hown hR.K hR.P hR.D hR.sS 0 (hR.at14 hR.w.1) rfl 13 (by decide) (hts _ kx_190) (fun _ h9 => h9) rfl (by decide +kernel) rfl rfl (Nat.le_of_ble_eq_true rfl) dX14_within_40 (fun H locs hP hD hS => ?_)
    have hR : Rep g ad A s (wI S 0 13 ((qI S 0 13) + (y1.toInt32))) H locs := hR.pI hR.w.1 F14_s13 hP hD hS
    obtain ⟨S6, eS6⟩ : ∃ z, z = wI S 0 13 ((qI S 0 13) + (y1.toInt32)) := ⟨_, rfl⟩
    rw [← eS6] at hR
    replace h := h S6 eS6
    have hsh : shy S S6 := by rw [eS6]; exact hsh
    refine lv_iload_n hx hb dX14_within_43 rfl (lv_at hl 0 rfl) ?_
    exact vx_ret (W.iret (v := a4) hx hb hr (fun t9 ht9 hW9 => ⟨⟨_, S6, rfl, ⟨h, hR.w, hsh⟩, ⟨by rw [ht9]; exact hR.P, hR.D⟩⟩, hR.sS.F ht9⟩) hR.sS.2.2 dX14_within_44)
  · replace h := h.2 (k_nle rfl (by decide) c3)
    refine lv_aload_n hx hb dX14_within_16 rfl (lv_at hl 0 rfl) ?_
    refine lv_bipush (v := 14) hx hb dX14_within_17 (by decide) ?_
    refine lv_aload_n hx hb dX14_within_19 rfl (lv_at hl 0 rfl) ?_
    refine va_get (D := rD g) (ci := 13) (v := .int (qI S 0 35)) (C := RX14) (T := TX14) (N := 143) hx hb hts in2X14 hown hR.K hR.P 0 (hR.at14 hR.w.1) rfl 35 (by decide) (hts _ kx_261) (fun _ h9 => h9) rfl dX14_within_20 ?_
    obtain ⟨Q7, h0, h⟩ := h
    have hFc := rfree hR hA
    refine va_callq (va_runV (As := [.int 14, .int (qI S 0 35)]) (rest := []) ⟨hx, hb, hml, hown, hts⟩ (r_broken l g ad s.heap.size S (14 : Int32) (qI S 0 35) hR.w  Q7 h0) (cwV 2 hts (gd2_V kx_174 kx_175 kx_176 kx_177 kx_178) rfl rfl rfl (by decide +kernel) ⟨Nat.le_of_ble_eq_true rfl, Nat.le_of_ble_eq_true rfl⟩) ⟨rblind, va_recv hR.K hR.P (ci := 13) (q0 := 0) rfl (hR.at14 hR.w.1), fun U hU hW9 => rmk hU hW9 hR hex hE hFc⟩ rfl rfl hl.1 rfl (lv_room (Nat.le_of_ble_eq_true rfl)) dX14_within_23 ⟨Nat.le_of_ble_eq_true rfl, Nat.le_of_ble_eq_true rfl⟩) hR.sS (fun q _ h => hFc q h) hFc (fun r8 S9 t9 H1 locs ht9 hvm9 hw9 hB9 hz9 hk9 hS => ?_)
    obtain ⟨b11, rfl, hq10, hw9, hs9, hT_b11⟩ := hw9
    have hR : Rep g ad A s S9 H1 locs := hR.call ht9 hB9 hw9 hS hFc
    have hsh := hsh.tr hs9
    replace h := h b11 S9 hq10
    clear hB9 hz9 hk9 hvm9 ht9 hw9 hs9 hS
    generalize H1 = H at hR ⊢
    obtain ⟨ce9, hce9, hcv9, hcl9⟩ := sx_cell hR.K hR.P (q0 := b11) (ci := 14) rfl (hR.atX hT_b11)
    refine sx_athrow hx hb dX14_within_26 ?_
    exact vx_out (E := RJxb5711) (q := (ad b11)) (fun x h9 => (hnt x h9).elim) hlocks hce9 hcv9 hcl9 (fun t9 ht9 ha9 => ⟨S9, ⟨h, hR.w, hsh⟩, ⟨rfl, by rw [ht9]; exact hR.P, hR.D⟩, hR.sS.F ht9⟩) hR.sS.2.2 (Nat.le_of_ble_eq_true rfl) (Nat.le_of_ble_eq_true rfl)
def w_codeItems_J391 (Q : MS → Prop) (E : MS → Prop) (U391 : MS) (t391_0 : Int32) : Prop := (∃ Q101 EQ101, w_must U391 t391_0 (14 : Int32) (qI U391 0 13) Q101 EQ101 ∧ (∀ S102, Q101 S102 → Q S102) ∧ (∀ u9, EQ101 u9 → E u9))
def w_codeItems_L328 (Q : MS → Prop) (E : MS → Prop) : Nat → MS → Int32 → Int32 → Prop
  | 0, _, _, _ => False
  | n328 + 1, U328, v328_6, v328_7 => ((v328_6.toInt ≤ v328_7.toInt → (((qI U328 0 13).toInt = (qI U328 0 35).toInt → w_codeItems_J391 Q E U328 1) ∧ (¬ (qI U328 0 13).toInt = (qI U328 0 35).toInt → w_codeItems_J391 Q E U328 0))) ∧ (¬ v328_6.toInt ≤ v328_7.toInt → (∃ Q105 EQ105, w_within U328 (2 : Int64) Q105 EQ105 ∧ (∀ r106 S107, Q105 r106 S107 → (∃ Q109 EQ109, w_within S107 (4 : Int64) Q109 EQ109 ∧ (∀ r110 S111, Q109 r110 S111 → (d_four S111 r110 ∧ (∃ Q117 EQ117, w_within S111 (((f_four S111 r110).toInt64) &&& (4294967295 : Int64)) Q117 EQ117 ∧ (∀ r118 S119, Q117 r118 S119 → (∀ a121 : Int32, a121 = (v328_7 + Int32.ofInt 1) → (w_codeItems_L328 Q E n328) S119 v328_6 a121)) ∧ (∀ u9, EQ117 u9 → E u9)))) ∧ (∀ u9, EQ109 u9 → E u9))) ∧ (∀ u9, EQ105 u9 → E u9))))
def w_codeItems_L287 (Q : MS → Prop) (E : MS → Prop) : Nat → MS → Int32 → Int32 → Prop
  | 0, _, _, _ => False
  | n287 + 1, U287, v287_1, v287_6 => (((0 : Int) ≤ v287_1.toInt ∧ v287_1.toInt < 24) ∧ (((qI U287 17 v287_1.toInt.toNat).toInt ≤ v287_6.toInt → (∃ Q92 EQ92, w_within U287 (2 : Int64) Q92 EQ92 ∧ (∀ r93 S94, Q92 r93 S94 → (d_two S94 r93 ∧ (∀ a99 : Int32, a99 = (f_two S94 r93) → (∃ n, w_codeItems_L328 Q E n S94 a99 0)))) ∧ (∀ u9, EQ92 u9 → E u9))) ∧ (¬ (qI U287 17 v287_1.toInt.toNat).toInt ≤ v287_6.toInt → (∃ Q122 EQ122, w_within U287 (8 : Int64) Q122 EQ122 ∧ (∀ r123 S124, Q122 r123 S124 → (∀ a126 : Int32, a126 = (v287_6 + Int32.ofInt 1) → (w_codeItems_L287 Q E n287) S124 v287_1 a126)) ∧ (∀ u9, EQ122 u9 → E u9)))))
def w_codeItems_J267 (Q : MS → Prop) (E : MS → Prop) (U267 : MS) (t267_0 : Int32) (v267_1 : Int32) (v267_4 : Int32) : Prop := (∃ Q84 EQ84, w_must U267 t267_0 (13 : Int32) v267_4 Q84 EQ84 ∧ (∀ S85, Q84 S85 → (((0 : Int) ≤ v267_1.toInt ∧ v267_1.toInt < 24) ∧ (∀ S88, S88 = wI S85 16 v267_1.toInt.toNat (qI S85 0 13) → (∃ n, w_codeItems_L287 Q E n S88 v267_1 0)))) ∧ (∀ u9, EQ84 u9 → E u9))
def w_codeItems_J201 (Q : MS → Prop) (E : MS → Prop) (U201 : MS) (t201_0 : Int32) (v201_1 : Int32) (v201_4 : Int32) (v201_5 : Int32) : Prop := (∃ Q62 EQ62, w_must U201 t201_0 (13 : Int32) v201_4 Q62 EQ62 ∧ (∀ S63, Q62 S63 → (∃ Q65 EQ65, w_within S63 (v201_5.toInt64) Q65 EQ65 ∧ (∀ r66 S67, Q65 r66 S67 → (((0 : Int) ≤ v201_1.toInt ∧ v201_1.toInt < 24) ∧ (∀ S70, S70 = wI S67 14 v201_1.toInt.toNat r66 → (((0 : Int) ≤ v201_1.toInt ∧ v201_1.toInt < 24) ∧ (∀ S72, S72 = wI S70 15 v201_1.toInt.toNat v201_5 → (∃ Q73 EQ73, w_within S72 (2 : Int64) Q73 EQ73 ∧ (∀ r74 S75, Q73 r74 S75 → (d_two S75 r74 ∧ (((0 : Int) ≤ v201_1.toInt ∧ v201_1.toInt < 24) ∧ (∀ S81, S81 = wI S75 17 v201_1.toInt.toNat (f_two S75 r74) → (((0 : Int) ≤ v201_1.toInt ∧ v201_1.toInt < 24) ∧ ((16 < (qI S81 17 v201_1.toInt.toNat).toInt → w_codeItems_J267 Q E S81 0 v201_1 r74) ∧ (¬ 16 < (qI S81 17 v201_1.toInt.toNat).toInt → w_codeItems_J267 Q E S81 1 v201_1 r74))))))) ∧ (∀ u9, EQ73 u9 → E u9))))))) ∧ (∀ u9, EQ65 u9 → E u9))) ∧ (∀ u9, EQ62 u9 → E u9))
def w_codeItems_J200 (Q : MS → Prop) (E : MS → Prop) (U200 : MS) (v200_1 : Int32) (v200_4 : Int32) (v200_5 : Int32) : Prop := w_codeItems_J201 Q E U200 0 v200_1 v200_4 v200_5
def w_codeItems_J157 (Q : MS → Prop) (E : MS → Prop) (U157 : MS) (t157_0 : Int32) (v157_1 : Int32) (v157_4 : Int32) : Prop := (∃ Q51 EQ51, w_must U157 t157_0 (13 : Int32) v157_4 Q51 EQ51 ∧ (∀ S52, Q51 S52 → (∃ Q54 EQ54, w_within S52 (4 : Int64) Q54 EQ54 ∧ (∀ r55 S56, Q54 r55 S56 → (d_four S56 r55 ∧ (∀ a61 : Int32, a61 = (f_four S56 r55) → ((a61.toInt < 1 → w_codeItems_J200 Q E S56 v157_1 r55 a61) ∧ (¬ a61.toInt < 1 → ((1200 < a61.toInt → w_codeItems_J200 Q E S56 v157_1 r55 a61) ∧ (¬ 1200 < a61.toInt → w_codeItems_J201 Q E S56 1 v157_1 r55 a61))))))) ∧ (∀ u9, EQ54 u9 → E u9))) ∧ (∀ u9, EQ51 u9 → E u9))
def w_codeItems_J156 (Q : MS → Prop) (E : MS → Prop) (U156 : MS) (v156_1 : Int32) (v156_4 : Int32) : Prop := w_codeItems_J157 Q E U156 0 v156_1 v156_4
def w_codeItems_J102 (Q : MS → Prop) (E : MS → Prop) (U102 : MS) (t102_0 : Int32) (v102_1 : Int32) (v102_3 : Int32) (v102_4 : Int32) : Prop := (∃ Q37 EQ37, w_must U102 t102_0 (13 : Int32) v102_4 Q37 EQ37 ∧ (∀ S38, Q37 S38 → (∃ Q40 EQ40, w_within S38 (2 : Int64) Q40 EQ40 ∧ (∀ r41 S42, Q40 r41 S42 → (d_two S42 r41 ∧ (((0 : Int) ≤ v102_1.toInt ∧ v102_1.toInt < 24) ∧ (∀ S48, S48 = wI S42 13 v102_1.toInt.toNat (f_two S42 r41) → (((0 : Int) ≤ v102_1.toInt ∧ v102_1.toInt < 24) ∧ ((24 < (qI S48 13 v102_1.toInt.toNat).toInt → w_codeItems_J156 Q E S48 v102_1 r41) ∧ (¬ 24 < (qI S48 13 v102_1.toInt.toNat).toInt → (((0 : Int) ≤ v102_1.toInt ∧ v102_1.toInt < 24) ∧ (((qI S48 13 v102_1.toInt.toNat).toInt < v102_3.toInt → w_codeItems_J156 Q E S48 v102_1 r41) ∧ (¬ (qI S48 13 v102_1.toInt.toNat).toInt < v102_3.toInt → w_codeItems_J157 Q E S48 1 v102_1 r41)))))))))) ∧ (∀ u9, EQ40 u9 → E u9))) ∧ (∀ u9, EQ37 u9 → E u9))
def w_codeItems (S : MS) (x1 : Int32) (Q : MS → Prop) (E : MS → Prop) : Prop := (∃ Q2, w_codeOf S ((qI S 0 22) + x1) Q2 ∧ ∀ r3 S4, Q2 r3 S4 → (∀ S7, S7 = wI S4 0 13 (r3 + (6 : Int32)) → (d_four S7 (r3 + (2 : Int32)) ∧ (∀ S14, S14 = wI S7 0 35 ((((qI S7 0 13).toInt64) + (((f_four S7 (r3 + (2 : Int32))).toInt64) &&& (4294967295 : Int64))).toInt32) → (((0 : Int) ≤ ((qI S14 0 22) + x1).toInt ∧ ((qI S14 0 22) + x1).toInt < 48) ∧ (d_two S14 ((qI S14 9 ((((qI S14 0 22) + x1).toInt).toNat)) + (4 : Int32)) ∧ (∃ Q22, w_parameterPlaces S14 (f_two S14 ((qI S14 9 ((((qI S14 0 22) + x1).toInt).toNat)) + (4 : Int32))) Q22 ∧ ∀ r23 S24, Q22 r23 S24 → (∃ Q26 EQ26, w_within S24 (2 : Int64) Q26 EQ26 ∧ (∀ r27 S28, Q26 r27 S28 → (d_two S28 r27 ∧ (((0 : Int) ≤ x1.toInt ∧ x1.toInt < 24) ∧ (∀ S34, S34 = wI S28 12 x1.toInt.toNat (f_two S28 r27) → (((0 : Int) ≤ x1.toInt ∧ x1.toInt < 24) ∧ ((24 < (qI S34 12 x1.toInt.toNat).toInt → w_codeItems_J102 Q E S34 0 x1 r23 r27) ∧ (¬ 24 < (qI S34 12 x1.toInt.toNat).toInt → w_codeItems_J102 Q E S34 1 x1 r23 r27))))))) ∧ (∀ u9, EQ26 u9 → E u9)))))))))
set_option maxHeartbeats 2000000 in
set_option maxRecDepth 100000 in
theorem r_codeItems (l : Launch) (g : Gr) (ad : Nat → Nat) (sz : Nat) (S : MS) (x1 : Int32) (hw : wfM S) (Q : MS → Prop) (E : MS → Prop) (h : w_codeItems S x1 Q E) : vx_Met l yX14_codeItems (wt2 yX14_codeItems cX14_codeItems 9 none) ({ frames := 6, cells := 0, slots := 0, locals := 131 }) (va_Pc [.ref (ad 0), .int x1] (st_R g ad sz S)) (va_Qv (fun (u : MS) => Q u ∧ wfM u ∧ shy S u) (fun (u : MS) (t : State) => qE g ad (va_A (Wd g ad S) sz) u t) (va_A (Wd g ad S) sz)) (vx_X (fun (u : MS) => E u ∧ wfM u ∧ shy S u) (fun (n9 : String) (u : MS) (t : State) => n9 = RJxb5711 ∧ qE g ad (va_A (Wd g ad S) sz) u t) (va_A (Wd g ad S) sz)) 0 0 (va_A (Wd g ad S) sz) := by
  refine vx_ofW (cc := cX14_codeItems) (maxL := 9) (ret := none) (by decide) rfl ?_
  intro p e s m args below meth c s₁ B hml hnt hv
  obtain ⟨rfl, hsz, hP, hK, hD0, hex, hE⟩ := hv
  have hx := B.exec
  have hb := B.bytes
  have hr := B.returns
  have hlocks := B.notSynchronized
  have hts0 := atoms_spec (ws := wt2 yX14_codeItems cX14_codeItems 9 none) B.pre
  have hts : ∀ w ∈ tb2, w.before _ s = true := fun w h => hts0 w (List.mem_cons_of_mem _ h)
  have hown : s.vm.findClass RX14 = some m.cls := findClass_of_methodNamed B.named
  subst hsz
  have hD := hD0.self (sz := s.heap.size)
  generalize hAe : va_A (Wd g ad S) s.heap.size = A at hD hE ⊢
  have hA : ∀ q : Nat, s.heap.size ≤ q → A q := fun q h => by rw [← hAe]; exact Or.inr h
  have hR : Rep g ad A s S s.heap [] := ⟨hK, hP, hD, va_S.rf, hw⟩
  clear hK hP hD hD0
  have hl := lv_entry ([.ref (ad 0), .int x1]) (n := 9) (Nat.le_of_ble_eq_true rfl)
  rw [lg_entry_eq]
  generalize (lg_sl ([.ref (ad 0), .int x1]) ++ List.replicate (9 - (lg_sl ([.ref (ad 0), .int x1])).length) Slot.unset).toArray = ls at hl ⊢
  have hl : lv_has ls 9 [(0, .ref (ad 0)), (1, .int x1)] := hl
  have hsh : shy S S := shy.rf
  unfold w_codeItems at h
  refine lv_aload_n hx hb dX14_codeItems_0 rfl (lv_at hl 0 rfl) ?_
  refine lv_aload_n hx hb dX14_codeItems_1 rfl (lv_at hl 0 rfl) ?_
  refine va_get (D := rD g) (ci := 13) (v := .int (qI S 0 22)) (C := RX14) (T := TX14) (N := 143) hx hb hts in2X14 hown hR.K hR.P 0 (hR.at14 hR.w.1) rfl 22 (by decide) (hts _ kx_239) (fun _ h9 => h9) rfl dX14_codeItems_2 ?_
  refine lv_iload_n hx hb dX14_codeItems_5 rfl (lv_at hl 1 rfl) ?_
  refine lv_iadd hx hb dX14_codeItems_6 ?_
  refine lv_topi (fun z1 ez1 => ?_)
  obtain rfl : z1 = ((qI S 0 22) + x1) := ez1
  obtain ⟨Q2, h0, h⟩ := h
  have hFc := rfree hR hA
  refine va_calli (va_runV (As := [.int ((qI S 0 22) + x1)]) (rest := []) ⟨hx, hb, hml, hown, hts⟩ (r_codeOf l g ad s.heap.size S ((qI S 0 22) + x1) hR.w  Q2 h0) (cwV 1 hts (gd2_V kx_257 kx_258 kx_259 kx_177 kx_260) rfl rfl rfl (by decide +kernel) ⟨Nat.le_of_ble_eq_true rfl, Nat.le_of_ble_eq_true rfl⟩) ⟨rblind, va_recv hR.K hR.P (ci := 13) (q0 := 0) rfl (hR.at14 hR.w.1), fun U hU hW9 => rmk hU hW9 hR hex hE hFc⟩ rfl rfl hl.1 rfl (lv_room (Nat.le_of_ble_eq_true rfl)) dX14_codeItems_7 ⟨Nat.le_of_ble_eq_true rfl, Nat.le_of_ble_eq_true rfl⟩) hR.sS (fun q _ h => hFc q h) hFc (fun r3 S4 t9 H1 locs ht9 hvm9 hw9 hB9 hz9 hk9 hS => ?_)
  obtain ⟨hq5, hw9, hs9⟩ := hw9
  have hR : Rep g ad A s S4 H1 locs := hR.call ht9 hB9 hw9 hS hFc
  have hsh := hsh.tr hs9
  replace h := h r3 S4 hq5
  clear hB9 hz9 hk9 hvm9 ht9 hw9 hs9 hS
  generalize H1 = H at hR ⊢
  refine lv_istore_n (lv' := [(2, .int r3), (0, .ref (ad 0)), (1, .int x1)]) hx hb dX14_codeItems_10 rfl hl (by decide) rfl (fun ls hl => ?_)
  refine lv_aload_n hx hb dX14_codeItems_11 rfl (lv_at hl 1 rfl) ?_
  refine lv_iload_n hx hb dX14_codeItems_12 rfl (lv_at hl 0 rfl) ?_
  refine lv_bipush (v := 6) hx hb dX14_codeItems_13 (by decide) ?_
  refine lv_iadd hx hb dX14_codeItems_15 ?_
  refine lv_topi (fun z6 ez6 => ?_)
  obtain rfl : z6 = (r3 + (6 : Int32)) := ez6
  refine va_put (D := rD g) (ci := 13) (v := .int (r3 + (6 : Int32))) (ty := .int) (C := RX14) (T := TX14) (N := 143) hx hb hts in2X14 tyX14 tyX14_ok nmX14 hown hR.K hR.P hR.D hR.sS 0 (hR.at14 hR.w.1) rfl 13 (by decide) (hts _ kx_190) (fun _ h9 => h9) rfl (by decide +kernel) rfl rfl (Nat.le_of_ble_eq_true rfl) dX14_codeItems_16 (fun H locs hP hD hS => ?_)
  have hR : Rep g ad A s (wI S4 0 13 (r3 + (6 : Int32))) H locs := hR.pI hR.w.1 F14_s13 hP hD hS
  obtain ⟨S7, eS7⟩ : ∃ z, z = wI S4 0 13 (r3 + (6 : Int32)) := ⟨_, rfl⟩
  rw [← eS7] at hR
  replace h := h S7 eS7
  have hsh : shy S S7 := by rw [eS7]; exact hsh
  refine lv_aload_n hx hb dX14_codeItems_19 rfl (lv_at hl 1 rfl) ?_
  refine lv_aload_n hx hb dX14_codeItems_20 rfl (lv_at hl 1 rfl) ?_
  refine va_get (D := rD g) (ci := 13) (v := .int (qI S7 0 13)) (C := RX14) (T := TX14) (N := 143) hx hb hts in2X14 hown hR.K hR.P 0 (hR.at14 hR.w.1) rfl 13 (by decide) (hts _ kx_190) (fun _ h9 => h9) rfl dX14_codeItems_21 ?_
  refine lv_i2l (v := ((qI S7 0 13).toInt64)) hx hb dX14_codeItems_24 rfl ?_
  refine lv_aload_n hx hb dX14_codeItems_25 rfl (lv_at hl 1 rfl) ?_
  refine lv_iload_n hx hb dX14_codeItems_26 rfl (lv_at hl 0 rfl) ?_
  refine lv_iconst (v := 2) hx hb dX14_codeItems_27 (by decide) ?_
  refine lv_iadd hx hb dX14_codeItems_28 ?_
  refine lv_topi (fun z8 ez8 => ?_)
  obtain rfl : z8 = (r3 + (2 : Int32)) := ez8
  obtain ⟨hv9, h⟩ := h
  have hFc := rfree hR hA
  refine va_calli (va_runV (As := [.int (r3 + (2 : Int32))]) (rest := [.long ((qI S7 0 13).toInt64), .ref (ad 0)]) ⟨hx, hb, hml, hown, hts⟩ (r_four l g ad H.size S7 (r3 + (2 : Int32)) hR.w  hv9) (cwV 1 hts (gd2_V kx_212 kx_213 kx_214 kx_177 kx_215) rfl rfl rfl (by decide +kernel) ⟨Nat.le_of_ble_eq_true rfl, Nat.le_of_ble_eq_true rfl⟩) ⟨rblind, va_recv hR.K hR.P (ci := 13) (q0 := 0) rfl (hR.at14 hR.w.1), fun U hU hW9 => rmk hU hW9 hR hex hE hFc⟩ rfl rfl hl.1 rfl (lv_room (Nat.le_of_ble_eq_true rfl)) dX14_codeItems_29 ⟨Nat.le_of_ble_eq_true rfl, Nat.le_of_ble_eq_true rfl⟩) hR.sS (fun q _ h => hFc q h) hFc (fun r10 u9 t9 H1 locs ht9 hvm9 hw9 hB9 hz9 hk9 hS => ?_)
  have hR : Rep g ad A s S7 H1 locs := hR.call ht9 hB9 hR.w hS hFc
  obtain rfl : r10 = (f_four S7 (r3 + (2 : Int32))) := hw9
  clear hB9 hz9 hk9 hvm9 ht9 hS
  generalize H1 = H at hR ⊢
  refine lv_i2l (v := ((f_four S7 (r3 + (2 : Int32))).toInt64)) hx hb dX14_codeItems_32 rfl ?_
  refine lv_ldc2 hx hb hown (hts _ kx_216) dX14_codeItems_33 ?_
  refine lv_land hx hb dX14_codeItems_36 ?_
  refine lv_topl (fun z12 ez12 => ?_)
  obtain rfl : z12 = (((f_four S7 (r3 + (2 : Int32))).toInt64) &&& (4294967295 : Int64)) := ez12
  refine lv_ladd hx hb dX14_codeItems_37 ?_
  refine lv_topl (fun z13 ez13 => ?_)
  obtain rfl : z13 = (((qI S7 0 13).toInt64) + (((f_four S7 (r3 + (2 : Int32))).toInt64) &&& (4294967295 : Int64))) := ez13
  refine lv_l2i (v := ((((qI S7 0 13).toInt64) + (((f_four S7 (r3 + (2 : Int32))).toInt64) &&& (4294967295 : Int64))).toInt32)) hx hb dX14_codeItems_38 rfl ?_
  refine va_put (D := rD g) (ci := 13) (v := .int ((((qI S7 0 13).toInt64) + (((f_four S7 (r3 + (2 : Int32))).toInt64) &&& (4294967295 : Int64))).toInt32)) (ty := .int) (C := RX14) (T := TX14) (N := 143) hx hb hts in2X14 tyX14 tyX14_ok nmX14 hown hR.K hR.P hR.D hR.sS 0 (hR.at14 hR.w.1) rfl 35 (by decide) (hts _ kx_261) (fun _ h9 => h9) rfl (by decide +kernel) rfl rfl (Nat.le_of_ble_eq_true rfl) dX14_codeItems_39 (fun H locs hP hD hS => ?_)
  have hR : Rep g ad A s (wI S7 0 35 ((((qI S7 0 13).toInt64) + (((f_four S7 (r3 + (2 : Int32))).toInt64) &&& (4294967295 : Int64))).toInt32)) H locs := hR.pI hR.w.1 F14_s35 hP hD hS
  obtain ⟨S14, eS14⟩ : ∃ z, z = wI S7 0 35 ((((qI S7 0 13).toInt64) + (((f_four S7 (r3 + (2 : Int32))).toInt64) &&& (4294967295 : Int64))).toInt32) := ⟨_, rfl⟩
  rw [← eS14] at hR
  replace h := h S14 eS14
  have hsh : shy S S14 := by rw [eS14]; exact hsh
  refine lv_aload_n hx hb dX14_codeItems_42 rfl (lv_at hl 1 rfl) ?_
  refine lv_aload_n hx hb dX14_codeItems_43 rfl (lv_at hl 1 rfl) ?_
  refine lv_aload_n hx hb dX14_codeItems_44 rfl (lv_at hl 1 rfl) ?_
  refine va_get (D := rD g) (ci := 13) (v := .ref (ad 9)) (C := RX14) (T := TX14) (N := 143) hx hb hts in2X14 hown hR.K hR.P 0 (hR.at14 hR.w.1) rfl 24 (by decide) (hts _ kx_210) (fun _ h9 => h9) (congrArg (fun z => some (vf ad z)) (hR.w.2.1 _ fin_24).1) dX14_codeItems_45 ?_
  refine lv_aload_n hx hb dX14_codeItems_48 rfl (lv_at hl 1 rfl) ?_
  refine va_get (D := rD g) (ci := 13) (v := .int (qI S14 0 22)) (C := RX14) (T := TX14) (N := 143) hx hb hts in2X14 hown hR.K hR.P 0 (hR.at14 hR.w.1) rfl 22 (by decide) (hts _ kx_239) (fun _ h9 => h9) rfl dX14_codeItems_49 ?_
  refine lv_iload_n hx hb dX14_codeItems_52 rfl (lv_at hl 2 rfl) ?_
  refine lv_iadd hx hb dX14_codeItems_53 ?_
  refine lv_topi (fun z15 ez15 => ?_)
  obtain rfl : z15 = ((qI S14 0 22) + x1) := ez15
  obtain ⟨hv16, h⟩ := h
  refine va_iald hx hb hR.K hR.P 9 1 (hR.atI (hR.w.2.1 _ fin_24).2.1) rfl (k_ixN (k_ix (n := 48) (x := ((qI S14 0 22) + x1)) (a := ((qI S14 0 22) + x1).toInt) rfl hv16) (hR.w.2.1 _ fin_24).2.2) dX14_codeItems_54 ?_
  refine lv_topi (fun z17 ez17 => ?_)
  obtain rfl : z17 = (qI S14 9 ((((qI S14 0 22) + x1).toInt).toNat)) := ez17
  refine lv_iconst (v := 4) hx hb dX14_codeItems_55 (by decide) ?_
  refine lv_iadd hx hb dX14_codeItems_56 ?_
  refine lv_topi (fun z18 ez18 => ?_)
  obtain rfl : z18 = ((qI S14 9 ((((qI S14 0 22) + x1).toInt).toNat)) + (4 : Int32)) := ez18
  obtain ⟨hv19, h⟩ := h
  have hFc := rfree hR hA
  refine va_calli (va_runV (As := [.int ((qI S14 9 ((((qI S14 0 22) + x1).toInt).toNat)) + (4 : Int32))]) (rest := [.ref (ad 0)]) ⟨hx, hb, hml, hown, hts⟩ (r_two l g ad H.size S14 ((qI S14 9 ((((qI S14 0 22) + x1).toInt).toNat)) + (4 : Int32)) hR.w  hv19) (cwV 1 hts (gd2_V kx_186 kx_187 kx_188 kx_177 kx_189) rfl rfl rfl (by decide +kernel) ⟨Nat.le_of_ble_eq_true rfl, Nat.le_of_ble_eq_true rfl⟩) ⟨rblind, va_recv hR.K hR.P (ci := 13) (q0 := 0) rfl (hR.at14 hR.w.1), fun U hU hW9 => rmk hU hW9 hR hex hE hFc⟩ rfl rfl hl.1 rfl (lv_room (Nat.le_of_ble_eq_true rfl)) dX14_codeItems_57 ⟨Nat.le_of_ble_eq_true rfl, Nat.le_of_ble_eq_true rfl⟩) hR.sS (fun q _ h => hFc q h) hFc (fun r20 u9 t9 H1 locs ht9 hvm9 hw9 hB9 hz9 hk9 hS => ?_)
  have hR : Rep g ad A s S14 H1 locs := hR.call ht9 hB9 hR.w hS hFc
  obtain rfl : r20 = (f_two S14 ((qI S14 9 ((((qI S14 0 22) + x1).toInt).toNat)) + (4 : Int32))) := hw9
  clear hB9 hz9 hk9 hvm9 ht9 hS
  generalize H1 = H at hR ⊢
  obtain ⟨Q22, h0, h⟩ := h
  have hFc := rfree hR hA
  refine va_calli (va_runV (As := [.int (f_two S14 ((qI S14 9 ((((qI S14 0 22) + x1).toInt).toNat)) + (4 : Int32)))]) (rest := []) ⟨hx, hb, hml, hown, hts⟩ (r_parameterPlaces l g ad H.size S14 (f_two S14 ((qI S14 9 ((((qI S14 0 22) + x1).toInt).toNat)) + (4 : Int32))) hR.w  Q22 h0) (cwV 1 hts (gd2_V kx_235 kx_236 kx_237 kx_177 kx_238) rfl rfl rfl (by decide +kernel) ⟨Nat.le_of_ble_eq_true rfl, Nat.le_of_ble_eq_true rfl⟩) ⟨rblind, va_recv hR.K hR.P (ci := 13) (q0 := 0) rfl (hR.at14 hR.w.1), fun U hU hW9 => rmk hU hW9 hR hex hE hFc⟩ rfl rfl hl.1 rfl (lv_room (Nat.le_of_ble_eq_true rfl)) dX14_codeItems_60 ⟨Nat.le_of_ble_eq_true rfl, Nat.le_of_ble_eq_true rfl⟩) hR.sS (fun q _ h => hFc q h) hFc (fun r23 S24 t9 H1 locs ht9 hvm9 hw9 hB9 hz9 hk9 hS => ?_)
  obtain ⟨hq25, hw9, hs9⟩ := hw9
  have hR : Rep g ad A s S24 H1 locs := hR.call ht9 hB9 hw9 hS hFc
  have hsh := hsh.tr hs9
  replace h := h r23 S24 hq25
  clear hB9 hz9 hk9 hvm9 ht9 hw9 hs9 hS
  generalize H1 = H at hR ⊢
  refine lv_istore_n (lv' := [(3, .int r23), (2, .int r3), (0, .ref (ad 0)), (1, .int x1)]) hx hb dX14_codeItems_63 rfl hl (by decide) rfl (fun ls hl => ?_)
  refine lv_aload_n hx hb dX14_codeItems_64 rfl (lv_at hl 2 rfl) ?_
  refine lv_ldc2 hx hb hown (hts _ kx_192) dX14_codeItems_65 ?_
  obtain ⟨Q26, EQ26, h0, h⟩ := h
  have hFc := rfree hR hA
  refine vx_calli (vx_runV (As := [.long (2 : Int64)]) (rest := []) ⟨hx, hb, hml, hown, hts⟩ (r_within l g ad H.size S24 (2 : Int64) hR.w  Q26 EQ26 h0) (cwV 1 hts (gd2_V kx_262 kx_263 kx_264 kx_177 kx_265) rfl rfl rfl (by decide +kernel) ⟨Nat.le_of_ble_eq_true rfl, Nat.le_of_ble_eq_true rfl⟩) ⟨rblind, va_recv hR.K hR.P (ci := 13) (q0 := 0) rfl (hR.at14 hR.w.1), fun U hU hW9 => rmk hU hW9 hR hex hE hFc⟩ rfl rfl hl.1 rfl (lv_room (Nat.le_of_ble_eq_true rfl)) dX14_codeItems_68 ⟨Nat.le_of_ble_eq_true rfl, Nat.le_of_ble_eq_true rfl⟩) hR.sS (fun q _ h => hFc q h) hFc (fun q _ h => hFc q h) (fun E9 ce9 q9 u9 t9 H1 locs ht9 hvm9 hp9 hB9 hz9 hk9 hS hce9 hcv9 hcl9 => ?_) (fun r27 S28 t9 H1 locs ht9 hvm9 hw9 hB9 hz9 hk9 hS => ?_)
  · obtain ⟨hp9, hwx, hsx⟩ := hp9
    obtain ⟨rfl, hBx⟩ := hB9
    replace h := h.2 u9 hp9
    have hR : Rep g ad A s u9 H1 locs := hR.call ht9 hBx hwx hS hFc
    have hsh := hsh.tr hsx
    exact vx_out (E := RJxb5711) (q := q9) (fun x h9 => (hnt x h9).elim) hlocks hce9 hcv9 hcl9 (fun t9 ht9 ha9 => ⟨u9, ⟨h, hR.w, hsh⟩, ⟨rfl, by rw [ht9]; exact hR.P, hR.D⟩, hR.sS.F ht9⟩) hR.sS.2.2 (Nat.le_of_ble_eq_true rfl) (Nat.le_of_ble_eq_true rfl)
  · obtain ⟨hq29, hw9, hs9⟩ := hw9
    have hR : Rep g ad A s S28 H1 locs := hR.call ht9 hB9 hw9 hS hFc
    have hsh := hsh.tr hs9
    replace h := h.1 r27 S28 hq29
    clear hB9 hz9 hk9 hvm9 ht9 hw9 hs9 hS
    generalize H1 = H at hR ⊢
    refine lv_istore (lv' := [(4, .int r27), (3, .int r23), (2, .int r3), (0, .ref (ad 0)), (1, .int x1)]) hx hb dX14_codeItems_71 hl (by decide) rfl (fun ls hl => ?_)
    refine lv_aload_n hx hb dX14_codeItems_73 rfl (lv_at hl 3 rfl) ?_
    refine va_get (D := rD g) (ci := 13) (v := .ref (ad 12)) (C := RX14) (T := TX14) (N := 143) hx hb hts in2X14 hown hR.K hR.P 0 (hR.at14 hR.w.1) rfl 29 (by decide) (hts _ kx_266) (fun _ h9 => h9) (congrArg (fun z => some (vf ad z)) (hR.w.2.1 _ fin_29).1) dX14_codeItems_74 ?_
    refine lv_iload_n hx hb dX14_codeItems_77 rfl (lv_at hl 4 rfl) ?_
    refine lv_aload_n hx hb dX14_codeItems_78 rfl (lv_at hl 3 rfl) ?_
    refine lv_iload hx hb dX14_codeItems_79 (lv_at hl 0 rfl) ?_
    obtain ⟨hv30, h⟩ := h
    have hFc := rfree hR hA
    refine va_calli (va_runV (As := [.int r27]) (rest := [.int x1, .ref (ad 12)]) ⟨hx, hb, hml, hown, hts⟩ (r_two l g ad H.size S28 r27 hR.w  hv30) (cwV 1 hts (gd2_V kx_186 kx_187 kx_188 kx_177 kx_189) rfl rfl rfl (by decide +kernel) ⟨Nat.le_of_ble_eq_true rfl, Nat.le_of_ble_eq_true rfl⟩) ⟨rblind, va_recv hR.K hR.P (ci := 13) (q0 := 0) rfl (hR.at14 hR.w.1), fun U hU hW9 => rmk hU hW9 hR hex hE hFc⟩ rfl rfl hl.1 rfl (lv_room (Nat.le_of_ble_eq_true rfl)) dX14_codeItems_81 ⟨Nat.le_of_ble_eq_true rfl, Nat.le_of_ble_eq_true rfl⟩) hR.sS (fun q _ h => hFc q h) hFc (fun r31 u9 t9 H1 locs ht9 hvm9 hw9 hB9 hz9 hk9 hS => ?_)
    have hR : Rep g ad A s S28 H1 locs := hR.call ht9 hB9 hR.w hS hFc
    obtain rfl : r31 = (f_two S28 r27) := hw9
    clear hB9 hz9 hk9 hvm9 ht9 hS
    generalize H1 = H at hR ⊢
    obtain ⟨hv33, h⟩ := h
    refine va_iast hx hb hR.K hR.P hR.D hR.sS 12 1 (hR.atI (hR.w.2.1 _ fin_29).2.1) rfl (k_ixN (k_ix (n := 24) (x := x1) (a := x1.toInt) rfl hv33) (hR.w.2.1 _ fin_29).2.2) dX14_codeItems_84 (fun H locs hP hD hS => ?_)
    have hR : Rep g ad A s (wI S28 12 x1.toInt.toNat (f_two S28 r27)) H locs := hR.aI (hR.w.2.1 _ fin_29).2.1 hP hD hS
    obtain ⟨S34, eS34⟩ : ∃ z, z = wI S28 12 x1.toInt.toNat (f_two S28 r27) := ⟨_, rfl⟩
    rw [← eS34] at hR
    replace h := h S34 eS34
    have hsh : shy S S34 := by rw [eS34]; exact hsh
    refine lv_aload_n hx hb dX14_codeItems_85 rfl (lv_at hl 3 rfl) ?_
    refine lv_aload_n hx hb dX14_codeItems_86 rfl (lv_at hl 3 rfl) ?_
    refine va_get (D := rD g) (ci := 13) (v := .ref (ad 12)) (C := RX14) (T := TX14) (N := 143) hx hb hts in2X14 hown hR.K hR.P 0 (hR.at14 hR.w.1) rfl 29 (by decide) (hts _ kx_266) (fun _ h9 => h9) (congrArg (fun z => some (vf ad z)) (hR.w.2.1 _ fin_29).1) dX14_codeItems_87 ?_
    refine lv_iload_n hx hb dX14_codeItems_90 rfl (lv_at hl 4 rfl) ?_
    obtain ⟨hv35, h⟩ := h
    refine va_iald hx hb hR.K hR.P 12 1 (hR.atI (hR.w.2.1 _ fin_29).2.1) rfl (k_ixN (k_ix (n := 24) (x := x1) (a := x1.toInt) rfl hv35) (hR.w.2.1 _ fin_29).2.2) dX14_codeItems_91 ?_
    refine lv_topi (fun z36 ez36 => ?_)
    obtain rfl : z36 = (qI S34 12 x1.toInt.toNat) := ez36
    refine lv_bipush (v := 24) hx hb dX14_codeItems_92 (by decide) ?_
    have J_102 : ∀ (U102 : MS) (t102_0 : Int32) (v102_1 : Int32) (v102_3 : Int32) (v102_4 : Int32) (H : Heap) (locs : List Loc) (ls : Array Slot), w_codeItems_J102 Q E U102 t102_0 v102_1 v102_3 v102_4 → (t102_0 = 0 ∨ t102_0 = 1) → shy S U102 → Rep g ad A s U102 H locs → lv_has ls 9 [(0, .ref (ad 0)), (1, .int v102_1), (3, .int v102_3), (4, .int v102_4)] → W p l e (headSpec (wt2 yX14_codeItems cX14_codeItems 9 none) ({ frames := 6, cells := 0, slots := 0, locals := 131 })).room s m ([.ref (ad 0), .int x1] : List Value).toArray below meth c H locs 0 0 (vx_MQ below (va_Qv (fun (u : MS) => Q u ∧ wfM u ∧ shy S u) (fun (u : MS) (t : State) => qE g ad A u t) A) ((vx_X (fun (u : MS) => E u ∧ wfM u ∧ shy S u) (fun (n9 : String) (u : MS) (t : State) => n9 = RJxb5711 ∧ qE g ad A u t) A)) ([.ref (ad 0), .int x1] : List Value).toArray s 0 0 A) (F0 m 102 ls [.int t102_0, .ref (ad 0)]) := by
      intro U102 t102_0 v102_1 v102_3 v102_4 H locs ls h hz_t102_0 hsh hR hl
      unfold w_codeItems_J102 at h
      refine lv_bipush (v := 13) hx hb dX14_codeItems_102 (by decide) ?_
      refine lv_iload hx hb dX14_codeItems_104 (lv_at hl 3 rfl) ?_
      obtain ⟨Q37, EQ37, h0, h⟩ := h
      have hFc := rfree hR hA
      refine vx_callv (vx_runV (As := [.int t102_0, .int 13, .int v102_4]) (rest := []) ⟨hx, hb, hml, hown, hts⟩ (r_must l g ad H.size U102 t102_0 (13 : Int32) v102_4 hR.w hz_t102_0 Q37 EQ37 h0) (cwV 3 hts (gd2_V kx_198 kx_199 kx_200 kx_177 kx_201) rfl rfl rfl (by decide +kernel) ⟨Nat.le_of_ble_eq_true rfl, Nat.le_of_ble_eq_true rfl⟩) ⟨rblind, va_recv hR.K hR.P (ci := 13) (q0 := 0) rfl (hR.at14 hR.w.1), fun U hU hW9 => rmk hU hW9 hR hex hE hFc⟩ rfl rfl hl.1 rfl (lv_room (Nat.le_of_ble_eq_true rfl)) dX14_codeItems_106 ⟨Nat.le_of_ble_eq_true rfl, Nat.le_of_ble_eq_true rfl⟩) hR.sS (fun q _ h => hFc q h) hFc (fun q _ h => hFc q h) (fun E9 ce9 q9 u9 t9 H1 locs ht9 hvm9 hp9 hB9 hz9 hk9 hS hce9 hcv9 hcl9 => ?_) (fun  S38 t9 H1 locs ht9 hvm9 hw9 hB9 hz9 hk9 hS => ?_)
      · obtain ⟨hp9, hwx, hsx⟩ := hp9
        obtain ⟨rfl, hBx⟩ := hB9
        replace h := h.2 u9 hp9
        have hR : Rep g ad A s u9 H1 locs := hR.call ht9 hBx hwx hS hFc
        have hsh := hsh.tr hsx
        exact vx_out (E := RJxb5711) (q := q9) (fun x h9 => (hnt x h9).elim) hlocks hce9 hcv9 hcl9 (fun t9 ht9 ha9 => ⟨u9, ⟨h, hR.w, hsh⟩, ⟨rfl, by rw [ht9]; exact hR.P, hR.D⟩, hR.sS.F ht9⟩) hR.sS.2.2 (Nat.le_of_ble_eq_true rfl) (Nat.le_of_ble_eq_true rfl)
      · obtain ⟨hq39, hw9, hs9⟩ := hw9
        have hR : Rep g ad A s S38 H1 locs := hR.call ht9 hB9 hw9 hS hFc
        have hsh := hsh.tr hs9
        replace h := h.1  S38 hq39
        clear hB9 hz9 hk9 hvm9 ht9 hw9 hs9 hS
        generalize H1 = H at hR ⊢
        refine lv_aload_n hx hb dX14_codeItems_109 rfl (lv_at hl 0 rfl) ?_
        refine lv_ldc2 hx hb hown (hts _ kx_192) dX14_codeItems_110 ?_
        obtain ⟨Q40, EQ40, h0, h⟩ := h
        have hFc := rfree hR hA
        refine vx_calli (vx_runV (As := [.long (2 : Int64)]) (rest := []) ⟨hx, hb, hml, hown, hts⟩ (r_within l g ad H.size S38 (2 : Int64) hR.w  Q40 EQ40 h0) (cwV 1 hts (gd2_V kx_262 kx_263 kx_264 kx_177 kx_265) rfl rfl rfl (by decide +kernel) ⟨Nat.le_of_ble_eq_true rfl, Nat.le_of_ble_eq_true rfl⟩) ⟨rblind, va_recv hR.K hR.P (ci := 13) (q0 := 0) rfl (hR.at14 hR.w.1), fun U hU hW9 => rmk hU hW9 hR hex hE hFc⟩ rfl rfl hl.1 rfl (lv_room (Nat.le_of_ble_eq_true rfl)) dX14_codeItems_113 ⟨Nat.le_of_ble_eq_true rfl, Nat.le_of_ble_eq_true rfl⟩) hR.sS (fun q _ h => hFc q h) hFc (fun q _ h => hFc q h) (fun E9 ce9 q9 u9 t9 H1 locs ht9 hvm9 hp9 hB9 hz9 hk9 hS hce9 hcv9 hcl9 => ?_) (fun r41 S42 t9 H1 locs ht9 hvm9 hw9 hB9 hz9 hk9 hS => ?_)
        · obtain ⟨hp9, hwx, hsx⟩ := hp9
          obtain ⟨rfl, hBx⟩ := hB9
          replace h := h.2 u9 hp9
          have hR : Rep g ad A s u9 H1 locs := hR.call ht9 hBx hwx hS hFc
          have hsh := hsh.tr hsx
          exact vx_out (E := RJxb5711) (q := q9) (fun x h9 => (hnt x h9).elim) hlocks hce9 hcv9 hcl9 (fun t9 ht9 ha9 => ⟨u9, ⟨h, hR.w, hsh⟩, ⟨rfl, by rw [ht9]; exact hR.P, hR.D⟩, hR.sS.F ht9⟩) hR.sS.2.2 (Nat.le_of_ble_eq_true rfl) (Nat.le_of_ble_eq_true rfl)
        · obtain ⟨hq43, hw9, hs9⟩ := hw9
          have hR : Rep g ad A s S42 H1 locs := hR.call ht9 hB9 hw9 hS hFc
          have hsh := hsh.tr hs9
          replace h := h.1 r41 S42 hq43
          clear hB9 hz9 hk9 hvm9 ht9 hw9 hs9 hS
          generalize H1 = H at hR ⊢
          refine lv_istore (lv' := [(4, .int r41), (0, .ref (ad 0)), (1, .int v102_1), (3, .int v102_3)]) hx hb dX14_codeItems_116 hl (by decide) rfl (fun ls hl => ?_)
          refine lv_aload_n hx hb dX14_codeItems_118 rfl (lv_at hl 1 rfl) ?_
          refine va_get (D := rD g) (ci := 13) (v := .ref (ad 13)) (C := RX14) (T := TX14) (N := 143) hx hb hts in2X14 hown hR.K hR.P 0 (hR.at14 hR.w.1) rfl 30 (by decide) (hts _ kx_267) (fun _ h9 => h9) (congrArg (fun z => some (vf ad z)) (hR.w.2.1 _ fin_30).1) dX14_codeItems_119 ?_
          refine lv_iload_n hx hb dX14_codeItems_122 rfl (lv_at hl 2 rfl) ?_
          refine lv_aload_n hx hb dX14_codeItems_123 rfl (lv_at hl 1 rfl) ?_
          refine lv_iload hx hb dX14_codeItems_124 (lv_at hl 0 rfl) ?_
          obtain ⟨hv44, h⟩ := h
          have hFc := rfree hR hA
          refine va_calli (va_runV (As := [.int r41]) (rest := [.int v102_1, .ref (ad 13)]) ⟨hx, hb, hml, hown, hts⟩ (r_two l g ad H.size S42 r41 hR.w  hv44) (cwV 1 hts (gd2_V kx_186 kx_187 kx_188 kx_177 kx_189) rfl rfl rfl (by decide +kernel) ⟨Nat.le_of_ble_eq_true rfl, Nat.le_of_ble_eq_true rfl⟩) ⟨rblind, va_recv hR.K hR.P (ci := 13) (q0 := 0) rfl (hR.at14 hR.w.1), fun U hU hW9 => rmk hU hW9 hR hex hE hFc⟩ rfl rfl hl.1 rfl (lv_room (Nat.le_of_ble_eq_true rfl)) dX14_codeItems_126 ⟨Nat.le_of_ble_eq_true rfl, Nat.le_of_ble_eq_true rfl⟩) hR.sS (fun q _ h => hFc q h) hFc (fun r45 u9 t9 H1 locs ht9 hvm9 hw9 hB9 hz9 hk9 hS => ?_)
          have hR : Rep g ad A s S42 H1 locs := hR.call ht9 hB9 hR.w hS hFc
          obtain rfl : r45 = (f_two S42 r41) := hw9
          clear hB9 hz9 hk9 hvm9 ht9 hS
          generalize H1 = H at hR ⊢
          obtain ⟨hv47, h⟩ := h
          refine va_iast hx hb hR.K hR.P hR.D hR.sS 13 1 (hR.atI (hR.w.2.1 _ fin_30).2.1) rfl (k_ixN (k_ix (n := 24) (x := v102_1) (a := v102_1.toInt) rfl hv47) (hR.w.2.1 _ fin_30).2.2) dX14_codeItems_129 (fun H locs hP hD hS => ?_)
          have hR : Rep g ad A s (wI S42 13 v102_1.toInt.toNat (f_two S42 r41)) H locs := hR.aI (hR.w.2.1 _ fin_30).2.1 hP hD hS
          obtain ⟨S48, eS48⟩ : ∃ z, z = wI S42 13 v102_1.toInt.toNat (f_two S42 r41) := ⟨_, rfl⟩
          rw [← eS48] at hR
          replace h := h S48 eS48
          have hsh : shy S S48 := by rw [eS48]; exact hsh
          refine lv_aload_n hx hb dX14_codeItems_130 rfl (lv_at hl 1 rfl) ?_
          refine lv_aload_n hx hb dX14_codeItems_131 rfl (lv_at hl 1 rfl) ?_
          refine va_get (D := rD g) (ci := 13) (v := .ref (ad 13)) (C := RX14) (T := TX14) (N := 143) hx hb hts in2X14 hown hR.K hR.P 0 (hR.at14 hR.w.1) rfl 30 (by decide) (hts _ kx_267) (fun _ h9 => h9) (congrArg (fun z => some (vf ad z)) (hR.w.2.1 _ fin_30).1) dX14_codeItems_132 ?_
          refine lv_iload_n hx hb dX14_codeItems_135 rfl (lv_at hl 2 rfl) ?_
          obtain ⟨hv49, h⟩ := h
          refine va_iald hx hb hR.K hR.P 13 1 (hR.atI (hR.w.2.1 _ fin_30).2.1) rfl (k_ixN (k_ix (n := 24) (x := v102_1) (a := v102_1.toInt) rfl hv49) (hR.w.2.1 _ fin_30).2.2) dX14_codeItems_136 ?_
          refine lv_topi (fun z50 ez50 => ?_)
          obtain rfl : z50 = (qI S48 13 v102_1.toInt.toNat) := ez50
          refine lv_bipush (v := 24) hx hb dX14_codeItems_137 (by decide) ?_
          have J_157 : ∀ (U157 : MS) (t157_0 : Int32) (v157_1 : Int32) (v157_4 : Int32) (H : Heap) (locs : List Loc) (ls : Array Slot), w_codeItems_J157 Q E U157 t157_0 v157_1 v157_4 → (t157_0 = 0 ∨ t157_0 = 1) → shy S U157 → Rep g ad A s U157 H locs → lv_has ls 9 [(0, .ref (ad 0)), (1, .int v157_1), (4, .int v157_4)] → W p l e (headSpec (wt2 yX14_codeItems cX14_codeItems 9 none) ({ frames := 6, cells := 0, slots := 0, locals := 131 })).room s m ([.ref (ad 0), .int x1] : List Value).toArray below meth c H locs 0 0 (vx_MQ below (va_Qv (fun (u : MS) => Q u ∧ wfM u ∧ shy S u) (fun (u : MS) (t : State) => qE g ad A u t) A) ((vx_X (fun (u : MS) => E u ∧ wfM u ∧ shy S u) (fun (n9 : String) (u : MS) (t : State) => n9 = RJxb5711 ∧ qE g ad A u t) A)) ([.ref (ad 0), .int x1] : List Value).toArray s 0 0 A) (F0 m 157 ls [.int t157_0, .ref (ad 0)]) := by
            intro U157 t157_0 v157_1 v157_4 H locs ls h hz_t157_0 hsh hR hl
            unfold w_codeItems_J157 at h
            refine lv_bipush (v := 13) hx hb dX14_codeItems_157 (by decide) ?_
            refine lv_iload hx hb dX14_codeItems_159 (lv_at hl 2 rfl) ?_
            obtain ⟨Q51, EQ51, h0, h⟩ := h
            have hFc := rfree hR hA
            refine vx_callv (vx_runV (As := [.int t157_0, .int 13, .int v157_4]) (rest := []) ⟨hx, hb, hml, hown, hts⟩ (r_must l g ad H.size U157 t157_0 (13 : Int32) v157_4 hR.w hz_t157_0 Q51 EQ51 h0) (cwV 3 hts (gd2_V kx_198 kx_199 kx_200 kx_177 kx_201) rfl rfl rfl (by decide +kernel) ⟨Nat.le_of_ble_eq_true rfl, Nat.le_of_ble_eq_true rfl⟩) ⟨rblind, va_recv hR.K hR.P (ci := 13) (q0 := 0) rfl (hR.at14 hR.w.1), fun U hU hW9 => rmk hU hW9 hR hex hE hFc⟩ rfl rfl hl.1 rfl (lv_room (Nat.le_of_ble_eq_true rfl)) dX14_codeItems_161 ⟨Nat.le_of_ble_eq_true rfl, Nat.le_of_ble_eq_true rfl⟩) hR.sS (fun q _ h => hFc q h) hFc (fun q _ h => hFc q h) (fun E9 ce9 q9 u9 t9 H1 locs ht9 hvm9 hp9 hB9 hz9 hk9 hS hce9 hcv9 hcl9 => ?_) (fun  S52 t9 H1 locs ht9 hvm9 hw9 hB9 hz9 hk9 hS => ?_)
            · obtain ⟨hp9, hwx, hsx⟩ := hp9
              obtain ⟨rfl, hBx⟩ := hB9
              replace h := h.2 u9 hp9
              have hR : Rep g ad A s u9 H1 locs := hR.call ht9 hBx hwx hS hFc
              have hsh := hsh.tr hsx
              exact vx_out (E := RJxb5711) (q := q9) (fun x h9 => (hnt x h9).elim) hlocks hce9 hcv9 hcl9 (fun t9 ht9 ha9 => ⟨u9, ⟨h, hR.w, hsh⟩, ⟨rfl, by rw [ht9]; exact hR.P, hR.D⟩, hR.sS.F ht9⟩) hR.sS.2.2 (Nat.le_of_ble_eq_true rfl) (Nat.le_of_ble_eq_true rfl)
            · obtain ⟨hq53, hw9, hs9⟩ := hw9
              have hR : Rep g ad A s S52 H1 locs := hR.call ht9 hB9 hw9 hS hFc
              have hsh := hsh.tr hs9
              replace h := h.1  S52 hq53
              clear hB9 hz9 hk9 hvm9 ht9 hw9 hs9 hS
              generalize H1 = H at hR ⊢
              refine lv_aload_n hx hb dX14_codeItems_164 rfl (lv_at hl 0 rfl) ?_
              refine lv_ldc2 hx hb hown (hts _ kx_211) dX14_codeItems_165 ?_
              obtain ⟨Q54, EQ54, h0, h⟩ := h
              have hFc := rfree hR hA
              refine vx_calli (vx_runV (As := [.long (4 : Int64)]) (rest := []) ⟨hx, hb, hml, hown, hts⟩ (r_within l g ad H.size S52 (4 : Int64) hR.w  Q54 EQ54 h0) (cwV 1 hts (gd2_V kx_262 kx_263 kx_264 kx_177 kx_265) rfl rfl rfl (by decide +kernel) ⟨Nat.le_of_ble_eq_true rfl, Nat.le_of_ble_eq_true rfl⟩) ⟨rblind, va_recv hR.K hR.P (ci := 13) (q0 := 0) rfl (hR.at14 hR.w.1), fun U hU hW9 => rmk hU hW9 hR hex hE hFc⟩ rfl rfl hl.1 rfl (lv_room (Nat.le_of_ble_eq_true rfl)) dX14_codeItems_168 ⟨Nat.le_of_ble_eq_true rfl, Nat.le_of_ble_eq_true rfl⟩) hR.sS (fun q _ h => hFc q h) hFc (fun q _ h => hFc q h) (fun E9 ce9 q9 u9 t9 H1 locs ht9 hvm9 hp9 hB9 hz9 hk9 hS hce9 hcv9 hcl9 => ?_) (fun r55 S56 t9 H1 locs ht9 hvm9 hw9 hB9 hz9 hk9 hS => ?_)
              · obtain ⟨hp9, hwx, hsx⟩ := hp9
                obtain ⟨rfl, hBx⟩ := hB9
                replace h := h.2 u9 hp9
                have hR : Rep g ad A s u9 H1 locs := hR.call ht9 hBx hwx hS hFc
                have hsh := hsh.tr hsx
                exact vx_out (E := RJxb5711) (q := q9) (fun x h9 => (hnt x h9).elim) hlocks hce9 hcv9 hcl9 (fun t9 ht9 ha9 => ⟨u9, ⟨h, hR.w, hsh⟩, ⟨rfl, by rw [ht9]; exact hR.P, hR.D⟩, hR.sS.F ht9⟩) hR.sS.2.2 (Nat.le_of_ble_eq_true rfl) (Nat.le_of_ble_eq_true rfl)
              · obtain ⟨hq57, hw9, hs9⟩ := hw9
                have hR : Rep g ad A s S56 H1 locs := hR.call ht9 hB9 hw9 hS hFc
                have hsh := hsh.tr hs9
                replace h := h.1 r55 S56 hq57
                clear hB9 hz9 hk9 hvm9 ht9 hw9 hs9 hS
                generalize H1 = H at hR ⊢
                refine lv_istore (lv' := [(4, .int r55), (0, .ref (ad 0)), (1, .int v157_1)]) hx hb dX14_codeItems_171 hl (by decide) rfl (fun ls hl => ?_)
                refine lv_aload_n hx hb dX14_codeItems_173 rfl (lv_at hl 1 rfl) ?_
                refine lv_iload hx hb dX14_codeItems_174 (lv_at hl 0 rfl) ?_
                obtain ⟨hv58, h⟩ := h
                have hFc := rfree hR hA
                refine va_calli (va_runV (As := [.int r55]) (rest := []) ⟨hx, hb, hml, hown, hts⟩ (r_four l g ad H.size S56 r55 hR.w  hv58) (cwV 1 hts (gd2_V kx_212 kx_213 kx_214 kx_177 kx_215) rfl rfl rfl (by decide +kernel) ⟨Nat.le_of_ble_eq_true rfl, Nat.le_of_ble_eq_true rfl⟩) ⟨rblind, va_recv hR.K hR.P (ci := 13) (q0 := 0) rfl (hR.at14 hR.w.1), fun U hU hW9 => rmk hU hW9 hR hex hE hFc⟩ rfl rfl hl.1 rfl (lv_room (Nat.le_of_ble_eq_true rfl)) dX14_codeItems_176 ⟨Nat.le_of_ble_eq_true rfl, Nat.le_of_ble_eq_true rfl⟩) hR.sS (fun q _ h => hFc q h) hFc (fun r59 u9 t9 H1 locs ht9 hvm9 hw9 hB9 hz9 hk9 hS => ?_)
                have hR : Rep g ad A s S56 H1 locs := hR.call ht9 hB9 hR.w hS hFc
                obtain rfl : r59 = (f_four S56 r55) := hw9
                clear hB9 hz9 hk9 hvm9 ht9 hS
                generalize H1 = H at hR ⊢
                obtain ⟨a61, ea61⟩ : ∃ z, z = (f_four S56 r55) := ⟨_, rfl⟩
                rw [← ea61]
                replace h := h a61 ea61
                refine lv_istore (lv' := [(5, .int a61), (4, .int r55), (0, .ref (ad 0)), (1, .int v157_1)]) hx hb dX14_codeItems_179 hl (by decide) rfl (fun ls hl => ?_)
                refine lv_aload_n hx hb dX14_codeItems_181 rfl (lv_at hl 2 rfl) ?_
                refine lv_iload hx hb dX14_codeItems_182 (lv_at hl 0 rfl) ?_
                refine lv_iconst (v := 1) hx hb dX14_codeItems_184 (by decide) ?_
                have J_201 : ∀ (U201 : MS) (t201_0 : Int32) (v201_1 : Int32) (v201_4 : Int32) (v201_5 : Int32) (H : Heap) (locs : List Loc) (ls : Array Slot), w_codeItems_J201 Q E U201 t201_0 v201_1 v201_4 v201_5 → (t201_0 = 0 ∨ t201_0 = 1) → shy S U201 → Rep g ad A s U201 H locs → lv_has ls 9 [(0, .ref (ad 0)), (1, .int v201_1), (4, .int v201_4), (5, .int v201_5)] → W p l e (headSpec (wt2 yX14_codeItems cX14_codeItems 9 none) ({ frames := 6, cells := 0, slots := 0, locals := 131 })).room s m ([.ref (ad 0), .int x1] : List Value).toArray below meth c H locs 0 0 (vx_MQ below (va_Qv (fun (u : MS) => Q u ∧ wfM u ∧ shy S u) (fun (u : MS) (t : State) => qE g ad A u t) A) ((vx_X (fun (u : MS) => E u ∧ wfM u ∧ shy S u) (fun (n9 : String) (u : MS) (t : State) => n9 = RJxb5711 ∧ qE g ad A u t) A)) ([.ref (ad 0), .int x1] : List Value).toArray s 0 0 A) (F0 m 201 ls [.int t201_0, .ref (ad 0)]) := by
                  intro U201 t201_0 v201_1 v201_4 v201_5 H locs ls h hz_t201_0 hsh hR hl
                  unfold w_codeItems_J201 at h
                  refine lv_bipush (v := 13) hx hb dX14_codeItems_201 (by decide) ?_
                  refine lv_iload hx hb dX14_codeItems_203 (lv_at hl 2 rfl) ?_
                  obtain ⟨Q62, EQ62, h0, h⟩ := h
                  have hFc := rfree hR hA
                  refine vx_callv (vx_runV (As := [.int t201_0, .int 13, .int v201_4]) (rest := []) ⟨hx, hb, hml, hown, hts⟩ (r_must l g ad H.size U201 t201_0 (13 : Int32) v201_4 hR.w hz_t201_0 Q62 EQ62 h0) (cwV 3 hts (gd2_V kx_198 kx_199 kx_200 kx_177 kx_201) rfl rfl rfl (by decide +kernel) ⟨Nat.le_of_ble_eq_true rfl, Nat.le_of_ble_eq_true rfl⟩) ⟨rblind, va_recv hR.K hR.P (ci := 13) (q0 := 0) rfl (hR.at14 hR.w.1), fun U hU hW9 => rmk hU hW9 hR hex hE hFc⟩ rfl rfl hl.1 rfl (lv_room (Nat.le_of_ble_eq_true rfl)) dX14_codeItems_205 ⟨Nat.le_of_ble_eq_true rfl, Nat.le_of_ble_eq_true rfl⟩) hR.sS (fun q _ h => hFc q h) hFc (fun q _ h => hFc q h) (fun E9 ce9 q9 u9 t9 H1 locs ht9 hvm9 hp9 hB9 hz9 hk9 hS hce9 hcv9 hcl9 => ?_) (fun  S63 t9 H1 locs ht9 hvm9 hw9 hB9 hz9 hk9 hS => ?_)
                  · obtain ⟨hp9, hwx, hsx⟩ := hp9
                    obtain ⟨rfl, hBx⟩ := hB9
                    replace h := h.2 u9 hp9
                    have hR : Rep g ad A s u9 H1 locs := hR.call ht9 hBx hwx hS hFc
                    have hsh := hsh.tr hsx
                    exact vx_out (E := RJxb5711) (q := q9) (fun x h9 => (hnt x h9).elim) hlocks hce9 hcv9 hcl9 (fun t9 ht9 ha9 => ⟨u9, ⟨h, hR.w, hsh⟩, ⟨rfl, by rw [ht9]; exact hR.P, hR.D⟩, hR.sS.F ht9⟩) hR.sS.2.2 (Nat.le_of_ble_eq_true rfl) (Nat.le_of_ble_eq_true rfl)
                  · obtain ⟨hq64, hw9, hs9⟩ := hw9
                    have hR : Rep g ad A s S63 H1 locs := hR.call ht9 hB9 hw9 hS hFc
                    have hsh := hsh.tr hs9
                    replace h := h.1  S63 hq64
                    clear hB9 hz9 hk9 hvm9 ht9 hw9 hs9 hS
                    generalize H1 = H at hR ⊢
                    refine lv_aload_n hx hb dX14_codeItems_208 rfl (lv_at hl 0 rfl) ?_
                    refine va_get (D := rD g) (ci := 13) (v := .ref (ad 14)) (C := RX14) (T := TX14) (N := 143) hx hb hts in2X14 hown hR.K hR.P 0 (hR.at14 hR.w.1) rfl 31 (by decide) (hts _ kx_268) (fun _ h9 => h9) (congrArg (fun z => some (vf ad z)) (hR.w.2.1 _ fin_31).1) dX14_codeItems_209 ?_
                    refine lv_iload_n hx hb dX14_codeItems_212 rfl (lv_at hl 1 rfl) ?_
                    refine lv_aload_n hx hb dX14_codeItems_213 rfl (lv_at hl 0 rfl) ?_
                    refine lv_iload hx hb dX14_codeItems_214 (lv_at hl 3 rfl) ?_
                    refine lv_i2l (v := (v201_5.toInt64)) hx hb dX14_codeItems_216 rfl ?_
                    obtain ⟨Q65, EQ65, h0, h⟩ := h
                    have hFc := rfree hR hA
                    refine vx_calli (vx_runV (As := [.long (v201_5.toInt64)]) (rest := [.int v201_1, .ref (ad 14)]) ⟨hx, hb, hml, hown, hts⟩ (r_within l g ad H.size S63 (v201_5.toInt64) hR.w  Q65 EQ65 h0) (cwV 1 hts (gd2_V kx_262 kx_263 kx_264 kx_177 kx_265) rfl rfl rfl (by decide +kernel) ⟨Nat.le_of_ble_eq_true rfl, Nat.le_of_ble_eq_true rfl⟩) ⟨rblind, va_recv hR.K hR.P (ci := 13) (q0 := 0) rfl (hR.at14 hR.w.1), fun U hU hW9 => rmk hU hW9 hR hex hE hFc⟩ rfl rfl hl.1 rfl (lv_room (Nat.le_of_ble_eq_true rfl)) dX14_codeItems_217 ⟨Nat.le_of_ble_eq_true rfl, Nat.le_of_ble_eq_true rfl⟩) hR.sS (fun q _ h => hFc q h) hFc (fun q _ h => hFc q h) (fun E9 ce9 q9 u9 t9 H1 locs ht9 hvm9 hp9 hB9 hz9 hk9 hS hce9 hcv9 hcl9 => ?_) (fun r66 S67 t9 H1 locs ht9 hvm9 hw9 hB9 hz9 hk9 hS => ?_)
                    · obtain ⟨hp9, hwx, hsx⟩ := hp9
                      obtain ⟨rfl, hBx⟩ := hB9
                      replace h := h.2 u9 hp9
                      have hR : Rep g ad A s u9 H1 locs := hR.call ht9 hBx hwx hS hFc
                      have hsh := hsh.tr hsx
                      exact vx_out (E := RJxb5711) (q := q9) (fun x h9 => (hnt x h9).elim) hlocks hce9 hcv9 hcl9 (fun t9 ht9 ha9 => ⟨u9, ⟨h, hR.w, hsh⟩, ⟨rfl, by rw [ht9]; exact hR.P, hR.D⟩, hR.sS.F ht9⟩) hR.sS.2.2 (Nat.le_of_ble_eq_true rfl) (Nat.le_of_ble_eq_true rfl)
                    · obtain ⟨hq68, hw9, hs9⟩ := hw9
                      have hR : Rep g ad A s S67 H1 locs := hR.call ht9 hB9 hw9 hS hFc
                      have hsh := hsh.tr hs9
                      replace h := h.1 r66 S67 hq68
                      clear hB9 hz9 hk9 hvm9 ht9 hw9 hs9 hS
                      generalize H1 = H at hR ⊢
                      obtain ⟨hv69, h⟩ := h
                      refine va_iast hx hb hR.K hR.P hR.D hR.sS 14 1 (hR.atI (hR.w.2.1 _ fin_31).2.1) rfl (k_ixN (k_ix (n := 24) (x := v201_1) (a := v201_1.toInt) rfl hv69) (hR.w.2.1 _ fin_31).2.2) dX14_codeItems_220 (fun H locs hP hD hS => ?_)
                      have hR : Rep g ad A s (wI S67 14 v201_1.toInt.toNat r66) H locs := hR.aI (hR.w.2.1 _ fin_31).2.1 hP hD hS
                      obtain ⟨S70, eS70⟩ : ∃ z, z = wI S67 14 v201_1.toInt.toNat r66 := ⟨_, rfl⟩
                      rw [← eS70] at hR
                      replace h := h S70 eS70
                      have hsh : shy S S70 := by rw [eS70]; exact hsh
                      refine lv_aload_n hx hb dX14_codeItems_221 rfl (lv_at hl 0 rfl) ?_
                      refine va_get (D := rD g) (ci := 13) (v := .ref (ad 15)) (C := RX14) (T := TX14) (N := 143) hx hb hts in2X14 hown hR.K hR.P 0 (hR.at14 hR.w.1) rfl 32 (by decide) (hts _ kx_269) (fun _ h9 => h9) (congrArg (fun z => some (vf ad z)) (hR.w.2.1 _ fin_32).1) dX14_codeItems_222 ?_
                      refine lv_iload_n hx hb dX14_codeItems_225 rfl (lv_at hl 1 rfl) ?_
                      refine lv_iload hx hb dX14_codeItems_226 (lv_at hl 3 rfl) ?_
                      obtain ⟨hv71, h⟩ := h
                      refine va_iast hx hb hR.K hR.P hR.D hR.sS 15 1 (hR.atI (hR.w.2.1 _ fin_32).2.1) rfl (k_ixN (k_ix (n := 24) (x := v201_1) (a := v201_1.toInt) rfl hv71) (hR.w.2.1 _ fin_32).2.2) dX14_codeItems_228 (fun H locs hP hD hS => ?_)
                      have hR : Rep g ad A s (wI S70 15 v201_1.toInt.toNat v201_5) H locs := hR.aI (hR.w.2.1 _ fin_32).2.1 hP hD hS
                      obtain ⟨S72, eS72⟩ : ∃ z, z = wI S70 15 v201_1.toInt.toNat v201_5 := ⟨_, rfl⟩
                      rw [← eS72] at hR
                      replace h := h S72 eS72
                      have hsh : shy S S72 := by rw [eS72]; exact hsh
                      refine lv_aload_n hx hb dX14_codeItems_229 rfl (lv_at hl 0 rfl) ?_
                      refine lv_ldc2 hx hb hown (hts _ kx_192) dX14_codeItems_230 ?_
                      obtain ⟨Q73, EQ73, h0, h⟩ := h
                      have hFc := rfree hR hA
                      refine vx_calli (vx_runV (As := [.long (2 : Int64)]) (rest := []) ⟨hx, hb, hml, hown, hts⟩ (r_within l g ad H.size S72 (2 : Int64) hR.w  Q73 EQ73 h0) (cwV 1 hts (gd2_V kx_262 kx_263 kx_264 kx_177 kx_265) rfl rfl rfl (by decide +kernel) ⟨Nat.le_of_ble_eq_true rfl, Nat.le_of_ble_eq_true rfl⟩) ⟨rblind, va_recv hR.K hR.P (ci := 13) (q0 := 0) rfl (hR.at14 hR.w.1), fun U hU hW9 => rmk hU hW9 hR hex hE hFc⟩ rfl rfl hl.1 rfl (lv_room (Nat.le_of_ble_eq_true rfl)) dX14_codeItems_233 ⟨Nat.le_of_ble_eq_true rfl, Nat.le_of_ble_eq_true rfl⟩) hR.sS (fun q _ h => hFc q h) hFc (fun q _ h => hFc q h) (fun E9 ce9 q9 u9 t9 H1 locs ht9 hvm9 hp9 hB9 hz9 hk9 hS hce9 hcv9 hcl9 => ?_) (fun r74 S75 t9 H1 locs ht9 hvm9 hw9 hB9 hz9 hk9 hS => ?_)
                      · obtain ⟨hp9, hwx, hsx⟩ := hp9
                        obtain ⟨rfl, hBx⟩ := hB9
                        replace h := h.2 u9 hp9
                        have hR : Rep g ad A s u9 H1 locs := hR.call ht9 hBx hwx hS hFc
                        have hsh := hsh.tr hsx
                        exact vx_out (E := RJxb5711) (q := q9) (fun x h9 => (hnt x h9).elim) hlocks hce9 hcv9 hcl9 (fun t9 ht9 ha9 => ⟨u9, ⟨h, hR.w, hsh⟩, ⟨rfl, by rw [ht9]; exact hR.P, hR.D⟩, hR.sS.F ht9⟩) hR.sS.2.2 (Nat.le_of_ble_eq_true rfl) (Nat.le_of_ble_eq_true rfl)
                      · obtain ⟨hq76, hw9, hs9⟩ := hw9
                        have hR : Rep g ad A s S75 H1 locs := hR.call ht9 hB9 hw9 hS hFc
                        have hsh := hsh.tr hs9
                        replace h := h.1 r74 S75 hq76
                        clear hB9 hz9 hk9 hvm9 ht9 hw9 hs9 hS
                        generalize H1 = H at hR ⊢
                        refine lv_istore (lv' := [(4, .int r74), (0, .ref (ad 0)), (1, .int v201_1), (5, .int v201_5)]) hx hb dX14_codeItems_236 hl (by decide) rfl (fun ls hl => ?_)
                        refine lv_aload_n hx hb dX14_codeItems_238 rfl (lv_at hl 1 rfl) ?_
                        refine va_get (D := rD g) (ci := 13) (v := .ref (ad 17)) (C := RX14) (T := TX14) (N := 143) hx hb hts in2X14 hown hR.K hR.P 0 (hR.at14 hR.w.1) rfl 34 (by decide) (hts _ kx_270) (fun _ h9 => h9) (congrArg (fun z => some (vf ad z)) (hR.w.2.1 _ fin_34).1) dX14_codeItems_239 ?_
                        refine lv_iload_n hx hb dX14_codeItems_242 rfl (lv_at hl 2 rfl) ?_
                        refine lv_aload_n hx hb dX14_codeItems_243 rfl (lv_at hl 1 rfl) ?_
                        refine lv_iload hx hb dX14_codeItems_244 (lv_at hl 0 rfl) ?_
                        obtain ⟨hv77, h⟩ := h
                        have hFc := rfree hR hA
                        refine va_calli (va_runV (As := [.int r74]) (rest := [.int v201_1, .ref (ad 17)]) ⟨hx, hb, hml, hown, hts⟩ (r_two l g ad H.size S75 r74 hR.w  hv77) (cwV 1 hts (gd2_V kx_186 kx_187 kx_188 kx_177 kx_189) rfl rfl rfl (by decide +kernel) ⟨Nat.le_of_ble_eq_true rfl, Nat.le_of_ble_eq_true rfl⟩) ⟨rblind, va_recv hR.K hR.P (ci := 13) (q0 := 0) rfl (hR.at14 hR.w.1), fun U hU hW9 => rmk hU hW9 hR hex hE hFc⟩ rfl rfl hl.1 rfl (lv_room (Nat.le_of_ble_eq_true rfl)) dX14_codeItems_246 ⟨Nat.le_of_ble_eq_true rfl, Nat.le_of_ble_eq_true rfl⟩) hR.sS (fun q _ h => hFc q h) hFc (fun r78 u9 t9 H1 locs ht9 hvm9 hw9 hB9 hz9 hk9 hS => ?_)
                        have hR : Rep g ad A s S75 H1 locs := hR.call ht9 hB9 hR.w hS hFc
                        obtain rfl : r78 = (f_two S75 r74) := hw9
                        clear hB9 hz9 hk9 hvm9 ht9 hS
                        generalize H1 = H at hR ⊢
                        obtain ⟨hv80, h⟩ := h
                        refine va_iast hx hb hR.K hR.P hR.D hR.sS 17 1 (hR.atI (hR.w.2.1 _ fin_34).2.1) rfl (k_ixN (k_ix (n := 24) (x := v201_1) (a := v201_1.toInt) rfl hv80) (hR.w.2.1 _ fin_34).2.2) dX14_codeItems_249 (fun H locs hP hD hS => ?_)
                        have hR : Rep g ad A s (wI S75 17 v201_1.toInt.toNat (f_two S75 r74)) H locs := hR.aI (hR.w.2.1 _ fin_34).2.1 hP hD hS
                        obtain ⟨S81, eS81⟩ : ∃ z, z = wI S75 17 v201_1.toInt.toNat (f_two S75 r74) := ⟨_, rfl⟩
                        rw [← eS81] at hR
                        replace h := h S81 eS81
                        have hsh : shy S S81 := by rw [eS81]; exact hsh
                        refine lv_aload_n hx hb dX14_codeItems_250 rfl (lv_at hl 1 rfl) ?_
                        refine lv_aload_n hx hb dX14_codeItems_251 rfl (lv_at hl 1 rfl) ?_
                        refine va_get (D := rD g) (ci := 13) (v := .ref (ad 17)) (C := RX14) (T := TX14) (N := 143) hx hb hts in2X14 hown hR.K hR.P 0 (hR.at14 hR.w.1) rfl 34 (by decide) (hts _ kx_270) (fun _ h9 => h9) (congrArg (fun z => some (vf ad z)) (hR.w.2.1 _ fin_34).1) dX14_codeItems_252 ?_
                        refine lv_iload_n hx hb dX14_codeItems_255 rfl (lv_at hl 2 rfl) ?_
                        obtain ⟨hv82, h⟩ := h
                        refine va_iald hx hb hR.K hR.P 17 1 (hR.atI (hR.w.2.1 _ fin_34).2.1) rfl (k_ixN (k_ix (n := 24) (x := v201_1) (a := v201_1.toInt) rfl hv82) (hR.w.2.1 _ fin_34).2.2) dX14_codeItems_256 ?_
                        refine lv_topi (fun z83 ez83 => ?_)
                        obtain rfl : z83 = (qI S81 17 v201_1.toInt.toNat) := ez83
                        refine lv_bipush (v := 16) hx hb dX14_codeItems_257 (by decide) ?_
                        have J_267 : ∀ (U267 : MS) (t267_0 : Int32) (v267_1 : Int32) (v267_4 : Int32) (H : Heap) (locs : List Loc) (ls : Array Slot), w_codeItems_J267 Q E U267 t267_0 v267_1 v267_4 → (t267_0 = 0 ∨ t267_0 = 1) → shy S U267 → Rep g ad A s U267 H locs → lv_has ls 9 [(0, .ref (ad 0)), (1, .int v267_1), (4, .int v267_4)] → W p l e (headSpec (wt2 yX14_codeItems cX14_codeItems 9 none) ({ frames := 6, cells := 0, slots := 0, locals := 131 })).room s m ([.ref (ad 0), .int x1] : List Value).toArray below meth c H locs 0 0 (vx_MQ below (va_Qv (fun (u : MS) => Q u ∧ wfM u ∧ shy S u) (fun (u : MS) (t : State) => qE g ad A u t) A) ((vx_X (fun (u : MS) => E u ∧ wfM u ∧ shy S u) (fun (n9 : String) (u : MS) (t : State) => n9 = RJxb5711 ∧ qE g ad A u t) A)) ([.ref (ad 0), .int x1] : List Value).toArray s 0 0 A) (F0 m 267 ls [.int t267_0, .ref (ad 0)]) := by
                          intro U267 t267_0 v267_1 v267_4 H locs ls h hz_t267_0 hsh hR hl
                          unfold w_codeItems_J267 at h
                          refine lv_bipush (v := 13) hx hb dX14_codeItems_267 (by decide) ?_
                          refine lv_iload hx hb dX14_codeItems_269 (lv_at hl 2 rfl) ?_
                          obtain ⟨Q84, EQ84, h0, h⟩ := h
                          have hFc := rfree hR hA
                          refine vx_callv (vx_runV (As := [.int t267_0, .int 13, .int v267_4]) (rest := []) ⟨hx, hb, hml, hown, hts⟩ (r_must l g ad H.size U267 t267_0 (13 : Int32) v267_4 hR.w hz_t267_0 Q84 EQ84 h0) (cwV 3 hts (gd2_V kx_198 kx_199 kx_200 kx_177 kx_201) rfl rfl rfl (by decide +kernel) ⟨Nat.le_of_ble_eq_true rfl, Nat.le_of_ble_eq_true rfl⟩) ⟨rblind, va_recv hR.K hR.P (ci := 13) (q0 := 0) rfl (hR.at14 hR.w.1), fun U hU hW9 => rmk hU hW9 hR hex hE hFc⟩ rfl rfl hl.1 rfl (lv_room (Nat.le_of_ble_eq_true rfl)) dX14_codeItems_271 ⟨Nat.le_of_ble_eq_true rfl, Nat.le_of_ble_eq_true rfl⟩) hR.sS (fun q _ h => hFc q h) hFc (fun q _ h => hFc q h) (fun E9 ce9 q9 u9 t9 H1 locs ht9 hvm9 hp9 hB9 hz9 hk9 hS hce9 hcv9 hcl9 => ?_) (fun  S85 t9 H1 locs ht9 hvm9 hw9 hB9 hz9 hk9 hS => ?_)
                          · obtain ⟨hp9, hwx, hsx⟩ := hp9
                            obtain ⟨rfl, hBx⟩ := hB9
                            replace h := h.2 u9 hp9
                            have hR : Rep g ad A s u9 H1 locs := hR.call ht9 hBx hwx hS hFc
                            have hsh := hsh.tr hsx
                            exact vx_out (E := RJxb5711) (q := q9) (fun x h9 => (hnt x h9).elim) hlocks hce9 hcv9 hcl9 (fun t9 ht9 ha9 => ⟨u9, ⟨h, hR.w, hsh⟩, ⟨rfl, by rw [ht9]; exact hR.P, hR.D⟩, hR.sS.F ht9⟩) hR.sS.2.2 (Nat.le_of_ble_eq_true rfl) (Nat.le_of_ble_eq_true rfl)
                          · obtain ⟨hq86, hw9, hs9⟩ := hw9
                            have hR : Rep g ad A s S85 H1 locs := hR.call ht9 hB9 hw9 hS hFc
                            have hsh := hsh.tr hs9
                            replace h := h.1  S85 hq86
                            clear hB9 hz9 hk9 hvm9 ht9 hw9 hs9 hS
                            generalize H1 = H at hR ⊢
                            refine lv_aload_n hx hb dX14_codeItems_274 rfl (lv_at hl 0 rfl) ?_
                            refine va_get (D := rD g) (ci := 13) (v := .ref (ad 16)) (C := RX14) (T := TX14) (N := 143) hx hb hts in2X14 hown hR.K hR.P 0 (hR.at14 hR.w.1) rfl 33 (by decide) (hts _ kx_271) (fun _ h9 => h9) (congrArg (fun z => some (vf ad z)) (hR.w.2.1 _ fin_33).1) dX14_codeItems_275 ?_
                            refine lv_iload_n hx hb dX14_codeItems_278 rfl (lv_at hl 1 rfl) ?_
                            refine lv_aload_n hx hb dX14_codeItems_279 rfl (lv_at hl 0 rfl) ?_
                            refine va_get (D := rD g) (ci := 13) (v := .int (qI S85 0 13)) (C := RX14) (T := TX14) (N := 143) hx hb hts in2X14 hown hR.K hR.P 0 (hR.at14 hR.w.1) rfl 13 (by decide) (hts _ kx_190) (fun _ h9 => h9) rfl dX14_codeItems_280 ?_
                            obtain ⟨hv87, h⟩ := h
                            refine va_iast hx hb hR.K hR.P hR.D hR.sS 16 1 (hR.atI (hR.w.2.1 _ fin_33).2.1) rfl (k_ixN (k_ix (n := 24) (x := v267_1) (a := v267_1.toInt) rfl hv87) (hR.w.2.1 _ fin_33).2.2) dX14_codeItems_283 (fun H locs hP hD hS => ?_)
                            have hR : Rep g ad A s (wI S85 16 v267_1.toInt.toNat (qI S85 0 13)) H locs := hR.aI (hR.w.2.1 _ fin_33).2.1 hP hD hS
                            obtain ⟨S88, eS88⟩ : ∃ z, z = wI S85 16 v267_1.toInt.toNat (qI S85 0 13) := ⟨_, rfl⟩
                            rw [← eS88] at hR
                            replace h := h S88 eS88
                            have hsh : shy S S88 := by rw [eS88]; exact hsh
                            refine lv_iconst (v := 0) hx hb dX14_codeItems_284 (by decide) ?_
                            refine lv_istore (lv' := [(6, .int 0), (0, .ref (ad 0)), (1, .int v267_1), (4, .int v267_4)]) hx hb dX14_codeItems_285 hl (by decide) rfl (fun ls hl => ?_)
                            have J_287 : ∀ (n287 : Nat) (U287 : MS) (v287_1 : Int32) (v287_6 : Int32) (H : Heap) (locs : List Loc) (ls : Array Slot), w_codeItems_L287 Q E n287 U287 v287_1 v287_6 → shy S U287 → Rep g ad A s U287 H locs → lv_has ls 9 [(0, .ref (ad 0)), (1, .int v287_1), (6, .int v287_6)] → W p l e (headSpec (wt2 yX14_codeItems cX14_codeItems 9 none) ({ frames := 6, cells := 0, slots := 0, locals := 131 })).room s m ([.ref (ad 0), .int x1] : List Value).toArray below meth c H locs 0 0 (vx_MQ below (va_Qv (fun (u : MS) => Q u ∧ wfM u ∧ shy S u) (fun (u : MS) (t : State) => qE g ad A u t) A) ((vx_X (fun (u : MS) => E u ∧ wfM u ∧ shy S u) (fun (n9 : String) (u : MS) (t : State) => n9 = RJxb5711 ∧ qE g ad A u t) A)) ([.ref (ad 0), .int x1] : List Value).toArray s 0 0 A) (F0 m 287 ls []) := by
                              intro n287
                              induction n287 with
                              | zero => intro U287 v287_1 v287_6 H locs ls h hsh hR hl; unfold w_codeItems_L287 at h; exact h.elim
                              | succ n287 ih_287 =>
                                intro U287 v287_1 v287_6 H locs ls h hsh hR hl
                                unfold w_codeItems_L287 at h
                                refine lv_iload hx hb dX14_codeItems_287 (lv_at hl 2 rfl) ?_
                                refine lv_aload_n hx hb dX14_codeItems_289 rfl (lv_at hl 0 rfl) ?_
                                refine va_get (D := rD g) (ci := 13) (v := .ref (ad 17)) (C := RX14) (T := TX14) (N := 143) hx hb hts in2X14 hown hR.K hR.P 0 (hR.at14 hR.w.1) rfl 34 (by decide) (hts _ kx_270) (fun _ h9 => h9) (congrArg (fun z => some (vf ad z)) (hR.w.2.1 _ fin_34).1) dX14_codeItems_290 ?_
                                refine lv_iload_n hx hb dX14_codeItems_293 rfl (lv_at hl 1 rfl) ?_
                                obtain ⟨hv89, h⟩ := h
                                refine va_iald hx hb hR.K hR.P 17 1 (hR.atI (hR.w.2.1 _ fin_34).2.1) rfl (k_ixN (k_ix (n := 24) (x := v287_1) (a := v287_1.toInt) rfl hv89) (hR.w.2.1 _ fin_34).2.2) dX14_codeItems_294 ?_
                                refine lv_topi (fun z90 ez90 => ?_)
                                obtain rfl : z90 = (qI U287 17 v287_1.toInt.toNat) := ez90
                                refine lv_icmp_ge (tgt := 312) hx hb dX14_codeItems_295 (by decide) (fun c91 => ?_) (fun c91 => ?_)
                                · replace h := h.1 (k_le rfl rfl c91)
                                  refine lv_aload_n hx hb dX14_codeItems_312 rfl (lv_at hl 0 rfl) ?_
                                  refine lv_aload_n hx hb dX14_codeItems_313 rfl (lv_at hl 0 rfl) ?_
                                  refine lv_ldc2 hx hb hown (hts _ kx_192) dX14_codeItems_314 ?_
                                  obtain ⟨Q92, EQ92, h0, h⟩ := h
                                  have hFc := rfree hR hA
                                  refine vx_calli (vx_runV (As := [.long (2 : Int64)]) (rest := [.ref (ad 0)]) ⟨hx, hb, hml, hown, hts⟩ (r_within l g ad H.size U287 (2 : Int64) hR.w  Q92 EQ92 h0) (cwV 1 hts (gd2_V kx_262 kx_263 kx_264 kx_177 kx_265) rfl rfl rfl (by decide +kernel) ⟨Nat.le_of_ble_eq_true rfl, Nat.le_of_ble_eq_true rfl⟩) ⟨rblind, va_recv hR.K hR.P (ci := 13) (q0 := 0) rfl (hR.at14 hR.w.1), fun U hU hW9 => rmk hU hW9 hR hex hE hFc⟩ rfl rfl hl.1 rfl (lv_room (Nat.le_of_ble_eq_true rfl)) dX14_codeItems_317 ⟨Nat.le_of_ble_eq_true rfl, Nat.le_of_ble_eq_true rfl⟩) hR.sS (fun q _ h => hFc q h) hFc (fun q _ h => hFc q h) (fun E9 ce9 q9 u9 t9 H1 locs ht9 hvm9 hp9 hB9 hz9 hk9 hS hce9 hcv9 hcl9 => ?_) (fun r93 S94 t9 H1 locs ht9 hvm9 hw9 hB9 hz9 hk9 hS => ?_)
                                  · obtain ⟨hp9, hwx, hsx⟩ := hp9
                                    obtain ⟨rfl, hBx⟩ := hB9
                                    replace h := h.2 u9 hp9
                                    have hR : Rep g ad A s u9 H1 locs := hR.call ht9 hBx hwx hS hFc
                                    have hsh := hsh.tr hsx
                                    exact vx_out (E := RJxb5711) (q := q9) (fun x h9 => (hnt x h9).elim) hlocks hce9 hcv9 hcl9 (fun t9 ht9 ha9 => ⟨u9, ⟨h, hR.w, hsh⟩, ⟨rfl, by rw [ht9]; exact hR.P, hR.D⟩, hR.sS.F ht9⟩) hR.sS.2.2 (Nat.le_of_ble_eq_true rfl) (Nat.le_of_ble_eq_true rfl)
                                  · obtain ⟨hq95, hw9, hs9⟩ := hw9
                                    have hR : Rep g ad A s S94 H1 locs := hR.call ht9 hB9 hw9 hS hFc
                                    have hsh := hsh.tr hs9
                                    replace h := h.1 r93 S94 hq95
                                    clear hB9 hz9 hk9 hvm9 ht9 hw9 hs9 hS
                                    generalize H1 = H at hR ⊢
                                    obtain ⟨hv96, h⟩ := h
                                    have hFc := rfree hR hA
                                    refine va_calli (va_runV (As := [.int r93]) (rest := []) ⟨hx, hb, hml, hown, hts⟩ (r_two l g ad H.size S94 r93 hR.w  hv96) (cwV 1 hts (gd2_V kx_186 kx_187 kx_188 kx_177 kx_189) rfl rfl rfl (by decide +kernel) ⟨Nat.le_of_ble_eq_true rfl, Nat.le_of_ble_eq_true rfl⟩) ⟨rblind, va_recv hR.K hR.P (ci := 13) (q0 := 0) rfl (hR.at14 hR.w.1), fun U hU hW9 => rmk hU hW9 hR hex hE hFc⟩ rfl rfl hl.1 rfl (lv_room (Nat.le_of_ble_eq_true rfl)) dX14_codeItems_320 ⟨Nat.le_of_ble_eq_true rfl, Nat.le_of_ble_eq_true rfl⟩) hR.sS (fun q _ h => hFc q h) hFc (fun r97 u9 t9 H1 locs ht9 hvm9 hw9 hB9 hz9 hk9 hS => ?_)
                                    have hR : Rep g ad A s S94 H1 locs := hR.call ht9 hB9 hR.w hS hFc
                                    obtain rfl : r97 = (f_two S94 r93) := hw9
                                    clear hB9 hz9 hk9 hvm9 ht9 hS
                                    generalize H1 = H at hR ⊢
                                    obtain ⟨a99, ea99⟩ : ∃ z, z = (f_two S94 r93) := ⟨_, rfl⟩
                                    rw [← ea99]
                                    replace h := h a99 ea99
                                    refine lv_istore (lv' := [(6, .int a99), (0, .ref (ad 0)), (1, .int v287_1)]) hx hb dX14_codeItems_323 hl (by decide) rfl (fun ls hl => ?_)
                                    refine lv_iconst (v := 0) hx hb dX14_codeItems_325 (by decide) ?_
                                    refine lv_istore (lv' := [(7, .int 0), (6, .int a99), (0, .ref (ad 0)), (1, .int v287_1)]) hx hb dX14_codeItems_326 hl (by decide) rfl (fun ls hl => ?_)
                                    have J_328 : ∀ (n328 : Nat) (U328 : MS) (v328_6 : Int32) (v328_7 : Int32) (H : Heap) (locs : List Loc) (ls : Array Slot), w_codeItems_L328 Q E n328 U328 v328_6 v328_7 → shy S U328 → Rep g ad A s U328 H locs → lv_has ls 9 [(0, .ref (ad 0)), (6, .int v328_6), (7, .int v328_7)] → W p l e (headSpec (wt2 yX14_codeItems cX14_codeItems 9 none) ({ frames := 6, cells := 0, slots := 0, locals := 131 })).room s m ([.ref (ad 0), .int x1] : List Value).toArray below meth c H locs 0 0 (vx_MQ below (va_Qv (fun (u : MS) => Q u ∧ wfM u ∧ shy S u) (fun (u : MS) (t : State) => qE g ad A u t) A) ((vx_X (fun (u : MS) => E u ∧ wfM u ∧ shy S u) (fun (n9 : String) (u : MS) (t : State) => n9 = RJxb5711 ∧ qE g ad A u t) A)) ([.ref (ad 0), .int x1] : List Value).toArray s 0 0 A) (F0 m 328 ls []) := by
                                      intro n328
                                      induction n328 with
                                      | zero => intro U328 v328_6 v328_7 H locs ls h hsh hR hl; unfold w_codeItems_L328 at h; exact h.elim
                                      | succ n328 ih_328 =>
                                        intro U328 v328_6 v328_7 H locs ls h hsh hR hl
                                        unfold w_codeItems_L328 at h
                                        refine lv_iload hx hb dX14_codeItems_328 (lv_at hl 2 rfl) ?_
                                        refine lv_iload hx hb dX14_codeItems_330 (lv_at hl 1 rfl) ?_
                                        refine lv_icmp_ge (tgt := 374) hx hb dX14_codeItems_332 (by decide) (fun c100 => ?_) (fun c100 => ?_)
                                        · replace h := h.1 (k_le rfl rfl c100)
                                          refine lv_aload_n hx hb dX14_codeItems_374 rfl (lv_at hl 0 rfl) ?_
                                          refine lv_aload_n hx hb dX14_codeItems_375 rfl (lv_at hl 0 rfl) ?_
                                          refine va_get (D := rD g) (ci := 13) (v := .int (qI U328 0 13)) (C := RX14) (T := TX14) (N := 143) hx hb hts in2X14 hown hR.K hR.P 0 (hR.at14 hR.w.1) rfl 13 (by decide) (hts _ kx_190) (fun _ h9 => h9) rfl dX14_codeItems_376 ?_
                                          refine lv_aload_n hx hb dX14_codeItems_379 rfl (lv_at hl 0 rfl) ?_
                                          refine va_get (D := rD g) (ci := 13) (v := .int (qI U328 0 35)) (C := RX14) (T := TX14) (N := 143) hx hb hts in2X14 hown hR.K hR.P 0 (hR.at14 hR.w.1) rfl 35 (by decide) (hts _ kx_261) (fun _ h9 => h9) rfl dX14_codeItems_380 ?_
                                          have J_391 : ∀ (U391 : MS) (t391_0 : Int32) (H : Heap) (locs : List Loc) (ls : Array Slot), w_codeItems_J391 Q E U391 t391_0 → (t391_0 = 0 ∨ t391_0 = 1) → shy S U391 → Rep g ad A s U391 H locs → lv_has ls 9 [(0, .ref (ad 0))] → W p l e (headSpec (wt2 yX14_codeItems cX14_codeItems 9 none) ({ frames := 6, cells := 0, slots := 0, locals := 131 })).room s m ([.ref (ad 0), .int x1] : List Value).toArray below meth c H locs 0 0 (vx_MQ below (va_Qv (fun (u : MS) => Q u ∧ wfM u ∧ shy S u) (fun (u : MS) (t : State) => qE g ad A u t) A) ((vx_X (fun (u : MS) => E u ∧ wfM u ∧ shy S u) (fun (n9 : String) (u : MS) (t : State) => n9 = RJxb5711 ∧ qE g ad A u t) A)) ([.ref (ad 0), .int x1] : List Value).toArray s 0 0 A) (F0 m 391 ls [.int t391_0, .ref (ad 0)]) := by
                                            intro U391 t391_0 H locs ls h hz_t391_0 hsh hR hl
                                            unfold w_codeItems_J391 at h
                                            refine lv_bipush (v := 14) hx hb dX14_codeItems_391 (by decide) ?_
                                            refine lv_aload_n hx hb dX14_codeItems_393 rfl (lv_at hl 0 rfl) ?_
                                            refine va_get (D := rD g) (ci := 13) (v := .int (qI U391 0 13)) (C := RX14) (T := TX14) (N := 143) hx hb hts in2X14 hown hR.K hR.P 0 (hR.at14 hR.w.1) rfl 13 (by decide) (hts _ kx_190) (fun _ h9 => h9) rfl dX14_codeItems_394 ?_
                                            obtain ⟨Q101, EQ101, h0, h⟩ := h
                                            have hFc := rfree hR hA
                                            refine vx_callv (vx_runV (As := [.int t391_0, .int 14, .int (qI U391 0 13)]) (rest := []) ⟨hx, hb, hml, hown, hts⟩ (r_must l g ad H.size U391 t391_0 (14 : Int32) (qI U391 0 13) hR.w hz_t391_0 Q101 EQ101 h0) (cwV 3 hts (gd2_V kx_198 kx_199 kx_200 kx_177 kx_201) rfl rfl rfl (by decide +kernel) ⟨Nat.le_of_ble_eq_true rfl, Nat.le_of_ble_eq_true rfl⟩) ⟨rblind, va_recv hR.K hR.P (ci := 13) (q0 := 0) rfl (hR.at14 hR.w.1), fun U hU hW9 => rmk hU hW9 hR hex hE hFc⟩ rfl rfl hl.1 rfl (lv_room (Nat.le_of_ble_eq_true rfl)) dX14_codeItems_397 ⟨Nat.le_of_ble_eq_true rfl, Nat.le_of_ble_eq_true rfl⟩) hR.sS (fun q _ h => hFc q h) hFc (fun q _ h => hFc q h) (fun E9 ce9 q9 u9 t9 H1 locs ht9 hvm9 hp9 hB9 hz9 hk9 hS hce9 hcv9 hcl9 => ?_) (fun  S102 t9 H1 locs ht9 hvm9 hw9 hB9 hz9 hk9 hS => ?_)
                                            · obtain ⟨hp9, hwx, hsx⟩ := hp9
                                              obtain ⟨rfl, hBx⟩ := hB9
                                              replace h := h.2 u9 hp9
                                              have hR : Rep g ad A s u9 H1 locs := hR.call ht9 hBx hwx hS hFc
                                              have hsh := hsh.tr hsx
                                              exact vx_out (E := RJxb5711) (q := q9) (fun x h9 => (hnt x h9).elim) hlocks hce9 hcv9 hcl9 (fun t9 ht9 ha9 => ⟨u9, ⟨h, hR.w, hsh⟩, ⟨rfl, by rw [ht9]; exact hR.P, hR.D⟩, hR.sS.F ht9⟩) hR.sS.2.2 (Nat.le_of_ble_eq_true rfl) (Nat.le_of_ble_eq_true rfl)
                                            · obtain ⟨hq103, hw9, hs9⟩ := hw9
                                              have hR : Rep g ad A s S102 H1 locs := hR.call ht9 hB9 hw9 hS hFc
                                              have hsh := hsh.tr hs9
                                              replace h := h.1  S102 hq103
                                              clear hB9 hz9 hk9 hvm9 ht9 hw9 hs9 hS
                                              generalize H1 = H at hR ⊢
                                              exact vx_ret (W.vret hx hb hr (fun t9 ht9 hW9 => ⟨⟨S102, rfl, ⟨h, hR.w, hsh⟩, ⟨by rw [ht9]; exact hR.P, hR.D⟩⟩, hR.sS.F ht9⟩) hR.sS.2.2 dX14_codeItems_400)
                                          refine lv_icmp_ne (tgt := 390) hx hb dX14_codeItems_383 (by decide) (fun c104 => ?_) (fun c104 => ?_)
                                          · replace h := h.2 (k_ne rfl rfl c104)
                                            refine lv_iconst (v := 0) hx hb dX14_codeItems_390 (by decide) ?_
                                            exact J_391 U328 0 _ _ ls h (Or.inl rfl) hsh hR (lv_sub hl [0] rfl)
                                          · replace h := h.1 (k_eq rfl rfl c104)
                                            refine lv_iconst (v := 1) hx hb dX14_codeItems_386 (by decide) ?_
                                            refine lv_goto (tgt := 391) hx hb dX14_codeItems_387 (by decide) ?_
                                            exact J_391 U328 1 _ _ ls h (Or.inr rfl) hsh hR (lv_sub hl [0] rfl)
                                        · replace h := h.2 (k_nle rfl rfl c100)
                                          refine lv_aload_n hx hb dX14_codeItems_335 rfl (lv_at hl 0 rfl) ?_
                                          refine lv_ldc2 hx hb hown (hts _ kx_192) dX14_codeItems_336 ?_
                                          obtain ⟨Q105, EQ105, h0, h⟩ := h
                                          have hFc := rfree hR hA
                                          refine vx_calli (vx_runV (As := [.long (2 : Int64)]) (rest := []) ⟨hx, hb, hml, hown, hts⟩ (r_within l g ad H.size U328 (2 : Int64) hR.w  Q105 EQ105 h0) (cwV 1 hts (gd2_V kx_262 kx_263 kx_264 kx_177 kx_265) rfl rfl rfl (by decide +kernel) ⟨Nat.le_of_ble_eq_true rfl, Nat.le_of_ble_eq_true rfl⟩) ⟨rblind, va_recv hR.K hR.P (ci := 13) (q0 := 0) rfl (hR.at14 hR.w.1), fun U hU hW9 => rmk hU hW9 hR hex hE hFc⟩ rfl rfl hl.1 rfl (lv_room (Nat.le_of_ble_eq_true rfl)) dX14_codeItems_339 ⟨Nat.le_of_ble_eq_true rfl, Nat.le_of_ble_eq_true rfl⟩) hR.sS (fun q _ h => hFc q h) hFc (fun q _ h => hFc q h) (fun E9 ce9 q9 u9 t9 H1 locs ht9 hvm9 hp9 hB9 hz9 hk9 hS hce9 hcv9 hcl9 => ?_) (fun r106 S107 t9 H1 locs ht9 hvm9 hw9 hB9 hz9 hk9 hS => ?_)
                                          · obtain ⟨hp9, hwx, hsx⟩ := hp9
                                            obtain ⟨rfl, hBx⟩ := hB9
                                            replace h := h.2 u9 hp9
                                            have hR : Rep g ad A s u9 H1 locs := hR.call ht9 hBx hwx hS hFc
                                            have hsh := hsh.tr hsx
                                            exact vx_out (E := RJxb5711) (q := q9) (fun x h9 => (hnt x h9).elim) hlocks hce9 hcv9 hcl9 (fun t9 ht9 ha9 => ⟨u9, ⟨h, hR.w, hsh⟩, ⟨rfl, by rw [ht9]; exact hR.P, hR.D⟩, hR.sS.F ht9⟩) hR.sS.2.2 (Nat.le_of_ble_eq_true rfl) (Nat.le_of_ble_eq_true rfl)
                                          · obtain ⟨hq108, hw9, hs9⟩ := hw9
                                            have hR : Rep g ad A s S107 H1 locs := hR.call ht9 hB9 hw9 hS hFc
                                            have hsh := hsh.tr hs9
                                            replace h := h.1 r106 S107 hq108
                                            clear hB9 hz9 hk9 hvm9 ht9 hw9 hs9 hS
                                            generalize H1 = H at hR ⊢
                                            refine lv_pop hx hb dX14_codeItems_342 rfl ?_
                                            refine lv_aload_n hx hb dX14_codeItems_343 rfl (lv_at hl 0 rfl) ?_
                                            refine lv_ldc2 hx hb hown (hts _ kx_211) dX14_codeItems_344 ?_
                                            obtain ⟨Q109, EQ109, h0, h⟩ := h
                                            have hFc := rfree hR hA
                                            refine vx_calli (vx_runV (As := [.long (4 : Int64)]) (rest := []) ⟨hx, hb, hml, hown, hts⟩ (r_within l g ad H.size S107 (4 : Int64) hR.w  Q109 EQ109 h0) (cwV 1 hts (gd2_V kx_262 kx_263 kx_264 kx_177 kx_265) rfl rfl rfl (by decide +kernel) ⟨Nat.le_of_ble_eq_true rfl, Nat.le_of_ble_eq_true rfl⟩) ⟨rblind, va_recv hR.K hR.P (ci := 13) (q0 := 0) rfl (hR.at14 hR.w.1), fun U hU hW9 => rmk hU hW9 hR hex hE hFc⟩ rfl rfl hl.1 rfl (lv_room (Nat.le_of_ble_eq_true rfl)) dX14_codeItems_347 ⟨Nat.le_of_ble_eq_true rfl, Nat.le_of_ble_eq_true rfl⟩) hR.sS (fun q _ h => hFc q h) hFc (fun q _ h => hFc q h) (fun E9 ce9 q9 u9 t9 H1 locs ht9 hvm9 hp9 hB9 hz9 hk9 hS hce9 hcv9 hcl9 => ?_) (fun r110 S111 t9 H1 locs ht9 hvm9 hw9 hB9 hz9 hk9 hS => ?_)
                                            · obtain ⟨hp9, hwx, hsx⟩ := hp9
                                              obtain ⟨rfl, hBx⟩ := hB9
                                              replace h := h.2 u9 hp9
                                              have hR : Rep g ad A s u9 H1 locs := hR.call ht9 hBx hwx hS hFc
                                              have hsh := hsh.tr hsx
                                              exact vx_out (E := RJxb5711) (q := q9) (fun x h9 => (hnt x h9).elim) hlocks hce9 hcv9 hcl9 (fun t9 ht9 ha9 => ⟨u9, ⟨h, hR.w, hsh⟩, ⟨rfl, by rw [ht9]; exact hR.P, hR.D⟩, hR.sS.F ht9⟩) hR.sS.2.2 (Nat.le_of_ble_eq_true rfl) (Nat.le_of_ble_eq_true rfl)
                                            · obtain ⟨hq112, hw9, hs9⟩ := hw9
                                              have hR : Rep g ad A s S111 H1 locs := hR.call ht9 hB9 hw9 hS hFc
                                              have hsh := hsh.tr hs9
                                              replace h := h.1 r110 S111 hq112
                                              clear hB9 hz9 hk9 hvm9 ht9 hw9 hs9 hS
                                              generalize H1 = H at hR ⊢
                                              refine lv_istore (lv' := [(8, .int r110), (0, .ref (ad 0)), (6, .int v328_6), (7, .int v328_7)]) hx hb dX14_codeItems_350 hl (by decide) rfl (fun ls hl => ?_)
                                              refine lv_aload_n hx hb dX14_codeItems_352 rfl (lv_at hl 1 rfl) ?_
                                              refine lv_aload_n hx hb dX14_codeItems_353 rfl (lv_at hl 1 rfl) ?_
                                              refine lv_iload hx hb dX14_codeItems_354 (lv_at hl 0 rfl) ?_
                                              obtain ⟨hv113, h⟩ := h
                                              have hFc := rfree hR hA
                                              refine va_calli (va_runV (As := [.int r110]) (rest := [.ref (ad 0)]) ⟨hx, hb, hml, hown, hts⟩ (r_four l g ad H.size S111 r110 hR.w  hv113) (cwV 1 hts (gd2_V kx_212 kx_213 kx_214 kx_177 kx_215) rfl rfl rfl (by decide +kernel) ⟨Nat.le_of_ble_eq_true rfl, Nat.le_of_ble_eq_true rfl⟩) ⟨rblind, va_recv hR.K hR.P (ci := 13) (q0 := 0) rfl (hR.at14 hR.w.1), fun U hU hW9 => rmk hU hW9 hR hex hE hFc⟩ rfl rfl hl.1 rfl (lv_room (Nat.le_of_ble_eq_true rfl)) dX14_codeItems_356 ⟨Nat.le_of_ble_eq_true rfl, Nat.le_of_ble_eq_true rfl⟩) hR.sS (fun q _ h => hFc q h) hFc (fun r114 u9 t9 H1 locs ht9 hvm9 hw9 hB9 hz9 hk9 hS => ?_)
                                              have hR : Rep g ad A s S111 H1 locs := hR.call ht9 hB9 hR.w hS hFc
                                              obtain rfl : r114 = (f_four S111 r110) := hw9
                                              clear hB9 hz9 hk9 hvm9 ht9 hS
                                              generalize H1 = H at hR ⊢
                                              refine lv_i2l (v := ((f_four S111 r110).toInt64)) hx hb dX14_codeItems_359 rfl ?_
                                              refine lv_ldc2 hx hb hown (hts _ kx_216) dX14_codeItems_360 ?_
                                              refine lv_land hx hb dX14_codeItems_363 ?_
                                              refine lv_topl (fun z116 ez116 => ?_)
                                              obtain rfl : z116 = (((f_four S111 r110).toInt64) &&& (4294967295 : Int64)) := ez116
                                              obtain ⟨Q117, EQ117, h0, h⟩ := h
                                              have hFc := rfree hR hA
                                              refine vx_calli (vx_runV (As := [.long (((f_four S111 r110).toInt64) &&& (4294967295 : Int64))]) (rest := []) ⟨hx, hb, hml, hown, hts⟩ (r_within l g ad H.size S111 (((f_four S111 r110).toInt64) &&& (4294967295 : Int64)) hR.w  Q117 EQ117 h0) (cwV 1 hts (gd2_V kx_262 kx_263 kx_264 kx_177 kx_265) rfl rfl rfl (by decide +kernel) ⟨Nat.le_of_ble_eq_true rfl, Nat.le_of_ble_eq_true rfl⟩) ⟨rblind, va_recv hR.K hR.P (ci := 13) (q0 := 0) rfl (hR.at14 hR.w.1), fun U hU hW9 => rmk hU hW9 hR hex hE hFc⟩ rfl rfl hl.1 rfl (lv_room (Nat.le_of_ble_eq_true rfl)) dX14_codeItems_364 ⟨Nat.le_of_ble_eq_true rfl, Nat.le_of_ble_eq_true rfl⟩) hR.sS (fun q _ h => hFc q h) hFc (fun q _ h => hFc q h) (fun E9 ce9 q9 u9 t9 H1 locs ht9 hvm9 hp9 hB9 hz9 hk9 hS hce9 hcv9 hcl9 => ?_) (fun r118 S119 t9 H1 locs ht9 hvm9 hw9 hB9 hz9 hk9 hS => ?_)
                                              · obtain ⟨hp9, hwx, hsx⟩ := hp9
                                                obtain ⟨rfl, hBx⟩ := hB9
                                                replace h := h.2 u9 hp9
                                                have hR : Rep g ad A s u9 H1 locs := hR.call ht9 hBx hwx hS hFc
                                                have hsh := hsh.tr hsx
                                                exact vx_out (E := RJxb5711) (q := q9) (fun x h9 => (hnt x h9).elim) hlocks hce9 hcv9 hcl9 (fun t9 ht9 ha9 => ⟨u9, ⟨h, hR.w, hsh⟩, ⟨rfl, by rw [ht9]; exact hR.P, hR.D⟩, hR.sS.F ht9⟩) hR.sS.2.2 (Nat.le_of_ble_eq_true rfl) (Nat.le_of_ble_eq_true rfl)
                                              · obtain ⟨hq120, hw9, hs9⟩ := hw9
                                                have hR : Rep g ad A s S119 H1 locs := hR.call ht9 hB9 hw9 hS hFc
                                                have hsh := hsh.tr hs9
                                                replace h := h.1 r118 S119 hq120
                                                clear hB9 hz9 hk9 hvm9 ht9 hw9 hs9 hS
                                                generalize H1 = H at hR ⊢
                                                refine lv_pop hx hb dX14_codeItems_367 rfl ?_
                                                obtain ⟨a121, ea121⟩ : ∃ z, z = (v328_7 + Int32.ofInt 1) := ⟨_, rfl⟩
                                                replace h := h a121 ea121
                                                refine lv_iinc (v := a121) (lv' := [(7, .int a121), (8, .int r110), (0, .ref (ad 0)), (6, .int v328_6)]) hx hb dX14_codeItems_368 hl (k := 3) rfl ea121.symm (by decide) rfl (fun ls hl => ?_)
                                                refine lv_goto (tgt := 328) hx hb dX14_codeItems_371 (by decide) ?_
                                                exact ih_328 S119 v328_6 a121 _ _ ls h  hsh hR (lv_sub hl [2, 3, 0] rfl)
                                    obtain ⟨n9, h⟩ := h
                                    exact J_328 n9 S94 a99 0 _ _ ls h  hsh hR (lv_sub hl [2, 1, 0] rfl)
                                · replace h := h.2 (k_nle rfl rfl c91)
                                  refine lv_aload_n hx hb dX14_codeItems_298 rfl (lv_at hl 0 rfl) ?_
                                  refine lv_ldc2 hx hb hown (hts _ kx_272) dX14_codeItems_299 ?_
                                  obtain ⟨Q122, EQ122, h0, h⟩ := h
                                  have hFc := rfree hR hA
                                  refine vx_calli (vx_runV (As := [.long (8 : Int64)]) (rest := []) ⟨hx, hb, hml, hown, hts⟩ (r_within l g ad H.size U287 (8 : Int64) hR.w  Q122 EQ122 h0) (cwV 1 hts (gd2_V kx_262 kx_263 kx_264 kx_177 kx_265) rfl rfl rfl (by decide +kernel) ⟨Nat.le_of_ble_eq_true rfl, Nat.le_of_ble_eq_true rfl⟩) ⟨rblind, va_recv hR.K hR.P (ci := 13) (q0 := 0) rfl (hR.at14 hR.w.1), fun U hU hW9 => rmk hU hW9 hR hex hE hFc⟩ rfl rfl hl.1 rfl (lv_room (Nat.le_of_ble_eq_true rfl)) dX14_codeItems_302 ⟨Nat.le_of_ble_eq_true rfl, Nat.le_of_ble_eq_true rfl⟩) hR.sS (fun q _ h => hFc q h) hFc (fun q _ h => hFc q h) (fun E9 ce9 q9 u9 t9 H1 locs ht9 hvm9 hp9 hB9 hz9 hk9 hS hce9 hcv9 hcl9 => ?_) (fun r123 S124 t9 H1 locs ht9 hvm9 hw9 hB9 hz9 hk9 hS => ?_)
                                  · obtain ⟨hp9, hwx, hsx⟩ := hp9
                                    obtain ⟨rfl, hBx⟩ := hB9
                                    replace h := h.2 u9 hp9
                                    have hR : Rep g ad A s u9 H1 locs := hR.call ht9 hBx hwx hS hFc
                                    have hsh := hsh.tr hsx
                                    exact vx_out (E := RJxb5711) (q := q9) (fun x h9 => (hnt x h9).elim) hlocks hce9 hcv9 hcl9 (fun t9 ht9 ha9 => ⟨u9, ⟨h, hR.w, hsh⟩, ⟨rfl, by rw [ht9]; exact hR.P, hR.D⟩, hR.sS.F ht9⟩) hR.sS.2.2 (Nat.le_of_ble_eq_true rfl) (Nat.le_of_ble_eq_true rfl)
                                  · obtain ⟨hq125, hw9, hs9⟩ := hw9
                                    have hR : Rep g ad A s S124 H1 locs := hR.call ht9 hB9 hw9 hS hFc
                                    have hsh := hsh.tr hs9
                                    replace h := h.1 r123 S124 hq125
                                    clear hB9 hz9 hk9 hvm9 ht9 hw9 hs9 hS
                                    generalize H1 = H at hR ⊢
                                    refine lv_pop hx hb dX14_codeItems_305 rfl ?_
                                    obtain ⟨a126, ea126⟩ : ∃ z, z = (v287_6 + Int32.ofInt 1) := ⟨_, rfl⟩
                                    replace h := h a126 ea126
                                    refine lv_iinc (v := a126) (lv' := [(6, .int a126), (0, .ref (ad 0)), (1, .int v287_1)]) hx hb dX14_codeItems_306 hl (k := 2) rfl ea126.symm (by decide) rfl (fun ls hl => ?_)
                                    refine lv_goto (tgt := 287) hx hb dX14_codeItems_309 (by decide) ?_
                                    exact ih_287 S124 v287_1 a126 _ _ ls h  hsh hR (lv_sub hl [1, 2, 0] rfl)
                            obtain ⟨n9, h⟩ := h
                            exact J_287 n9 S88 v267_1 0 _ _ ls h  hsh hR (lv_sub hl [1, 2, 0] rfl)
                        refine lv_icmp_gt (tgt := 266) hx hb dX14_codeItems_259 (by decide) (fun c127 => ?_) (fun c127 => ?_)
                        · replace h := h.1 (k_lt (by decide) rfl c127)
                          refine lv_iconst (v := 0) hx hb dX14_codeItems_266 (by decide) ?_
                          exact J_267 S81 0 v201_1 r74 _ _ ls h (Or.inl rfl) hsh hR (lv_sub hl [1, 2, 0] rfl)
                        · replace h := h.2 (k_nlt (by decide) rfl c127)
                          refine lv_iconst (v := 1) hx hb dX14_codeItems_262 (by decide) ?_
                          refine lv_goto (tgt := 267) hx hb dX14_codeItems_263 (by decide) ?_
                          exact J_267 S81 1 v201_1 r74 _ _ ls h (Or.inr rfl) hsh hR (lv_sub hl [1, 2, 0] rfl)
                have J_200 : ∀ (U200 : MS) (v200_1 : Int32) (v200_4 : Int32) (v200_5 : Int32) (H : Heap) (locs : List Loc) (ls : Array Slot), w_codeItems_J200 Q E U200 v200_1 v200_4 v200_5 → shy S U200 → Rep g ad A s U200 H locs → lv_has ls 9 [(0, .ref (ad 0)), (1, .int v200_1), (4, .int v200_4), (5, .int v200_5)] → W p l e (headSpec (wt2 yX14_codeItems cX14_codeItems 9 none) ({ frames := 6, cells := 0, slots := 0, locals := 131 })).room s m ([.ref (ad 0), .int x1] : List Value).toArray below meth c H locs 0 0 (vx_MQ below (va_Qv (fun (u : MS) => Q u ∧ wfM u ∧ shy S u) (fun (u : MS) (t : State) => qE g ad A u t) A) ((vx_X (fun (u : MS) => E u ∧ wfM u ∧ shy S u) (fun (n9 : String) (u : MS) (t : State) => n9 = RJxb5711 ∧ qE g ad A u t) A)) ([.ref (ad 0), .int x1] : List Value).toArray s 0 0 A) (F0 m 200 ls [.ref (ad 0)]) := by
                  intro U200 v200_1 v200_4 v200_5 H locs ls h hsh hR hl
                  unfold w_codeItems_J200 at h
                  refine lv_iconst (v := 0) hx hb dX14_codeItems_200 (by decide) ?_
                  exact J_201 U200 0 v200_1 v200_4 v200_5 _ _ ls h (Or.inl rfl) hsh hR (lv_sub hl [0, 1, 2, 3] rfl)
                refine lv_icmp_lt (tgt := 200) hx hb dX14_codeItems_185 (by decide) (fun c128 => ?_) (fun c128 => ?_)
                · replace h := h.1 (k_lt rfl (by decide) c128)
                  exact J_200 S56 v157_1 r55 a61 _ _ ls h  hsh hR (lv_sub hl [2, 3, 1, 0] rfl)
                · replace h := h.2 (k_nlt rfl (by decide) c128)
                  refine lv_iload hx hb dX14_codeItems_188 (lv_at hl 0 rfl) ?_
                  refine lv_sipush (v := 1200) hx hb dX14_codeItems_190 (by decide) ?_
                  refine lv_icmp_gt (tgt := 200) hx hb dX14_codeItems_193 (by decide) (fun c129 => ?_) (fun c129 => ?_)
                  · replace h := h.1 (k_lt (by decide) rfl c129)
                    exact J_200 S56 v157_1 r55 a61 _ _ ls h  hsh hR (lv_sub hl [2, 3, 1, 0] rfl)
                  · replace h := h.2 (k_nlt (by decide) rfl c129)
                    refine lv_iconst (v := 1) hx hb dX14_codeItems_196 (by decide) ?_
                    refine lv_goto (tgt := 201) hx hb dX14_codeItems_197 (by decide) ?_
                    exact J_201 S56 1 v157_1 r55 a61 _ _ ls h (Or.inr rfl) hsh hR (lv_sub hl [2, 3, 1, 0] rfl)
          have J_156 : ∀ (U156 : MS) (v156_1 : Int32) (v156_4 : Int32) (H : Heap) (locs : List Loc) (ls : Array Slot), w_codeItems_J156 Q E U156 v156_1 v156_4 → shy S U156 → Rep g ad A s U156 H locs → lv_has ls 9 [(0, .ref (ad 0)), (1, .int v156_1), (4, .int v156_4)] → W p l e (headSpec (wt2 yX14_codeItems cX14_codeItems 9 none) ({ frames := 6, cells := 0, slots := 0, locals := 131 })).room s m ([.ref (ad 0), .int x1] : List Value).toArray below meth c H locs 0 0 (vx_MQ below (va_Qv (fun (u : MS) => Q u ∧ wfM u ∧ shy S u) (fun (u : MS) (t : State) => qE g ad A u t) A) ((vx_X (fun (u : MS) => E u ∧ wfM u ∧ shy S u) (fun (n9 : String) (u : MS) (t : State) => n9 = RJxb5711 ∧ qE g ad A u t) A)) ([.ref (ad 0), .int x1] : List Value).toArray s 0 0 A) (F0 m 156 ls [.ref (ad 0)]) := by
            intro U156 v156_1 v156_4 H locs ls h hsh hR hl
            unfold w_codeItems_J156 at h
            refine lv_iconst (v := 0) hx hb dX14_codeItems_156 (by decide) ?_
            exact J_157 U156 0 v156_1 v156_4 _ _ ls h (Or.inl rfl) hsh hR (lv_sub hl [0, 1, 2] rfl)
          refine lv_icmp_gt (tgt := 156) hx hb dX14_codeItems_139 (by decide) (fun c130 => ?_) (fun c130 => ?_)
          · replace h := h.1 (k_lt (by decide) rfl c130)
            exact J_156 S48 v102_1 r41 _ _ ls h  hsh hR (lv_sub hl [1, 2, 0] rfl)
          · replace h := h.2 (k_nlt (by decide) rfl c130)
            refine lv_aload_n hx hb dX14_codeItems_142 rfl (lv_at hl 1 rfl) ?_
            refine va_get (D := rD g) (ci := 13) (v := .ref (ad 13)) (C := RX14) (T := TX14) (N := 143) hx hb hts in2X14 hown hR.K hR.P 0 (hR.at14 hR.w.1) rfl 30 (by decide) (hts _ kx_267) (fun _ h9 => h9) (congrArg (fun z => some (vf ad z)) (hR.w.2.1 _ fin_30).1) dX14_codeItems_143 ?_
            refine lv_iload_n hx hb dX14_codeItems_146 rfl (lv_at hl 2 rfl) ?_
            obtain ⟨hv131, h⟩ := h
            refine va_iald hx hb hR.K hR.P 13 1 (hR.atI (hR.w.2.1 _ fin_30).2.1) rfl (k_ixN (k_ix (n := 24) (x := v102_1) (a := v102_1.toInt) rfl hv131) (hR.w.2.1 _ fin_30).2.2) dX14_codeItems_147 ?_
            refine lv_topi (fun z132 ez132 => ?_)
            obtain rfl : z132 = (qI S48 13 v102_1.toInt.toNat) := ez132
            refine lv_iload_n hx hb dX14_codeItems_148 rfl (lv_at hl 3 rfl) ?_
            refine lv_icmp_lt (tgt := 156) hx hb dX14_codeItems_149 (by decide) (fun c133 => ?_) (fun c133 => ?_)
            · replace h := h.1 (k_lt rfl rfl c133)
              exact J_156 S48 v102_1 r41 _ _ ls h  hsh hR (lv_sub hl [1, 2, 0] rfl)
            · replace h := h.2 (k_nlt rfl rfl c133)
              refine lv_iconst (v := 1) hx hb dX14_codeItems_152 (by decide) ?_
              refine lv_goto (tgt := 157) hx hb dX14_codeItems_153 (by decide) ?_
              exact J_157 S48 1 v102_1 r41 _ _ ls h (Or.inr rfl) hsh hR (lv_sub hl [1, 2, 0] rfl)
    refine lv_icmp_gt (tgt := 101) hx hb dX14_codeItems_94 (by decide) (fun c134 => ?_) (fun c134 => ?_)
    · replace h := h.1 (k_lt (by decide) rfl c134)
      refine lv_iconst (v := 0) hx hb dX14_codeItems_101 (by decide) ?_
      exact J_102 S34 0 x1 r23 r27 _ _ ls h (Or.inl rfl) hsh hR (lv_sub hl [3, 4, 1, 0] rfl)
    · replace h := h.2 (k_nlt (by decide) rfl c134)
      refine lv_iconst (v := 1) hx hb dX14_codeItems_97 (by decide) ?_
      refine lv_goto (tgt := 102) hx hb dX14_codeItems_98 (by decide) ?_
      exact J_102 S34 1 x1 r23 r27 _ _ ls h (Or.inr rfl) hsh hR (lv_sub hl [3, 4, 1, 0] rfl)
def f_codeOctet (S : MS) (x1 : Int32) : Int32 := ((qI S (qO S 0 11) ((((qI S 0 36) + x1).toInt).toNat)) &&& (255 : Int32))
def d_codeOctet (S : MS) (x1 : Int32) : Prop := ((qR S 0 11 = some (qO S 0 11)) ∧ (((0 : Int) ≤ ((qI S 0 36) + x1).toInt ∧ ((qI S 0 36) + x1).toInt < (qN S (qO S 0 11) : Int)) ∧ True))
set_option maxHeartbeats 2000000 in
set_option maxRecDepth 100000 in
theorem r_codeOctet (l : Launch) (g : Gr) (ad : Nat → Nat) (sz : Nat) (S : MS) (x1 : Int32) (hw : wfM S) (hd : d_codeOctet S x1) : Met l yX14_codeOctet (wt2 yX14_codeOctet cX14_codeOctet 2 (some .int)) ({ frames := 0, cells := 0, slots := 0, locals := 0 }) (va_Pc [.ref (ad 0), .int x1] (st_R g ad sz S)) (va_Qi (fun (r : Int32) (_ : Unit) => r = f_codeOctet S x1) (fun (_ : Unit) (t : State) => qE g ad (va_A (Wd g ad S) sz) S t) (va_A (Wd g ad S) sz)) 0 0 (va_A (Wd g ad S) sz) := by
  refine Met.ofW (cc := cX14_codeOctet) (maxL := 2) (ret := (some .int)) (by decide) rfl ?_
  intro p e s m args below meth c s₁ B hml hv
  obtain ⟨rfl, hsz, hP, hK, hD0, hex, hE⟩ := hv
  have hx := B.exec
  have hb := B.bytes
  have hr := B.returns
  have hts0 := atoms_spec (ws := wt2 yX14_codeOctet cX14_codeOctet 2 (some .int)) B.pre
  have hts : ∀ w ∈ tb2, w.before _ s = true := fun w h => hts0 w (List.mem_cons_of_mem _ h)
  have hown : s.vm.findClass RX14 = some m.cls := findClass_of_methodNamed B.named
  subst hsz
  have hD := hD0.self (sz := s.heap.size)
  generalize hAe : va_A (Wd g ad S) s.heap.size = A at hD hE ⊢
  have hA : ∀ q : Nat, s.heap.size ≤ q → A q := fun q h => by rw [← hAe]; exact Or.inr h
  have hR : Rep g ad A s S s.heap [] := ⟨hK, hP, hD, va_S.rf, hw⟩
  clear hK hP hD hD0
  have hl := lv_entry ([.ref (ad 0), .int x1]) (n := 2) (Nat.le_of_ble_eq_true rfl)
  rw [lg_entry_eq]
  generalize (lg_sl ([.ref (ad 0), .int x1]) ++ List.replicate (2 - (lg_sl ([.ref (ad 0), .int x1])).length) Slot.unset).toArray = ls at hl ⊢
  have hl : lv_has ls 2 [(0, .ref (ad 0)), (1, .int x1)] := hl
  obtain ⟨r0, hf⟩ : ∃ r0, f_codeOctet S x1 = r0 := ⟨_, rfl⟩
  have hf0 := hf
  unfold f_codeOctet at hf
  unfold d_codeOctet at hd
  refine lv_aload_n hx hb dX14_codeOctet_0 rfl (lv_at hl 0 rfl) ?_
  obtain ⟨hv1, hd⟩ := hd
  have hT_b2 : qT S (qO S 0 11) = 1 := hR.w.ref hv1 hR.w.1
  refine va_get (D := rD g) (ci := 13) (v := .ref (ad (qO S 0 11))) (C := RX14) (T := TX14) (N := 143) hx hb hts in2X14 hown hR.K hR.P 0 (hR.at14 hR.w.1) rfl 11 (by decide) (hts _ kx_181) (fun _ h9 => h9) (congrArg (fun z => some (vf ad z)) hv1) dX14_codeOctet_1 ?_
  refine lv_aload_n hx hb dX14_codeOctet_4 rfl (lv_at hl 0 rfl) ?_
  refine va_get (D := rD g) (ci := 13) (v := .int (qI S 0 36)) (C := RX14) (T := TX14) (N := 143) hx hb hts in2X14 hown hR.K hR.P 0 (hR.at14 hR.w.1) rfl 36 (by decide) (hts _ kx_273) (fun _ h9 => h9) rfl dX14_codeOctet_5 ?_
  refine lv_iload_n hx hb dX14_codeOctet_8 rfl (lv_at hl 1 rfl) ?_
  refine lv_iadd hx hb dX14_codeOctet_9 ?_
  refine lv_topi (fun z3 ez3 => ?_)
  obtain rfl : z3 = ((qI S 0 36) + x1) := ez3
  obtain ⟨hv4, hd⟩ := hd
  refine va_bald hx hb hR.K hR.P (qO S 0 11) 0 (hR.atB hT_b2) rfl (k_ix (x := ((qI S 0 36) + x1)) (a := ((qI S 0 36) + x1).toInt) rfl hv4) dX14_codeOctet_10 ?_
  refine lv_topi (fun z5 ez5 => ?_)
  obtain rfl : z5 = (qI S (qO S 0 11) ((((qI S 0 36) + x1).toInt).toNat)) := ez5
  refine lv_sipush (v := 255) hx hb dX14_codeOctet_11 (by decide) ?_
  refine lv_iand hx hb dX14_codeOctet_14 ?_
  refine lv_topi (fun z6 ez6 => ?_)
  obtain rfl : z6 = ((qI S (qO S 0 11) ((((qI S 0 36) + x1).toInt).toNat)) &&& (255 : Int32)) := ez6
  exact W.iret (v := ((qI S (qO S 0 11) ((((qI S 0 36) + x1).toInt).toNat)) &&& (255 : Int32))) hx hb hr (fun t9 ht9 hW9 => ⟨⟨_, (), rfl, hf.trans hf0.symm, ⟨by rw [ht9]; exact hR.P, hR.D⟩⟩, hR.sS.F ht9⟩) hR.sS.2.2 dX14_codeOctet_15
def f_codeTwo (S : MS) (x1 : Int32) : Int32 := ((f_two S ((qI S 0 36) + x1)).toInt16.toInt32)
def d_codeTwo (S : MS) (x1 : Int32) : Prop := (d_two S ((qI S 0 36) + x1) ∧ True)
set_option maxHeartbeats 2000000 in
set_option maxRecDepth 100000 in
theorem r_codeTwo (l : Launch) (g : Gr) (ad : Nat → Nat) (sz : Nat) (S : MS) (x1 : Int32) (hw : wfM S) (hd : d_codeTwo S x1) : Met l yX14_codeTwo (wt2 yX14_codeTwo cX14_codeTwo 2 (some .int)) ({ frames := 2, cells := 0, slots := 0, locals := 42 }) (va_Pc [.ref (ad 0), .int x1] (st_R g ad sz S)) (va_Qi (fun (r : Int32) (_ : Unit) => r = f_codeTwo S x1) (fun (_ : Unit) (t : State) => qE g ad (va_A (Wd g ad S) sz) S t) (va_A (Wd g ad S) sz)) 0 0 (va_A (Wd g ad S) sz) := by
  refine Met.ofW (cc := cX14_codeTwo) (maxL := 2) (ret := (some .int)) (by decide) rfl ?_
  intro p e s m args below meth c s₁ B hml hv
  obtain ⟨rfl, hsz, hP, hK, hD0, hex, hE⟩ := hv
  have hx := B.exec
  have hb := B.bytes
  have hr := B.returns
  have hts0 := atoms_spec (ws := wt2 yX14_codeTwo cX14_codeTwo 2 (some .int)) B.pre
  have hts : ∀ w ∈ tb2, w.before _ s = true := fun w h => hts0 w (List.mem_cons_of_mem _ h)
  have hown : s.vm.findClass RX14 = some m.cls := findClass_of_methodNamed B.named
  subst hsz
  have hD := hD0.self (sz := s.heap.size)
  generalize hAe : va_A (Wd g ad S) s.heap.size = A at hD hE ⊢
  have hA : ∀ q : Nat, s.heap.size ≤ q → A q := fun q h => by rw [← hAe]; exact Or.inr h
  have hR : Rep g ad A s S s.heap [] := ⟨hK, hP, hD, va_S.rf, hw⟩
  clear hK hP hD hD0
  have hl := lv_entry ([.ref (ad 0), .int x1]) (n := 2) (Nat.le_of_ble_eq_true rfl)
  rw [lg_entry_eq]
  generalize (lg_sl ([.ref (ad 0), .int x1]) ++ List.replicate (2 - (lg_sl ([.ref (ad 0), .int x1])).length) Slot.unset).toArray = ls at hl ⊢
  have hl : lv_has ls 2 [(0, .ref (ad 0)), (1, .int x1)] := hl
  obtain ⟨r0, hf⟩ : ∃ r0, f_codeTwo S x1 = r0 := ⟨_, rfl⟩
  have hf0 := hf
  unfold f_codeTwo at hf
  unfold d_codeTwo at hd
  refine lv_aload_n hx hb dX14_codeTwo_0 rfl (lv_at hl 0 rfl) ?_
  refine lv_aload_n hx hb dX14_codeTwo_1 rfl (lv_at hl 0 rfl) ?_
  refine va_get (D := rD g) (ci := 13) (v := .int (qI S 0 36)) (C := RX14) (T := TX14) (N := 143) hx hb hts in2X14 hown hR.K hR.P 0 (hR.at14 hR.w.1) rfl 36 (by decide) (hts _ kx_273) (fun _ h9 => h9) rfl dX14_codeTwo_2 ?_
  refine lv_iload_n hx hb dX14_codeTwo_5 rfl (lv_at hl 1 rfl) ?_
  refine lv_iadd hx hb dX14_codeTwo_6 ?_
  refine lv_topi (fun z1 ez1 => ?_)
  obtain rfl : z1 = ((qI S 0 36) + x1) := ez1
  obtain ⟨hv2, hd⟩ := hd
  have hFc := rfree hR hA
  refine va_calli (va_runV (As := [.int ((qI S 0 36) + x1)]) (rest := []) ⟨hx, hb, hml, hown, hts⟩ (r_two l g ad s.heap.size S ((qI S 0 36) + x1) hR.w  hv2) (cwV 1 hts (gd2_V kx_186 kx_187 kx_188 kx_177 kx_189) rfl rfl rfl (by decide +kernel) ⟨Nat.le_of_ble_eq_true rfl, Nat.le_of_ble_eq_true rfl⟩) ⟨rblind, va_recv hR.K hR.P (ci := 13) (q0 := 0) rfl (hR.at14 hR.w.1), fun U hU hW9 => rmk hU hW9 hR hex hE hFc⟩ rfl rfl hl.1 rfl (lv_room (Nat.le_of_ble_eq_true rfl)) dX14_codeTwo_7 ⟨Nat.le_of_ble_eq_true rfl, Nat.le_of_ble_eq_true rfl⟩) hR.sS (fun q _ h => hFc q h) hFc (fun r3 u9 t9 H1 locs ht9 hvm9 hw9 hB9 hz9 hk9 hS => ?_)
  have hR : Rep g ad A s S H1 locs := hR.call ht9 hB9 hR.w hS hFc
  obtain rfl : r3 = (f_two S ((qI S 0 36) + x1)) := hw9
  clear hB9 hz9 hk9 hvm9 ht9 hS
  generalize H1 = H at hR ⊢
  refine lv_i2s (v := ((f_two S ((qI S 0 36) + x1)).toInt16.toInt32)) hx hb dX14_codeTwo_10 rfl ?_
  exact W.iret (v := ((f_two S ((qI S 0 36) + x1)).toInt16.toInt32)) hx hb hr (fun t9 ht9 hW9 => ⟨⟨_, (), rfl, hf.trans hf0.symm, ⟨by rw [ht9]; exact hR.P, hR.D⟩⟩, hR.sS.F ht9⟩) hR.sS.2.2 dX14_codeTwo_11
def f_codeFour (S : MS) (x1 : Int32) : Int32 := (f_four S ((qI S 0 36) + x1))
def d_codeFour (S : MS) (x1 : Int32) : Prop := (d_four S ((qI S 0 36) + x1) ∧ True)
set_option maxHeartbeats 2000000 in
set_option maxRecDepth 100000 in
theorem r_codeFour (l : Launch) (g : Gr) (ad : Nat → Nat) (sz : Nat) (S : MS) (x1 : Int32) (hw : wfM S) (hd : d_codeFour S x1) : Met l yX14_codeFour (wt2 yX14_codeFour cX14_codeFour 2 (some .int)) ({ frames := 3, cells := 0, slots := 0, locals := 63 }) (va_Pc [.ref (ad 0), .int x1] (st_R g ad sz S)) (va_Qi (fun (r : Int32) (_ : Unit) => r = f_codeFour S x1) (fun (_ : Unit) (t : State) => qE g ad (va_A (Wd g ad S) sz) S t) (va_A (Wd g ad S) sz)) 0 0 (va_A (Wd g ad S) sz) := by
  refine Met.ofW (cc := cX14_codeFour) (maxL := 2) (ret := (some .int)) (by decide) rfl ?_
  intro p e s m args below meth c s₁ B hml hv
  obtain ⟨rfl, hsz, hP, hK, hD0, hex, hE⟩ := hv
  have hx := B.exec
  have hb := B.bytes
  have hr := B.returns
  have hts0 := atoms_spec (ws := wt2 yX14_codeFour cX14_codeFour 2 (some .int)) B.pre
  have hts : ∀ w ∈ tb2, w.before _ s = true := fun w h => hts0 w (List.mem_cons_of_mem _ h)
  have hown : s.vm.findClass RX14 = some m.cls := findClass_of_methodNamed B.named
  subst hsz
  have hD := hD0.self (sz := s.heap.size)
  generalize hAe : va_A (Wd g ad S) s.heap.size = A at hD hE ⊢
  have hA : ∀ q : Nat, s.heap.size ≤ q → A q := fun q h => by rw [← hAe]; exact Or.inr h
  have hR : Rep g ad A s S s.heap [] := ⟨hK, hP, hD, va_S.rf, hw⟩
  clear hK hP hD hD0
  have hl := lv_entry ([.ref (ad 0), .int x1]) (n := 2) (Nat.le_of_ble_eq_true rfl)
  rw [lg_entry_eq]
  generalize (lg_sl ([.ref (ad 0), .int x1]) ++ List.replicate (2 - (lg_sl ([.ref (ad 0), .int x1])).length) Slot.unset).toArray = ls at hl ⊢
  have hl : lv_has ls 2 [(0, .ref (ad 0)), (1, .int x1)] := hl
  obtain ⟨r0, hf⟩ : ∃ r0, f_codeFour S x1 = r0 := ⟨_, rfl⟩
  have hf0 := hf
  unfold f_codeFour at hf
  unfold d_codeFour at hd
  refine lv_aload_n hx hb dX14_codeFour_0 rfl (lv_at hl 0 rfl) ?_
  refine lv_aload_n hx hb dX14_codeFour_1 rfl (lv_at hl 0 rfl) ?_
  refine va_get (D := rD g) (ci := 13) (v := .int (qI S 0 36)) (C := RX14) (T := TX14) (N := 143) hx hb hts in2X14 hown hR.K hR.P 0 (hR.at14 hR.w.1) rfl 36 (by decide) (hts _ kx_273) (fun _ h9 => h9) rfl dX14_codeFour_2 ?_
  refine lv_iload_n hx hb dX14_codeFour_5 rfl (lv_at hl 1 rfl) ?_
  refine lv_iadd hx hb dX14_codeFour_6 ?_
  refine lv_topi (fun z1 ez1 => ?_)
  obtain rfl : z1 = ((qI S 0 36) + x1) := ez1
  obtain ⟨hv2, hd⟩ := hd
  have hFc := rfree hR hA
  refine va_calli (va_runV (As := [.int ((qI S 0 36) + x1)]) (rest := []) ⟨hx, hb, hml, hown, hts⟩ (r_four l g ad s.heap.size S ((qI S 0 36) + x1) hR.w  hv2) (cwV 1 hts (gd2_V kx_212 kx_213 kx_214 kx_177 kx_215) rfl rfl rfl (by decide +kernel) ⟨Nat.le_of_ble_eq_true rfl, Nat.le_of_ble_eq_true rfl⟩) ⟨rblind, va_recv hR.K hR.P (ci := 13) (q0 := 0) rfl (hR.at14 hR.w.1), fun U hU hW9 => rmk hU hW9 hR hex hE hFc⟩ rfl rfl hl.1 rfl (lv_room (Nat.le_of_ble_eq_true rfl)) dX14_codeFour_7 ⟨Nat.le_of_ble_eq_true rfl, Nat.le_of_ble_eq_true rfl⟩) hR.sS (fun q _ h => hFc q h) hFc (fun r3 u9 t9 H1 locs ht9 hvm9 hw9 hB9 hz9 hk9 hS => ?_)
  have hR : Rep g ad A s S H1 locs := hR.call ht9 hB9 hR.w hS hFc
  obtain rfl : r3 = (f_four S ((qI S 0 36) + x1)) := hw9
  clear hB9 hz9 hk9 hvm9 ht9 hS
  generalize H1 = H at hR ⊢
  exact W.iret (v := (f_four S ((qI S 0 36) + x1))) hx hb hr (fun t9 ht9 hW9 => ⟨⟨_, (), rfl, hf.trans hf0.symm, ⟨by rw [ht9]; exact hR.P, hR.D⟩⟩, hR.sS.F ht9⟩) hR.sS.2.2 dX14_codeFour_10
def f_spanOf_J344 (S : MS) : Int32 := (-1 : Int32)
def d_spanOf_J344 (S : MS) : Prop := True
def f_spanOf_J282 (S : MS) (v282_0 : Int32) : Int32 := (if v282_0.toInt = 178 then (3 : Int32) else (if v282_0.toInt = 179 then (3 : Int32) else (if v282_0.toInt = 184 then (3 : Int32) else (if v282_0.toInt = 198 then (3 : Int32) else (if v282_0.toInt = 199 then (3 : Int32) else (if v282_0.toInt = 200 then (5 : Int32) else (if v282_0.toInt = 170 then f_spanOf_J344 S else (if v282_0.toInt = 171 then f_spanOf_J344 S else (if v282_0.toInt = 196 then (-2 : Int32) else (0 : Int32))))))))))
def d_spanOf_J282 (S : MS) (v282_0 : Int32) : Prop := (if v282_0.toInt = 178 then True else (if v282_0.toInt = 179 then True else (if v282_0.toInt = 184 then True else (if v282_0.toInt = 198 then True else (if v282_0.toInt = 199 then True else (if v282_0.toInt = 200 then True else (if v282_0.toInt = 170 then d_spanOf_J344 S else (if v282_0.toInt = 171 then d_spanOf_J344 S else True))))))))
def f_spanOf_J142 (S : MS) (v142_0 : Int32) : Int32 := (if v142_0.toInt = 172 then (1 : Int32) else (if v142_0.toInt = 173 then (1 : Int32) else (if v142_0.toInt = 176 then (1 : Int32) else (if v142_0.toInt = 177 then (1 : Int32) else (if v142_0.toInt = 190 then (1 : Int32) else (if v142_0.toInt = 191 then (1 : Int32) else (if v142_0.toInt = 16 then (2 : Int32) else (if v142_0.toInt = 18 then (2 : Int32) else (if v142_0.toInt = 21 then (2 : Int32) else (if v142_0.toInt = 22 then (2 : Int32) else (if v142_0.toInt = 25 then (2 : Int32) else (if v142_0.toInt = 54 then (2 : Int32) else (if v142_0.toInt = 55 then (2 : Int32) else (if v142_0.toInt = 58 then (2 : Int32) else (if v142_0.toInt = 188 then (2 : Int32) else (if v142_0.toInt = 17 then (3 : Int32) else (if v142_0.toInt = 19 then (3 : Int32) else (if v142_0.toInt = 20 then (3 : Int32) else (if v142_0.toInt = 132 then (3 : Int32) else (if v142_0.toInt < 153 then f_spanOf_J282 S v142_0 else (if v142_0.toInt ≤ 167 then (3 : Int32) else f_spanOf_J282 S v142_0)))))))))))))))))))))
def d_spanOf_J142 (S : MS) (v142_0 : Int32) : Prop := (if v142_0.toInt = 172 then True else (if v142_0.toInt = 173 then True else (if v142_0.toInt = 176 then True else (if v142_0.toInt = 177 then True else (if v142_0.toInt = 190 then True else (if v142_0.toInt = 191 then True else (if v142_0.toInt = 16 then True else (if v142_0.toInt = 18 then True else (if v142_0.toInt = 21 then True else (if v142_0.toInt = 22 then True else (if v142_0.toInt = 25 then True else (if v142_0.toInt = 54 then True else (if v142_0.toInt = 55 then True else (if v142_0.toInt = 58 then True else (if v142_0.toInt = 188 then True else (if v142_0.toInt = 17 then True else (if v142_0.toInt = 19 then True else (if v142_0.toInt = 20 then True else (if v142_0.toInt = 132 then True else (if v142_0.toInt < 153 then d_spanOf_J282 S v142_0 else (if v142_0.toInt ≤ 167 then True else d_spanOf_J282 S v142_0)))))))))))))))))))))
def f_spanOf_J114 (S : MS) (v114_0 : Int32) : Int32 := (if v114_0.toInt = 133 then (1 : Int32) else (if v114_0.toInt = 136 then (1 : Int32) else (if v114_0.toInt < 145 then f_spanOf_J142 S v114_0 else (if v114_0.toInt ≤ 148 then (1 : Int32) else f_spanOf_J142 S v114_0))))
def d_spanOf_J114 (S : MS) (v114_0 : Int32) : Prop := (if v114_0.toInt = 133 then True else (if v114_0.toInt = 136 then True else (if v114_0.toInt < 145 then d_spanOf_J142 S v114_0 else (if v114_0.toInt ≤ 148 then True else d_spanOf_J142 S v114_0))))
def f_spanOf_J99 (S : MS) (v99_0 : Int32) : Int32 := (if v99_0.toInt < 120 then f_spanOf_J114 S v99_0 else (if 131 < v99_0.toInt then f_spanOf_J114 S v99_0 else (1 : Int32)))
def d_spanOf_J99 (S : MS) (v99_0 : Int32) : Prop := (if v99_0.toInt < 120 then d_spanOf_J114 S v99_0 else (if 131 < v99_0.toInt then d_spanOf_J114 S v99_0 else True))
def f_spanOf_J68 (S : MS) (v68_0 : Int32) : Int32 := (if v68_0.toInt = 92 then (1 : Int32) else (if v68_0.toInt = 95 then (1 : Int32) else (if v68_0.toInt < 96 then f_spanOf_J99 S v68_0 else (if 119 < v68_0.toInt then f_spanOf_J99 S v68_0 else (if (v68_0 - v68_0 / (4 : Int32) * (4 : Int32)).toInt < 2 then (1 : Int32) else f_spanOf_J99 S v68_0)))))
def d_spanOf_J68 (S : MS) (v68_0 : Int32) : Prop := (if v68_0.toInt = 92 then True else (if v68_0.toInt = 95 then True else (if v68_0.toInt < 96 then d_spanOf_J99 S v68_0 else (if 119 < v68_0.toInt then d_spanOf_J99 S v68_0 else (if (v68_0 - v68_0 / (4 : Int32) * (4 : Int32)).toInt < 2 then True else d_spanOf_J99 S v68_0)))))
def f_spanOf_J56 (S : MS) (v56_0 : Int32) : Int32 := (if v56_0.toInt < 87 then f_spanOf_J68 S v56_0 else (if v56_0.toInt ≤ 90 then (1 : Int32) else f_spanOf_J68 S v56_0))
def d_spanOf_J56 (S : MS) (v56_0 : Int32) : Prop := (if v56_0.toInt < 87 then d_spanOf_J68 S v56_0 else (if v56_0.toInt ≤ 90 then True else d_spanOf_J68 S v56_0))
def f_spanOf_J42 (S : MS) (v42_0 : Int32) : Int32 := (if v42_0.toInt < 75 then f_spanOf_J56 S v42_0 else (if 79 < v42_0.toInt then f_spanOf_J56 S v42_0 else (1 : Int32)))
def d_spanOf_J42 (S : MS) (v42_0 : Int32) : Prop := (if v42_0.toInt < 75 then d_spanOf_J56 S v42_0 else (if 79 < v42_0.toInt then d_spanOf_J56 S v42_0 else True))
def f_spanOf_J30 (S : MS) (v30_0 : Int32) : Int32 := (if v30_0.toInt < 59 then f_spanOf_J42 S v30_0 else (if v30_0.toInt ≤ 66 then (1 : Int32) else f_spanOf_J42 S v30_0))
def d_spanOf_J30 (S : MS) (v30_0 : Int32) : Prop := (if v30_0.toInt < 59 then d_spanOf_J42 S v30_0 else (if v30_0.toInt ≤ 66 then True else d_spanOf_J42 S v30_0))
def f_spanOf_J18 (S : MS) (v18_0 : Int32) : Int32 := (if v18_0.toInt < 42 then f_spanOf_J30 S v18_0 else (if v18_0.toInt ≤ 46 then (1 : Int32) else f_spanOf_J30 S v18_0))
def d_spanOf_J18 (S : MS) (v18_0 : Int32) : Prop := (if v18_0.toInt < 42 then d_spanOf_J30 S v18_0 else (if v18_0.toInt ≤ 46 then True else d_spanOf_J30 S v18_0))
def f_spanOf (S : MS) (x0 : Int32) : Int32 := (if x0.toInt ≤ 10 then (1 : Int32) else (if x0.toInt < 26 then f_spanOf_J18 S x0 else (if x0.toInt ≤ 33 then (1 : Int32) else f_spanOf_J18 S x0)))
def d_spanOf (S : MS) (x0 : Int32) : Prop := (if x0.toInt ≤ 10 then True else (if x0.toInt < 26 then d_spanOf_J18 S x0 else (if x0.toInt ≤ 33 then True else d_spanOf_J18 S x0)))
set_option maxHeartbeats 2000000 in
set_option maxRecDepth 100000 in
theorem r_spanOf (l : Launch) (g : Gr) (ad : Nat → Nat) (sz : Nat) (S : MS) (x0 : Int32) (hw : wfM S) (hd : d_spanOf S x0) : Met l yX14_spanOf (wt2 yX14_spanOf cX14_spanOf 1 (some .int)) ({ frames := 0, cells := 0, slots := 0, locals := 0 }) (va_Pc [.int x0] (st_R g ad sz S)) (va_Qi (fun (r : Int32) (_ : Unit) => r = f_spanOf S x0) (fun (_ : Unit) (t : State) => qE g ad (va_A (Wd g ad S) sz) S t) (va_A (Wd g ad S) sz)) 0 0 (va_A (Wd g ad S) sz) := by
  refine Met.ofW (cc := cX14_spanOf) (maxL := 1) (ret := (some .int)) (by decide) rfl ?_
  intro p e s m args below meth c s₁ B hml hv
  obtain ⟨rfl, hsz, hP, hK, hD0, hex, hE⟩ := hv
  have hx := B.exec
  have hb := B.bytes
  have hr := B.returns
  have hts0 := atoms_spec (ws := wt2 yX14_spanOf cX14_spanOf 1 (some .int)) B.pre
  have hts : ∀ w ∈ tb2, w.before _ s = true := fun w h => hts0 w (List.mem_cons_of_mem _ h)
  have hown : s.vm.findClass RX14 = some m.cls := findClass_of_methodNamed B.named
  subst hsz
  have hD := hD0.self (sz := s.heap.size)
  generalize hAe : va_A (Wd g ad S) s.heap.size = A at hD hE ⊢
  have hA : ∀ q : Nat, s.heap.size ≤ q → A q := fun q h => by rw [← hAe]; exact Or.inr h
  have hR : Rep g ad A s S s.heap [] := ⟨hK, hP, hD, va_S.rf, hw⟩
  clear hK hP hD hD0
  have hl := lv_entry ([.int x0]) (n := 1) (Nat.le_of_ble_eq_true rfl)
  rw [lg_entry_eq]
  generalize (lg_sl ([.int x0]) ++ List.replicate (1 - (lg_sl ([.int x0])).length) Slot.unset).toArray = ls at hl ⊢
  have hl : lv_has ls 1 [(0, .int x0)] := hl
  obtain ⟨r0, hf⟩ : ∃ r0, f_spanOf S x0 = r0 := ⟨_, rfl⟩
  have hf0 := hf
  unfold f_spanOf at hf
  unfold d_spanOf at hd
  refine lv_iload_n hx hb dX14_spanOf_0 rfl (lv_at hl 0 rfl) ?_
  refine lv_bipush (v := 10) hx hb dX14_spanOf_1 (by decide) ?_
  refine lv_icmp_le (tgt := 54) hx hb dX14_spanOf_3 (by decide) (fun c1 => ?_) (fun c1 => ?_)
  · rw [if_pos (k_le rfl (by decide) c1)] at hf
    (try rw [if_pos (k_le rfl (by decide) c1)] at hd)
    refine lv_iconst (v := 1) hx hb dX14_spanOf_54 (by decide) ?_
    exact W.iret (v := 1) hx hb hr (fun t9 ht9 hW9 => ⟨⟨_, (), rfl, hf.trans hf0.symm, ⟨by rw [ht9]; exact hR.P, hR.D⟩⟩, hR.sS.F ht9⟩) hR.sS.2.2 dX14_spanOf_55
  · rw [if_neg (k_nle rfl (by decide) c1)] at hf
    (try rw [if_neg (k_nle rfl (by decide) c1)] at hd)
    refine lv_iload_n hx hb dX14_spanOf_6 rfl (lv_at hl 0 rfl) ?_
    refine lv_bipush (v := 26) hx hb dX14_spanOf_7 (by decide) ?_
    have J_18 : ∀ (v18_0 : Int32) (H : Heap) (locs : List Loc) (ls : Array Slot), d_spanOf_J18 S v18_0 → f_spanOf_J18 S v18_0 = r0 → Rep g ad A s S H locs → lv_has ls 1 [(0, .int v18_0)] → W p l e (headSpec (wt2 yX14_spanOf cX14_spanOf 1 (some .int)) ({ frames := 0, cells := 0, slots := 0, locals := 0 })).room s m ([.int x0] : List Value).toArray below meth c H locs 0 0 (MQ below (va_Qi (fun (r : Int32) (_ : Unit) => r = f_spanOf S x0) (fun (_ : Unit) (t : State) => qE g ad A S t) A) ([.int x0] : List Value).toArray s 0 0 A) (F0 m 18 ls []) := by
      intro v18_0 H locs ls hd hf hR hl
      unfold d_spanOf_J18 at hd
      unfold f_spanOf_J18 at hf
      refine lv_iload_n hx hb dX14_spanOf_18 rfl (lv_at hl 0 rfl) ?_
      refine lv_bipush (v := 42) hx hb dX14_spanOf_19 (by decide) ?_
      have J_30 : ∀ (v30_0 : Int32) (H : Heap) (locs : List Loc) (ls : Array Slot), d_spanOf_J30 S v30_0 → f_spanOf_J30 S v30_0 = r0 → Rep g ad A s S H locs → lv_has ls 1 [(0, .int v30_0)] → W p l e (headSpec (wt2 yX14_spanOf cX14_spanOf 1 (some .int)) ({ frames := 0, cells := 0, slots := 0, locals := 0 })).room s m ([.int x0] : List Value).toArray below meth c H locs 0 0 (MQ below (va_Qi (fun (r : Int32) (_ : Unit) => r = f_spanOf S x0) (fun (_ : Unit) (t : State) => qE g ad A S t) A) ([.int x0] : List Value).toArray s 0 0 A) (F0 m 30 ls []) := by
        intro v30_0 H locs ls hd hf hR hl
        unfold d_spanOf_J30 at hd
        unfold f_spanOf_J30 at hf
        refine lv_iload_n hx hb dX14_spanOf_30 rfl (lv_at hl 0 rfl) ?_
        refine lv_bipush (v := 59) hx hb dX14_spanOf_31 (by decide) ?_
        have J_42 : ∀ (v42_0 : Int32) (H : Heap) (locs : List Loc) (ls : Array Slot), d_spanOf_J42 S v42_0 → f_spanOf_J42 S v42_0 = r0 → Rep g ad A s S H locs → lv_has ls 1 [(0, .int v42_0)] → W p l e (headSpec (wt2 yX14_spanOf cX14_spanOf 1 (some .int)) ({ frames := 0, cells := 0, slots := 0, locals := 0 })).room s m ([.int x0] : List Value).toArray below meth c H locs 0 0 (MQ below (va_Qi (fun (r : Int32) (_ : Unit) => r = f_spanOf S x0) (fun (_ : Unit) (t : State) => qE g ad A S t) A) ([.int x0] : List Value).toArray s 0 0 A) (F0 m 42 ls []) := by
          intro v42_0 H locs ls hd hf hR hl
          unfold d_spanOf_J42 at hd
          unfold f_spanOf_J42 at hf
          refine lv_iload_n hx hb dX14_spanOf_42 rfl (lv_at hl 0 rfl) ?_
          refine lv_bipush (v := 75) hx hb dX14_spanOf_43 (by decide) ?_
          have J_56 : ∀ (v56_0 : Int32) (H : Heap) (locs : List Loc) (ls : Array Slot), d_spanOf_J56 S v56_0 → f_spanOf_J56 S v56_0 = r0 → Rep g ad A s S H locs → lv_has ls 1 [(0, .int v56_0)] → W p l e (headSpec (wt2 yX14_spanOf cX14_spanOf 1 (some .int)) ({ frames := 0, cells := 0, slots := 0, locals := 0 })).room s m ([.int x0] : List Value).toArray below meth c H locs 0 0 (MQ below (va_Qi (fun (r : Int32) (_ : Unit) => r = f_spanOf S x0) (fun (_ : Unit) (t : State) => qE g ad A S t) A) ([.int x0] : List Value).toArray s 0 0 A) (F0 m 56 ls []) := by
            intro v56_0 H locs ls hd hf hR hl
            unfold d_spanOf_J56 at hd
            unfold f_spanOf_J56 at hf
            refine lv_iload_n hx hb dX14_spanOf_56 rfl (lv_at hl 0 rfl) ?_
            refine lv_bipush (v := 87) hx hb dX14_spanOf_57 (by decide) ?_
            have J_68 : ∀ (v68_0 : Int32) (H : Heap) (locs : List Loc) (ls : Array Slot), d_spanOf_J68 S v68_0 → f_spanOf_J68 S v68_0 = r0 → Rep g ad A s S H locs → lv_has ls 1 [(0, .int v68_0)] → W p l e (headSpec (wt2 yX14_spanOf cX14_spanOf 1 (some .int)) ({ frames := 0, cells := 0, slots := 0, locals := 0 })).room s m ([.int x0] : List Value).toArray below meth c H locs 0 0 (MQ below (va_Qi (fun (r : Int32) (_ : Unit) => r = f_spanOf S x0) (fun (_ : Unit) (t : State) => qE g ad A S t) A) ([.int x0] : List Value).toArray s 0 0 A) (F0 m 68 ls []) := by
              intro v68_0 H locs ls hd hf hR hl
              unfold d_spanOf_J68 at hd
              unfold f_spanOf_J68 at hf
              refine lv_iload_n hx hb dX14_spanOf_68 rfl (lv_at hl 0 rfl) ?_
              refine lv_bipush (v := 92) hx hb dX14_spanOf_69 (by decide) ?_
              refine lv_icmp_eq (tgt := 112) hx hb dX14_spanOf_71 (by decide) (fun c2 => ?_) (fun c2 => ?_)
              · rw [if_pos (k_eq rfl (by decide) c2)] at hf
                (try rw [if_pos (k_eq rfl (by decide) c2)] at hd)
                refine lv_iconst (v := 1) hx hb dX14_spanOf_112 (by decide) ?_
                exact W.iret (v := 1) hx hb hr (fun t9 ht9 hW9 => ⟨⟨_, (), rfl, hf.trans hf0.symm, ⟨by rw [ht9]; exact hR.P, hR.D⟩⟩, hR.sS.F ht9⟩) hR.sS.2.2 dX14_spanOf_113
              · rw [if_neg (k_ne rfl (by decide) c2)] at hf
                (try rw [if_neg (k_ne rfl (by decide) c2)] at hd)
                refine lv_iload_n hx hb dX14_spanOf_74 rfl (lv_at hl 0 rfl) ?_
                refine lv_bipush (v := 95) hx hb dX14_spanOf_75 (by decide) ?_
                refine lv_icmp_eq (tgt := 112) hx hb dX14_spanOf_77 (by decide) (fun c3 => ?_) (fun c3 => ?_)
                · rw [if_pos (k_eq rfl (by decide) c3)] at hf
                  (try rw [if_pos (k_eq rfl (by decide) c3)] at hd)
                  refine lv_iconst (v := 1) hx hb dX14_spanOf_112 (by decide) ?_
                  exact W.iret (v := 1) hx hb hr (fun t9 ht9 hW9 => ⟨⟨_, (), rfl, hf.trans hf0.symm, ⟨by rw [ht9]; exact hR.P, hR.D⟩⟩, hR.sS.F ht9⟩) hR.sS.2.2 dX14_spanOf_113
                · rw [if_neg (k_ne rfl (by decide) c3)] at hf
                  (try rw [if_neg (k_ne rfl (by decide) c3)] at hd)
                  refine lv_iload_n hx hb dX14_spanOf_80 rfl (lv_at hl 0 rfl) ?_
                  refine lv_bipush (v := 96) hx hb dX14_spanOf_81 (by decide) ?_
                  have J_99 : ∀ (v99_0 : Int32) (H : Heap) (locs : List Loc) (ls : Array Slot), d_spanOf_J99 S v99_0 → f_spanOf_J99 S v99_0 = r0 → Rep g ad A s S H locs → lv_has ls 1 [(0, .int v99_0)] → W p l e (headSpec (wt2 yX14_spanOf cX14_spanOf 1 (some .int)) ({ frames := 0, cells := 0, slots := 0, locals := 0 })).room s m ([.int x0] : List Value).toArray below meth c H locs 0 0 (MQ below (va_Qi (fun (r : Int32) (_ : Unit) => r = f_spanOf S x0) (fun (_ : Unit) (t : State) => qE g ad A S t) A) ([.int x0] : List Value).toArray s 0 0 A) (F0 m 99 ls []) := by
                    intro v99_0 H locs ls hd hf hR hl
                    unfold d_spanOf_J99 at hd
                    unfold f_spanOf_J99 at hf
                    refine lv_iload_n hx hb dX14_spanOf_99 rfl (lv_at hl 0 rfl) ?_
                    refine lv_bipush (v := 120) hx hb dX14_spanOf_100 (by decide) ?_
                    have J_114 : ∀ (v114_0 : Int32) (H : Heap) (locs : List Loc) (ls : Array Slot), d_spanOf_J114 S v114_0 → f_spanOf_J114 S v114_0 = r0 → Rep g ad A s S H locs → lv_has ls 1 [(0, .int v114_0)] → W p l e (headSpec (wt2 yX14_spanOf cX14_spanOf 1 (some .int)) ({ frames := 0, cells := 0, slots := 0, locals := 0 })).room s m ([.int x0] : List Value).toArray below meth c H locs 0 0 (MQ below (va_Qi (fun (r : Int32) (_ : Unit) => r = f_spanOf S x0) (fun (_ : Unit) (t : State) => qE g ad A S t) A) ([.int x0] : List Value).toArray s 0 0 A) (F0 m 114 ls []) := by
                      intro v114_0 H locs ls hd hf hR hl
                      unfold d_spanOf_J114 at hd
                      unfold f_spanOf_J114 at hf
                      refine lv_iload_n hx hb dX14_spanOf_114 rfl (lv_at hl 0 rfl) ?_
                      refine lv_sipush (v := 133) hx hb dX14_spanOf_115 (by decide) ?_
                      refine lv_icmp_eq (tgt := 184) hx hb dX14_spanOf_118 (by decide) (fun c4 => ?_) (fun c4 => ?_)
                      · rw [if_pos (k_eq rfl (by decide) c4)] at hf
                        (try rw [if_pos (k_eq rfl (by decide) c4)] at hd)
                        refine lv_iconst (v := 1) hx hb dX14_spanOf_184 (by decide) ?_
                        exact W.iret (v := 1) hx hb hr (fun t9 ht9 hW9 => ⟨⟨_, (), rfl, hf.trans hf0.symm, ⟨by rw [ht9]; exact hR.P, hR.D⟩⟩, hR.sS.F ht9⟩) hR.sS.2.2 dX14_spanOf_185
                      · rw [if_neg (k_ne rfl (by decide) c4)] at hf
                        (try rw [if_neg (k_ne rfl (by decide) c4)] at hd)
                        refine lv_iload_n hx hb dX14_spanOf_121 rfl (lv_at hl 0 rfl) ?_
                        refine lv_sipush (v := 136) hx hb dX14_spanOf_122 (by decide) ?_
                        refine lv_icmp_eq (tgt := 184) hx hb dX14_spanOf_125 (by decide) (fun c5 => ?_) (fun c5 => ?_)
                        · rw [if_pos (k_eq rfl (by decide) c5)] at hf
                          (try rw [if_pos (k_eq rfl (by decide) c5)] at hd)
                          refine lv_iconst (v := 1) hx hb dX14_spanOf_184 (by decide) ?_
                          exact W.iret (v := 1) hx hb hr (fun t9 ht9 hW9 => ⟨⟨_, (), rfl, hf.trans hf0.symm, ⟨by rw [ht9]; exact hR.P, hR.D⟩⟩, hR.sS.F ht9⟩) hR.sS.2.2 dX14_spanOf_185
                        · rw [if_neg (k_ne rfl (by decide) c5)] at hf
                          (try rw [if_neg (k_ne rfl (by decide) c5)] at hd)
                          refine lv_iload_n hx hb dX14_spanOf_128 rfl (lv_at hl 0 rfl) ?_
                          refine lv_sipush (v := 145) hx hb dX14_spanOf_129 (by decide) ?_
                          have J_142 : ∀ (v142_0 : Int32) (H : Heap) (locs : List Loc) (ls : Array Slot), d_spanOf_J142 S v142_0 → f_spanOf_J142 S v142_0 = r0 → Rep g ad A s S H locs → lv_has ls 1 [(0, .int v142_0)] → W p l e (headSpec (wt2 yX14_spanOf cX14_spanOf 1 (some .int)) ({ frames := 0, cells := 0, slots := 0, locals := 0 })).room s m ([.int x0] : List Value).toArray below meth c H locs 0 0 (MQ below (va_Qi (fun (r : Int32) (_ : Unit) => r = f_spanOf S x0) (fun (_ : Unit) (t : State) => qE g ad A S t) A) ([.int x0] : List Value).toArray s 0 0 A) (F0 m 142 ls []) := by
                            intro v142_0 H locs ls hd hf hR hl
                            unfold d_spanOf_J142 at hd
                            unfold f_spanOf_J142 at hf
                            refine lv_iload_n hx hb dX14_spanOf_142 rfl (lv_at hl 0 rfl) ?_
                            refine lv_sipush (v := 172) hx hb dX14_spanOf_143 (by decide) ?_
                            refine lv_icmp_eq (tgt := 184) hx hb dX14_spanOf_146 (by decide) (fun c6 => ?_) (fun c6 => ?_)
                            · rw [if_pos (k_eq rfl (by decide) c6)] at hf
                              (try rw [if_pos (k_eq rfl (by decide) c6)] at hd)
                              refine lv_iconst (v := 1) hx hb dX14_spanOf_184 (by decide) ?_
                              exact W.iret (v := 1) hx hb hr (fun t9 ht9 hW9 => ⟨⟨_, (), rfl, hf.trans hf0.symm, ⟨by rw [ht9]; exact hR.P, hR.D⟩⟩, hR.sS.F ht9⟩) hR.sS.2.2 dX14_spanOf_185
                            · rw [if_neg (k_ne rfl (by decide) c6)] at hf
                              (try rw [if_neg (k_ne rfl (by decide) c6)] at hd)
                              refine lv_iload_n hx hb dX14_spanOf_149 rfl (lv_at hl 0 rfl) ?_
                              refine lv_sipush (v := 173) hx hb dX14_spanOf_150 (by decide) ?_
                              refine lv_icmp_eq (tgt := 184) hx hb dX14_spanOf_153 (by decide) (fun c7 => ?_) (fun c7 => ?_)
                              · rw [if_pos (k_eq rfl (by decide) c7)] at hf
                                (try rw [if_pos (k_eq rfl (by decide) c7)] at hd)
                                refine lv_iconst (v := 1) hx hb dX14_spanOf_184 (by decide) ?_
                                exact W.iret (v := 1) hx hb hr (fun t9 ht9 hW9 => ⟨⟨_, (), rfl, hf.trans hf0.symm, ⟨by rw [ht9]; exact hR.P, hR.D⟩⟩, hR.sS.F ht9⟩) hR.sS.2.2 dX14_spanOf_185
                              · rw [if_neg (k_ne rfl (by decide) c7)] at hf
                                (try rw [if_neg (k_ne rfl (by decide) c7)] at hd)
                                refine lv_iload_n hx hb dX14_spanOf_156 rfl (lv_at hl 0 rfl) ?_
                                refine lv_sipush (v := 176) hx hb dX14_spanOf_157 (by decide) ?_
                                refine lv_icmp_eq (tgt := 184) hx hb dX14_spanOf_160 (by decide) (fun c8 => ?_) (fun c8 => ?_)
                                · rw [if_pos (k_eq rfl (by decide) c8)] at hf
                                  (try rw [if_pos (k_eq rfl (by decide) c8)] at hd)
                                  refine lv_iconst (v := 1) hx hb dX14_spanOf_184 (by decide) ?_
                                  exact W.iret (v := 1) hx hb hr (fun t9 ht9 hW9 => ⟨⟨_, (), rfl, hf.trans hf0.symm, ⟨by rw [ht9]; exact hR.P, hR.D⟩⟩, hR.sS.F ht9⟩) hR.sS.2.2 dX14_spanOf_185
                                · rw [if_neg (k_ne rfl (by decide) c8)] at hf
                                  (try rw [if_neg (k_ne rfl (by decide) c8)] at hd)
                                  refine lv_iload_n hx hb dX14_spanOf_163 rfl (lv_at hl 0 rfl) ?_
                                  refine lv_sipush (v := 177) hx hb dX14_spanOf_164 (by decide) ?_
                                  refine lv_icmp_eq (tgt := 184) hx hb dX14_spanOf_167 (by decide) (fun c9 => ?_) (fun c9 => ?_)
                                  · rw [if_pos (k_eq rfl (by decide) c9)] at hf
                                    (try rw [if_pos (k_eq rfl (by decide) c9)] at hd)
                                    refine lv_iconst (v := 1) hx hb dX14_spanOf_184 (by decide) ?_
                                    exact W.iret (v := 1) hx hb hr (fun t9 ht9 hW9 => ⟨⟨_, (), rfl, hf.trans hf0.symm, ⟨by rw [ht9]; exact hR.P, hR.D⟩⟩, hR.sS.F ht9⟩) hR.sS.2.2 dX14_spanOf_185
                                  · rw [if_neg (k_ne rfl (by decide) c9)] at hf
                                    (try rw [if_neg (k_ne rfl (by decide) c9)] at hd)
                                    refine lv_iload_n hx hb dX14_spanOf_170 rfl (lv_at hl 0 rfl) ?_
                                    refine lv_sipush (v := 190) hx hb dX14_spanOf_171 (by decide) ?_
                                    refine lv_icmp_eq (tgt := 184) hx hb dX14_spanOf_174 (by decide) (fun c10 => ?_) (fun c10 => ?_)
                                    · rw [if_pos (k_eq rfl (by decide) c10)] at hf
                                      (try rw [if_pos (k_eq rfl (by decide) c10)] at hd)
                                      refine lv_iconst (v := 1) hx hb dX14_spanOf_184 (by decide) ?_
                                      exact W.iret (v := 1) hx hb hr (fun t9 ht9 hW9 => ⟨⟨_, (), rfl, hf.trans hf0.symm, ⟨by rw [ht9]; exact hR.P, hR.D⟩⟩, hR.sS.F ht9⟩) hR.sS.2.2 dX14_spanOf_185
                                    · rw [if_neg (k_ne rfl (by decide) c10)] at hf
                                      (try rw [if_neg (k_ne rfl (by decide) c10)] at hd)
                                      refine lv_iload_n hx hb dX14_spanOf_177 rfl (lv_at hl 0 rfl) ?_
                                      refine lv_sipush (v := 191) hx hb dX14_spanOf_178 (by decide) ?_
                                      refine lv_icmp_ne (tgt := 186) hx hb dX14_spanOf_181 (by decide) (fun c11 => ?_) (fun c11 => ?_)
                                      · rw [if_neg (k_ne rfl (by decide) c11)] at hf
                                        (try rw [if_neg (k_ne rfl (by decide) c11)] at hd)
                                        refine lv_iload_n hx hb dX14_spanOf_186 rfl (lv_at hl 0 rfl) ?_
                                        refine lv_bipush (v := 16) hx hb dX14_spanOf_187 (by decide) ?_
                                        refine lv_icmp_eq (tgt := 241) hx hb dX14_spanOf_189 (by decide) (fun c12 => ?_) (fun c12 => ?_)
                                        · rw [if_pos (k_eq rfl (by decide) c12)] at hf
                                          (try rw [if_pos (k_eq rfl (by decide) c12)] at hd)
                                          refine lv_iconst (v := 2) hx hb dX14_spanOf_241 (by decide) ?_
                                          exact W.iret (v := 2) hx hb hr (fun t9 ht9 hW9 => ⟨⟨_, (), rfl, hf.trans hf0.symm, ⟨by rw [ht9]; exact hR.P, hR.D⟩⟩, hR.sS.F ht9⟩) hR.sS.2.2 dX14_spanOf_242
                                        · rw [if_neg (k_ne rfl (by decide) c12)] at hf
                                          (try rw [if_neg (k_ne rfl (by decide) c12)] at hd)
                                          refine lv_iload_n hx hb dX14_spanOf_192 rfl (lv_at hl 0 rfl) ?_
                                          refine lv_bipush (v := 18) hx hb dX14_spanOf_193 (by decide) ?_
                                          refine lv_icmp_eq (tgt := 241) hx hb dX14_spanOf_195 (by decide) (fun c13 => ?_) (fun c13 => ?_)
                                          · rw [if_pos (k_eq rfl (by decide) c13)] at hf
                                            (try rw [if_pos (k_eq rfl (by decide) c13)] at hd)
                                            refine lv_iconst (v := 2) hx hb dX14_spanOf_241 (by decide) ?_
                                            exact W.iret (v := 2) hx hb hr (fun t9 ht9 hW9 => ⟨⟨_, (), rfl, hf.trans hf0.symm, ⟨by rw [ht9]; exact hR.P, hR.D⟩⟩, hR.sS.F ht9⟩) hR.sS.2.2 dX14_spanOf_242
                                          · rw [if_neg (k_ne rfl (by decide) c13)] at hf
                                            (try rw [if_neg (k_ne rfl (by decide) c13)] at hd)
                                            refine lv_iload_n hx hb dX14_spanOf_198 rfl (lv_at hl 0 rfl) ?_
                                            refine lv_bipush (v := 21) hx hb dX14_spanOf_199 (by decide) ?_
                                            refine lv_icmp_eq (tgt := 241) hx hb dX14_spanOf_201 (by decide) (fun c14 => ?_) (fun c14 => ?_)
                                            · rw [if_pos (k_eq rfl (by decide) c14)] at hf
                                              (try rw [if_pos (k_eq rfl (by decide) c14)] at hd)
                                              refine lv_iconst (v := 2) hx hb dX14_spanOf_241 (by decide) ?_
                                              exact W.iret (v := 2) hx hb hr (fun t9 ht9 hW9 => ⟨⟨_, (), rfl, hf.trans hf0.symm, ⟨by rw [ht9]; exact hR.P, hR.D⟩⟩, hR.sS.F ht9⟩) hR.sS.2.2 dX14_spanOf_242
                                            · rw [if_neg (k_ne rfl (by decide) c14)] at hf
                                              (try rw [if_neg (k_ne rfl (by decide) c14)] at hd)
                                              refine lv_iload_n hx hb dX14_spanOf_204 rfl (lv_at hl 0 rfl) ?_
                                              refine lv_bipush (v := 22) hx hb dX14_spanOf_205 (by decide) ?_
                                              refine lv_icmp_eq (tgt := 241) hx hb dX14_spanOf_207 (by decide) (fun c15 => ?_) (fun c15 => ?_)
                                              · rw [if_pos (k_eq rfl (by decide) c15)] at hf
                                                (try rw [if_pos (k_eq rfl (by decide) c15)] at hd)
                                                refine lv_iconst (v := 2) hx hb dX14_spanOf_241 (by decide) ?_
                                                exact W.iret (v := 2) hx hb hr (fun t9 ht9 hW9 => ⟨⟨_, (), rfl, hf.trans hf0.symm, ⟨by rw [ht9]; exact hR.P, hR.D⟩⟩, hR.sS.F ht9⟩) hR.sS.2.2 dX14_spanOf_242
                                              · rw [if_neg (k_ne rfl (by decide) c15)] at hf
                                                (try rw [if_neg (k_ne rfl (by decide) c15)] at hd)
                                                refine lv_iload_n hx hb dX14_spanOf_210 rfl (lv_at hl 0 rfl) ?_
                                                refine lv_bipush (v := 25) hx hb dX14_spanOf_211 (by decide) ?_
                                                refine lv_icmp_eq (tgt := 241) hx hb dX14_spanOf_213 (by decide) (fun c16 => ?_) (fun c16 => ?_)
                                                · rw [if_pos (k_eq rfl (by decide) c16)] at hf
                                                  (try rw [if_pos (k_eq rfl (by decide) c16)] at hd)
                                                  refine lv_iconst (v := 2) hx hb dX14_spanOf_241 (by decide) ?_
                                                  exact W.iret (v := 2) hx hb hr (fun t9 ht9 hW9 => ⟨⟨_, (), rfl, hf.trans hf0.symm, ⟨by rw [ht9]; exact hR.P, hR.D⟩⟩, hR.sS.F ht9⟩) hR.sS.2.2 dX14_spanOf_242
                                                · rw [if_neg (k_ne rfl (by decide) c16)] at hf
                                                  (try rw [if_neg (k_ne rfl (by decide) c16)] at hd)
                                                  refine lv_iload_n hx hb dX14_spanOf_216 rfl (lv_at hl 0 rfl) ?_
                                                  refine lv_bipush (v := 54) hx hb dX14_spanOf_217 (by decide) ?_
                                                  refine lv_icmp_eq (tgt := 241) hx hb dX14_spanOf_219 (by decide) (fun c17 => ?_) (fun c17 => ?_)
                                                  · rw [if_pos (k_eq rfl (by decide) c17)] at hf
                                                    (try rw [if_pos (k_eq rfl (by decide) c17)] at hd)
                                                    refine lv_iconst (v := 2) hx hb dX14_spanOf_241 (by decide) ?_
                                                    exact W.iret (v := 2) hx hb hr (fun t9 ht9 hW9 => ⟨⟨_, (), rfl, hf.trans hf0.symm, ⟨by rw [ht9]; exact hR.P, hR.D⟩⟩, hR.sS.F ht9⟩) hR.sS.2.2 dX14_spanOf_242
                                                  · rw [if_neg (k_ne rfl (by decide) c17)] at hf
                                                    (try rw [if_neg (k_ne rfl (by decide) c17)] at hd)
                                                    refine lv_iload_n hx hb dX14_spanOf_222 rfl (lv_at hl 0 rfl) ?_
                                                    refine lv_bipush (v := 55) hx hb dX14_spanOf_223 (by decide) ?_
                                                    refine lv_icmp_eq (tgt := 241) hx hb dX14_spanOf_225 (by decide) (fun c18 => ?_) (fun c18 => ?_)
                                                    · rw [if_pos (k_eq rfl (by decide) c18)] at hf
                                                      (try rw [if_pos (k_eq rfl (by decide) c18)] at hd)
                                                      refine lv_iconst (v := 2) hx hb dX14_spanOf_241 (by decide) ?_
                                                      exact W.iret (v := 2) hx hb hr (fun t9 ht9 hW9 => ⟨⟨_, (), rfl, hf.trans hf0.symm, ⟨by rw [ht9]; exact hR.P, hR.D⟩⟩, hR.sS.F ht9⟩) hR.sS.2.2 dX14_spanOf_242
                                                    · rw [if_neg (k_ne rfl (by decide) c18)] at hf
                                                      (try rw [if_neg (k_ne rfl (by decide) c18)] at hd)
                                                      refine lv_iload_n hx hb dX14_spanOf_228 rfl (lv_at hl 0 rfl) ?_
                                                      refine lv_bipush (v := 58) hx hb dX14_spanOf_229 (by decide) ?_
                                                      refine lv_icmp_eq (tgt := 241) hx hb dX14_spanOf_231 (by decide) (fun c19 => ?_) (fun c19 => ?_)
                                                      · rw [if_pos (k_eq rfl (by decide) c19)] at hf
                                                        (try rw [if_pos (k_eq rfl (by decide) c19)] at hd)
                                                        refine lv_iconst (v := 2) hx hb dX14_spanOf_241 (by decide) ?_
                                                        exact W.iret (v := 2) hx hb hr (fun t9 ht9 hW9 => ⟨⟨_, (), rfl, hf.trans hf0.symm, ⟨by rw [ht9]; exact hR.P, hR.D⟩⟩, hR.sS.F ht9⟩) hR.sS.2.2 dX14_spanOf_242
                                                      · rw [if_neg (k_ne rfl (by decide) c19)] at hf
                                                        (try rw [if_neg (k_ne rfl (by decide) c19)] at hd)
                                                        refine lv_iload_n hx hb dX14_spanOf_234 rfl (lv_at hl 0 rfl) ?_
                                                        refine lv_sipush (v := 188) hx hb dX14_spanOf_235 (by decide) ?_
                                                        refine lv_icmp_ne (tgt := 243) hx hb dX14_spanOf_238 (by decide) (fun c20 => ?_) (fun c20 => ?_)
                                                        · rw [if_neg (k_ne rfl (by decide) c20)] at hf
                                                          (try rw [if_neg (k_ne rfl (by decide) c20)] at hd)
                                                          refine lv_iload_n hx hb dX14_spanOf_243 rfl (lv_at hl 0 rfl) ?_
                                                          refine lv_bipush (v := 17) hx hb dX14_spanOf_244 (by decide) ?_
                                                          refine lv_icmp_eq (tgt := 317) hx hb dX14_spanOf_246 (by decide) (fun c21 => ?_) (fun c21 => ?_)
                                                          · rw [if_pos (k_eq rfl (by decide) c21)] at hf
                                                            (try rw [if_pos (k_eq rfl (by decide) c21)] at hd)
                                                            refine lv_iconst (v := 3) hx hb dX14_spanOf_317 (by decide) ?_
                                                            exact W.iret (v := 3) hx hb hr (fun t9 ht9 hW9 => ⟨⟨_, (), rfl, hf.trans hf0.symm, ⟨by rw [ht9]; exact hR.P, hR.D⟩⟩, hR.sS.F ht9⟩) hR.sS.2.2 dX14_spanOf_318
                                                          · rw [if_neg (k_ne rfl (by decide) c21)] at hf
                                                            (try rw [if_neg (k_ne rfl (by decide) c21)] at hd)
                                                            refine lv_iload_n hx hb dX14_spanOf_249 rfl (lv_at hl 0 rfl) ?_
                                                            refine lv_bipush (v := 19) hx hb dX14_spanOf_250 (by decide) ?_
                                                            refine lv_icmp_eq (tgt := 317) hx hb dX14_spanOf_252 (by decide) (fun c22 => ?_) (fun c22 => ?_)
                                                            · rw [if_pos (k_eq rfl (by decide) c22)] at hf
                                                              (try rw [if_pos (k_eq rfl (by decide) c22)] at hd)
                                                              refine lv_iconst (v := 3) hx hb dX14_spanOf_317 (by decide) ?_
                                                              exact W.iret (v := 3) hx hb hr (fun t9 ht9 hW9 => ⟨⟨_, (), rfl, hf.trans hf0.symm, ⟨by rw [ht9]; exact hR.P, hR.D⟩⟩, hR.sS.F ht9⟩) hR.sS.2.2 dX14_spanOf_318
                                                            · rw [if_neg (k_ne rfl (by decide) c22)] at hf
                                                              (try rw [if_neg (k_ne rfl (by decide) c22)] at hd)
                                                              refine lv_iload_n hx hb dX14_spanOf_255 rfl (lv_at hl 0 rfl) ?_
                                                              refine lv_bipush (v := 20) hx hb dX14_spanOf_256 (by decide) ?_
                                                              refine lv_icmp_eq (tgt := 317) hx hb dX14_spanOf_258 (by decide) (fun c23 => ?_) (fun c23 => ?_)
                                                              · rw [if_pos (k_eq rfl (by decide) c23)] at hf
                                                                (try rw [if_pos (k_eq rfl (by decide) c23)] at hd)
                                                                refine lv_iconst (v := 3) hx hb dX14_spanOf_317 (by decide) ?_
                                                                exact W.iret (v := 3) hx hb hr (fun t9 ht9 hW9 => ⟨⟨_, (), rfl, hf.trans hf0.symm, ⟨by rw [ht9]; exact hR.P, hR.D⟩⟩, hR.sS.F ht9⟩) hR.sS.2.2 dX14_spanOf_318
                                                              · rw [if_neg (k_ne rfl (by decide) c23)] at hf
                                                                (try rw [if_neg (k_ne rfl (by decide) c23)] at hd)
                                                                refine lv_iload_n hx hb dX14_spanOf_261 rfl (lv_at hl 0 rfl) ?_
                                                                refine lv_sipush (v := 132) hx hb dX14_spanOf_262 (by decide) ?_
                                                                refine lv_icmp_eq (tgt := 317) hx hb dX14_spanOf_265 (by decide) (fun c24 => ?_) (fun c24 => ?_)
                                                                · rw [if_pos (k_eq rfl (by decide) c24)] at hf
                                                                  (try rw [if_pos (k_eq rfl (by decide) c24)] at hd)
                                                                  refine lv_iconst (v := 3) hx hb dX14_spanOf_317 (by decide) ?_
                                                                  exact W.iret (v := 3) hx hb hr (fun t9 ht9 hW9 => ⟨⟨_, (), rfl, hf.trans hf0.symm, ⟨by rw [ht9]; exact hR.P, hR.D⟩⟩, hR.sS.F ht9⟩) hR.sS.2.2 dX14_spanOf_318
                                                                · rw [if_neg (k_ne rfl (by decide) c24)] at hf
                                                                  (try rw [if_neg (k_ne rfl (by decide) c24)] at hd)
                                                                  refine lv_iload_n hx hb dX14_spanOf_268 rfl (lv_at hl 0 rfl) ?_
                                                                  refine lv_sipush (v := 153) hx hb dX14_spanOf_269 (by decide) ?_
                                                                  have J_282 : ∀ (v282_0 : Int32) (H : Heap) (locs : List Loc) (ls : Array Slot), d_spanOf_J282 S v282_0 → f_spanOf_J282 S v282_0 = r0 → Rep g ad A s S H locs → lv_has ls 1 [(0, .int v282_0)] → W p l e (headSpec (wt2 yX14_spanOf cX14_spanOf 1 (some .int)) ({ frames := 0, cells := 0, slots := 0, locals := 0 })).room s m ([.int x0] : List Value).toArray below meth c H locs 0 0 (MQ below (va_Qi (fun (r : Int32) (_ : Unit) => r = f_spanOf S x0) (fun (_ : Unit) (t : State) => qE g ad A S t) A) ([.int x0] : List Value).toArray s 0 0 A) (F0 m 282 ls []) := by
                                                                    intro v282_0 H locs ls hd hf hR hl
                                                                    unfold d_spanOf_J282 at hd
                                                                    unfold f_spanOf_J282 at hf
                                                                    refine lv_iload_n hx hb dX14_spanOf_282 rfl (lv_at hl 0 rfl) ?_
                                                                    refine lv_sipush (v := 178) hx hb dX14_spanOf_283 (by decide) ?_
                                                                    refine lv_icmp_eq (tgt := 317) hx hb dX14_spanOf_286 (by decide) (fun c25 => ?_) (fun c25 => ?_)
                                                                    · rw [if_pos (k_eq rfl (by decide) c25)] at hf
                                                                      (try rw [if_pos (k_eq rfl (by decide) c25)] at hd)
                                                                      refine lv_iconst (v := 3) hx hb dX14_spanOf_317 (by decide) ?_
                                                                      exact W.iret (v := 3) hx hb hr (fun t9 ht9 hW9 => ⟨⟨_, (), rfl, hf.trans hf0.symm, ⟨by rw [ht9]; exact hR.P, hR.D⟩⟩, hR.sS.F ht9⟩) hR.sS.2.2 dX14_spanOf_318
                                                                    · rw [if_neg (k_ne rfl (by decide) c25)] at hf
                                                                      (try rw [if_neg (k_ne rfl (by decide) c25)] at hd)
                                                                      refine lv_iload_n hx hb dX14_spanOf_289 rfl (lv_at hl 0 rfl) ?_
                                                                      refine lv_sipush (v := 179) hx hb dX14_spanOf_290 (by decide) ?_
                                                                      refine lv_icmp_eq (tgt := 317) hx hb dX14_spanOf_293 (by decide) (fun c26 => ?_) (fun c26 => ?_)
                                                                      · rw [if_pos (k_eq rfl (by decide) c26)] at hf
                                                                        (try rw [if_pos (k_eq rfl (by decide) c26)] at hd)
                                                                        refine lv_iconst (v := 3) hx hb dX14_spanOf_317 (by decide) ?_
                                                                        exact W.iret (v := 3) hx hb hr (fun t9 ht9 hW9 => ⟨⟨_, (), rfl, hf.trans hf0.symm, ⟨by rw [ht9]; exact hR.P, hR.D⟩⟩, hR.sS.F ht9⟩) hR.sS.2.2 dX14_spanOf_318
                                                                      · rw [if_neg (k_ne rfl (by decide) c26)] at hf
                                                                        (try rw [if_neg (k_ne rfl (by decide) c26)] at hd)
                                                                        refine lv_iload_n hx hb dX14_spanOf_296 rfl (lv_at hl 0 rfl) ?_
                                                                        refine lv_sipush (v := 184) hx hb dX14_spanOf_297 (by decide) ?_
                                                                        refine lv_icmp_eq (tgt := 317) hx hb dX14_spanOf_300 (by decide) (fun c27 => ?_) (fun c27 => ?_)
                                                                        · rw [if_pos (k_eq rfl (by decide) c27)] at hf
                                                                          (try rw [if_pos (k_eq rfl (by decide) c27)] at hd)
                                                                          refine lv_iconst (v := 3) hx hb dX14_spanOf_317 (by decide) ?_
                                                                          exact W.iret (v := 3) hx hb hr (fun t9 ht9 hW9 => ⟨⟨_, (), rfl, hf.trans hf0.symm, ⟨by rw [ht9]; exact hR.P, hR.D⟩⟩, hR.sS.F ht9⟩) hR.sS.2.2 dX14_spanOf_318
                                                                        · rw [if_neg (k_ne rfl (by decide) c27)] at hf
                                                                          (try rw [if_neg (k_ne rfl (by decide) c27)] at hd)
                                                                          refine lv_iload_n hx hb dX14_spanOf_303 rfl (lv_at hl 0 rfl) ?_
                                                                          refine lv_sipush (v := 198) hx hb dX14_spanOf_304 (by decide) ?_
                                                                          refine lv_icmp_eq (tgt := 317) hx hb dX14_spanOf_307 (by decide) (fun c28 => ?_) (fun c28 => ?_)
                                                                          · rw [if_pos (k_eq rfl (by decide) c28)] at hf
                                                                            (try rw [if_pos (k_eq rfl (by decide) c28)] at hd)
                                                                            refine lv_iconst (v := 3) hx hb dX14_spanOf_317 (by decide) ?_
                                                                            exact W.iret (v := 3) hx hb hr (fun t9 ht9 hW9 => ⟨⟨_, (), rfl, hf.trans hf0.symm, ⟨by rw [ht9]; exact hR.P, hR.D⟩⟩, hR.sS.F ht9⟩) hR.sS.2.2 dX14_spanOf_318
                                                                          · rw [if_neg (k_ne rfl (by decide) c28)] at hf
                                                                            (try rw [if_neg (k_ne rfl (by decide) c28)] at hd)
                                                                            refine lv_iload_n hx hb dX14_spanOf_310 rfl (lv_at hl 0 rfl) ?_
                                                                            refine lv_sipush (v := 199) hx hb dX14_spanOf_311 (by decide) ?_
                                                                            refine lv_icmp_ne (tgt := 319) hx hb dX14_spanOf_314 (by decide) (fun c29 => ?_) (fun c29 => ?_)
                                                                            · rw [if_neg (k_ne rfl (by decide) c29)] at hf
                                                                              (try rw [if_neg (k_ne rfl (by decide) c29)] at hd)
                                                                              refine lv_iload_n hx hb dX14_spanOf_319 rfl (lv_at hl 0 rfl) ?_
                                                                              refine lv_sipush (v := 200) hx hb dX14_spanOf_320 (by decide) ?_
                                                                              refine lv_icmp_ne (tgt := 330) hx hb dX14_spanOf_323 (by decide) (fun c30 => ?_) (fun c30 => ?_)
                                                                              · rw [if_neg (k_ne rfl (by decide) c30)] at hf
                                                                                (try rw [if_neg (k_ne rfl (by decide) c30)] at hd)
                                                                                refine lv_iload_n hx hb dX14_spanOf_330 rfl (lv_at hl 0 rfl) ?_
                                                                                refine lv_sipush (v := 170) hx hb dX14_spanOf_331 (by decide) ?_
                                                                                have J_344 : ∀ (H : Heap) (locs : List Loc) (ls : Array Slot), d_spanOf_J344 S → f_spanOf_J344 S = r0 → Rep g ad A s S H locs → lv_has ls 1 [] → W p l e (headSpec (wt2 yX14_spanOf cX14_spanOf 1 (some .int)) ({ frames := 0, cells := 0, slots := 0, locals := 0 })).room s m ([.int x0] : List Value).toArray below meth c H locs 0 0 (MQ below (va_Qi (fun (r : Int32) (_ : Unit) => r = f_spanOf S x0) (fun (_ : Unit) (t : State) => qE g ad A S t) A) ([.int x0] : List Value).toArray s 0 0 A) (F0 m 344 ls []) := by
                                                                                  intro H locs ls hd hf hR hl
                                                                                  unfold d_spanOf_J344 at hd
                                                                                  unfold f_spanOf_J344 at hf
                                                                                  refine lv_iconst (v := (-1)) hx hb dX14_spanOf_344 (by decide) ?_
                                                                                  refine lv_goto (tgt := 361) hx hb dX14_spanOf_345 (by decide) ?_
                                                                                  exact W.iret (v := (-1)) hx hb hr (fun t9 ht9 hW9 => ⟨⟨_, (), rfl, hf.trans hf0.symm, ⟨by rw [ht9]; exact hR.P, hR.D⟩⟩, hR.sS.F ht9⟩) hR.sS.2.2 dX14_spanOf_361
                                                                                refine lv_icmp_eq (tgt := 344) hx hb dX14_spanOf_334 (by decide) (fun c31 => ?_) (fun c31 => ?_)
                                                                                · rw [if_pos (k_eq rfl (by decide) c31)] at hf
                                                                                  (try rw [if_pos (k_eq rfl (by decide) c31)] at hd)
                                                                                  exact J_344 _ _ ls hd hf  hR (lv_sub hl [] rfl)
                                                                                · rw [if_neg (k_ne rfl (by decide) c31)] at hf
                                                                                  (try rw [if_neg (k_ne rfl (by decide) c31)] at hd)
                                                                                  refine lv_iload_n hx hb dX14_spanOf_337 rfl (lv_at hl 0 rfl) ?_
                                                                                  refine lv_sipush (v := 171) hx hb dX14_spanOf_338 (by decide) ?_
                                                                                  refine lv_icmp_ne (tgt := 348) hx hb dX14_spanOf_341 (by decide) (fun c32 => ?_) (fun c32 => ?_)
                                                                                  · rw [if_neg (k_ne rfl (by decide) c32)] at hf
                                                                                    (try rw [if_neg (k_ne rfl (by decide) c32)] at hd)
                                                                                    refine lv_iload_n hx hb dX14_spanOf_348 rfl (lv_at hl 0 rfl) ?_
                                                                                    refine lv_sipush (v := 196) hx hb dX14_spanOf_349 (by decide) ?_
                                                                                    refine lv_icmp_ne (tgt := 360) hx hb dX14_spanOf_352 (by decide) (fun c33 => ?_) (fun c33 => ?_)
                                                                                    · rw [if_neg (k_ne rfl (by decide) c33)] at hf
                                                                                      (try rw [if_neg (k_ne rfl (by decide) c33)] at hd)
                                                                                      refine lv_iconst (v := 0) hx hb dX14_spanOf_360 (by decide) ?_
                                                                                      exact W.iret (v := 0) hx hb hr (fun t9 ht9 hW9 => ⟨⟨_, (), rfl, hf.trans hf0.symm, ⟨by rw [ht9]; exact hR.P, hR.D⟩⟩, hR.sS.F ht9⟩) hR.sS.2.2 dX14_spanOf_361
                                                                                    · rw [if_pos (k_eq rfl (by decide) c33)] at hf
                                                                                      (try rw [if_pos (k_eq rfl (by decide) c33)] at hd)
                                                                                      refine lv_bipush (v := (-2)) hx hb dX14_spanOf_355 (by decide) ?_
                                                                                      refine lv_goto (tgt := 361) hx hb dX14_spanOf_357 (by decide) ?_
                                                                                      exact W.iret (v := (-2)) hx hb hr (fun t9 ht9 hW9 => ⟨⟨_, (), rfl, hf.trans hf0.symm, ⟨by rw [ht9]; exact hR.P, hR.D⟩⟩, hR.sS.F ht9⟩) hR.sS.2.2 dX14_spanOf_361
                                                                                  · rw [if_pos (k_eq rfl (by decide) c32)] at hf
                                                                                    (try rw [if_pos (k_eq rfl (by decide) c32)] at hd)
                                                                                    exact J_344 _ _ ls hd hf  hR (lv_sub hl [] rfl)
                                                                              · rw [if_pos (k_eq rfl (by decide) c30)] at hf
                                                                                (try rw [if_pos (k_eq rfl (by decide) c30)] at hd)
                                                                                refine lv_iconst (v := 5) hx hb dX14_spanOf_326 (by decide) ?_
                                                                                refine lv_goto (tgt := 361) hx hb dX14_spanOf_327 (by decide) ?_
                                                                                exact W.iret (v := 5) hx hb hr (fun t9 ht9 hW9 => ⟨⟨_, (), rfl, hf.trans hf0.symm, ⟨by rw [ht9]; exact hR.P, hR.D⟩⟩, hR.sS.F ht9⟩) hR.sS.2.2 dX14_spanOf_361
                                                                            · rw [if_pos (k_eq rfl (by decide) c29)] at hf
                                                                              (try rw [if_pos (k_eq rfl (by decide) c29)] at hd)
                                                                              refine lv_iconst (v := 3) hx hb dX14_spanOf_317 (by decide) ?_
                                                                              exact W.iret (v := 3) hx hb hr (fun t9 ht9 hW9 => ⟨⟨_, (), rfl, hf.trans hf0.symm, ⟨by rw [ht9]; exact hR.P, hR.D⟩⟩, hR.sS.F ht9⟩) hR.sS.2.2 dX14_spanOf_318
                                                                  refine lv_icmp_lt (tgt := 282) hx hb dX14_spanOf_272 (by decide) (fun c34 => ?_) (fun c34 => ?_)
                                                                  · rw [if_pos (k_lt rfl (by decide) c34)] at hf
                                                                    (try rw [if_pos (k_lt rfl (by decide) c34)] at hd)
                                                                    exact J_282 v142_0 _ _ ls hd hf  hR (lv_sub hl [0] rfl)
                                                                  · rw [if_neg (k_nlt rfl (by decide) c34)] at hf
                                                                    (try rw [if_neg (k_nlt rfl (by decide) c34)] at hd)
                                                                    refine lv_iload_n hx hb dX14_spanOf_275 rfl (lv_at hl 0 rfl) ?_
                                                                    refine lv_sipush (v := 167) hx hb dX14_spanOf_276 (by decide) ?_
                                                                    refine lv_icmp_le (tgt := 317) hx hb dX14_spanOf_279 (by decide) (fun c35 => ?_) (fun c35 => ?_)
                                                                    · rw [if_pos (k_le rfl (by decide) c35)] at hf
                                                                      (try rw [if_pos (k_le rfl (by decide) c35)] at hd)
                                                                      refine lv_iconst (v := 3) hx hb dX14_spanOf_317 (by decide) ?_
                                                                      exact W.iret (v := 3) hx hb hr (fun t9 ht9 hW9 => ⟨⟨_, (), rfl, hf.trans hf0.symm, ⟨by rw [ht9]; exact hR.P, hR.D⟩⟩, hR.sS.F ht9⟩) hR.sS.2.2 dX14_spanOf_318
                                                                    · rw [if_neg (k_nle rfl (by decide) c35)] at hf
                                                                      (try rw [if_neg (k_nle rfl (by decide) c35)] at hd)
                                                                      exact J_282 v142_0 _ _ ls hd hf  hR (lv_sub hl [0] rfl)
                                                        · rw [if_pos (k_eq rfl (by decide) c20)] at hf
                                                          (try rw [if_pos (k_eq rfl (by decide) c20)] at hd)
                                                          refine lv_iconst (v := 2) hx hb dX14_spanOf_241 (by decide) ?_
                                                          exact W.iret (v := 2) hx hb hr (fun t9 ht9 hW9 => ⟨⟨_, (), rfl, hf.trans hf0.symm, ⟨by rw [ht9]; exact hR.P, hR.D⟩⟩, hR.sS.F ht9⟩) hR.sS.2.2 dX14_spanOf_242
                                      · rw [if_pos (k_eq rfl (by decide) c11)] at hf
                                        (try rw [if_pos (k_eq rfl (by decide) c11)] at hd)
                                        refine lv_iconst (v := 1) hx hb dX14_spanOf_184 (by decide) ?_
                                        exact W.iret (v := 1) hx hb hr (fun t9 ht9 hW9 => ⟨⟨_, (), rfl, hf.trans hf0.symm, ⟨by rw [ht9]; exact hR.P, hR.D⟩⟩, hR.sS.F ht9⟩) hR.sS.2.2 dX14_spanOf_185
                          refine lv_icmp_lt (tgt := 142) hx hb dX14_spanOf_132 (by decide) (fun c36 => ?_) (fun c36 => ?_)
                          · rw [if_pos (k_lt rfl (by decide) c36)] at hf
                            (try rw [if_pos (k_lt rfl (by decide) c36)] at hd)
                            exact J_142 v114_0 _ _ ls hd hf  hR (lv_sub hl [0] rfl)
                          · rw [if_neg (k_nlt rfl (by decide) c36)] at hf
                            (try rw [if_neg (k_nlt rfl (by decide) c36)] at hd)
                            refine lv_iload_n hx hb dX14_spanOf_135 rfl (lv_at hl 0 rfl) ?_
                            refine lv_sipush (v := 148) hx hb dX14_spanOf_136 (by decide) ?_
                            refine lv_icmp_le (tgt := 184) hx hb dX14_spanOf_139 (by decide) (fun c37 => ?_) (fun c37 => ?_)
                            · rw [if_pos (k_le rfl (by decide) c37)] at hf
                              (try rw [if_pos (k_le rfl (by decide) c37)] at hd)
                              refine lv_iconst (v := 1) hx hb dX14_spanOf_184 (by decide) ?_
                              exact W.iret (v := 1) hx hb hr (fun t9 ht9 hW9 => ⟨⟨_, (), rfl, hf.trans hf0.symm, ⟨by rw [ht9]; exact hR.P, hR.D⟩⟩, hR.sS.F ht9⟩) hR.sS.2.2 dX14_spanOf_185
                            · rw [if_neg (k_nle rfl (by decide) c37)] at hf
                              (try rw [if_neg (k_nle rfl (by decide) c37)] at hd)
                              exact J_142 v114_0 _ _ ls hd hf  hR (lv_sub hl [0] rfl)
                    refine lv_icmp_lt (tgt := 114) hx hb dX14_spanOf_102 (by decide) (fun c38 => ?_) (fun c38 => ?_)
                    · rw [if_pos (k_lt rfl (by decide) c38)] at hf
                      (try rw [if_pos (k_lt rfl (by decide) c38)] at hd)
                      exact J_114 v99_0 _ _ ls hd hf  hR (lv_sub hl [0] rfl)
                    · rw [if_neg (k_nlt rfl (by decide) c38)] at hf
                      (try rw [if_neg (k_nlt rfl (by decide) c38)] at hd)
                      refine lv_iload_n hx hb dX14_spanOf_105 rfl (lv_at hl 0 rfl) ?_
                      refine lv_sipush (v := 131) hx hb dX14_spanOf_106 (by decide) ?_
                      refine lv_icmp_gt (tgt := 114) hx hb dX14_spanOf_109 (by decide) (fun c39 => ?_) (fun c39 => ?_)
                      · rw [if_pos (k_lt (by decide) rfl c39)] at hf
                        (try rw [if_pos (k_lt (by decide) rfl c39)] at hd)
                        exact J_114 v99_0 _ _ ls hd hf  hR (lv_sub hl [0] rfl)
                      · rw [if_neg (k_nlt (by decide) rfl c39)] at hf
                        (try rw [if_neg (k_nlt (by decide) rfl c39)] at hd)
                        refine lv_iconst (v := 1) hx hb dX14_spanOf_112 (by decide) ?_
                        exact W.iret (v := 1) hx hb hr (fun t9 ht9 hW9 => ⟨⟨_, (), rfl, hf.trans hf0.symm, ⟨by rw [ht9]; exact hR.P, hR.D⟩⟩, hR.sS.F ht9⟩) hR.sS.2.2 dX14_spanOf_113
                  refine lv_icmp_lt (tgt := 99) hx hb dX14_spanOf_83 (by decide) (fun c40 => ?_) (fun c40 => ?_)
                  · rw [if_pos (k_lt rfl (by decide) c40)] at hf
                    (try rw [if_pos (k_lt rfl (by decide) c40)] at hd)
                    exact J_99 v68_0 _ _ ls hd hf  hR (lv_sub hl [0] rfl)
                  · rw [if_neg (k_nlt rfl (by decide) c40)] at hf
                    (try rw [if_neg (k_nlt rfl (by decide) c40)] at hd)
                    refine lv_iload_n hx hb dX14_spanOf_86 rfl (lv_at hl 0 rfl) ?_
                    refine lv_bipush (v := 119) hx hb dX14_spanOf_87 (by decide) ?_
                    refine lv_icmp_gt (tgt := 99) hx hb dX14_spanOf_89 (by decide) (fun c41 => ?_) (fun c41 => ?_)
                    · rw [if_pos (k_lt (by decide) rfl c41)] at hf
                      (try rw [if_pos (k_lt (by decide) rfl c41)] at hd)
                      exact J_99 v68_0 _ _ ls hd hf  hR (lv_sub hl [0] rfl)
                    · rw [if_neg (k_nlt (by decide) rfl c41)] at hf
                      (try rw [if_neg (k_nlt (by decide) rfl c41)] at hd)
                      refine lv_iload_n hx hb dX14_spanOf_92 rfl (lv_at hl 0 rfl) ?_
                      refine lv_iconst (v := 4) hx hb dX14_spanOf_93 (by decide) ?_
                      refine lv_irem hx hb dX14_spanOf_94 (by decide) ?_
                      refine lv_topi (fun z42 ez42 => ?_)
                      obtain rfl : z42 = (v68_0 - v68_0 / (4 : Int32) * (4 : Int32)) := ez42
                      refine lv_iconst (v := 2) hx hb dX14_spanOf_95 (by decide) ?_
                      refine lv_icmp_lt (tgt := 112) hx hb dX14_spanOf_96 (by decide) (fun c43 => ?_) (fun c43 => ?_)
                      · rw [if_pos (k_lt rfl (by decide) c43)] at hf
                        (try rw [if_pos (k_lt rfl (by decide) c43)] at hd)
                        refine lv_iconst (v := 1) hx hb dX14_spanOf_112 (by decide) ?_
                        exact W.iret (v := 1) hx hb hr (fun t9 ht9 hW9 => ⟨⟨_, (), rfl, hf.trans hf0.symm, ⟨by rw [ht9]; exact hR.P, hR.D⟩⟩, hR.sS.F ht9⟩) hR.sS.2.2 dX14_spanOf_113
                      · rw [if_neg (k_nlt rfl (by decide) c43)] at hf
                        (try rw [if_neg (k_nlt rfl (by decide) c43)] at hd)
                        exact J_99 v68_0 _ _ ls hd hf  hR (lv_sub hl [0] rfl)
            refine lv_icmp_lt (tgt := 68) hx hb dX14_spanOf_59 (by decide) (fun c44 => ?_) (fun c44 => ?_)
            · rw [if_pos (k_lt rfl (by decide) c44)] at hf
              (try rw [if_pos (k_lt rfl (by decide) c44)] at hd)
              exact J_68 v56_0 _ _ ls hd hf  hR (lv_sub hl [0] rfl)
            · rw [if_neg (k_nlt rfl (by decide) c44)] at hf
              (try rw [if_neg (k_nlt rfl (by decide) c44)] at hd)
              refine lv_iload_n hx hb dX14_spanOf_62 rfl (lv_at hl 0 rfl) ?_
              refine lv_bipush (v := 90) hx hb dX14_spanOf_63 (by decide) ?_
              refine lv_icmp_le (tgt := 112) hx hb dX14_spanOf_65 (by decide) (fun c45 => ?_) (fun c45 => ?_)
              · rw [if_pos (k_le rfl (by decide) c45)] at hf
                (try rw [if_pos (k_le rfl (by decide) c45)] at hd)
                refine lv_iconst (v := 1) hx hb dX14_spanOf_112 (by decide) ?_
                exact W.iret (v := 1) hx hb hr (fun t9 ht9 hW9 => ⟨⟨_, (), rfl, hf.trans hf0.symm, ⟨by rw [ht9]; exact hR.P, hR.D⟩⟩, hR.sS.F ht9⟩) hR.sS.2.2 dX14_spanOf_113
              · rw [if_neg (k_nle rfl (by decide) c45)] at hf
                (try rw [if_neg (k_nle rfl (by decide) c45)] at hd)
                exact J_68 v56_0 _ _ ls hd hf  hR (lv_sub hl [0] rfl)
          refine lv_icmp_lt (tgt := 56) hx hb dX14_spanOf_45 (by decide) (fun c46 => ?_) (fun c46 => ?_)
          · rw [if_pos (k_lt rfl (by decide) c46)] at hf
            (try rw [if_pos (k_lt rfl (by decide) c46)] at hd)
            exact J_56 v42_0 _ _ ls hd hf  hR (lv_sub hl [0] rfl)
          · rw [if_neg (k_nlt rfl (by decide) c46)] at hf
            (try rw [if_neg (k_nlt rfl (by decide) c46)] at hd)
            refine lv_iload_n hx hb dX14_spanOf_48 rfl (lv_at hl 0 rfl) ?_
            refine lv_bipush (v := 79) hx hb dX14_spanOf_49 (by decide) ?_
            refine lv_icmp_gt (tgt := 56) hx hb dX14_spanOf_51 (by decide) (fun c47 => ?_) (fun c47 => ?_)
            · rw [if_pos (k_lt (by decide) rfl c47)] at hf
              (try rw [if_pos (k_lt (by decide) rfl c47)] at hd)
              exact J_56 v42_0 _ _ ls hd hf  hR (lv_sub hl [0] rfl)
            · rw [if_neg (k_nlt (by decide) rfl c47)] at hf
              (try rw [if_neg (k_nlt (by decide) rfl c47)] at hd)
              refine lv_iconst (v := 1) hx hb dX14_spanOf_54 (by decide) ?_
              exact W.iret (v := 1) hx hb hr (fun t9 ht9 hW9 => ⟨⟨_, (), rfl, hf.trans hf0.symm, ⟨by rw [ht9]; exact hR.P, hR.D⟩⟩, hR.sS.F ht9⟩) hR.sS.2.2 dX14_spanOf_55
        refine lv_icmp_lt (tgt := 42) hx hb dX14_spanOf_33 (by decide) (fun c48 => ?_) (fun c48 => ?_)
        · rw [if_pos (k_lt rfl (by decide) c48)] at hf
          (try rw [if_pos (k_lt rfl (by decide) c48)] at hd)
          exact J_42 v30_0 _ _ ls hd hf  hR (lv_sub hl [0] rfl)
        · rw [if_neg (k_nlt rfl (by decide) c48)] at hf
          (try rw [if_neg (k_nlt rfl (by decide) c48)] at hd)
          refine lv_iload_n hx hb dX14_spanOf_36 rfl (lv_at hl 0 rfl) ?_
          refine lv_bipush (v := 66) hx hb dX14_spanOf_37 (by decide) ?_
          refine lv_icmp_le (tgt := 54) hx hb dX14_spanOf_39 (by decide) (fun c49 => ?_) (fun c49 => ?_)
          · rw [if_pos (k_le rfl (by decide) c49)] at hf
            (try rw [if_pos (k_le rfl (by decide) c49)] at hd)
            refine lv_iconst (v := 1) hx hb dX14_spanOf_54 (by decide) ?_
            exact W.iret (v := 1) hx hb hr (fun t9 ht9 hW9 => ⟨⟨_, (), rfl, hf.trans hf0.symm, ⟨by rw [ht9]; exact hR.P, hR.D⟩⟩, hR.sS.F ht9⟩) hR.sS.2.2 dX14_spanOf_55
          · rw [if_neg (k_nle rfl (by decide) c49)] at hf
            (try rw [if_neg (k_nle rfl (by decide) c49)] at hd)
            exact J_42 v30_0 _ _ ls hd hf  hR (lv_sub hl [0] rfl)
      refine lv_icmp_lt (tgt := 30) hx hb dX14_spanOf_21 (by decide) (fun c50 => ?_) (fun c50 => ?_)
      · rw [if_pos (k_lt rfl (by decide) c50)] at hf
        (try rw [if_pos (k_lt rfl (by decide) c50)] at hd)
        exact J_30 v18_0 _ _ ls hd hf  hR (lv_sub hl [0] rfl)
      · rw [if_neg (k_nlt rfl (by decide) c50)] at hf
        (try rw [if_neg (k_nlt rfl (by decide) c50)] at hd)
        refine lv_iload_n hx hb dX14_spanOf_24 rfl (lv_at hl 0 rfl) ?_
        refine lv_bipush (v := 46) hx hb dX14_spanOf_25 (by decide) ?_
        refine lv_icmp_le (tgt := 54) hx hb dX14_spanOf_27 (by decide) (fun c51 => ?_) (fun c51 => ?_)
        · rw [if_pos (k_le rfl (by decide) c51)] at hf
          (try rw [if_pos (k_le rfl (by decide) c51)] at hd)
          refine lv_iconst (v := 1) hx hb dX14_spanOf_54 (by decide) ?_
          exact W.iret (v := 1) hx hb hr (fun t9 ht9 hW9 => ⟨⟨_, (), rfl, hf.trans hf0.symm, ⟨by rw [ht9]; exact hR.P, hR.D⟩⟩, hR.sS.F ht9⟩) hR.sS.2.2 dX14_spanOf_55
        · rw [if_neg (k_nle rfl (by decide) c51)] at hf
          (try rw [if_neg (k_nle rfl (by decide) c51)] at hd)
          exact J_30 v18_0 _ _ ls hd hf  hR (lv_sub hl [0] rfl)
    refine lv_icmp_lt (tgt := 18) hx hb dX14_spanOf_9 (by decide) (fun c52 => ?_) (fun c52 => ?_)
    · rw [if_pos (k_lt rfl (by decide) c52)] at hf
      (try rw [if_pos (k_lt rfl (by decide) c52)] at hd)
      exact J_18 x0 _ _ ls hd hf  hR (lv_sub hl [0] rfl)
    · rw [if_neg (k_nlt rfl (by decide) c52)] at hf
      (try rw [if_neg (k_nlt rfl (by decide) c52)] at hd)
      refine lv_iload_n hx hb dX14_spanOf_12 rfl (lv_at hl 0 rfl) ?_
      refine lv_bipush (v := 33) hx hb dX14_spanOf_13 (by decide) ?_
      refine lv_icmp_le (tgt := 54) hx hb dX14_spanOf_15 (by decide) (fun c53 => ?_) (fun c53 => ?_)
      · rw [if_pos (k_le rfl (by decide) c53)] at hf
        (try rw [if_pos (k_le rfl (by decide) c53)] at hd)
        refine lv_iconst (v := 1) hx hb dX14_spanOf_54 (by decide) ?_
        exact W.iret (v := 1) hx hb hr (fun t9 ht9 hW9 => ⟨⟨_, (), rfl, hf.trans hf0.symm, ⟨by rw [ht9]; exact hR.P, hR.D⟩⟩, hR.sS.F ht9⟩) hR.sS.2.2 dX14_spanOf_55
      · rw [if_neg (k_nle rfl (by decide) c53)] at hf
        (try rw [if_neg (k_nle rfl (by decide) c53)] at hd)
        exact J_18 x0 _ _ ls hd hf  hR (lv_sub hl [0] rfl)
