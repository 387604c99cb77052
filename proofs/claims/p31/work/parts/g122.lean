def w_loops_J54 (Q : MS → Prop) (k32 : MS → Int32 → Prop) (U54 : MS) (v54_1 : Int32) : Prop := (∀ a5 : Int32, a5 = (v54_1 + Int32.ofInt 1) → k32 U54 a5)
def w_loops_L32 (Q : MS → Prop) : Nat → MS → Int32 → Prop
  | 0, _, _ => False
  | n32 + 1, U32, v32_1 => (((qI U32 0 105).toInt ≤ v32_1.toInt → Q U32) ∧ (¬ (qI U32 0 105).toInt ≤ v32_1.toInt → (((0 : Int) ≤ v32_1.toInt ∧ v32_1.toInt < 1200) ∧ (((qI U32 53 v32_1.toInt.toNat).toInt = 0 → w_loops_J54 Q (w_loops_L32 Q n32) U32 v32_1) ∧ (¬ (qI U32 53 v32_1.toInt.toNat).toInt = 0 → (∃ Q7, w_loop U32 v32_1 Q7 ∧ ∀ S8, Q7 S8 → w_loops_J54 Q (w_loops_L32 Q n32) S8 v32_1))))))
def w_loops_L2 (Q : MS → Prop) : Nat → MS → Int32 → Prop
  | 0, _, _ => False
  | n2 + 1, U2, v2_1 => (((qI U2 0 105).toInt ≤ v2_1.toInt → (∃ n, w_loops_L32 Q n U2 0)) ∧ (¬ (qI U2 0 105).toInt ≤ v2_1.toInt → (((0 : Int) ≤ v2_1.toInt ∧ v2_1.toInt < 1200) ∧ (∀ S11, S11 = wI U2 57 v2_1.toInt.toNat (0 : Int32) → (((0 : Int) ≤ v2_1.toInt ∧ v2_1.toInt < 1200) ∧ (∀ S13, S13 = wI S11 56 v2_1.toInt.toNat (vp_nar .boolean (0 : Int32)) → (∀ a14 : Int32, a14 = (v2_1 + Int32.ofInt 1) → (w_loops_L2 Q n2) S13 a14)))))))
def w_loops (S : MS) (Q : MS → Prop) : Prop := (∃ n, w_loops_L2 Q n S 0)
set_option maxHeartbeats 2000000 in
set_option maxRecDepth 100000 in
theorem r_loops (l : Launch) (g : Gr) (ad : Nat → Nat) (sz : Nat) (S : MS) (hw : wfM S) (Q : MS → Prop) (h : w_loops S Q) : Met l yX14_loops (wt2 yX14_loops cX14_loops 2 none) ({ frames := 2, cells := 0, slots := 0, locals := 47 }) (va_Pc [.ref (ad 0)] (st_R g ad sz S)) (va_Qv (fun (u : MS) => Q u ∧ wfM u ∧ shy S u) (fun (u : MS) (t : State) => qE g ad (va_A (Wd g ad S) sz) u t) (va_A (Wd g ad S) sz)) 0 0 (va_A (Wd g ad S) sz) := by
  refine Met.ofW (cc := cX14_loops) (maxL := 2) (ret := none) (by decide) rfl ?_
  intro p e s m args below meth c s₁ B hml hv
  obtain ⟨rfl, hsz, hP, hK, hD0, hex, hE⟩ := hv
  have hx := B.exec
  have hb := B.bytes
  have hr := B.returns
  have hts0 := atoms_spec (ws := wt2 yX14_loops cX14_loops 2 none) B.pre
  have hts : ∀ w ∈ tb2, w.before _ s = true := fun w h => hts0 w (List.mem_cons_of_mem _ h)
  have hown : s.vm.findClass RX14 = some m.cls := findClass_of_methodNamed B.named
  subst hsz
  have hD := hD0.self (sz := s.heap.size)
  generalize hAe : va_A (Wd g ad S) s.heap.size = A at hD hE ⊢
  have hA : ∀ q : Nat, s.heap.size ≤ q → A q := fun q h => by rw [← hAe]; exact Or.inr h
  have hR : Rep g ad A s S s.heap [] := ⟨hK, hP, hD, va_S.rf, hw⟩
  clear hK hP hD hD0
  have hl := lv_entry ([.ref (ad 0)]) (n := 2) (Nat.le_of_ble_eq_true rfl)
  rw [lg_entry_eq]
  generalize (lg_sl ([.ref (ad 0)]) ++ List.replicate (2 - (lg_sl ([.ref (ad 0)])).length) Slot.unset).toArray = ls at hl ⊢
  have hl : lv_has ls 2 [(0, .ref (ad 0))] := hl
  have hsh : shy S S := shy.rf
  unfold w_loops at h
  refine lv_iconst (v := 0) hx hb dX14_loops_0 (by decide) ?_
  refine lv_istore_n (lv' := [(1, .int 0), (0, .ref (ad 0))]) hx hb dX14_loops_1 rfl hl (by decide) rfl (fun ls hl => ?_)
  have J_2 : ∀ (n2 : Nat) (U2 : MS) (v2_1 : Int32) (H : Heap) (locs : List Loc) (ls : Array Slot), w_loops_L2 Q n2 U2 v2_1 → shy S U2 → Rep g ad A s U2 H locs → lv_has ls 2 [(0, .ref (ad 0)), (1, .int v2_1)] → W p l e (headSpec (wt2 yX14_loops cX14_loops 2 none) ({ frames := 2, cells := 0, slots := 0, locals := 47 })).room s m ([.ref (ad 0)] : List Value).toArray below meth c H locs 0 0 (MQ below (va_Qv (fun (u : MS) => Q u ∧ wfM u ∧ shy S u) (fun (u : MS) (t : State) => qE g ad A u t) A) ([.ref (ad 0)] : List Value).toArray s 0 0 A) (F0 m 2 ls []) := by
    intro n2
    induction n2 with
    | zero => intro U2 v2_1 H locs ls h hsh hR hl; unfold w_loops_L2 at h; exact h.elim
    | succ n2 ih_2 =>
      intro U2 v2_1 H locs ls h hsh hR hl
      unfold w_loops_L2 at h
      refine lv_iload_n hx hb dX14_loops_2 rfl (lv_at hl 1 rfl) ?_
      refine lv_aload_n hx hb dX14_loops_3 rfl (lv_at hl 0 rfl) ?_
      refine va_get (D := rD g) (ci := 13) (v := .int (qI U2 0 105)) (C := RX14) (T := TX14) (N := 143) hx hb hts in2X14 hown hR.K hR.P 0 (hR.at14 hR.w.1) rfl 105 (by decide) (hts _ kx_670) (fun _ h9 => h9) rfl dX14_loops_4 ?_
      refine lv_icmp_ge (tgt := 30) hx hb dX14_loops_7 (by decide) (fun c1 => ?_) (fun c1 => ?_)
      · replace h := h.1 (k_le rfl rfl c1)
        refine lv_iconst (v := 0) hx hb dX14_loops_30 (by decide) ?_
        refine lv_istore_n (lv' := [(1, .int 0), (0, .ref (ad 0))]) hx hb dX14_loops_31 rfl hl (by decide) rfl (fun ls hl => ?_)
        have J_32 : ∀ (n32 : Nat) (U32 : MS) (v32_1 : Int32) (H : Heap) (locs : List Loc) (ls : Array Slot), w_loops_L32 Q n32 U32 v32_1 → shy S U32 → Rep g ad A s U32 H locs → lv_has ls 2 [(0, .ref (ad 0)), (1, .int v32_1)] → W p l e (headSpec (wt2 yX14_loops cX14_loops 2 none) ({ frames := 2, cells := 0, slots := 0, locals := 47 })).room s m ([.ref (ad 0)] : List Value).toArray below meth c H locs 0 0 (MQ below (va_Qv (fun (u : MS) => Q u ∧ wfM u ∧ shy S u) (fun (u : MS) (t : State) => qE g ad A u t) A) ([.ref (ad 0)] : List Value).toArray s 0 0 A) (F0 m 32 ls []) := by
          intro n32
          induction n32 with
          | zero => intro U32 v32_1 H locs ls h hsh hR hl; unfold w_loops_L32 at h; exact h.elim
          | succ n32 ih_32 =>
            intro U32 v32_1 H locs ls h hsh hR hl
            unfold w_loops_L32 at h
            refine lv_iload_n hx hb dX14_loops_32 rfl (lv_at hl 1 rfl) ?_
            refine lv_aload_n hx hb dX14_loops_33 rfl (lv_at hl 0 rfl) ?_
            refine va_get (D := rD g) (ci := 13) (v := .int (qI U32 0 105)) (C := RX14) (T := TX14) (N := 143) hx hb hts in2X14 hown hR.K hR.P 0 (hR.at14 hR.w.1) rfl 105 (by decide) (hts _ kx_670) (fun _ h9 => h9) rfl dX14_loops_34 ?_
            refine lv_icmp_ge (tgt := 60) hx hb dX14_loops_37 (by decide) (fun c2 => ?_) (fun c2 => ?_)
            · replace h := h.1 (k_le rfl rfl c2)
              exact W.vret hx hb hr (fun t9 ht9 hW9 => ⟨⟨U32, rfl, ⟨h, hR.w, hsh⟩, ⟨by rw [ht9]; exact hR.P, hR.D⟩⟩, hR.sS.F ht9⟩) hR.sS.2.2 dX14_loops_60
            · replace h := h.2 (k_nle rfl rfl c2)
              refine lv_aload_n hx hb dX14_loops_40 rfl (lv_at hl 0 rfl) ?_
              refine va_get (D := rD g) (ci := 13) (v := .ref (ad 53)) (C := RX14) (T := TX14) (N := 143) hx hb hts in2X14 hown hR.K hR.P 0 (hR.at14 hR.w.1) rfl 111 (by decide) (hts _ kx_679) (fun _ h9 => h9) (congrArg (fun z => some (vf ad z)) (hR.w.2.1 _ fin_111).1) dX14_loops_41 ?_
              refine lv_iload_n hx hb dX14_loops_44 rfl (lv_at hl 1 rfl) ?_
              obtain ⟨hv3, h⟩ := h
              refine va_zald hx hb hR.K hR.P 53 2 (hR.atZ (hR.w.2.1 _ fin_111).2.1) rfl (k_ixN (k_ix (n := 1200) (x := v32_1) (a := v32_1.toInt) rfl hv3) (hR.w.2.1 _ fin_111).2.2) dX14_loops_45 ?_
              refine lv_topi (fun z4 ez4 => ?_)
              obtain rfl : z4 = (qI U32 53 v32_1.toInt.toNat) := ez4
              have J_54 : ∀ (U54 : MS) (v54_1 : Int32) (H : Heap) (locs : List Loc) (ls : Array Slot), w_loops_J54 Q (w_loops_L32 Q n32) U54 v54_1 → shy S U54 → Rep g ad A s U54 H locs → lv_has ls 2 [(0, .ref (ad 0)), (1, .int v54_1)] → W p l e (headSpec (wt2 yX14_loops cX14_loops 2 none) ({ frames := 2, cells := 0, slots := 0, locals := 47 })).room s m ([.ref (ad 0)] : List Value).toArray below meth c H locs 0 0 (MQ below (va_Qv (fun (u : MS) => Q u ∧ wfM u ∧ shy S u) (fun (u : MS) (t : State) => qE g ad A u t) A) ([.ref (ad 0)] : List Value).toArray s 0 0 A) (F0 m 54 ls []) := by
                intro U54 v54_1 H locs ls h hsh hR hl
                unfold w_loops_J54 at h
                obtain ⟨a5, ea5⟩ : ∃ z, z = (v54_1 + Int32.ofInt 1) := ⟨_, rfl⟩
                replace h := h a5 ea5
                refine lv_iinc (v := a5) (lv' := [(1, .int a5), (0, .ref (ad 0))]) hx hb dX14_loops_54 hl (k := 1) rfl ea5.symm (by decide) rfl (fun ls hl => ?_)
                refine lv_goto (tgt := 32) hx hb dX14_loops_57 (by decide) ?_
                exact ih_32 U54 a5 _ _ ls h  hsh hR (lv_sub hl [1, 0] rfl)
              refine lv_if_eq (tgt := 54) hx hb dX14_loops_46 (by decide) (fun c6 => ?_) (fun c6 => ?_)
              · replace h := h.1 (k_eq rfl (by decide) c6)
                exact J_54 U32 v32_1 _ _ ls h  hsh hR (lv_sub hl [0, 1] rfl)
              · replace h := h.2 (k_ne rfl (by decide) c6)
                refine lv_aload_n hx hb dX14_loops_49 rfl (lv_at hl 0 rfl) ?_
                refine lv_iload_n hx hb dX14_loops_50 rfl (lv_at hl 1 rfl) ?_
                obtain ⟨Q7, h0, h⟩ := h
                have hFc := rfree hR hA
                refine va_callv (va_runV (As := [.int v32_1]) (rest := []) ⟨hx, hb, hml, hown, hts⟩ (r_loop l g ad H.size U32 v32_1 hR.w  Q7 h0) (cwV 1 hts (gd2_V kx_986 kx_987 kx_988 kx_177 kx_989) rfl rfl rfl (by decide +kernel) ⟨Nat.le_of_ble_eq_true rfl, Nat.le_of_ble_eq_true rfl⟩) ⟨rblind, va_recv hR.K hR.P (ci := 13) (q0 := 0) rfl (hR.at14 hR.w.1), fun U hU hW9 => rmk hU hW9 hR hex hE hFc⟩ rfl rfl hl.1 rfl (lv_room (Nat.le_of_ble_eq_true rfl)) dX14_loops_51 ⟨Nat.le_of_ble_eq_true rfl, Nat.le_of_ble_eq_true rfl⟩) hR.sS (fun q _ h => hFc q h) hFc (fun  S8 t9 H1 locs ht9 hvm9 hw9 hB9 hz9 hk9 hS => ?_)
                obtain ⟨hq9, hw9, hs9⟩ := hw9
                have hR : Rep g ad A s S8 H1 locs := hR.call ht9 hB9 hw9 hS hFc
                have hsh := hsh.tr hs9
                replace h := h  S8 hq9
                clear hB9 hz9 hk9 hvm9 ht9 hw9 hs9 hS
                generalize H1 = H at hR ⊢
                exact J_54 S8 v32_1 _ _ ls h  hsh hR (lv_sub hl [0, 1] rfl)
        obtain ⟨n9, h⟩ := h
        exact J_32 n9 U2 0 _ _ ls h  hsh hR (lv_sub hl [1, 0] rfl)
      · replace h := h.2 (k_nle rfl rfl c1)
        refine lv_aload_n hx hb dX14_loops_10 rfl (lv_at hl 0 rfl) ?_
        refine va_get (D := rD g) (ci := 13) (v := .ref (ad 57)) (C := RX14) (T := TX14) (N := 143) hx hb hts in2X14 hown hR.K hR.P 0 (hR.at14 hR.w.1) rfl 115 (by decide) (hts _ kx_689) (fun _ h9 => h9) (congrArg (fun z => some (vf ad z)) (hR.w.2.1 _ fin_115).1) dX14_loops_11 ?_
        refine lv_iload_n hx hb dX14_loops_14 rfl (lv_at hl 1 rfl) ?_
        refine lv_iconst (v := 0) hx hb dX14_loops_15 (by decide) ?_
        obtain ⟨hv10, h⟩ := h
        refine va_iast hx hb hR.K hR.P hR.D hR.sS 57 1 (hR.atI (hR.w.2.1 _ fin_115).2.1) rfl (k_ixN (k_ix (n := 1200) (x := v2_1) (a := v2_1.toInt) rfl hv10) (hR.w.2.1 _ fin_115).2.2) dX14_loops_16 (fun H locs hP hD hS => ?_)
        have hR : Rep g ad A s (wI U2 57 v2_1.toInt.toNat (0 : Int32)) H locs := hR.aI (hR.w.2.1 _ fin_115).2.1 hP hD hS
        obtain ⟨S11, eS11⟩ : ∃ z, z = wI U2 57 v2_1.toInt.toNat (0 : Int32) := ⟨_, rfl⟩
        rw [← eS11] at hR
        replace h := h S11 eS11
        have hsh : shy S S11 := by rw [eS11]; exact hsh
        refine lv_aload_n hx hb dX14_loops_17 rfl (lv_at hl 0 rfl) ?_
        refine va_get (D := rD g) (ci := 13) (v := .ref (ad 56)) (C := RX14) (T := TX14) (N := 143) hx hb hts in2X14 hown hR.K hR.P 0 (hR.at14 hR.w.1) rfl 114 (by decide) (hts _ kx_687) (fun _ h9 => h9) (congrArg (fun z => some (vf ad z)) (hR.w.2.1 _ fin_114).1) dX14_loops_18 ?_
        refine lv_iload_n hx hb dX14_loops_21 rfl (lv_at hl 1 rfl) ?_
        refine lv_iconst (v := 0) hx hb dX14_loops_22 (by decide) ?_
        obtain ⟨hv12, h⟩ := h
        refine va_zast hx hb hR.K hR.P hR.D hR.sS 56 2 (hR.atZ (hR.w.2.1 _ fin_114).2.1) rfl (k_ixN (k_ix (n := 1200) (x := v2_1) (a := v2_1.toInt) rfl hv12) (hR.w.2.1 _ fin_114).2.2) dX14_loops_23 (fun H locs hP hD hS => ?_)
        have hR : Rep g ad A s (wI S11 56 v2_1.toInt.toNat (vp_nar .boolean (0 : Int32))) H locs := hR.aZ (hR.w.2.1 _ fin_114).2.1 hP hD hS
        obtain ⟨S13, eS13⟩ : ∃ z, z = wI S11 56 v2_1.toInt.toNat (vp_nar .boolean (0 : Int32)) := ⟨_, rfl⟩
        rw [← eS13] at hR
        replace h := h S13 eS13
        have hsh : shy S S13 := by rw [eS13]; exact hsh
        obtain ⟨a14, ea14⟩ : ∃ z, z = (v2_1 + Int32.ofInt 1) := ⟨_, rfl⟩
        replace h := h a14 ea14
        refine lv_iinc (v := a14) (lv' := [(1, .int a14), (0, .ref (ad 0))]) hx hb dX14_loops_24 hl (k := 1) rfl ea14.symm (by decide) rfl (fun ls hl => ?_)
        refine lv_goto (tgt := 2) hx hb dX14_loops_27 (by decide) ?_
        exact ih_2 S13 a14 _ _ ls h  hsh hR (lv_sub hl [1, 0] rfl)
  obtain ⟨n9, h⟩ := h
  exact J_2 n9 S 0 _ _ ls h  hsh hR (lv_sub hl [1, 0] rfl)
def w_graph_J17 (Q : MS → Prop) (U17 : MS) (v17_1 : Int32) (v17_2 : Int32) : Prop := (((0 : Int) ≤ v17_1.toInt ∧ v17_1.toInt < 12) ∧ ((qR U17 1 v17_1.toInt.toNat = some (qO U17 1 v17_1.toInt.toNat)) ∧ (∃ Q4, w_draw U17 (qO U17 1 v17_1.toInt.toNat) v17_2 Q4 ∧ ∀ S5, Q4 S5 → (∃ Q7, w_dominate S5 Q7 ∧ ∀ S8, Q7 S8 → (∃ Q10, w_loops S8 Q10 ∧ ∀ S11, Q10 S11 → (∀ S13, S13 = wI S11 0 106 v17_1 → (∀ S14, S14 = wI S13 0 107 v17_2 → Q S14)))))))
def w_graph (S : MS) (x1 : Int32) (x2 : Int32) (Q : MS → Prop) : Prop := (((qI S 0 106).toInt = x1.toInt → (((qI S 0 107).toInt = x2.toInt → Q S) ∧ (¬ (qI S 0 107).toInt = x2.toInt → w_graph_J17 Q S x1 x2))) ∧ (¬ (qI S 0 106).toInt = x1.toInt → w_graph_J17 Q S x1 x2))
set_option maxHeartbeats 2000000 in
set_option maxRecDepth 100000 in
theorem r_graph (l : Launch) (g : Gr) (ad : Nat → Nat) (sz : Nat) (S : MS) (x1 : Int32) (x2 : Int32) (hw : wfM S) (Q : MS → Prop) (h : w_graph S x1 x2 Q) : Met l yX14_graph (wt2 yX14_graph cX14_graph 3 none) ({ frames := 4, cells := 0, slots := 0, locals := 92 }) (va_Pc [.ref (ad 0), .int x1, .int x2] (st_R g ad sz S)) (va_Qv (fun (u : MS) => Q u ∧ wfM u ∧ shy S u) (fun (u : MS) (t : State) => qE g ad (va_A (Wd g ad S) sz) u t) (va_A (Wd g ad S) sz)) 0 0 (va_A (Wd g ad S) sz) := by
  refine Met.ofW (cc := cX14_graph) (maxL := 3) (ret := none) (by decide) rfl ?_
  intro p e s m args below meth c s₁ B hml hv
  obtain ⟨rfl, hsz, hP, hK, hD0, hex, hE⟩ := hv
  have hx := B.exec
  have hb := B.bytes
  have hr := B.returns
  have hts0 := atoms_spec (ws := wt2 yX14_graph cX14_graph 3 none) B.pre
  have hts : ∀ w ∈ tb2, w.before _ s = true := fun w h => hts0 w (List.mem_cons_of_mem _ h)
  have hown : s.vm.findClass RX14 = some m.cls := findClass_of_methodNamed B.named
  subst hsz
  have hD := hD0.self (sz := s.heap.size)
  generalize hAe : va_A (Wd g ad S) s.heap.size = A at hD hE ⊢
  have hA : ∀ q : Nat, s.heap.size ≤ q → A q := fun q h => by rw [← hAe]; exact Or.inr h
  have hR : Rep g ad A s S s.heap [] := ⟨hK, hP, hD, va_S.rf, hw⟩
  clear hK hP hD hD0
  have hl := lv_entry ([.ref (ad 0), .int x1, .int x2]) (n := 3) (Nat.le_of_ble_eq_true rfl)
  rw [lg_entry_eq]
  generalize (lg_sl ([.ref (ad 0), .int x1, .int x2]) ++ List.replicate (3 - (lg_sl ([.ref (ad 0), .int x1, .int x2])).length) Slot.unset).toArray = ls at hl ⊢
  have hl : lv_has ls 3 [(0, .ref (ad 0)), (1, .int x1), (2, .int x2)] := hl
  have hsh : shy S S := shy.rf
  unfold w_graph at h
  refine lv_aload_n hx hb dX14_graph_0 rfl (lv_at hl 0 rfl) ?_
  refine va_get (D := rD g) (ci := 13) (v := .int (qI S 0 106)) (C := RX14) (T := TX14) (N := 143) hx hb hts in2X14 hown hR.K hR.P 0 (hR.at14 hR.w.1) rfl 106 (by decide) (hts _ kx_690) (fun _ h9 => h9) rfl dX14_graph_1 ?_
  refine lv_iload_n hx hb dX14_graph_4 rfl (lv_at hl 1 rfl) ?_
  have J_17 : ∀ (U17 : MS) (v17_1 : Int32) (v17_2 : Int32) (H : Heap) (locs : List Loc) (ls : Array Slot), w_graph_J17 Q U17 v17_1 v17_2 → shy S U17 → Rep g ad A s U17 H locs → lv_has ls 3 [(0, .ref (ad 0)), (1, .int v17_1), (2, .int v17_2)] → W p l e (headSpec (wt2 yX14_graph cX14_graph 3 none) ({ frames := 4, cells := 0, slots := 0, locals := 92 })).room s m ([.ref (ad 0), .int x1, .int x2] : List Value).toArray below meth c H locs 0 0 (MQ below (va_Qv (fun (u : MS) => Q u ∧ wfM u ∧ shy S u) (fun (u : MS) (t : State) => qE g ad A u t) A) ([.ref (ad 0), .int x1, .int x2] : List Value).toArray s 0 0 A) (F0 m 17 ls []) := by
    intro U17 v17_1 v17_2 H locs ls h hsh hR hl
    unfold w_graph_J17 at h
    refine lv_aload_n hx hb dX14_graph_17 rfl (lv_at hl 0 rfl) ?_
    refine lv_aload_n hx hb dX14_graph_18 rfl (lv_at hl 0 rfl) ?_
    refine va_get (D := rD g) (ci := 13) (v := .ref (ad 1)) (C := RX14) (T := TX14) (N := 143) hx hb hts in2X14 hown hR.K hR.P 0 (hR.at14 hR.w.1) rfl 0 (by decide) (hts _ kx_347) (fun _ h9 => h9) (congrArg (fun z => some (vf ad z)) (hR.w.2.1 _ fin_0).1) dX14_graph_19 ?_
    refine lv_iload_n hx hb dX14_graph_22 rfl (lv_at hl 1 rfl) ?_
    obtain ⟨hv1, h⟩ := h
    refine va_aldq hx hb hR.K hR.P 1 5 (hR.atF (hR.w.2.1 _ fin_0).2.1) rfl (k_ixN (k_ix (n := 12) (x := v17_1) (a := v17_1.toInt) rfl hv1) (hR.w.2.1 _ fin_0).2.2) dX14_graph_23 ?_
    obtain ⟨hv2, h⟩ := h
    have hT_b3 : qT U17 (qO U17 1 v17_1.toInt.toNat) = 11 := hR.w.ref hv2 (hR.w.2.1 _ fin_0).2.1
    rw [show va_rf (Option.map ad (qR U17 1 (v17_1 : Int32).toNatClampNeg)) = .ref (ad (qO U17 1 v17_1.toInt.toNat)) from congrArg (fun z => vf ad z) hv2]
    refine lv_iload_n hx hb dX14_graph_24 rfl (lv_at hl 2 rfl) ?_
    obtain ⟨Q4, h0, h⟩ := h
    have hFc := rfree hR hA
    refine va_callv (va_runV (As := [.ref (ad (qO U17 1 v17_1.toInt.toNat)), .int v17_2]) (rest := []) ⟨hx, hb, hml, hown, hts⟩ (r_draw l g ad H.size U17 (qO U17 1 v17_1.toInt.toNat) v17_2 hR.w hT_b3 Q4 h0) (cwV 2 hts (gd2_V kx_990 kx_991 kx_992 kx_177 kx_993) rfl rfl rfl (by decide +kernel) ⟨Nat.le_of_ble_eq_true rfl, Nat.le_of_ble_eq_true rfl⟩) ⟨rblind, va_recv hR.K hR.P (ci := 13) (q0 := 0) rfl (hR.at14 hR.w.1), fun U hU hW9 => rmk hU hW9 hR hex hE hFc⟩ rfl rfl hl.1 rfl (lv_room (Nat.le_of_ble_eq_true rfl)) dX14_graph_25 ⟨Nat.le_of_ble_eq_true rfl, Nat.le_of_ble_eq_true rfl⟩) hR.sS (fun q _ h => hFc q h) hFc (fun  S5 t9 H1 locs ht9 hvm9 hw9 hB9 hz9 hk9 hS => ?_)
    obtain ⟨hq6, hw9, hs9⟩ := hw9
    have hR : Rep g ad A s S5 H1 locs := hR.call ht9 hB9 hw9 hS hFc
    have hsh := hsh.tr hs9
    replace h := h  S5 hq6
    clear hB9 hz9 hk9 hvm9 ht9 hw9 hs9 hS
    generalize H1 = H at hR ⊢
    refine lv_aload_n hx hb dX14_graph_28 rfl (lv_at hl 0 rfl) ?_
    obtain ⟨Q7, h0, h⟩ := h
    have hFc := rfree hR hA
    refine va_callv (va_runV (As := []) (rest := []) ⟨hx, hb, hml, hown, hts⟩ (r_dominate l g ad H.size S5 hR.w  Q7 h0) (cwV 0 hts (gd2_V kx_994 kx_995 kx_996 kx_177 kx_997) rfl rfl rfl (by decide +kernel) ⟨Nat.le_of_ble_eq_true rfl, Nat.le_of_ble_eq_true rfl⟩) ⟨rblind, va_recv hR.K hR.P (ci := 13) (q0 := 0) rfl (hR.at14 hR.w.1), fun U hU hW9 => rmk hU hW9 hR hex hE hFc⟩ rfl rfl hl.1 rfl (lv_room (Nat.le_of_ble_eq_true rfl)) dX14_graph_29 ⟨Nat.le_of_ble_eq_true rfl, Nat.le_of_ble_eq_true rfl⟩) hR.sS (fun q _ h => hFc q h) hFc (fun  S8 t9 H1 locs ht9 hvm9 hw9 hB9 hz9 hk9 hS => ?_)
    obtain ⟨hq9, hw9, hs9⟩ := hw9
    have hR : Rep g ad A s S8 H1 locs := hR.call ht9 hB9 hw9 hS hFc
    have hsh := hsh.tr hs9
    replace h := h  S8 hq9
    clear hB9 hz9 hk9 hvm9 ht9 hw9 hs9 hS
    generalize H1 = H at hR ⊢
    refine lv_aload_n hx hb dX14_graph_32 rfl (lv_at hl 0 rfl) ?_
    obtain ⟨Q10, h0, h⟩ := h
    have hFc := rfree hR hA
    refine va_callv (va_runV (As := []) (rest := []) ⟨hx, hb, hml, hown, hts⟩ (r_loops l g ad H.size S8 hR.w  Q10 h0) (cwV 0 hts (gd2_V kx_998 kx_999 kx_1000 kx_177 kx_1001) rfl rfl rfl (by decide +kernel) ⟨Nat.le_of_ble_eq_true rfl, Nat.le_of_ble_eq_true rfl⟩) ⟨rblind, va_recv hR.K hR.P (ci := 13) (q0 := 0) rfl (hR.at14 hR.w.1), fun U hU hW9 => rmk hU hW9 hR hex hE hFc⟩ rfl rfl hl.1 rfl (lv_room (Nat.le_of_ble_eq_true rfl)) dX14_graph_33 ⟨Nat.le_of_ble_eq_true rfl, Nat.le_of_ble_eq_true rfl⟩) hR.sS (fun q _ h => hFc q h) hFc (fun  S11 t9 H1 locs ht9 hvm9 hw9 hB9 hz9 hk9 hS => ?_)
    obtain ⟨hq12, hw9, hs9⟩ := hw9
    have hR : Rep g ad A s S11 H1 locs := hR.call ht9 hB9 hw9 hS hFc
    have hsh := hsh.tr hs9
    replace h := h  S11 hq12
    clear hB9 hz9 hk9 hvm9 ht9 hw9 hs9 hS
    generalize H1 = H at hR ⊢
    refine lv_aload_n hx hb dX14_graph_36 rfl (lv_at hl 0 rfl) ?_
    refine lv_iload_n hx hb dX14_graph_37 rfl (lv_at hl 1 rfl) ?_
    refine va_put (D := rD g) (ci := 13) (v := .int v17_1) (ty := .int) (C := RX14) (T := TX14) (N := 143) hx hb hts in2X14 tyX14 tyX14_ok nmX14 hown hR.K hR.P hR.D hR.sS 0 (hR.at14 hR.w.1) rfl 106 (by decide) (hts _ kx_690) (fun _ h9 => h9) rfl (by decide +kernel) rfl rfl (Nat.le_of_ble_eq_true rfl) dX14_graph_38 (fun H locs hP hD hS => ?_)
    have hR : Rep g ad A s (wI S11 0 106 v17_1) H locs := hR.pI hR.w.1 F14_s106 hP hD hS
    obtain ⟨S13, eS13⟩ : ∃ z, z = wI S11 0 106 v17_1 := ⟨_, rfl⟩
    rw [← eS13] at hR
    replace h := h S13 eS13
    have hsh : shy S S13 := by rw [eS13]; exact hsh
    refine lv_aload_n hx hb dX14_graph_41 rfl (lv_at hl 0 rfl) ?_
    refine lv_iload_n hx hb dX14_graph_42 rfl (lv_at hl 2 rfl) ?_
    refine va_put (D := rD g) (ci := 13) (v := .int v17_2) (ty := .int) (C := RX14) (T := TX14) (N := 143) hx hb hts in2X14 tyX14 tyX14_ok nmX14 hown hR.K hR.P hR.D hR.sS 0 (hR.at14 hR.w.1) rfl 107 (by decide) (hts _ kx_1002) (fun _ h9 => h9) rfl (by decide +kernel) rfl rfl (Nat.le_of_ble_eq_true rfl) dX14_graph_43 (fun H locs hP hD hS => ?_)
    have hR : Rep g ad A s (wI S13 0 107 v17_2) H locs := hR.pI hR.w.1 F14_s107 hP hD hS
    obtain ⟨S14, eS14⟩ : ∃ z, z = wI S13 0 107 v17_2 := ⟨_, rfl⟩
    rw [← eS14] at hR
    replace h := h S14 eS14
    have hsh : shy S S14 := by rw [eS14]; exact hsh
    exact W.vret hx hb hr (fun t9 ht9 hW9 => ⟨⟨S14, rfl, ⟨h, hR.w, hsh⟩, ⟨by rw [ht9]; exact hR.P, hR.D⟩⟩, hR.sS.F ht9⟩) hR.sS.2.2 dX14_graph_46
  refine lv_icmp_ne (tgt := 17) hx hb dX14_graph_5 (by decide) (fun c15 => ?_) (fun c15 => ?_)
  · replace h := h.2 (k_ne rfl rfl c15)
    exact J_17 S x1 x2 _ _ ls h  hsh hR (lv_sub hl [0, 1, 2] rfl)
  · replace h := h.1 (k_eq rfl rfl c15)
    refine lv_aload_n hx hb dX14_graph_8 rfl (lv_at hl 0 rfl) ?_
    refine va_get (D := rD g) (ci := 13) (v := .int (qI S 0 107)) (C := RX14) (T := TX14) (N := 143) hx hb hts in2X14 hown hR.K hR.P 0 (hR.at14 hR.w.1) rfl 107 (by decide) (hts _ kx_1002) (fun _ h9 => h9) rfl dX14_graph_9 ?_
    refine lv_iload_n hx hb dX14_graph_12 rfl (lv_at hl 2 rfl) ?_
    refine lv_icmp_ne (tgt := 17) hx hb dX14_graph_13 (by decide) (fun c16 => ?_) (fun c16 => ?_)
    · replace h := h.2 (k_ne rfl rfl c16)
      exact J_17 S x1 x2 _ _ ls h  hsh hR (lv_sub hl [0, 1, 2] rfl)
    · replace h := h.1 (k_eq rfl rfl c16)
      exact W.vret hx hb hr (fun t9 ht9 hW9 => ⟨⟨S, rfl, ⟨h, hR.w, hsh⟩, ⟨by rw [ht9]; exact hR.P, hR.D⟩⟩, hR.sS.F ht9⟩) hR.sS.2.2 dX14_graph_16
def w_blocks (S : MS) (x1 : Int32) (x2 : Int32) (Q : Int32 → MS → Prop) : Prop := (∃ Q1, w_isMethod S x1 x2 Q1 ∧ ∀ r2 S3, Q1 r2 S3 → ((r2.toInt = 0 → Q (-1 : Int32) S3) ∧ (¬ r2.toInt = 0 → (∃ Q6, w_graph S3 x1 x2 Q6 ∧ ∀ S7, Q6 S7 → Q (qI S7 0 105) S7))))
set_option maxHeartbeats 2000000 in
set_option maxRecDepth 100000 in
theorem r_blocks (l : Launch) (g : Gr) (ad : Nat → Nat) (sz : Nat) (S : MS) (x1 : Int32) (x2 : Int32) (hw : wfM S) (Q : Int32 → MS → Prop) (h : w_blocks S x1 x2 Q) : Met l yX14_blocks (wt2 yX14_blocks cX14_blocks 3 (some .int)) ({ frames := 5, cells := 0, slots := 0, locals := 114 }) (va_Pc [.ref (ad 0), .int x1, .int x2] (st_R g ad sz S)) (va_Qi (fun (r : Int32) (u : MS) => Q r u ∧ wfM u ∧ shy S u) (fun (u : MS) (t : State) => qE g ad (va_A (Wd g ad S) sz) u t) (va_A (Wd g ad S) sz)) 0 0 (va_A (Wd g ad S) sz) := by
  refine Met.ofW (cc := cX14_blocks) (maxL := 3) (ret := (some .int)) (by decide) rfl ?_
  intro p e s m args below meth c s₁ B hml hv
  obtain ⟨rfl, hsz, hP, hK, hD0, hex, hE⟩ := hv
  have hx := B.exec
  have hb := B.bytes
  have hr := B.returns
  have hts0 := atoms_spec (ws := wt2 yX14_blocks cX14_blocks 3 (some .int)) B.pre
  have hts : ∀ w ∈ tb2, w.before _ s = true := fun w h => hts0 w (List.mem_cons_of_mem _ h)
  have hown : s.vm.findClass RX14 = some m.cls := findClass_of_methodNamed B.named
  subst hsz
  have hD := hD0.self (sz := s.heap.size)
  generalize hAe : va_A (Wd g ad S) s.heap.size = A at hD hE ⊢
  have hA : ∀ q : Nat, s.heap.size ≤ q → A q := fun q h => by rw [← hAe]; exact Or.inr h
  have hR : Rep g ad A s S s.heap [] := ⟨hK, hP, hD, va_S.rf, hw⟩
  clear hK hP hD hD0
  have hl := lv_entry ([.ref (ad 0), .int x1, .int x2]) (n := 3) (Nat.le_of_ble_eq_true rfl)
  rw [lg_entry_eq]
  generalize (lg_sl ([.ref (ad 0), .int x1, .int x2]) ++ List.replicate (3 - (lg_sl ([.ref (ad 0), .int x1, .int x2])).length) Slot.unset).toArray = ls at hl ⊢
  have hl : lv_has ls 3 [(0, .ref (ad 0)), (1, .int x1), (2, .int x2)] := hl
  have hsh : shy S S := shy.rf
  unfold w_blocks at h
  refine lv_aload_n hx hb dX14_blocks_0 rfl (lv_at hl 0 rfl) ?_
  refine lv_iload_n hx hb dX14_blocks_1 rfl (lv_at hl 1 rfl) ?_
  refine lv_iload_n hx hb dX14_blocks_2 rfl (lv_at hl 2 rfl) ?_
  obtain ⟨Q1, h0, h⟩ := h
  have hFc := rfree hR hA
  refine va_calli (va_runV (As := [.int x1, .int x2]) (rest := []) ⟨hx, hb, hml, hown, hts⟩ (r_isMethod l g ad s.heap.size S x1 x2 hR.w  Q1 h0) (cwV 2 hts (gd2_V kx_357 kx_358 kx_359 kx_177 kx_360) rfl rfl rfl (by decide +kernel) ⟨Nat.le_of_ble_eq_true rfl, Nat.le_of_ble_eq_true rfl⟩) ⟨rblind, va_recv hR.K hR.P (ci := 13) (q0 := 0) rfl (hR.at14 hR.w.1), fun U hU hW9 => rmk hU hW9 hR hex hE hFc⟩ rfl rfl hl.1 rfl (lv_room (Nat.le_of_ble_eq_true rfl)) dX14_blocks_3 ⟨Nat.le_of_ble_eq_true rfl, Nat.le_of_ble_eq_true rfl⟩) hR.sS (fun q _ h => hFc q h) hFc (fun r2 S3 t9 H1 locs ht9 hvm9 hw9 hB9 hz9 hk9 hS => ?_)
  obtain ⟨hq4, hw9, hs9, hz_r2⟩ := hw9
  have hR : Rep g ad A s S3 H1 locs := hR.call ht9 hB9 hw9 hS hFc
  have hsh := hsh.tr hs9
  replace h := h r2 S3 hq4
  clear hB9 hz9 hk9 hvm9 ht9 hw9 hs9 hS
  generalize H1 = H at hR ⊢
  refine lv_if_ne (tgt := 11) hx hb dX14_blocks_6 (by decide) (fun c5 => ?_) (fun c5 => ?_)
  · replace h := h.2 (k_ne rfl (by decide) c5)
    refine lv_aload_n hx hb dX14_blocks_11 rfl (lv_at hl 0 rfl) ?_
    refine lv_iload_n hx hb dX14_blocks_12 rfl (lv_at hl 1 rfl) ?_
    refine lv_iload_n hx hb dX14_blocks_13 rfl (lv_at hl 2 rfl) ?_
    obtain ⟨Q6, h0, h⟩ := h
    have hFc := rfree hR hA
    refine va_callv (va_runV (As := [.int x1, .int x2]) (rest := []) ⟨hx, hb, hml, hown, hts⟩ (r_graph l g ad H.size S3 x1 x2 hR.w  Q6 h0) (cwV 2 hts (gd2_V kx_1003 kx_1004 kx_1005 kx_177 kx_1006) rfl rfl rfl (by decide +kernel) ⟨Nat.le_of_ble_eq_true rfl, Nat.le_of_ble_eq_true rfl⟩) ⟨rblind, va_recv hR.K hR.P (ci := 13) (q0 := 0) rfl (hR.at14 hR.w.1), fun U hU hW9 => rmk hU hW9 hR hex hE hFc⟩ rfl rfl hl.1 rfl (lv_room (Nat.le_of_ble_eq_true rfl)) dX14_blocks_14 ⟨Nat.le_of_ble_eq_true rfl, Nat.le_of_ble_eq_true rfl⟩) hR.sS (fun q _ h => hFc q h) hFc (fun  S7 t9 H1 locs ht9 hvm9 hw9 hB9 hz9 hk9 hS => ?_)
    obtain ⟨hq8, hw9, hs9⟩ := hw9
    have hR : Rep g ad A s S7 H1 locs := hR.call ht9 hB9 hw9 hS hFc
    have hsh := hsh.tr hs9
    replace h := h  S7 hq8
    clear hB9 hz9 hk9 hvm9 ht9 hw9 hs9 hS
    generalize H1 = H at hR ⊢
    refine lv_aload_n hx hb dX14_blocks_17 rfl (lv_at hl 0 rfl) ?_
    refine va_get (D := rD g) (ci := 13) (v := .int (qI S7 0 105)) (C := RX14) (T := TX14) (N := 143) hx hb hts in2X14 hown hR.K hR.P 0 (hR.at14 hR.w.1) rfl 105 (by decide) (hts _ kx_670) (fun _ h9 => h9) rfl dX14_blocks_18 ?_
    exact W.iret (v := (qI S7 0 105)) hx hb hr (fun t9 ht9 hW9 => ⟨⟨_, S7, rfl, ⟨h, hR.w, hsh⟩, ⟨by rw [ht9]; exact hR.P, hR.D⟩⟩, hR.sS.F ht9⟩) hR.sS.2.2 dX14_blocks_21
  · replace h := h.1 (k_eq rfl (by decide) c5)
    refine lv_iconst (v := (-1)) hx hb dX14_blocks_9 (by decide) ?_
    exact W.iret (v := (-1)) hx hb hr (fun t9 ht9 hW9 => ⟨⟨_, S3, rfl, ⟨h, hR.w, hsh⟩, ⟨by rw [ht9]; exact hR.P, hR.D⟩⟩, hR.sS.F ht9⟩) hR.sS.2.2 dX14_blocks_10
def w_block (S : MS) (x1 : Int32) (x2 : Int32) (x3 : Int32) (x4 : Int32) (Q : Int32 → MS → Prop) : Prop := (∃ Q1, w_isMethod S x1 x2 Q1 ∧ ∀ r2 S3, Q1 r2 S3 → ((r2.toInt = 0 → Q (-1 : Int32) S3) ∧ (¬ r2.toInt = 0 → (∃ Q6, w_graph S3 x1 x2 Q6 ∧ ∀ S7, Q6 S7 → ((x3.toInt < 0 → Q (-1 : Int32) S7) ∧ (¬ x3.toInt < 0 → ((x3.toInt < (qI S7 0 105).toInt → ((x4.toInt = 0 → (((0 : Int) ≤ x3.toInt ∧ x3.toInt < 1201) ∧ Q (qI S7 49 x3.toInt.toNat) S7)) ∧ (¬ x4.toInt = 0 → ((x4.toInt = 1 → (((0 : Int) ≤ x3.toInt ∧ x3.toInt < 1200) ∧ (((qI S7 53 x3.toInt.toNat).toInt = 0 → Q (0 : Int32) S7) ∧ (¬ (qI S7 53 x3.toInt.toNat).toInt = 0 → Q (1 : Int32) S7)))) ∧ (¬ x4.toInt = 1 → ((x4.toInt = 2 → (((0 : Int) ≤ x3.toInt ∧ x3.toInt < 1200) ∧ Q (qI S7 55 x3.toInt.toNat) S7)) ∧ (¬ x4.toInt = 2 → ((x4.toInt = 3 → (((0 : Int) ≤ x3.toInt ∧ x3.toInt < 1200) ∧ (((qI S7 56 x3.toInt.toNat).toInt = 0 → Q (0 : Int32) S7) ∧ (¬ (qI S7 56 x3.toInt.toNat).toInt = 0 → Q (1 : Int32) S7)))) ∧ (¬ x4.toInt = 3 → ((x4.toInt = 4 → (((0 : Int) ≤ x3.toInt ∧ x3.toInt < 1200) ∧ Q (qI S7 57 x3.toInt.toNat) S7)) ∧ (¬ x4.toInt = 4 → ((x4.toInt = 5 → (((0 : Int) ≤ (x3 + (1 : Int32)).toInt ∧ (x3 + (1 : Int32)).toInt < 1202) ∧ (((0 : Int) ≤ x3.toInt ∧ x3.toInt < 1202) ∧ Q ((qI S7 51 (((x3 + (1 : Int32)).toInt).toNat)) - (qI S7 51 x3.toInt.toNat)) S7))) ∧ (¬ x4.toInt = 5 → Q (-1 : Int32) S7))))))))))))) ∧ (¬ x3.toInt < (qI S7 0 105).toInt → Q (-1 : Int32) S7))))))))
set_option maxHeartbeats 2000000 in
set_option maxRecDepth 100000 in
theorem r_block (l : Launch) (g : Gr) (ad : Nat → Nat) (sz : Nat) (S : MS) (x1 : Int32) (x2 : Int32) (x3 : Int32) (x4 : Int32) (hw : wfM S) (Q : Int32 → MS → Prop) (h : w_block S x1 x2 x3 x4 Q) : Met l yX14_block (wt2 yX14_block cX14_block 5 (some .int)) ({ frames := 5, cells := 0, slots := 0, locals := 114 }) (va_Pc [.ref (ad 0), .int x1, .int x2, .int x3, .int x4] (st_R g ad sz S)) (va_Qi (fun (r : Int32) (u : MS) => Q r u ∧ wfM u ∧ shy S u) (fun (u : MS) (t : State) => qE g ad (va_A (Wd g ad S) sz) u t) (va_A (Wd g ad S) sz)) 0 0 (va_A (Wd g ad S) sz) := by
  refine Met.ofW (cc := cX14_block) (maxL := 5) (ret := (some .int)) (by decide) rfl ?_
  intro p e s m args below meth c s₁ B hml hv
  obtain ⟨rfl, hsz, hP, hK, hD0, hex, hE⟩ := hv
  have hx := B.exec
  have hb := B.bytes
  have hr := B.returns
  have hts0 := atoms_spec (ws := wt2 yX14_block cX14_block 5 (some .int)) B.pre
  have hts : ∀ w ∈ tb2, w.before _ s = true := fun w h => hts0 w (List.mem_cons_of_mem _ h)
  have hown : s.vm.findClass RX14 = some m.cls := findClass_of_methodNamed B.named
  subst hsz
  have hD := hD0.self (sz := s.heap.size)
  generalize hAe : va_A (Wd g ad S) s.heap.size = A at hD hE ⊢
  have hA : ∀ q : Nat, s.heap.size ≤ q → A q := fun q h => by rw [← hAe]; exact Or.inr h
  have hR : Rep g ad A s S s.heap [] := ⟨hK, hP, hD, va_S.rf, hw⟩
  clear hK hP hD hD0
  have hl := lv_entry ([.ref (ad 0), .int x1, .int x2, .int x3, .int x4]) (n := 5) (Nat.le_of_ble_eq_true rfl)
  rw [lg_entry_eq]
  generalize (lg_sl ([.ref (ad 0), .int x1, .int x2, .int x3, .int x4]) ++ List.replicate (5 - (lg_sl ([.ref (ad 0), .int x1, .int x2, .int x3, .int x4])).length) Slot.unset).toArray = ls at hl ⊢
  have hl : lv_has ls 5 [(0, .ref (ad 0)), (1, .int x1), (2, .int x2), (3, .int x3), (4, .int x4)] := hl
  have hsh : shy S S := shy.rf
  unfold w_block at h
  refine lv_aload_n hx hb dX14_block_0 rfl (lv_at hl 0 rfl) ?_
  refine lv_iload_n hx hb dX14_block_1 rfl (lv_at hl 1 rfl) ?_
  refine lv_iload_n hx hb dX14_block_2 rfl (lv_at hl 2 rfl) ?_
  obtain ⟨Q1, h0, h⟩ := h
  have hFc := rfree hR hA
  refine va_calli (va_runV (As := [.int x1, .int x2]) (rest := []) ⟨hx, hb, hml, hown, hts⟩ (r_isMethod l g ad s.heap.size S x1 x2 hR.w  Q1 h0) (cwV 2 hts (gd2_V kx_357 kx_358 kx_359 kx_177 kx_360) rfl rfl rfl (by decide +kernel) ⟨Nat.le_of_ble_eq_true rfl, Nat.le_of_ble_eq_true rfl⟩) ⟨rblind, va_recv hR.K hR.P (ci := 13) (q0 := 0) rfl (hR.at14 hR.w.1), fun U hU hW9 => rmk hU hW9 hR hex hE hFc⟩ rfl rfl hl.1 rfl (lv_room (Nat.le_of_ble_eq_true rfl)) dX14_block_3 ⟨Nat.le_of_ble_eq_true rfl, Nat.le_of_ble_eq_true rfl⟩) hR.sS (fun q _ h => hFc q h) hFc (fun r2 S3 t9 H1 locs ht9 hvm9 hw9 hB9 hz9 hk9 hS => ?_)
  obtain ⟨hq4, hw9, hs9, hz_r2⟩ := hw9
  have hR : Rep g ad A s S3 H1 locs := hR.call ht9 hB9 hw9 hS hFc
  have hsh := hsh.tr hs9
  replace h := h r2 S3 hq4
  clear hB9 hz9 hk9 hvm9 ht9 hw9 hs9 hS
  generalize H1 = H at hR ⊢
  refine lv_if_ne (tgt := 11) hx hb dX14_block_6 (by decide) (fun c5 => ?_) (fun c5 => ?_)
  · replace h := h.2 (k_ne rfl (by decide) c5)
    refine lv_aload_n hx hb dX14_block_11 rfl (lv_at hl 0 rfl) ?_
    refine lv_iload_n hx hb dX14_block_12 rfl (lv_at hl 1 rfl) ?_
    refine lv_iload_n hx hb dX14_block_13 rfl (lv_at hl 2 rfl) ?_
    obtain ⟨Q6, h0, h⟩ := h
    have hFc := rfree hR hA
    refine va_callv (va_runV (As := [.int x1, .int x2]) (rest := []) ⟨hx, hb, hml, hown, hts⟩ (r_graph l g ad H.size S3 x1 x2 hR.w  Q6 h0) (cwV 2 hts (gd2_V kx_1003 kx_1004 kx_1005 kx_177 kx_1006) rfl rfl rfl (by decide +kernel) ⟨Nat.le_of_ble_eq_true rfl, Nat.le_of_ble_eq_true rfl⟩) ⟨rblind, va_recv hR.K hR.P (ci := 13) (q0 := 0) rfl (hR.at14 hR.w.1), fun U hU hW9 => rmk hU hW9 hR hex hE hFc⟩ rfl rfl hl.1 rfl (lv_room (Nat.le_of_ble_eq_true rfl)) dX14_block_14 ⟨Nat.le_of_ble_eq_true rfl, Nat.le_of_ble_eq_true rfl⟩) hR.sS (fun q _ h => hFc q h) hFc (fun  S7 t9 H1 locs ht9 hvm9 hw9 hB9 hz9 hk9 hS => ?_)
    obtain ⟨hq8, hw9, hs9⟩ := hw9
    have hR : Rep g ad A s S7 H1 locs := hR.call ht9 hB9 hw9 hS hFc
    have hsh := hsh.tr hs9
    replace h := h  S7 hq8
    clear hB9 hz9 hk9 hvm9 ht9 hw9 hs9 hS
    generalize H1 = H at hR ⊢
    refine lv_iload_n hx hb dX14_block_17 rfl (lv_at hl 3 rfl) ?_
    refine lv_if_lt (tgt := 29) hx hb dX14_block_18 (by decide) (fun c9 => ?_) (fun c9 => ?_)
    · replace h := h.1 (k_lt rfl (by decide) c9)
      refine lv_iconst (v := (-1)) hx hb dX14_block_29 (by decide) ?_
      exact W.iret (v := (-1)) hx hb hr (fun t9 ht9 hW9 => ⟨⟨_, S7, rfl, ⟨h, hR.w, hsh⟩, ⟨by rw [ht9]; exact hR.P, hR.D⟩⟩, hR.sS.F ht9⟩) hR.sS.2.2 dX14_block_30
    · replace h := h.2 (k_nlt rfl (by decide) c9)
      refine lv_iload_n hx hb dX14_block_21 rfl (lv_at hl 3 rfl) ?_
      refine lv_aload_n hx hb dX14_block_22 rfl (lv_at hl 0 rfl) ?_
      refine va_get (D := rD g) (ci := 13) (v := .int (qI S7 0 105)) (C := RX14) (T := TX14) (N := 143) hx hb hts in2X14 hown hR.K hR.P 0 (hR.at14 hR.w.1) rfl 105 (by decide) (hts _ kx_670) (fun _ h9 => h9) rfl dX14_block_23 ?_
      refine lv_icmp_lt (tgt := 31) hx hb dX14_block_26 (by decide) (fun c10 => ?_) (fun c10 => ?_)
      · replace h := h.1 (k_lt rfl rfl c10)
        refine lv_iload hx hb dX14_block_31 (lv_at hl 4 rfl) ?_
        by_cases c9_0 : x4.toInt = 0
        · refine lv_tableIn (off := 39) (tgt := 72) hx hb dX14_block_33 (by rw [c9_0]; decide) (by rw [c9_0]; decide) (by rw [c9_0]; rfl) (by decide) ?_
          replace h := h.1 (c9_0)
          refine lv_aload_n hx hb dX14_block_72 rfl (lv_at hl 0 rfl) ?_
          refine va_get (D := rD g) (ci := 13) (v := .ref (ad 49)) (C := RX14) (T := TX14) (N := 143) hx hb hts in2X14 hown hR.K hR.P 0 (hR.at14 hR.w.1) rfl 103 (by decide) (hts _ kx_671) (fun _ h9 => h9) (congrArg (fun z => some (vf ad z)) (hR.w.2.1 _ fin_103).1) dX14_block_73 ?_
          refine lv_iload_n hx hb dX14_block_76 rfl (lv_at hl 3 rfl) ?_
          obtain ⟨hv11, h⟩ := h
          refine va_iald hx hb hR.K hR.P 49 1 (hR.atI (hR.w.2.1 _ fin_103).2.1) rfl (k_ixN (k_ix (n := 1201) (x := x3) (a := x3.toInt) rfl hv11) (hR.w.2.1 _ fin_103).2.2) dX14_block_77 ?_
          refine lv_topi (fun z12 ez12 => ?_)
          obtain rfl : z12 = (qI S7 49 x3.toInt.toNat) := ez12
          exact W.iret (v := (qI S7 49 x3.toInt.toNat)) hx hb hr (fun t9 ht9 hW9 => ⟨⟨_, S7, rfl, ⟨h, hR.w, hsh⟩, ⟨by rw [ht9]; exact hR.P, hR.D⟩⟩, hR.sS.F ht9⟩) hR.sS.2.2 dX14_block_78
        replace h := h.2 c9_0
        by_cases c9_1 : x4.toInt = 1
        · refine lv_tableIn (off := 46) (tgt := 79) hx hb dX14_block_33 (by rw [c9_1]; decide) (by rw [c9_1]; decide) (by rw [c9_1]; rfl) (by decide) ?_
          replace h := h.1 (c9_1)
          refine lv_aload_n hx hb dX14_block_79 rfl (lv_at hl 0 rfl) ?_
          refine va_get (D := rD g) (ci := 13) (v := .ref (ad 53)) (C := RX14) (T := TX14) (N := 143) hx hb hts in2X14 hown hR.K hR.P 0 (hR.at14 hR.w.1) rfl 111 (by decide) (hts _ kx_679) (fun _ h9 => h9) (congrArg (fun z => some (vf ad z)) (hR.w.2.1 _ fin_111).1) dX14_block_80 ?_
          refine lv_iload_n hx hb dX14_block_83 rfl (lv_at hl 3 rfl) ?_
          obtain ⟨hv13, h⟩ := h
          refine va_zald hx hb hR.K hR.P 53 2 (hR.atZ (hR.w.2.1 _ fin_111).2.1) rfl (k_ixN (k_ix (n := 1200) (x := x3) (a := x3.toInt) rfl hv13) (hR.w.2.1 _ fin_111).2.2) dX14_block_84 ?_
          refine lv_topi (fun z14 ez14 => ?_)
          obtain rfl : z14 = (qI S7 53 x3.toInt.toNat) := ez14
          refine lv_if_eq (tgt := 92) hx hb dX14_block_85 (by decide) (fun c15 => ?_) (fun c15 => ?_)
          · replace h := h.1 (k_eq rfl (by decide) c15)
            refine lv_iconst (v := 0) hx hb dX14_block_92 (by decide) ?_
            exact W.iret (v := 0) hx hb hr (fun t9 ht9 hW9 => ⟨⟨_, S7, rfl, ⟨h, hR.w, hsh⟩, ⟨by rw [ht9]; exact hR.P, hR.D⟩⟩, hR.sS.F ht9⟩) hR.sS.2.2 dX14_block_93
          · replace h := h.2 (k_ne rfl (by decide) c15)
            refine lv_iconst (v := 1) hx hb dX14_block_88 (by decide) ?_
            refine lv_goto (tgt := 93) hx hb dX14_block_89 (by decide) ?_
            exact W.iret (v := 1) hx hb hr (fun t9 ht9 hW9 => ⟨⟨_, S7, rfl, ⟨h, hR.w, hsh⟩, ⟨by rw [ht9]; exact hR.P, hR.D⟩⟩, hR.sS.F ht9⟩) hR.sS.2.2 dX14_block_93
        replace h := h.2 c9_1
        by_cases c9_2 : x4.toInt = 2
        · refine lv_tableIn (off := 61) (tgt := 94) hx hb dX14_block_33 (by rw [c9_2]; decide) (by rw [c9_2]; decide) (by rw [c9_2]; rfl) (by decide) ?_
          replace h := h.1 (c9_2)
          refine lv_aload_n hx hb dX14_block_94 rfl (lv_at hl 0 rfl) ?_
          refine va_get (D := rD g) (ci := 13) (v := .ref (ad 55)) (C := RX14) (T := TX14) (N := 143) hx hb hts in2X14 hown hR.K hR.P 0 (hR.at14 hR.w.1) rfl 113 (by decide) (hts _ kx_681) (fun _ h9 => h9) (congrArg (fun z => some (vf ad z)) (hR.w.2.1 _ fin_113).1) dX14_block_95 ?_
          refine lv_iload_n hx hb dX14_block_98 rfl (lv_at hl 3 rfl) ?_
          obtain ⟨hv16, h⟩ := h
          refine va_iald hx hb hR.K hR.P 55 1 (hR.atI (hR.w.2.1 _ fin_113).2.1) rfl (k_ixN (k_ix (n := 1200) (x := x3) (a := x3.toInt) rfl hv16) (hR.w.2.1 _ fin_113).2.2) dX14_block_99 ?_
          refine lv_topi (fun z17 ez17 => ?_)
          obtain rfl : z17 = (qI S7 55 x3.toInt.toNat) := ez17
          exact W.iret (v := (qI S7 55 x3.toInt.toNat)) hx hb hr (fun t9 ht9 hW9 => ⟨⟨_, S7, rfl, ⟨h, hR.w, hsh⟩, ⟨by rw [ht9]; exact hR.P, hR.D⟩⟩, hR.sS.F ht9⟩) hR.sS.2.2 dX14_block_100
        replace h := h.2 c9_2
        by_cases c9_3 : x4.toInt = 3
        · refine lv_tableIn (off := 68) (tgt := 101) hx hb dX14_block_33 (by rw [c9_3]; decide) (by rw [c9_3]; decide) (by rw [c9_3]; rfl) (by decide) ?_
          replace h := h.1 (c9_3)
          refine lv_aload_n hx hb dX14_block_101 rfl (lv_at hl 0 rfl) ?_
          refine va_get (D := rD g) (ci := 13) (v := .ref (ad 56)) (C := RX14) (T := TX14) (N := 143) hx hb hts in2X14 hown hR.K hR.P 0 (hR.at14 hR.w.1) rfl 114 (by decide) (hts _ kx_687) (fun _ h9 => h9) (congrArg (fun z => some (vf ad z)) (hR.w.2.1 _ fin_114).1) dX14_block_102 ?_
          refine lv_iload_n hx hb dX14_block_105 rfl (lv_at hl 3 rfl) ?_
          obtain ⟨hv18, h⟩ := h
          refine va_zald hx hb hR.K hR.P 56 2 (hR.atZ (hR.w.2.1 _ fin_114).2.1) rfl (k_ixN (k_ix (n := 1200) (x := x3) (a := x3.toInt) rfl hv18) (hR.w.2.1 _ fin_114).2.2) dX14_block_106 ?_
          refine lv_topi (fun z19 ez19 => ?_)
          obtain rfl : z19 = (qI S7 56 x3.toInt.toNat) := ez19
          refine lv_if_eq (tgt := 114) hx hb dX14_block_107 (by decide) (fun c20 => ?_) (fun c20 => ?_)
          · replace h := h.1 (k_eq rfl (by decide) c20)
            refine lv_iconst (v := 0) hx hb dX14_block_114 (by decide) ?_
            exact W.iret (v := 0) hx hb hr (fun t9 ht9 hW9 => ⟨⟨_, S7, rfl, ⟨h, hR.w, hsh⟩, ⟨by rw [ht9]; exact hR.P, hR.D⟩⟩, hR.sS.F ht9⟩) hR.sS.2.2 dX14_block_115
          · replace h := h.2 (k_ne rfl (by decide) c20)
            refine lv_iconst (v := 1) hx hb dX14_block_110 (by decide) ?_
            refine lv_goto (tgt := 115) hx hb dX14_block_111 (by decide) ?_
            exact W.iret (v := 1) hx hb hr (fun t9 ht9 hW9 => ⟨⟨_, S7, rfl, ⟨h, hR.w, hsh⟩, ⟨by rw [ht9]; exact hR.P, hR.D⟩⟩, hR.sS.F ht9⟩) hR.sS.2.2 dX14_block_115
        replace h := h.2 c9_3
        by_cases c9_4 : x4.toInt = 4
        · refine lv_tableIn (off := 83) (tgt := 116) hx hb dX14_block_33 (by rw [c9_4]; decide) (by rw [c9_4]; decide) (by rw [c9_4]; rfl) (by decide) ?_
          replace h := h.1 (c9_4)
          refine lv_aload_n hx hb dX14_block_116 rfl (lv_at hl 0 rfl) ?_
          refine va_get (D := rD g) (ci := 13) (v := .ref (ad 57)) (C := RX14) (T := TX14) (N := 143) hx hb hts in2X14 hown hR.K hR.P 0 (hR.at14 hR.w.1) rfl 115 (by decide) (hts _ kx_689) (fun _ h9 => h9) (congrArg (fun z => some (vf ad z)) (hR.w.2.1 _ fin_115).1) dX14_block_117 ?_
          refine lv_iload_n hx hb dX14_block_120 rfl (lv_at hl 3 rfl) ?_
          obtain ⟨hv21, h⟩ := h
          refine va_iald hx hb hR.K hR.P 57 1 (hR.atI (hR.w.2.1 _ fin_115).2.1) rfl (k_ixN (k_ix (n := 1200) (x := x3) (a := x3.toInt) rfl hv21) (hR.w.2.1 _ fin_115).2.2) dX14_block_121 ?_
          refine lv_topi (fun z22 ez22 => ?_)
          obtain rfl : z22 = (qI S7 57 x3.toInt.toNat) := ez22
          exact W.iret (v := (qI S7 57 x3.toInt.toNat)) hx hb hr (fun t9 ht9 hW9 => ⟨⟨_, S7, rfl, ⟨h, hR.w, hsh⟩, ⟨by rw [ht9]; exact hR.P, hR.D⟩⟩, hR.sS.F ht9⟩) hR.sS.2.2 dX14_block_122
        replace h := h.2 c9_4
        by_cases c9_5 : x4.toInt = 5
        · refine lv_tableIn (off := 90) (tgt := 123) hx hb dX14_block_33 (by rw [c9_5]; decide) (by rw [c9_5]; decide) (by rw [c9_5]; rfl) (by decide) ?_
          replace h := h.1 (c9_5)
          refine lv_aload_n hx hb dX14_block_123 rfl (lv_at hl 0 rfl) ?_
          refine va_get (D := rD g) (ci := 13) (v := .ref (ad 51)) (C := RX14) (T := TX14) (N := 143) hx hb hts in2X14 hown hR.K hR.P 0 (hR.at14 hR.w.1) rfl 108 (by decide) (hts _ kx_672) (fun _ h9 => h9) (congrArg (fun z => some (vf ad z)) (hR.w.2.1 _ fin_108).1) dX14_block_124 ?_
          refine lv_iload_n hx hb dX14_block_127 rfl (lv_at hl 3 rfl) ?_
          refine lv_iconst (v := 1) hx hb dX14_block_128 (by decide) ?_
          refine lv_iadd hx hb dX14_block_129 ?_
          refine lv_topi (fun z23 ez23 => ?_)
          obtain rfl : z23 = (x3 + (1 : Int32)) := ez23
          obtain ⟨hv24, h⟩ := h
          refine va_iald hx hb hR.K hR.P 51 1 (hR.atI (hR.w.2.1 _ fin_108).2.1) rfl (k_ixN (k_ix (n := 1202) (x := (x3 + (1 : Int32))) (a := (x3 + (1 : Int32)).toInt) rfl hv24) (hR.w.2.1 _ fin_108).2.2) dX14_block_130 ?_
          refine lv_topi (fun z25 ez25 => ?_)
          obtain rfl : z25 = (qI S7 51 (((x3 + (1 : Int32)).toInt).toNat)) := ez25
          refine lv_aload_n hx hb dX14_block_131 rfl (lv_at hl 0 rfl) ?_
          refine va_get (D := rD g) (ci := 13) (v := .ref (ad 51)) (C := RX14) (T := TX14) (N := 143) hx hb hts in2X14 hown hR.K hR.P 0 (hR.at14 hR.w.1) rfl 108 (by decide) (hts _ kx_672) (fun _ h9 => h9) (congrArg (fun z => some (vf ad z)) (hR.w.2.1 _ fin_108).1) dX14_block_132 ?_
          refine lv_iload_n hx hb dX14_block_135 rfl (lv_at hl 3 rfl) ?_
          obtain ⟨hv26, h⟩ := h
          refine va_iald hx hb hR.K hR.P 51 1 (hR.atI (hR.w.2.1 _ fin_108).2.1) rfl (k_ixN (k_ix (n := 1202) (x := x3) (a := x3.toInt) rfl hv26) (hR.w.2.1 _ fin_108).2.2) dX14_block_136 ?_
          refine lv_topi (fun z27 ez27 => ?_)
          obtain rfl : z27 = (qI S7 51 x3.toInt.toNat) := ez27
          refine lv_isub hx hb dX14_block_137 ?_
          refine lv_topi (fun z28 ez28 => ?_)
          obtain rfl : z28 = ((qI S7 51 (((x3 + (1 : Int32)).toInt).toNat)) - (qI S7 51 x3.toInt.toNat)) := ez28
          exact W.iret (v := ((qI S7 51 (((x3 + (1 : Int32)).toInt).toNat)) - (qI S7 51 x3.toInt.toNat))) hx hb hr (fun t9 ht9 hW9 => ⟨⟨_, S7, rfl, ⟨h, hR.w, hsh⟩, ⟨by rw [ht9]; exact hR.P, hR.D⟩⟩, hR.sS.F ht9⟩) hR.sS.2.2 dX14_block_138
        replace h := h.2 c9_5
        refine lv_tableOut (tgt := 139) hx hb dX14_block_33 (by omega) (by decide) ?_
        refine lv_iconst (v := (-1)) hx hb dX14_block_139 (by decide) ?_
        exact W.iret (v := (-1)) hx hb hr (fun t9 ht9 hW9 => ⟨⟨_, S7, rfl, ⟨h, hR.w, hsh⟩, ⟨by rw [ht9]; exact hR.P, hR.D⟩⟩, hR.sS.F ht9⟩) hR.sS.2.2 dX14_block_140
      · replace h := h.2 (k_nlt rfl rfl c10)
        refine lv_iconst (v := (-1)) hx hb dX14_block_29 (by decide) ?_
        exact W.iret (v := (-1)) hx hb hr (fun t9 ht9 hW9 => ⟨⟨_, S7, rfl, ⟨h, hR.w, hsh⟩, ⟨by rw [ht9]; exact hR.P, hR.D⟩⟩, hR.sS.F ht9⟩) hR.sS.2.2 dX14_block_30
  · replace h := h.1 (k_eq rfl (by decide) c5)
    refine lv_iconst (v := (-1)) hx hb dX14_block_9 (by decide) ?_
    exact W.iret (v := (-1)) hx hb hr (fun t9 ht9 hW9 => ⟨⟨_, S3, rfl, ⟨h, hR.w, hsh⟩, ⟨by rw [ht9]; exact hR.P, hR.D⟩⟩, hR.sS.F ht9⟩) hR.sS.2.2 dX14_block_10
def w_edge_L39 (Q : Int32 → MS → Prop) : Nat → MS → Int32 → Int32 → Int32 → Prop
  | 0, _, _, _, _ => False
  | n39 + 1, U39, v39_3, v39_4, v39_5 => (((0 : Int) ≤ (v39_3 + (1 : Int32)).toInt ∧ (v39_3 + (1 : Int32)).toInt < 1202) ∧ (((qI U39 51 (((v39_3 + (1 : Int32)).toInt).toNat)).toInt ≤ v39_5.toInt → Q (0 : Int32) U39) ∧ (¬ (qI U39 51 (((v39_3 + (1 : Int32)).toInt).toNat)).toInt ≤ v39_5.toInt → (((0 : Int) ≤ v39_5.toInt ∧ v39_5.toInt < 24000) ∧ (((qI U39 52 v39_5.toInt.toNat).toInt = v39_4.toInt → Q (1 : Int32) U39) ∧ (¬ (qI U39 52 v39_5.toInt.toNat).toInt = v39_4.toInt → (∀ a21 : Int32, a21 = (v39_5 + Int32.ofInt 1) → (w_edge_L39 Q n39) U39 v39_3 v39_4 a21)))))))
def w_edge (S : MS) (x1 : Int32) (x2 : Int32) (x3 : Int32) (x4 : Int32) (Q : Int32 → MS → Prop) : Prop := (∃ Q1, w_isMethod S x1 x2 Q1 ∧ ∀ r2 S3, Q1 r2 S3 → ((r2.toInt = 0 → Q (0 : Int32) S3) ∧ (¬ r2.toInt = 0 → (∃ Q6, w_graph S3 x1 x2 Q6 ∧ ∀ S7, Q6 S7 → ((x3.toInt < 0 → Q (0 : Int32) S7) ∧ (¬ x3.toInt < 0 → ((x3.toInt < (qI S7 0 105).toInt → (((0 : Int) ≤ x3.toInt ∧ x3.toInt < 1202) ∧ (∀ a13 : Int32, a13 = (qI S7 51 x3.toInt.toNat) → (∃ n, w_edge_L39 Q n S7 x3 x4 a13)))) ∧ (¬ x3.toInt < (qI S7 0 105).toInt → Q (0 : Int32) S7))))))))
set_option maxHeartbeats 2000000 in
set_option maxRecDepth 100000 in
theorem r_edge (l : Launch) (g : Gr) (ad : Nat → Nat) (sz : Nat) (S : MS) (x1 : Int32) (x2 : Int32) (x3 : Int32) (x4 : Int32) (hw : wfM S) (Q : Int32 → MS → Prop) (h : w_edge S x1 x2 x3 x4 Q) : Met l yX14_edge (wt2 yX14_edge cX14_edge 6 (some .boolean)) ({ frames := 5, cells := 0, slots := 0, locals := 114 }) (va_Pc [.ref (ad 0), .int x1, .int x2, .int x3, .int x4] (st_R g ad sz S)) (va_Qi (fun (r : Int32) (u : MS) => Q r u ∧ wfM u ∧ shy S u ∧ (r = 0 ∨ r = 1)) (fun (u : MS) (t : State) => qE g ad (va_A (Wd g ad S) sz) u t) (va_A (Wd g ad S) sz)) 0 0 (va_A (Wd g ad S) sz) := by
  refine Met.ofW (cc := cX14_edge) (maxL := 6) (ret := (some .boolean)) (by decide) rfl ?_
  intro p e s m args below meth c s₁ B hml hv
  obtain ⟨rfl, hsz, hP, hK, hD0, hex, hE⟩ := hv
  have hx := B.exec
  have hb := B.bytes
  have hr := B.returns
  have hts0 := atoms_spec (ws := wt2 yX14_edge cX14_edge 6 (some .boolean)) B.pre
  have hts : ∀ w ∈ tb2, w.before _ s = true := fun w h => hts0 w (List.mem_cons_of_mem _ h)
  have hown : s.vm.findClass RX14 = some m.cls := findClass_of_methodNamed B.named
  subst hsz
  have hD := hD0.self (sz := s.heap.size)
  generalize hAe : va_A (Wd g ad S) s.heap.size = A at hD hE ⊢
  have hA : ∀ q : Nat, s.heap.size ≤ q → A q := fun q h => by rw [← hAe]; exact Or.inr h
  have hR : Rep g ad A s S s.heap [] := ⟨hK, hP, hD, va_S.rf, hw⟩
  clear hK hP hD hD0
  have hl := lv_entry ([.ref (ad 0), .int x1, .int x2, .int x3, .int x4]) (n := 6) (Nat.le_of_ble_eq_true rfl)
  rw [lg_entry_eq]
  generalize (lg_sl ([.ref (ad 0), .int x1, .int x2, .int x3, .int x4]) ++ List.replicate (6 - (lg_sl ([.ref (ad 0), .int x1, .int x2, .int x3, .int x4])).length) Slot.unset).toArray = ls at hl ⊢
  have hl : lv_has ls 6 [(0, .ref (ad 0)), (1, .int x1), (2, .int x2), (3, .int x3), (4, .int x4)] := hl
  have hsh : shy S S := shy.rf
  unfold w_edge at h
  refine lv_aload_n hx hb dX14_edge_0 rfl (lv_at hl 0 rfl) ?_
  refine lv_iload_n hx hb dX14_edge_1 rfl (lv_at hl 1 rfl) ?_
  refine lv_iload_n hx hb dX14_edge_2 rfl (lv_at hl 2 rfl) ?_
  obtain ⟨Q1, h0, h⟩ := h
  have hFc := rfree hR hA
  refine va_calli (va_runV (As := [.int x1, .int x2]) (rest := []) ⟨hx, hb, hml, hown, hts⟩ (r_isMethod l g ad s.heap.size S x1 x2 hR.w  Q1 h0) (cwV 2 hts (gd2_V kx_357 kx_358 kx_359 kx_177 kx_360) rfl rfl rfl (by decide +kernel) ⟨Nat.le_of_ble_eq_true rfl, Nat.le_of_ble_eq_true rfl⟩) ⟨rblind, va_recv hR.K hR.P (ci := 13) (q0 := 0) rfl (hR.at14 hR.w.1), fun U hU hW9 => rmk hU hW9 hR hex hE hFc⟩ rfl rfl hl.1 rfl (lv_room (Nat.le_of_ble_eq_true rfl)) dX14_edge_3 ⟨Nat.le_of_ble_eq_true rfl, Nat.le_of_ble_eq_true rfl⟩) hR.sS (fun q _ h => hFc q h) hFc (fun r2 S3 t9 H1 locs ht9 hvm9 hw9 hB9 hz9 hk9 hS => ?_)
  obtain ⟨hq4, hw9, hs9, hz_r2⟩ := hw9
  have hR : Rep g ad A s S3 H1 locs := hR.call ht9 hB9 hw9 hS hFc
  have hsh := hsh.tr hs9
  replace h := h r2 S3 hq4
  clear hB9 hz9 hk9 hvm9 ht9 hw9 hs9 hS
  generalize H1 = H at hR ⊢
  refine lv_if_ne (tgt := 11) hx hb dX14_edge_6 (by decide) (fun c5 => ?_) (fun c5 => ?_)
  · replace h := h.2 (k_ne rfl (by decide) c5)
    refine lv_aload_n hx hb dX14_edge_11 rfl (lv_at hl 0 rfl) ?_
    refine lv_iload_n hx hb dX14_edge_12 rfl (lv_at hl 1 rfl) ?_
    refine lv_iload_n hx hb dX14_edge_13 rfl (lv_at hl 2 rfl) ?_
    obtain ⟨Q6, h0, h⟩ := h
    have hFc := rfree hR hA
    refine va_callv (va_runV (As := [.int x1, .int x2]) (rest := []) ⟨hx, hb, hml, hown, hts⟩ (r_graph l g ad H.size S3 x1 x2 hR.w  Q6 h0) (cwV 2 hts (gd2_V kx_1003 kx_1004 kx_1005 kx_177 kx_1006) rfl rfl rfl (by decide +kernel) ⟨Nat.le_of_ble_eq_true rfl, Nat.le_of_ble_eq_true rfl⟩) ⟨rblind, va_recv hR.K hR.P (ci := 13) (q0 := 0) rfl (hR.at14 hR.w.1), fun U hU hW9 => rmk hU hW9 hR hex hE hFc⟩ rfl rfl hl.1 rfl (lv_room (Nat.le_of_ble_eq_true rfl)) dX14_edge_14 ⟨Nat.le_of_ble_eq_true rfl, Nat.le_of_ble_eq_true rfl⟩) hR.sS (fun q _ h => hFc q h) hFc (fun  S7 t9 H1 locs ht9 hvm9 hw9 hB9 hz9 hk9 hS => ?_)
    obtain ⟨hq8, hw9, hs9⟩ := hw9
    have hR : Rep g ad A s S7 H1 locs := hR.call ht9 hB9 hw9 hS hFc
    have hsh := hsh.tr hs9
    replace h := h  S7 hq8
    clear hB9 hz9 hk9 hvm9 ht9 hw9 hs9 hS
    generalize H1 = H at hR ⊢
    refine lv_iload_n hx hb dX14_edge_17 rfl (lv_at hl 3 rfl) ?_
    refine lv_if_lt (tgt := 29) hx hb dX14_edge_18 (by decide) (fun c9 => ?_) (fun c9 => ?_)
    · replace h := h.1 (k_lt rfl (by decide) c9)
      refine lv_iconst (v := 0) hx hb dX14_edge_29 (by decide) ?_
      exact W.zret (v := 0) hx hb hr (nz (Or.inl rfl)) (fun t9 ht9 hW9 => ⟨⟨_, S7, rfl, ⟨h, hR.w, hsh, (Or.inl rfl)⟩, ⟨by rw [ht9]; exact hR.P, hR.D⟩⟩, hR.sS.F ht9⟩) hR.sS.2.2 dX14_edge_30
    · replace h := h.2 (k_nlt rfl (by decide) c9)
      refine lv_iload_n hx hb dX14_edge_21 rfl (lv_at hl 3 rfl) ?_
      refine lv_aload_n hx hb dX14_edge_22 rfl (lv_at hl 0 rfl) ?_
      refine va_get (D := rD g) (ci := 13) (v := .int (qI S7 0 105)) (C := RX14) (T := TX14) (N := 143) hx hb hts in2X14 hown hR.K hR.P 0 (hR.at14 hR.w.1) rfl 105 (by decide) (hts _ kx_670) (fun _ h9 => h9) rfl dX14_edge_23 ?_
      refine lv_icmp_lt (tgt := 31) hx hb dX14_edge_26 (by decide) (fun c10 => ?_) (fun c10 => ?_)
      · replace h := h.1 (k_lt rfl rfl c10)
        refine lv_aload_n hx hb dX14_edge_31 rfl (lv_at hl 0 rfl) ?_
        refine va_get (D := rD g) (ci := 13) (v := .ref (ad 51)) (C := RX14) (T := TX14) (N := 143) hx hb hts in2X14 hown hR.K hR.P 0 (hR.at14 hR.w.1) rfl 108 (by decide) (hts _ kx_672) (fun _ h9 => h9) (congrArg (fun z => some (vf ad z)) (hR.w.2.1 _ fin_108).1) dX14_edge_32 ?_
        refine lv_iload_n hx hb dX14_edge_35 rfl (lv_at hl 3 rfl) ?_
        obtain ⟨hv11, h⟩ := h
        refine va_iald hx hb hR.K hR.P 51 1 (hR.atI (hR.w.2.1 _ fin_108).2.1) rfl (k_ixN (k_ix (n := 1202) (x := x3) (a := x3.toInt) rfl hv11) (hR.w.2.1 _ fin_108).2.2) dX14_edge_36 ?_
        refine lv_topi (fun z12 ez12 => ?_)
        obtain rfl : z12 = (qI S7 51 x3.toInt.toNat) := ez12
        obtain ⟨a13, ea13⟩ : ∃ z, z = (qI S7 51 x3.toInt.toNat) := ⟨_, rfl⟩
        rw [← ea13]
        replace h := h a13 ea13
        refine lv_istore (lv' := [(5, .int a13), (0, .ref (ad 0)), (1, .int x1), (2, .int x2), (3, .int x3), (4, .int x4)]) hx hb dX14_edge_37 hl (by decide) rfl (fun ls hl => ?_)
        have J_39 : ∀ (n39 : Nat) (U39 : MS) (v39_3 : Int32) (v39_4 : Int32) (v39_5 : Int32) (H : Heap) (locs : List Loc) (ls : Array Slot), w_edge_L39 Q n39 U39 v39_3 v39_4 v39_5 → shy S U39 → Rep g ad A s U39 H locs → lv_has ls 6 [(0, .ref (ad 0)), (3, .int v39_3), (4, .int v39_4), (5, .int v39_5)] → W p l e (headSpec (wt2 yX14_edge cX14_edge 6 (some .boolean)) ({ frames := 5, cells := 0, slots := 0, locals := 114 })).room s m ([.ref (ad 0), .int x1, .int x2, .int x3, .int x4] : List Value).toArray below meth c H locs 0 0 (MQ below (va_Qi (fun (r : Int32) (u : MS) => Q r u ∧ wfM u ∧ shy S u ∧ (r = 0 ∨ r = 1)) (fun (u : MS) (t : State) => qE g ad A u t) A) ([.ref (ad 0), .int x1, .int x2, .int x3, .int x4] : List Value).toArray s 0 0 A) (F0 m 39 ls []) := by
          intro n39
          induction n39 with
          | zero => intro U39 v39_3 v39_4 v39_5 H locs ls h hsh hR hl; unfold w_edge_L39 at h; exact h.elim
          | succ n39 ih_39 =>
            intro U39 v39_3 v39_4 v39_5 H locs ls h hsh hR hl
            unfold w_edge_L39 at h
            refine lv_iload hx hb dX14_edge_39 (lv_at hl 3 rfl) ?_
            refine lv_aload_n hx hb dX14_edge_41 rfl (lv_at hl 0 rfl) ?_
            refine va_get (D := rD g) (ci := 13) (v := .ref (ad 51)) (C := RX14) (T := TX14) (N := 143) hx hb hts in2X14 hown hR.K hR.P 0 (hR.at14 hR.w.1) rfl 108 (by decide) (hts _ kx_672) (fun _ h9 => h9) (congrArg (fun z => some (vf ad z)) (hR.w.2.1 _ fin_108).1) dX14_edge_42 ?_
            refine lv_iload_n hx hb dX14_edge_45 rfl (lv_at hl 1 rfl) ?_
            refine lv_iconst (v := 1) hx hb dX14_edge_46 (by decide) ?_
            refine lv_iadd hx hb dX14_edge_47 ?_
            refine lv_topi (fun z14 ez14 => ?_)
            obtain rfl : z14 = (v39_3 + (1 : Int32)) := ez14
            obtain ⟨hv15, h⟩ := h
            refine va_iald hx hb hR.K hR.P 51 1 (hR.atI (hR.w.2.1 _ fin_108).2.1) rfl (k_ixN (k_ix (n := 1202) (x := (v39_3 + (1 : Int32))) (a := (v39_3 + (1 : Int32)).toInt) rfl hv15) (hR.w.2.1 _ fin_108).2.2) dX14_edge_48 ?_
            refine lv_topi (fun z16 ez16 => ?_)
            obtain rfl : z16 = (qI U39 51 (((v39_3 + (1 : Int32)).toInt).toNat)) := ez16
            refine lv_icmp_ge (tgt := 72) hx hb dX14_edge_49 (by decide) (fun c17 => ?_) (fun c17 => ?_)
            · replace h := h.1 (k_le rfl rfl c17)
              refine lv_iconst (v := 0) hx hb dX14_edge_72 (by decide) ?_
              exact W.zret (v := 0) hx hb hr (nz (Or.inl rfl)) (fun t9 ht9 hW9 => ⟨⟨_, U39, rfl, ⟨h, hR.w, hsh, (Or.inl rfl)⟩, ⟨by rw [ht9]; exact hR.P, hR.D⟩⟩, hR.sS.F ht9⟩) hR.sS.2.2 dX14_edge_73
            · replace h := h.2 (k_nle rfl rfl c17)
              refine lv_aload_n hx hb dX14_edge_52 rfl (lv_at hl 0 rfl) ?_
              refine va_get (D := rD g) (ci := 13) (v := .ref (ad 52)) (C := RX14) (T := TX14) (N := 143) hx hb hts in2X14 hown hR.K hR.P 0 (hR.at14 hR.w.1) rfl 109 (by decide) (hts _ kx_674) (fun _ h9 => h9) (congrArg (fun z => some (vf ad z)) (hR.w.2.1 _ fin_109).1) dX14_edge_53 ?_
              refine lv_iload hx hb dX14_edge_56 (lv_at hl 3 rfl) ?_
              obtain ⟨hv18, h⟩ := h
              refine va_iald hx hb hR.K hR.P 52 1 (hR.atI (hR.w.2.1 _ fin_109).2.1) rfl (k_ixN (k_ix (n := 24000) (x := v39_5) (a := v39_5.toInt) rfl hv18) (hR.w.2.1 _ fin_109).2.2) dX14_edge_58 ?_
              refine lv_topi (fun z19 ez19 => ?_)
              obtain rfl : z19 = (qI U39 52 v39_5.toInt.toNat) := ez19
              refine lv_iload hx hb dX14_edge_59 (lv_at hl 2 rfl) ?_
              refine lv_icmp_ne (tgt := 66) hx hb dX14_edge_61 (by decide) (fun c20 => ?_) (fun c20 => ?_)
              · replace h := h.2 (k_ne rfl rfl c20)
                obtain ⟨a21, ea21⟩ : ∃ z, z = (v39_5 + Int32.ofInt 1) := ⟨_, rfl⟩
                replace h := h a21 ea21
                refine lv_iinc (v := a21) (lv' := [(5, .int a21), (0, .ref (ad 0)), (3, .int v39_3), (4, .int v39_4)]) hx hb dX14_edge_66 hl (k := 3) rfl ea21.symm (by decide) rfl (fun ls hl => ?_)
                refine lv_goto (tgt := 39) hx hb dX14_edge_69 (by decide) ?_
                exact ih_39 U39 v39_3 v39_4 a21 _ _ ls h  hsh hR (lv_sub hl [1, 2, 3, 0] rfl)
              · replace h := h.1 (k_eq rfl rfl c20)
                refine lv_iconst (v := 1) hx hb dX14_edge_64 (by decide) ?_
                exact W.zret (v := 1) hx hb hr (nz (Or.inr rfl)) (fun t9 ht9 hW9 => ⟨⟨_, U39, rfl, ⟨h, hR.w, hsh, (Or.inr rfl)⟩, ⟨by rw [ht9]; exact hR.P, hR.D⟩⟩, hR.sS.F ht9⟩) hR.sS.2.2 dX14_edge_65
        obtain ⟨n9, h⟩ := h
        exact J_39 n9 S7 x3 x4 a13 _ _ ls h  hsh hR (lv_sub hl [1, 4, 5, 0] rfl)
      · replace h := h.2 (k_nlt rfl rfl c10)
        refine lv_iconst (v := 0) hx hb dX14_edge_29 (by decide) ?_
        exact W.zret (v := 0) hx hb hr (nz (Or.inl rfl)) (fun t9 ht9 hW9 => ⟨⟨_, S7, rfl, ⟨h, hR.w, hsh, (Or.inl rfl)⟩, ⟨by rw [ht9]; exact hR.P, hR.D⟩⟩, hR.sS.F ht9⟩) hR.sS.2.2 dX14_edge_30
  · replace h := h.1 (k_eq rfl (by decide) c5)
    refine lv_iconst (v := 0) hx hb dX14_edge_9 (by decide) ?_
    exact W.zret (v := 0) hx hb hr (nz (Or.inl rfl)) (fun t9 ht9 hW9 => ⟨⟨_, S3, rfl, ⟨h, hR.w, hsh, (Or.inl rfl)⟩, ⟨by rw [ht9]; exact hR.P, hR.D⟩⟩, hR.sS.F ht9⟩) hR.sS.2.2 dX14_edge_10
def w_decided_J65 (Q : Int32 → MS → Prop) (U65 : MS) (v65_1 : Int32) (v65_2 : Int32) (v65_3 : Int32) : Prop := (∃ Q6, w_behind U65 v65_2 Q6 ∧ ∀ r7 S8, Q6 r7 S8 → (((0 : Int) ≤ v65_2.toInt ∧ v65_2.toInt < 1200) ∧ (((qI S8 78 v65_2.toInt.toNat).toInt = 18 → (((qI S8 0 129).toInt ≤ r7.toInt → Q (0 : Int32) S8) ∧ (¬ (qI S8 0 129).toInt ≤ r7.toInt → ((r7.toInt = v65_3.toInt → Q (0 : Int32) S8) ∧ (¬ r7.toInt = v65_3.toInt → (((0 : Int) ≤ r7.toInt ∧ r7.toInt < 1201) ∧ (((qI S8 87 r7.toInt.toNat).toInt = 0 → (((0 : Int) ≤ r7.toInt ∧ r7.toInt < 1200) ∧ (((qI S8 78 r7.toInt.toNat).toInt < 159 → Q (0 : Int32) S8) ∧ (¬ (qI S8 78 r7.toInt.toNat).toInt < 159 → (((0 : Int) ≤ r7.toInt ∧ r7.toInt < 1200) ∧ (((qI S8 78 r7.toInt.toNat).toInt ≤ 164 → (((0 : Int) ≤ r7.toInt ∧ r7.toInt < 1200) ∧ (((0 : Int) ≤ v65_1.toInt ∧ v65_1.toInt < 1200) ∧ (((0 : Int) ≤ v65_2.toInt ∧ v65_2.toInt < 1200) ∧ (d_isSo S8 ((qI S8 78 r7.toInt.toNat) - (159 : Int32)) (qI S8 79 v65_1.toInt.toNat) (qI S8 79 v65_2.toInt.toNat) ∧ (∀ a34 : Int32, a34 = (f_isSo S8 ((qI S8 78 r7.toInt.toNat) - (159 : Int32)) (qI S8 79 v65_1.toInt.toNat) (qI S8 79 v65_2.toInt.toNat)) → (((0 : Int) ≤ v65_2.toInt ∧ v65_2.toInt < 1200) ∧ (∀ S36, S36 = wI S8 81 v65_2.toInt.toNat (vp_nar .boolean (1 : Int32)) → (∃ Q37, w_settle S36 v65_1 r7 a34 Q37 ∧ ∀ S38, Q37 S38 → Q (1 : Int32) S38))))))))) ∧ (¬ (qI S8 78 r7.toInt.toNat).toInt ≤ 164 → Q (0 : Int32) S8))))))) ∧ (¬ (qI S8 87 r7.toInt.toNat).toInt = 0 → Q (0 : Int32) S8)))))))) ∧ (¬ (qI S8 78 v65_2.toInt.toNat).toInt = 18 → Q (0 : Int32) S8))))
def w_decided (S : MS) (x1 : Int32) (x2 : Int32) (x3 : Int32) (Q : Int32 → MS → Prop) : Prop := (((0 : Int) ≤ x1.toInt ∧ x1.toInt < 1200) ∧ (((qI S 78 x1.toInt.toNat).toInt = 18 → (((0 : Int) ≤ x2.toInt ∧ x2.toInt < 1200) ∧ (((qI S 78 x2.toInt.toNat).toInt < 153 → w_decided_J65 Q S x1 x2 x3) ∧ (¬ (qI S 78 x2.toInt.toNat).toInt < 153 → (((0 : Int) ≤ x2.toInt ∧ x2.toInt < 1200) ∧ ((158 < (qI S 78 x2.toInt.toNat).toInt → w_decided_J65 Q S x1 x2 x3) ∧ (¬ 158 < (qI S 78 x2.toInt.toNat).toInt → (((0 : Int) ≤ x2.toInt ∧ x2.toInt < 1200) ∧ (((0 : Int) ≤ x1.toInt ∧ x1.toInt < 1200) ∧ (d_isSo S ((qI S 78 x2.toInt.toNat) - (153 : Int32)) (qI S 79 x1.toInt.toNat) (0 : Int32) ∧ (∃ Q52, w_settle S x1 x2 (f_isSo S ((qI S 78 x2.toInt.toNat) - (153 : Int32)) (qI S 79 x1.toInt.toNat) (0 : Int32)) Q52 ∧ ∀ S53, Q52 S53 → Q (1 : Int32) S53))))))))))) ∧ (¬ (qI S 78 x1.toInt.toNat).toInt = 18 → Q (0 : Int32) S)))
set_option maxHeartbeats 2000000 in
set_option maxRecDepth 100000 in
theorem r_decided (l : Launch) (g : Gr) (ad : Nat → Nat) (sz : Nat) (S : MS) (x1 : Int32) (x2 : Int32) (x3 : Int32) (hw : wfM S) (Q : Int32 → MS → Prop) (h : w_decided S x1 x2 x3 Q) : Met l yX14_decided (wt2 yX14_decided cX14_decided 6 (some .boolean)) ({ frames := 2, cells := 0, slots := 0, locals := 43 }) (va_Pc [.ref (ad 0), .int x1, .int x2, .int x3] (st_R g ad sz S)) (va_Qi (fun (r : Int32) (u : MS) => Q r u ∧ wfM u ∧ shy S u ∧ (r = 0 ∨ r = 1)) (fun (u : MS) (t : State) => qE g ad (va_A (Wd g ad S) sz) u t) (va_A (Wd g ad S) sz)) 0 0 (va_A (Wd g ad S) sz) := by
  refine Met.ofW (cc := cX14_decided) (maxL := 6) (ret := (some .boolean)) (by decide) rfl ?_
  intro p e s m args below meth c s₁ B hml hv
  obtain ⟨rfl, hsz, hP, hK, hD0, hex, hE⟩ := hv
  have hx := B.exec
  have hb := B.bytes
  have hr := B.returns
  have hts0 := atoms_spec (ws := wt2 yX14_decided cX14_decided 6 (some .boolean)) B.pre
  have hts : ∀ w ∈ tb2, w.before _ s = true := fun w h => hts0 w (List.mem_cons_of_mem _ h)
  have hown : s.vm.findClass RX14 = some m.cls := findClass_of_methodNamed B.named
  subst hsz
  have hD := hD0.self (sz := s.heap.size)
  generalize hAe : va_A (Wd g ad S) s.heap.size = A at hD hE ⊢
  have hA : ∀ q : Nat, s.heap.size ≤ q → A q := fun q h => by rw [← hAe]; exact Or.inr h
  have hR : Rep g ad A s S s.heap [] := ⟨hK, hP, hD, va_S.rf, hw⟩
  clear hK hP hD hD0
  have hl := lv_entry ([.ref (ad 0), .int x1, .int x2, .int x3]) (n := 6) (Nat.le_of_ble_eq_true rfl)
  rw [lg_entry_eq]
  generalize (lg_sl ([.ref (ad 0), .int x1, .int x2, .int x3]) ++ List.replicate (6 - (lg_sl ([.ref (ad 0), .int x1, .int x2, .int x3])).length) Slot.unset).toArray = ls at hl ⊢
  have hl : lv_has ls 6 [(0, .ref (ad 0)), (1, .int x1), (2, .int x2), (3, .int x3)] := hl
  have hsh : shy S S := shy.rf
  unfold w_decided at h
  refine lv_aload_n hx hb dX14_decided_0 rfl (lv_at hl 0 rfl) ?_
  refine va_get (D := rD g) (ci := 13) (v := .ref (ad 78)) (C := RX14) (T := TX14) (N := 143) hx hb hts in2X14 hown hR.K hR.P 0 (hR.at14 hR.w.1) rfl 125 (by decide) (hts _ kx_697) (fun _ h9 => h9) (congrArg (fun z => some (vf ad z)) (hR.w.2.1 _ fin_125).1) dX14_decided_1 ?_
  refine lv_iload_n hx hb dX14_decided_4 rfl (lv_at hl 1 rfl) ?_
  obtain ⟨hv1, h⟩ := h
  refine va_iald hx hb hR.K hR.P 78 1 (hR.atI (hR.w.2.1 _ fin_125).2.1) rfl (k_ixN (k_ix (n := 1200) (x := x1) (a := x1.toInt) rfl hv1) (hR.w.2.1 _ fin_125).2.2) dX14_decided_5 ?_
  refine lv_topi (fun z2 ez2 => ?_)
  obtain rfl : z2 = (qI S 78 x1.toInt.toNat) := ez2
  refine lv_bipush (v := 18) hx hb dX14_decided_6 (by decide) ?_
  refine lv_icmp_eq (tgt := 13) hx hb dX14_decided_8 (by decide) (fun c3 => ?_) (fun c3 => ?_)
  · replace h := h.1 (k_eq rfl (by decide) c3)
    refine lv_aload_n hx hb dX14_decided_13 rfl (lv_at hl 0 rfl) ?_
    refine va_get (D := rD g) (ci := 13) (v := .ref (ad 78)) (C := RX14) (T := TX14) (N := 143) hx hb hts in2X14 hown hR.K hR.P 0 (hR.at14 hR.w.1) rfl 125 (by decide) (hts _ kx_697) (fun _ h9 => h9) (congrArg (fun z => some (vf ad z)) (hR.w.2.1 _ fin_125).1) dX14_decided_14 ?_
    refine lv_iload_n hx hb dX14_decided_17 rfl (lv_at hl 2 rfl) ?_
    obtain ⟨hv4, h⟩ := h
    refine va_iald hx hb hR.K hR.P 78 1 (hR.atI (hR.w.2.1 _ fin_125).2.1) rfl (k_ixN (k_ix (n := 1200) (x := x2) (a := x2.toInt) rfl hv4) (hR.w.2.1 _ fin_125).2.2) dX14_decided_18 ?_
    refine lv_topi (fun z5 ez5 => ?_)
    obtain rfl : z5 = (qI S 78 x2.toInt.toNat) := ez5
    refine lv_sipush (v := 153) hx hb dX14_decided_19 (by decide) ?_
    have J_65 : ∀ (U65 : MS) (v65_1 : Int32) (v65_2 : Int32) (v65_3 : Int32) (H : Heap) (locs : List Loc) (ls : Array Slot), w_decided_J65 Q U65 v65_1 v65_2 v65_3 → shy S U65 → Rep g ad A s U65 H locs → lv_has ls 6 [(0, .ref (ad 0)), (1, .int v65_1), (2, .int v65_2), (3, .int v65_3)] → W p l e (headSpec (wt2 yX14_decided cX14_decided 6 (some .boolean)) ({ frames := 2, cells := 0, slots := 0, locals := 43 })).room s m ([.ref (ad 0), .int x1, .int x2, .int x3] : List Value).toArray below meth c H locs 0 0 (MQ below (va_Qi (fun (r : Int32) (u : MS) => Q r u ∧ wfM u ∧ shy S u ∧ (r = 0 ∨ r = 1)) (fun (u : MS) (t : State) => qE g ad A u t) A) ([.ref (ad 0), .int x1, .int x2, .int x3] : List Value).toArray s 0 0 A) (F0 m 65 ls []) := by
      intro U65 v65_1 v65_2 v65_3 H locs ls h hsh hR hl
      unfold w_decided_J65 at h
      refine lv_aload_n hx hb dX14_decided_65 rfl (lv_at hl 0 rfl) ?_
      refine lv_iload_n hx hb dX14_decided_66 rfl (lv_at hl 2 rfl) ?_
      obtain ⟨Q6, h0, h⟩ := h
      have hFc := rfree hR hA
      refine va_calli (va_runV (As := [.int v65_2]) (rest := []) ⟨hx, hb, hml, hown, hts⟩ (r_behind l g ad H.size U65 v65_2 hR.w  Q6 h0) (cwV 1 hts (gd2_V kx_724 kx_725 kx_726 kx_177 kx_727) rfl rfl rfl (by decide +kernel) ⟨Nat.le_of_ble_eq_true rfl, Nat.le_of_ble_eq_true rfl⟩) ⟨rblind, va_recv hR.K hR.P (ci := 13) (q0 := 0) rfl (hR.at14 hR.w.1), fun U hU hW9 => rmk hU hW9 hR hex hE hFc⟩ rfl rfl hl.1 rfl (lv_room (Nat.le_of_ble_eq_true rfl)) dX14_decided_67 ⟨Nat.le_of_ble_eq_true rfl, Nat.le_of_ble_eq_true rfl⟩) hR.sS (fun q _ h => hFc q h) hFc (fun r7 S8 t9 H1 locs ht9 hvm9 hw9 hB9 hz9 hk9 hS => ?_)
      obtain ⟨hq9, hw9, hs9⟩ := hw9
      have hR : Rep g ad A s S8 H1 locs := hR.call ht9 hB9 hw9 hS hFc
      have hsh := hsh.tr hs9
      replace h := h r7 S8 hq9
      clear hB9 hz9 hk9 hvm9 ht9 hw9 hs9 hS
      generalize H1 = H at hR ⊢
      refine lv_istore (lv' := [(4, .int r7), (0, .ref (ad 0)), (1, .int v65_1), (2, .int v65_2), (3, .int v65_3)]) hx hb dX14_decided_70 hl (by decide) rfl (fun ls hl => ?_)
      refine lv_aload_n hx hb dX14_decided_72 rfl (lv_at hl 1 rfl) ?_
      refine va_get (D := rD g) (ci := 13) (v := .ref (ad 78)) (C := RX14) (T := TX14) (N := 143) hx hb hts in2X14 hown hR.K hR.P 0 (hR.at14 hR.w.1) rfl 125 (by decide) (hts _ kx_697) (fun _ h9 => h9) (congrArg (fun z => some (vf ad z)) (hR.w.2.1 _ fin_125).1) dX14_decided_73 ?_
      refine lv_iload_n hx hb dX14_decided_76 rfl (lv_at hl 3 rfl) ?_
      obtain ⟨hv10, h⟩ := h
      refine va_iald hx hb hR.K hR.P 78 1 (hR.atI (hR.w.2.1 _ fin_125).2.1) rfl (k_ixN (k_ix (n := 1200) (x := v65_2) (a := v65_2.toInt) rfl hv10) (hR.w.2.1 _ fin_125).2.2) dX14_decided_77 ?_
      refine lv_topi (fun z11 ez11 => ?_)
      obtain rfl : z11 = (qI S8 78 v65_2.toInt.toNat) := ez11
      refine lv_bipush (v := 18) hx hb dX14_decided_78 (by decide) ?_
      refine lv_icmp_ne (tgt := 134) hx hb dX14_decided_80 (by decide) (fun c12 => ?_) (fun c12 => ?_)
      · replace h := h.2 (k_ne rfl (by decide) c12)
        refine lv_iconst (v := 0) hx hb dX14_decided_134 (by decide) ?_
        exact W.zret (v := 0) hx hb hr (nz (Or.inl rfl)) (fun t9 ht9 hW9 => ⟨⟨_, S8, rfl, ⟨h, hR.w, hsh, (Or.inl rfl)⟩, ⟨by rw [ht9]; exact hR.P, hR.D⟩⟩, hR.sS.F ht9⟩) hR.sS.2.2 dX14_decided_135
      · replace h := h.1 (k_eq rfl (by decide) c12)
        refine lv_iload hx hb dX14_decided_83 (lv_at hl 0 rfl) ?_
        refine lv_aload_n hx hb dX14_decided_85 rfl (lv_at hl 1 rfl) ?_
        refine va_get (D := rD g) (ci := 13) (v := .int (qI S8 0 129)) (C := RX14) (T := TX14) (N := 143) hx hb hts in2X14 hown hR.K hR.P 0 (hR.at14 hR.w.1) rfl 129 (by decide) (hts _ kx_691) (fun _ h9 => h9) rfl dX14_decided_86 ?_
        refine lv_icmp_ge (tgt := 134) hx hb dX14_decided_89 (by decide) (fun c13 => ?_) (fun c13 => ?_)
        · replace h := h.1 (k_le rfl rfl c13)
          refine lv_iconst (v := 0) hx hb dX14_decided_134 (by decide) ?_
          exact W.zret (v := 0) hx hb hr (nz (Or.inl rfl)) (fun t9 ht9 hW9 => ⟨⟨_, S8, rfl, ⟨h, hR.w, hsh, (Or.inl rfl)⟩, ⟨by rw [ht9]; exact hR.P, hR.D⟩⟩, hR.sS.F ht9⟩) hR.sS.2.2 dX14_decided_135
        · replace h := h.2 (k_nle rfl rfl c13)
          refine lv_iload hx hb dX14_decided_92 (lv_at hl 0 rfl) ?_
          refine lv_iload_n hx hb dX14_decided_94 rfl (lv_at hl 4 rfl) ?_
          refine lv_icmp_eq (tgt := 134) hx hb dX14_decided_95 (by decide) (fun c14 => ?_) (fun c14 => ?_)
          · replace h := h.1 (k_eq rfl rfl c14)
            refine lv_iconst (v := 0) hx hb dX14_decided_134 (by decide) ?_
            exact W.zret (v := 0) hx hb hr (nz (Or.inl rfl)) (fun t9 ht9 hW9 => ⟨⟨_, S8, rfl, ⟨h, hR.w, hsh, (Or.inl rfl)⟩, ⟨by rw [ht9]; exact hR.P, hR.D⟩⟩, hR.sS.F ht9⟩) hR.sS.2.2 dX14_decided_135
          · replace h := h.2 (k_ne rfl rfl c14)
            refine lv_aload_n hx hb dX14_decided_98 rfl (lv_at hl 1 rfl) ?_
            refine va_get (D := rD g) (ci := 13) (v := .ref (ad 87)) (C := RX14) (T := TX14) (N := 143) hx hb hts in2X14 hown hR.K hR.P 0 (hR.at14 hR.w.1) rfl 136 (by decide) (hts _ kx_705) (fun _ h9 => h9) (congrArg (fun z => some (vf ad z)) (hR.w.2.1 _ fin_136).1) dX14_decided_99 ?_
            refine lv_iload hx hb dX14_decided_102 (lv_at hl 0 rfl) ?_
            obtain ⟨hv15, h⟩ := h
            refine va_zald hx hb hR.K hR.P 87 2 (hR.atZ (hR.w.2.1 _ fin_136).2.1) rfl (k_ixN (k_ix (n := 1201) (x := r7) (a := r7.toInt) rfl hv15) (hR.w.2.1 _ fin_136).2.2) dX14_decided_104 ?_
            refine lv_topi (fun z16 ez16 => ?_)
            obtain rfl : z16 = (qI S8 87 r7.toInt.toNat) := ez16
            refine lv_if_ne (tgt := 134) hx hb dX14_decided_105 (by decide) (fun c17 => ?_) (fun c17 => ?_)
            · replace h := h.2 (k_ne rfl (by decide) c17)
              refine lv_iconst (v := 0) hx hb dX14_decided_134 (by decide) ?_
              exact W.zret (v := 0) hx hb hr (nz (Or.inl rfl)) (fun t9 ht9 hW9 => ⟨⟨_, S8, rfl, ⟨h, hR.w, hsh, (Or.inl rfl)⟩, ⟨by rw [ht9]; exact hR.P, hR.D⟩⟩, hR.sS.F ht9⟩) hR.sS.2.2 dX14_decided_135
            · replace h := h.1 (k_eq rfl (by decide) c17)
              refine lv_aload_n hx hb dX14_decided_108 rfl (lv_at hl 1 rfl) ?_
              refine va_get (D := rD g) (ci := 13) (v := .ref (ad 78)) (C := RX14) (T := TX14) (N := 143) hx hb hts in2X14 hown hR.K hR.P 0 (hR.at14 hR.w.1) rfl 125 (by decide) (hts _ kx_697) (fun _ h9 => h9) (congrArg (fun z => some (vf ad z)) (hR.w.2.1 _ fin_125).1) dX14_decided_109 ?_
              refine lv_iload hx hb dX14_decided_112 (lv_at hl 0 rfl) ?_
              obtain ⟨hv18, h⟩ := h
              refine va_iald hx hb hR.K hR.P 78 1 (hR.atI (hR.w.2.1 _ fin_125).2.1) rfl (k_ixN (k_ix (n := 1200) (x := r7) (a := r7.toInt) rfl hv18) (hR.w.2.1 _ fin_125).2.2) dX14_decided_114 ?_
              refine lv_topi (fun z19 ez19 => ?_)
              obtain rfl : z19 = (qI S8 78 r7.toInt.toNat) := ez19
              refine lv_sipush (v := 159) hx hb dX14_decided_115 (by decide) ?_
              refine lv_icmp_lt (tgt := 134) hx hb dX14_decided_118 (by decide) (fun c20 => ?_) (fun c20 => ?_)
              · replace h := h.1 (k_lt rfl (by decide) c20)
                refine lv_iconst (v := 0) hx hb dX14_decided_134 (by decide) ?_
                exact W.zret (v := 0) hx hb hr (nz (Or.inl rfl)) (fun t9 ht9 hW9 => ⟨⟨_, S8, rfl, ⟨h, hR.w, hsh, (Or.inl rfl)⟩, ⟨by rw [ht9]; exact hR.P, hR.D⟩⟩, hR.sS.F ht9⟩) hR.sS.2.2 dX14_decided_135
              · replace h := h.2 (k_nlt rfl (by decide) c20)
                refine lv_aload_n hx hb dX14_decided_121 rfl (lv_at hl 1 rfl) ?_
                refine va_get (D := rD g) (ci := 13) (v := .ref (ad 78)) (C := RX14) (T := TX14) (N := 143) hx hb hts in2X14 hown hR.K hR.P 0 (hR.at14 hR.w.1) rfl 125 (by decide) (hts _ kx_697) (fun _ h9 => h9) (congrArg (fun z => some (vf ad z)) (hR.w.2.1 _ fin_125).1) dX14_decided_122 ?_
                refine lv_iload hx hb dX14_decided_125 (lv_at hl 0 rfl) ?_
                obtain ⟨hv21, h⟩ := h
                refine va_iald hx hb hR.K hR.P 78 1 (hR.atI (hR.w.2.1 _ fin_125).2.1) rfl (k_ixN (k_ix (n := 1200) (x := r7) (a := r7.toInt) rfl hv21) (hR.w.2.1 _ fin_125).2.2) dX14_decided_127 ?_
                refine lv_topi (fun z22 ez22 => ?_)
                obtain rfl : z22 = (qI S8 78 r7.toInt.toNat) := ez22
                refine lv_sipush (v := 164) hx hb dX14_decided_128 (by decide) ?_
                refine lv_icmp_le (tgt := 136) hx hb dX14_decided_131 (by decide) (fun c23 => ?_) (fun c23 => ?_)
                · replace h := h.1 (k_le rfl (by decide) c23)
                  refine lv_aload_n hx hb dX14_decided_136 rfl (lv_at hl 1 rfl) ?_
                  refine va_get (D := rD g) (ci := 13) (v := .ref (ad 78)) (C := RX14) (T := TX14) (N := 143) hx hb hts in2X14 hown hR.K hR.P 0 (hR.at14 hR.w.1) rfl 125 (by decide) (hts _ kx_697) (fun _ h9 => h9) (congrArg (fun z => some (vf ad z)) (hR.w.2.1 _ fin_125).1) dX14_decided_137 ?_
                  refine lv_iload hx hb dX14_decided_140 (lv_at hl 0 rfl) ?_
                  obtain ⟨hv24, h⟩ := h
                  refine va_iald hx hb hR.K hR.P 78 1 (hR.atI (hR.w.2.1 _ fin_125).2.1) rfl (k_ixN (k_ix (n := 1200) (x := r7) (a := r7.toInt) rfl hv24) (hR.w.2.1 _ fin_125).2.2) dX14_decided_142 ?_
                  refine lv_topi (fun z25 ez25 => ?_)
                  obtain rfl : z25 = (qI S8 78 r7.toInt.toNat) := ez25
                  refine lv_sipush (v := 159) hx hb dX14_decided_143 (by decide) ?_
                  refine lv_isub hx hb dX14_decided_146 ?_
                  refine lv_topi (fun z26 ez26 => ?_)
                  obtain rfl : z26 = ((qI S8 78 r7.toInt.toNat) - (159 : Int32)) := ez26
                  refine lv_aload_n hx hb dX14_decided_147 rfl (lv_at hl 1 rfl) ?_
                  refine va_get (D := rD g) (ci := 13) (v := .ref (ad 79)) (C := RX14) (T := TX14) (N := 143) hx hb hts in2X14 hown hR.K hR.P 0 (hR.at14 hR.w.1) rfl 126 (by decide) (hts _ kx_700) (fun _ h9 => h9) (congrArg (fun z => some (vf ad z)) (hR.w.2.1 _ fin_126).1) dX14_decided_148 ?_
                  refine lv_iload_n hx hb dX14_decided_151 rfl (lv_at hl 2 rfl) ?_
                  obtain ⟨hv27, h⟩ := h
                  refine va_iald hx hb hR.K hR.P 79 1 (hR.atI (hR.w.2.1 _ fin_126).2.1) rfl (k_ixN (k_ix (n := 1200) (x := v65_1) (a := v65_1.toInt) rfl hv27) (hR.w.2.1 _ fin_126).2.2) dX14_decided_152 ?_
                  refine lv_topi (fun z28 ez28 => ?_)
                  obtain rfl : z28 = (qI S8 79 v65_1.toInt.toNat) := ez28
                  refine lv_aload_n hx hb dX14_decided_153 rfl (lv_at hl 1 rfl) ?_
                  refine va_get (D := rD g) (ci := 13) (v := .ref (ad 79)) (C := RX14) (T := TX14) (N := 143) hx hb hts in2X14 hown hR.K hR.P 0 (hR.at14 hR.w.1) rfl 126 (by decide) (hts _ kx_700) (fun _ h9 => h9) (congrArg (fun z => some (vf ad z)) (hR.w.2.1 _ fin_126).1) dX14_decided_154 ?_
                  refine lv_iload_n hx hb dX14_decided_157 rfl (lv_at hl 3 rfl) ?_
                  obtain ⟨hv29, h⟩ := h
                  refine va_iald hx hb hR.K hR.P 79 1 (hR.atI (hR.w.2.1 _ fin_126).2.1) rfl (k_ixN (k_ix (n := 1200) (x := v65_2) (a := v65_2.toInt) rfl hv29) (hR.w.2.1 _ fin_126).2.2) dX14_decided_158 ?_
                  refine lv_topi (fun z30 ez30 => ?_)
                  obtain rfl : z30 = (qI S8 79 v65_2.toInt.toNat) := ez30
                  obtain ⟨hv31, h⟩ := h
                  have hFc := rfree hR hA
                  refine va_calli (va_runS (As := [.int ((qI S8 78 r7.toInt.toNat) - (159 : Int32)), .int (qI S8 79 v65_1.toInt.toNat), .int (qI S8 79 v65_2.toInt.toNat)]) (rest := []) ⟨hx, hb, hml, hown, hts⟩ (r_isSo l g ad H.size S8 ((qI S8 78 r7.toInt.toNat) - (159 : Int32)) (qI S8 79 v65_1.toInt.toNat) (qI S8 79 v65_2.toInt.toNat) hR.w  hv31) (va_cwS 3 hts (gd2_S kx_778 kx_779 kx_177 kx_780) rfl rfl rfl (by decide +kernel) ⟨Nat.le_of_ble_eq_true rfl, Nat.le_of_ble_eq_true rfl⟩) ⟨rblind, fun U hU hW9 => rmk hU hW9 hR hex hE hFc⟩ rfl rfl hl.1 rfl (lv_room (Nat.le_of_ble_eq_true rfl)) dX14_decided_159 ⟨Nat.le_of_ble_eq_true rfl, Nat.le_of_ble_eq_true rfl⟩) hR.sS (fun q _ h => hFc q h) hFc (fun r32 u9 t9 H1 locs ht9 hvm9 hw9 hB9 hz9 hk9 hS => ?_)
                  have hR : Rep g ad A s S8 H1 locs := hR.call ht9 hB9 hR.w hS hFc
                  obtain ⟨rfl, hz_r32⟩ := hw9
                  clear hB9 hz9 hk9 hvm9 ht9 hS
                  generalize H1 = H at hR ⊢
                  obtain ⟨a34, ea34⟩ : ∃ z, z = (f_isSo S8 ((qI S8 78 r7.toInt.toNat) - (159 : Int32)) (qI S8 79 v65_1.toInt.toNat) (qI S8 79 v65_2.toInt.toNat)) := ⟨_, rfl⟩
                  rw [← ea34]
                  replace h := h a34 ea34
                  have hz_a34 : a34 = 0 ∨ a34 = 1 := by rw [ea34]; exact hz_r32
                  refine lv_istore (lv' := [(5, .int a34), (4, .int r7), (0, .ref (ad 0)), (1, .int v65_1), (2, .int v65_2), (3, .int v65_3)]) hx hb dX14_decided_162 hl (by decide) rfl (fun ls hl => ?_)
                  refine lv_aload_n hx hb dX14_decided_164 rfl (lv_at hl 2 rfl) ?_
                  refine va_get (D := rD g) (ci := 13) (v := .ref (ad 81)) (C := RX14) (T := TX14) (N := 143) hx hb hts in2X14 hown hR.K hR.P 0 (hR.at14 hR.w.1) rfl 128 (by decide) (hts _ kx_692) (fun _ h9 => h9) (congrArg (fun z => some (vf ad z)) (hR.w.2.1 _ fin_128).1) dX14_decided_165 ?_
                  refine lv_iload_n hx hb dX14_decided_168 rfl (lv_at hl 4 rfl) ?_
                  refine lv_iconst (v := 1) hx hb dX14_decided_169 (by decide) ?_
                  obtain ⟨hv35, h⟩ := h
                  refine va_zast hx hb hR.K hR.P hR.D hR.sS 81 2 (hR.atZ (hR.w.2.1 _ fin_128).2.1) rfl (k_ixN (k_ix (n := 1200) (x := v65_2) (a := v65_2.toInt) rfl hv35) (hR.w.2.1 _ fin_128).2.2) dX14_decided_170 (fun H locs hP hD hS => ?_)
                  have hR : Rep g ad A s (wI S8 81 v65_2.toInt.toNat (vp_nar .boolean (1 : Int32))) H locs := hR.aZ (hR.w.2.1 _ fin_128).2.1 hP hD hS
                  obtain ⟨S36, eS36⟩ : ∃ z, z = wI S8 81 v65_2.toInt.toNat (vp_nar .boolean (1 : Int32)) := ⟨_, rfl⟩
                  rw [← eS36] at hR
                  replace h := h S36 eS36
                  have hsh : shy S S36 := by rw [eS36]; exact hsh
                  refine lv_aload_n hx hb dX14_decided_171 rfl (lv_at hl 2 rfl) ?_
                  refine lv_iload_n hx hb dX14_decided_172 rfl (lv_at hl 3 rfl) ?_
                  refine lv_iload hx hb dX14_decided_173 (lv_at hl 1 rfl) ?_
                  refine lv_iload hx hb dX14_decided_175 (lv_at hl 0 rfl) ?_
                  obtain ⟨Q37, h0, h⟩ := h
                  have hFc := rfree hR hA
                  refine va_callv (va_runV (As := [.int v65_1, .int r7, .int a34]) (rest := []) ⟨hx, hb, hml, hown, hts⟩ (r_settle l g ad H.size S36 v65_1 r7 a34 hR.w hz_a34 Q37 h0) (cwV 3 hts (gd2_V kx_1015 kx_1016 kx_1017 kx_177 kx_1018) rfl rfl rfl (by decide +kernel) ⟨Nat.le_of_ble_eq_true rfl, Nat.le_of_ble_eq_true rfl⟩) ⟨rblind, va_recv hR.K hR.P (ci := 13) (q0 := 0) rfl (hR.at14 hR.w.1), fun U hU hW9 => rmk hU hW9 hR hex hE hFc⟩ rfl rfl hl.1 rfl (lv_room (Nat.le_of_ble_eq_true rfl)) dX14_decided_177 ⟨Nat.le_of_ble_eq_true rfl, Nat.le_of_ble_eq_true rfl⟩) hR.sS (fun q _ h => hFc q h) hFc (fun  S38 t9 H1 locs ht9 hvm9 hw9 hB9 hz9 hk9 hS => ?_)
                  obtain ⟨hq39, hw9, hs9⟩ := hw9
                  have hR : Rep g ad A s S38 H1 locs := hR.call ht9 hB9 hw9 hS hFc
                  have hsh := hsh.tr hs9
                  replace h := h  S38 hq39
                  clear hB9 hz9 hk9 hvm9 ht9 hw9 hs9 hS
                  generalize H1 = H at hR ⊢
                  refine lv_iconst (v := 1) hx hb dX14_decided_180 (by decide) ?_
                  exact W.zret (v := 1) hx hb hr (nz (Or.inr rfl)) (fun t9 ht9 hW9 => ⟨⟨_, S38, rfl, ⟨h, hR.w, hsh, (Or.inr rfl)⟩, ⟨by rw [ht9]; exact hR.P, hR.D⟩⟩, hR.sS.F ht9⟩) hR.sS.2.2 dX14_decided_181
                · replace h := h.2 (k_nle rfl (by decide) c23)
                  refine lv_iconst (v := 0) hx hb dX14_decided_134 (by decide) ?_
                  exact W.zret (v := 0) hx hb hr (nz (Or.inl rfl)) (fun t9 ht9 hW9 => ⟨⟨_, S8, rfl, ⟨h, hR.w, hsh, (Or.inl rfl)⟩, ⟨by rw [ht9]; exact hR.P, hR.D⟩⟩, hR.sS.F ht9⟩) hR.sS.2.2 dX14_decided_135
    refine lv_icmp_lt (tgt := 65) hx hb dX14_decided_22 (by decide) (fun c40 => ?_) (fun c40 => ?_)
    · replace h := h.1 (k_lt rfl (by decide) c40)
      exact J_65 S x1 x2 x3 _ _ ls h  hsh hR (lv_sub hl [0, 1, 2, 3] rfl)
    · replace h := h.2 (k_nlt rfl (by decide) c40)
      refine lv_aload_n hx hb dX14_decided_25 rfl (lv_at hl 0 rfl) ?_
      refine va_get (D := rD g) (ci := 13) (v := .ref (ad 78)) (C := RX14) (T := TX14) (N := 143) hx hb hts in2X14 hown hR.K hR.P 0 (hR.at14 hR.w.1) rfl 125 (by decide) (hts _ kx_697) (fun _ h9 => h9) (congrArg (fun z => some (vf ad z)) (hR.w.2.1 _ fin_125).1) dX14_decided_26 ?_
      refine lv_iload_n hx hb dX14_decided_29 rfl (lv_at hl 2 rfl) ?_
      obtain ⟨hv41, h⟩ := h
      refine va_iald hx hb hR.K hR.P 78 1 (hR.atI (hR.w.2.1 _ fin_125).2.1) rfl (k_ixN (k_ix (n := 1200) (x := x2) (a := x2.toInt) rfl hv41) (hR.w.2.1 _ fin_125).2.2) dX14_decided_30 ?_
      refine lv_topi (fun z42 ez42 => ?_)
      obtain rfl : z42 = (qI S 78 x2.toInt.toNat) := ez42
      refine lv_sipush (v := 158) hx hb dX14_decided_31 (by decide) ?_
      refine lv_icmp_gt (tgt := 65) hx hb dX14_decided_34 (by decide) (fun c43 => ?_) (fun c43 => ?_)
      · replace h := h.1 (k_lt (by decide) rfl c43)
        exact J_65 S x1 x2 x3 _ _ ls h  hsh hR (lv_sub hl [0, 1, 2, 3] rfl)
      · replace h := h.2 (k_nlt (by decide) rfl c43)
        refine lv_aload_n hx hb dX14_decided_37 rfl (lv_at hl 0 rfl) ?_
        refine lv_iload_n hx hb dX14_decided_38 rfl (lv_at hl 1 rfl) ?_
        refine lv_iload_n hx hb dX14_decided_39 rfl (lv_at hl 2 rfl) ?_
        refine lv_aload_n hx hb dX14_decided_40 rfl (lv_at hl 0 rfl) ?_
        refine va_get (D := rD g) (ci := 13) (v := .ref (ad 78)) (C := RX14) (T := TX14) (N := 143) hx hb hts in2X14 hown hR.K hR.P 0 (hR.at14 hR.w.1) rfl 125 (by decide) (hts _ kx_697) (fun _ h9 => h9) (congrArg (fun z => some (vf ad z)) (hR.w.2.1 _ fin_125).1) dX14_decided_41 ?_
        refine lv_iload_n hx hb dX14_decided_44 rfl (lv_at hl 2 rfl) ?_
        obtain ⟨hv44, h⟩ := h
        refine va_iald hx hb hR.K hR.P 78 1 (hR.atI (hR.w.2.1 _ fin_125).2.1) rfl (k_ixN (k_ix (n := 1200) (x := x2) (a := x2.toInt) rfl hv44) (hR.w.2.1 _ fin_125).2.2) dX14_decided_45 ?_
        refine lv_topi (fun z45 ez45 => ?_)
        obtain rfl : z45 = (qI S 78 x2.toInt.toNat) := ez45
        refine lv_sipush (v := 153) hx hb dX14_decided_46 (by decide) ?_
        refine lv_isub hx hb dX14_decided_49 ?_
        refine lv_topi (fun z46 ez46 => ?_)
        obtain rfl : z46 = ((qI S 78 x2.toInt.toNat) - (153 : Int32)) := ez46
        refine lv_aload_n hx hb dX14_decided_50 rfl (lv_at hl 0 rfl) ?_
        refine va_get (D := rD g) (ci := 13) (v := .ref (ad 79)) (C := RX14) (T := TX14) (N := 143) hx hb hts in2X14 hown hR.K hR.P 0 (hR.at14 hR.w.1) rfl 126 (by decide) (hts _ kx_700) (fun _ h9 => h9) (congrArg (fun z => some (vf ad z)) (hR.w.2.1 _ fin_126).1) dX14_decided_51 ?_
        refine lv_iload_n hx hb dX14_decided_54 rfl (lv_at hl 1 rfl) ?_
        obtain ⟨hv47, h⟩ := h
        refine va_iald hx hb hR.K hR.P 79 1 (hR.atI (hR.w.2.1 _ fin_126).2.1) rfl (k_ixN (k_ix (n := 1200) (x := x1) (a := x1.toInt) rfl hv47) (hR.w.2.1 _ fin_126).2.2) dX14_decided_55 ?_
        refine lv_topi (fun z48 ez48 => ?_)
        obtain rfl : z48 = (qI S 79 x1.toInt.toNat) := ez48
        refine lv_iconst (v := 0) hx hb dX14_decided_56 (by decide) ?_
        obtain ⟨hv49, h⟩ := h
        have hFc := rfree hR hA
        refine va_calli (va_runS (As := [.int ((qI S 78 x2.toInt.toNat) - (153 : Int32)), .int (qI S 79 x1.toInt.toNat), .int 0]) (rest := [.int x2, .int x1, .ref (ad 0)]) ⟨hx, hb, hml, hown, hts⟩ (r_isSo l g ad s.heap.size S ((qI S 78 x2.toInt.toNat) - (153 : Int32)) (qI S 79 x1.toInt.toNat) (0 : Int32) hR.w  hv49) (va_cwS 3 hts (gd2_S kx_778 kx_779 kx_177 kx_780) rfl rfl rfl (by decide +kernel) ⟨Nat.le_of_ble_eq_true rfl, Nat.le_of_ble_eq_true rfl⟩) ⟨rblind, fun U hU hW9 => rmk hU hW9 hR hex hE hFc⟩ rfl rfl hl.1 rfl (lv_room (Nat.le_of_ble_eq_true rfl)) dX14_decided_57 ⟨Nat.le_of_ble_eq_true rfl, Nat.le_of_ble_eq_true rfl⟩) hR.sS (fun q _ h => hFc q h) hFc (fun r50 u9 t9 H1 locs ht9 hvm9 hw9 hB9 hz9 hk9 hS => ?_)
        have hR : Rep g ad A s S H1 locs := hR.call ht9 hB9 hR.w hS hFc
        obtain ⟨rfl, hz_r50⟩ := hw9
        clear hB9 hz9 hk9 hvm9 ht9 hS
        generalize H1 = H at hR ⊢
        obtain ⟨Q52, h0, h⟩ := h
        have hFc := rfree hR hA
        refine va_callv (va_runV (As := [.int x1, .int x2, .int (f_isSo S ((qI S 78 x2.toInt.toNat) - (153 : Int32)) (qI S 79 x1.toInt.toNat) (0 : Int32))]) (rest := []) ⟨hx, hb, hml, hown, hts⟩ (r_settle l g ad H.size S x1 x2 (f_isSo S ((qI S 78 x2.toInt.toNat) - (153 : Int32)) (qI S 79 x1.toInt.toNat) (0 : Int32)) hR.w hz_r50 Q52 h0) (cwV 3 hts (gd2_V kx_1015 kx_1016 kx_1017 kx_177 kx_1018) rfl rfl rfl (by decide +kernel) ⟨Nat.le_of_ble_eq_true rfl, Nat.le_of_ble_eq_true rfl⟩) ⟨rblind, va_recv hR.K hR.P (ci := 13) (q0 := 0) rfl (hR.at14 hR.w.1), fun U hU hW9 => rmk hU hW9 hR hex hE hFc⟩ rfl rfl hl.1 rfl (lv_room (Nat.le_of_ble_eq_true rfl)) dX14_decided_60 ⟨Nat.le_of_ble_eq_true rfl, Nat.le_of_ble_eq_true rfl⟩) hR.sS (fun q _ h => hFc q h) hFc (fun  S53 t9 H1 locs ht9 hvm9 hw9 hB9 hz9 hk9 hS => ?_)
        obtain ⟨hq54, hw9, hs9⟩ := hw9
        have hR : Rep g ad A s S53 H1 locs := hR.call ht9 hB9 hw9 hS hFc
        have hsh := hsh.tr hs9
        replace h := h  S53 hq54
        clear hB9 hz9 hk9 hvm9 ht9 hw9 hs9 hS
        generalize H1 = H at hR ⊢
        refine lv_iconst (v := 1) hx hb dX14_decided_63 (by decide) ?_
        exact W.zret (v := 1) hx hb hr (nz (Or.inr rfl)) (fun t9 ht9 hW9 => ⟨⟨_, S53, rfl, ⟨h, hR.w, hsh, (Or.inr rfl)⟩, ⟨by rw [ht9]; exact hR.P, hR.D⟩⟩, hR.sS.F ht9⟩) hR.sS.2.2 dX14_decided_64
  · replace h := h.2 (k_ne rfl (by decide) c3)
    refine lv_iconst (v := 0) hx hb dX14_decided_11 (by decide) ?_
    exact W.zret (v := 0) hx hb hr (nz (Or.inl rfl)) (fun t9 ht9 hW9 => ⟨⟨_, S, rfl, ⟨h, hR.w, hsh, (Or.inl rfl)⟩, ⟨by rw [ht9]; exact hR.P, hR.D⟩⟩, hR.sS.F ht9⟩) hR.sS.2.2 dX14_decided_12
def w_layout_J165 (Q : MS → Prop) (E : MS → Prop) (k136 : MS → Int32 → Prop) (U165 : MS) (t165_0 : Int32) (t165_1 : Int32) : Prop := (∀ a44 : Int32, a44 = (t165_1 + t165_0) → k136 U165 a44)
def w_layout_L136 (Q : MS → Prop) (E : MS → Prop) : Nat → MS → Int32 → Prop
  | 0, _, _ => False
  | n136 + 1, U136, v136_1 => (((qI U136 0 14).toInt ≤ v136_1.toInt → (∃ Q16 EQ16, w_over U136 (2 : Int64) Q16 EQ16 ∧ (∀ r17 S18, Q16 r17 S18 → (∀ S20, S20 = wI S18 0 20 r17 → (∃ Q21 EQ21, w_over S20 (6 : Int64) Q21 EQ21 ∧ (∀ r22 S23, Q21 r22 S23 → (∀ S25, S25 = wI S23 0 21 0 → (∀ S26, S26 = wI S25 0 25 0 → (∃ Q27 EQ27, w_members S26 Q27 EQ27 ∧ (∀ S28, Q27 S28 → (∀ S30, S30 = wI S28 0 22 (qI S28 0 21) → (∃ Q31 EQ31, w_members S30 Q31 EQ31 ∧ (∀ S32, Q31 S32 → (∃ Q34 EQ34, w_attributesOf S32 (-1 : Int32) Q34 EQ34 ∧ (∀ S35, Q34 S35 → (∀ S37, S37 = wI S35 0 28 (qI S35 0 13) → Q S37)) ∧ (∀ u9, EQ34 u9 → E u9))) ∧ (∀ u9, EQ31 u9 → E u9)))) ∧ (∀ u9, EQ27 u9 → E u9))))) ∧ (∀ u9, EQ21 u9 → E u9)))) ∧ (∀ u9, EQ16 u9 → E u9))) ∧ (¬ (qI U136 0 14).toInt ≤ v136_1.toInt → (∃ Q38 EQ38, w_entry U136 v136_1 Q38 EQ38 ∧ (∀ S39, Q38 S39 → (((0 : Int) ≤ v136_1.toInt ∧ v136_1.toInt < 502) ∧ (((qI S39 4 v136_1.toInt.toNat).toInt = 5 → w_layout_J165 Q E (w_layout_L136 Q E n136) S39 2 v136_1) ∧ (¬ (qI S39 4 v136_1.toInt.toNat).toInt = 5 → w_layout_J165 Q E (w_layout_L136 Q E n136) S39 1 v136_1)))) ∧ (∀ u9, EQ38 u9 → E u9))))
def w_layout_L112 (Q : MS → Prop) (E : MS → Prop) : Nat → MS → Int32 → Prop
  | 0, _, _ => False
  | n112 + 1, U112, v112_1 => (((Int32.ofNat (qN U112 4)).toInt ≤ v112_1.toInt → (∃ n, w_layout_L136 Q E n U112 1)) ∧ (¬ (Int32.ofNat (qN U112 4)).toInt ≤ v112_1.toInt → (((0 : Int) ≤ v112_1.toInt ∧ v112_1.toInt < 502) ∧ (∀ S47, S47 = wI U112 4 v112_1.toInt.toNat (0 : Int32) → (∀ a48 : Int32, a48 = (v112_1 + Int32.ofInt 1) → (w_layout_L112 Q E n112) S47 a48)))))
def w_layout_J104 (Q : MS → Prop) (E : MS → Prop) (U104 : MS) (t104_0 : Int32) : Prop := (∃ Q11 EQ11, w_must U104 t104_0 (5 : Int32) (8 : Int32) Q11 EQ11 ∧ (∀ S12, Q11 S12 → (∃ n, w_layout_L112 Q E n S12 0)) ∧ (∀ u9, EQ11 u9 → E u9))
def w_layout_J103 (Q : MS → Prop) (E : MS → Prop) (U103 : MS) : Prop := w_layout_J104 Q E U103 0
def w_layout_J48 (Q : MS → Prop) (E : MS → Prop) (k2 : MS → Int32 → Prop) (U48 : MS) (t48_0 : Int32) (v48_1 : Int32) : Prop := (∃ Q60 EQ60, w_must U48 t48_0 (1 : Int32) v48_1 Q60 EQ60 ∧ (∀ S61, Q60 S61 → (∀ a63 : Int32, a63 = (v48_1 + Int32.ofInt 1) → k2 S61 a63)) ∧ (∀ u9, EQ60 u9 → E u9))
def w_layout_J22 (Q : MS → Prop) (E : MS → Prop) (k2 : MS → Int32 → Prop) (U22 : MS) (t22_0 : Int32) (v22_1 : Int32) : Prop := (∃ Q51 EQ51, w_must U22 t22_0 (2 : Int32) (qI U22 0 12) Q51 EQ51 ∧ (∀ S52, Q51 S52 → (d_octet S52 v22_1 ∧ (d_headByte S52 v22_1 ∧ (((f_octet S52 v22_1).toInt = (f_headByte S52 v22_1).toInt → w_layout_J48 Q E k2 S52 1 v22_1) ∧ (¬ (f_octet S52 v22_1).toInt = (f_headByte S52 v22_1).toInt → w_layout_J48 Q E k2 S52 0 v22_1))))) ∧ (∀ u9, EQ51 u9 → E u9))
def w_layout_L2 (Q : MS → Prop) (E : MS → Prop) : Nat → MS → Int32 → Prop
  | 0, _, _ => False
  | n2 + 1, U2, v2_1 => ((8 ≤ v2_1.toInt → (∀ S2, S2 = wI U2 0 13 8 → (∃ Q3 EQ3, w_over S2 (2 : Int64) Q3 EQ3 ∧ (∀ r4 S5, Q3 r4 S5 → (d_two S5 r4 ∧ (∀ S10, S10 = wI S5 0 14 (f_two S5 r4) → (((qI S10 0 14).toInt < 1 → w_layout_J103 Q E S10) ∧ (¬ (qI S10 0 14).toInt < 1 → ((500 < (qI S10 0 14).toInt → w_layout_J103 Q E S10) ∧ (¬ 500 < (qI S10 0 14).toInt → w_layout_J104 Q E S10 1))))))) ∧ (∀ u9, EQ3 u9 → E u9)))) ∧ (¬ 8 ≤ v2_1.toInt → (((qI U2 0 12).toInt ≤ v2_1.toInt → w_layout_J22 Q E (w_layout_L2 Q E n2) U2 0 v2_1) ∧ (¬ (qI U2 0 12).toInt ≤ v2_1.toInt → w_layout_J22 Q E (w_layout_L2 Q E n2) U2 1 v2_1))))
def w_layout (S : MS) (Q : MS → Prop) (E : MS → Prop) : Prop := (∃ n, w_layout_L2 Q E n S 0)
set_option maxHeartbeats 2000000 in
set_option maxRecDepth 100000 in
theorem r_layout (l : Launch) (g : Gr) (ad : Nat → Nat) (sz : Nat) (S : MS) (hw : wfM S) (Q : MS → Prop) (E : MS → Prop) (h : w_layout S Q E) : vx_Met l yX14_layout (wt2 yX14_layout cX14_layout 2 none) ({ frames := 5, cells := 0, slots := 0, locals := 111 }) (va_Pc [.ref (ad 0)] (st_R g ad sz S)) (va_Qv (fun (u : MS) => Q u ∧ wfM u ∧ shy S u) (fun (u : MS) (t : State) => qE g ad (va_A (Wd g ad S) sz) u t) (va_A (Wd g ad S) sz)) (vx_X (fun (u : MS) => E u ∧ wfM u ∧ shy S u) (fun (n9 : String) (u : MS) (t : State) => n9 = RJxb5711 ∧ qE g ad (va_A (Wd g ad S) sz) u t) (va_A (Wd g ad S) sz)) 0 0 (va_A (Wd g ad S) sz) := by
  refine vx_ofW (cc := cX14_layout) (maxL := 2) (ret := none) (by decide) rfl ?_
  intro p e s m args below meth c s₁ B hml hnt hv
  obtain ⟨rfl, hsz, hP, hK, hD0, hex, hE⟩ := hv
  have hx := B.exec
  have hb := B.bytes
  have hr := B.returns
  have hlocks := B.notSynchronized
  have hts0 := atoms_spec (ws := wt2 yX14_layout cX14_layout 2 none) B.pre
  have hts : ∀ w ∈ tb2, w.before _ s = true := fun w h => hts0 w (List.mem_cons_of_mem _ h)
  have hown : s.vm.findClass RX14 = some m.cls := findClass_of_methodNamed B.named
  subst hsz
  have hD := hD0.self (sz := s.heap.size)
  generalize hAe : va_A (Wd g ad S) s.heap.size = A at hD hE ⊢
  have hA : ∀ q : Nat, s.heap.size ≤ q → A q := fun q h => by rw [← hAe]; exact Or.inr h
  have hR : Rep g ad A s S s.heap [] := ⟨hK, hP, hD, va_S.rf, hw⟩
  clear hK hP hD hD0
  have hl := lv_entry ([.ref (ad 0)]) (n := 2) (Nat.le_of_ble_eq_true rfl)
  rw [lg_entry_eq]
  generalize (lg_sl ([.ref (ad 0)]) ++ List.replicate (2 - (lg_sl ([.ref (ad 0)])).length) Slot.unset).toArray = ls at hl ⊢
  have hl : lv_has ls 2 [(0, .ref (ad 0))] := hl
  have hsh : shy S S := shy.rf
  unfold w_layout at h
  refine lv_iconst (v := 0) hx hb dX14_layout_0 (by decide) ?_
  refine lv_istore_n (lv' := [(1, .int 0), (0, .ref (ad 0))]) hx hb dX14_layout_1 rfl hl (by decide) rfl (fun ls hl => ?_)
  have J_2 : ∀ (n2 : Nat) (U2 : MS) (v2_1 : Int32) (H : Heap) (locs : List Loc) (ls : Array Slot), w_layout_L2 Q E n2 U2 v2_1 → shy S U2 → Rep g ad A s U2 H locs → lv_has ls 2 [(0, .ref (ad 0)), (1, .int v2_1)] → W p l e (headSpec (wt2 yX14_layout cX14_layout 2 none) ({ frames := 5, cells := 0, slots := 0, locals := 111 })).room s m ([.ref (ad 0)] : List Value).toArray below meth c H locs 0 0 (vx_MQ below (va_Qv (fun (u : MS) => Q u ∧ wfM u ∧ shy S u) (fun (u : MS) (t : State) => qE g ad A u t) A) ((vx_X (fun (u : MS) => E u ∧ wfM u ∧ shy S u) (fun (n9 : String) (u : MS) (t : State) => n9 = RJxb5711 ∧ qE g ad A u t) A)) ([.ref (ad 0)] : List Value).toArray s 0 0 A) (F0 m 2 ls []) := by
    intro n2
    induction n2 with
    | zero => intro U2 v2_1 H locs ls h hsh hR hl; unfold w_layout_L2 at h; exact h.elim
    | succ n2 ih_2 =>
      intro U2 v2_1 H locs ls h hsh hR hl
      unfold w_layout_L2 at h
      refine lv_iload_n hx hb dX14_layout_2 rfl (lv_at hl 1 rfl) ?_
      refine lv_bipush (v := 8) hx hb dX14_layout_3 (by decide) ?_
      refine lv_icmp_ge (tgt := 59) hx hb dX14_layout_5 (by decide) (fun c1 => ?_) (fun c1 => ?_)
      · replace h := h.1 (k_le (by decide) rfl c1)
        refine lv_aload_n hx hb dX14_layout_59 rfl (lv_at hl 0 rfl) ?_
        refine lv_bipush (v := 8) hx hb dX14_layout_60 (by decide) ?_
        refine va_put (D := rD g) (ci := 13) (v := .int 8) (ty := .int) (C := RX14) (T := TX14) (N := 143) hx hb hts in2X14 tyX14 tyX14_ok nmX14 hown hR.K hR.P hR.D hR.sS 0 (hR.at14 hR.w.1) rfl 13 (by decide) (hts _ kx_190) (fun _ h9 => h9) rfl (by decide +kernel) rfl rfl (Nat.le_of_ble_eq_true rfl) dX14_layout_62 (fun H locs hP hD hS => ?_)
        have hR : Rep g ad A s (wI U2 0 13 8) H locs := hR.pI hR.w.1 F14_s13 hP hD hS
        obtain ⟨S2, eS2⟩ : ∃ z, z = wI U2 0 13 8 := ⟨_, rfl⟩
        rw [← eS2] at hR
        replace h := h S2 eS2
        have hsh : shy S S2 := by rw [eS2]; exact hsh
        refine lv_aload_n hx hb dX14_layout_65 rfl (lv_at hl 0 rfl) ?_
        refine lv_aload_n hx hb dX14_layout_66 rfl (lv_at hl 0 rfl) ?_
        refine lv_aload_n hx hb dX14_layout_67 rfl (lv_at hl 0 rfl) ?_
        refine lv_ldc2 hx hb hown (hts _ kx_192) dX14_layout_68 ?_
        obtain ⟨Q3, EQ3, h0, h⟩ := h
        have hFc := rfree hR hA
        refine vx_calli (vx_runV (As := [.long (2 : Int64)]) (rest := [.ref (ad 0), .ref (ad 0)]) ⟨hx, hb, hml, hown, hts⟩ (r_over l g ad H.size S2 (2 : Int64) hR.w  Q3 EQ3 h0) (cwV 1 hts (gd2_V kx_193 kx_194 kx_195 kx_177 kx_196) rfl rfl rfl (by decide +kernel) ⟨Nat.le_of_ble_eq_true rfl, Nat.le_of_ble_eq_true rfl⟩) ⟨rblind, va_recv hR.K hR.P (ci := 13) (q0 := 0) rfl (hR.at14 hR.w.1), fun U hU hW9 => rmk hU hW9 hR hex hE hFc⟩ rfl rfl hl.1 rfl (lv_room (Nat.le_of_ble_eq_true rfl)) dX14_layout_71 ⟨Nat.le_of_ble_eq_true rfl, Nat.le_of_ble_eq_true rfl⟩) hR.sS (fun q _ h => hFc q h) hFc (fun q _ h => hFc q h) (fun E9 ce9 q9 u9 t9 H1 locs ht9 hvm9 hp9 hB9 hz9 hk9 hS hce9 hcv9 hcl9 => ?_) (fun r4 S5 t9 H1 locs ht9 hvm9 hw9 hB9 hz9 hk9 hS => ?_)
        · obtain ⟨hp9, hwx, hsx⟩ := hp9
          obtain ⟨rfl, hBx⟩ := hB9
          replace h := h.2 u9 hp9
          have hR : Rep g ad A s u9 H1 locs := hR.call ht9 hBx hwx hS hFc
          have hsh := hsh.tr hsx
          exact vx_out (E := RJxb5711) (q := q9) (fun x h9 => (hnt x h9).elim) hlocks hce9 hcv9 hcl9 (fun t9 ht9 ha9 => ⟨u9, ⟨h, hR.w, hsh⟩, ⟨rfl, by rw [ht9]; exact hR.P, hR.D⟩, hR.sS.F ht9⟩) hR.sS.2.2 (Nat.le_of_ble_eq_true rfl) (Nat.le_of_ble_eq_true rfl)
        · obtain ⟨hq6, hw9, hs9⟩ := hw9
          have hR : Rep g ad A s S5 H1 locs := hR.call ht9 hB9 hw9 hS hFc
          have hsh := hsh.tr hs9
          replace h := h.1 r4 S5 hq6
          clear hB9 hz9 hk9 hvm9 ht9 hw9 hs9 hS
          generalize H1 = H at hR ⊢
          obtain ⟨hv7, h⟩ := h
          have hFc := rfree hR hA
          refine va_calli (va_runV (As := [.int r4]) (rest := [.ref (ad 0)]) ⟨hx, hb, hml, hown, hts⟩ (r_two l g ad H.size S5 r4 hR.w  hv7) (cwV 1 hts (gd2_V kx_186 kx_187 kx_188 kx_177 kx_189) rfl rfl rfl (by decide +kernel) ⟨Nat.le_of_ble_eq_true rfl, Nat.le_of_ble_eq_true rfl⟩) ⟨rblind, va_recv hR.K hR.P (ci := 13) (q0 := 0) rfl (hR.at14 hR.w.1), fun U hU hW9 => rmk hU hW9 hR hex hE hFc⟩ rfl rfl hl.1 rfl (lv_room (Nat.le_of_ble_eq_true rfl)) dX14_layout_74 ⟨Nat.le_of_ble_eq_true rfl, Nat.le_of_ble_eq_true rfl⟩) hR.sS (fun q _ h => hFc q h) hFc (fun r8 u9 t9 H1 locs ht9 hvm9 hw9 hB9 hz9 hk9 hS => ?_)
          have hR : Rep g ad A s S5 H1 locs := hR.call ht9 hB9 hR.w hS hFc
          obtain rfl : r8 = (f_two S5 r4) := hw9
          clear hB9 hz9 hk9 hvm9 ht9 hS
          generalize H1 = H at hR ⊢
          refine va_put (D := rD g) (ci := 13) (v := .int (f_two S5 r4)) (ty := .int) (C := RX14) (T := TX14) (N := 143) hx hb hts in2X14 tyX14 tyX14_ok nmX14 hown hR.K hR.P hR.D hR.sS 0 (hR.at14 hR.w.1) rfl 14 (by decide) (hts _ kx_197) (fun _ h9 => h9) rfl (by decide +kernel) rfl rfl (Nat.le_of_ble_eq_true rfl) dX14_layout_77 (fun H locs hP hD hS => ?_)
          have hR : Rep g ad A s (wI S5 0 14 (f_two S5 r4)) H locs := hR.pI hR.w.1 F14_s14 hP hD hS
          obtain ⟨S10, eS10⟩ : ∃ z, z = wI S5 0 14 (f_two S5 r4) := ⟨_, rfl⟩
          rw [← eS10] at hR
          replace h := h S10 eS10
          have hsh : shy S S10 := by rw [eS10]; exact hsh
          refine lv_aload_n hx hb dX14_layout_80 rfl (lv_at hl 0 rfl) ?_
          refine lv_aload_n hx hb dX14_layout_81 rfl (lv_at hl 0 rfl) ?_
          refine va_get (D := rD g) (ci := 13) (v := .int (qI S10 0 14)) (C := RX14) (T := TX14) (N := 143) hx hb hts in2X14 hown hR.K hR.P 0 (hR.at14 hR.w.1) rfl 14 (by decide) (hts _ kx_197) (fun _ h9 => h9) rfl dX14_layout_82 ?_
          refine lv_iconst (v := 1) hx hb dX14_layout_85 (by decide) ?_
          have J_104 : ∀ (U104 : MS) (t104_0 : Int32) (H : Heap) (locs : List Loc) (ls : Array Slot), w_layout_J104 Q E U104 t104_0 → (t104_0 = 0 ∨ t104_0 = 1) → shy S U104 → Rep g ad A s U104 H locs → lv_has ls 2 [(0, .ref (ad 0))] → W p l e (headSpec (wt2 yX14_layout cX14_layout 2 none) ({ frames := 5, cells := 0, slots := 0, locals := 111 })).room s m ([.ref (ad 0)] : List Value).toArray below meth c H locs 0 0 (vx_MQ below (va_Qv (fun (u : MS) => Q u ∧ wfM u ∧ shy S u) (fun (u : MS) (t : State) => qE g ad A u t) A) ((vx_X (fun (u : MS) => E u ∧ wfM u ∧ shy S u) (fun (n9 : String) (u : MS) (t : State) => n9 = RJxb5711 ∧ qE g ad A u t) A)) ([.ref (ad 0)] : List Value).toArray s 0 0 A) (F0 m 104 ls [.int t104_0, .ref (ad 0)]) := by
            intro U104 t104_0 H locs ls h hz_t104_0 hsh hR hl
            unfold w_layout_J104 at h
            refine lv_iconst (v := 5) hx hb dX14_layout_104 (by decide) ?_
            refine lv_bipush (v := 8) hx hb dX14_layout_105 (by decide) ?_
            obtain ⟨Q11, EQ11, h0, h⟩ := h
            have hFc := rfree hR hA
            refine vx_callv (vx_runV (As := [.int t104_0, .int 5, .int 8]) (rest := []) ⟨hx, hb, hml, hown, hts⟩ (r_must l g ad H.size U104 t104_0 (5 : Int32) (8 : Int32) hR.w hz_t104_0 Q11 EQ11 h0) (cwV 3 hts (gd2_V kx_198 kx_199 kx_200 kx_177 kx_201) rfl rfl rfl (by decide +kernel) ⟨Nat.le_of_ble_eq_true rfl, Nat.le_of_ble_eq_true rfl⟩) ⟨rblind, va_recv hR.K hR.P (ci := 13) (q0 := 0) rfl (hR.at14 hR.w.1), fun U hU hW9 => rmk hU hW9 hR hex hE hFc⟩ rfl rfl hl.1 rfl (lv_room (Nat.le_of_ble_eq_true rfl)) dX14_layout_107 ⟨Nat.le_of_ble_eq_true rfl, Nat.le_of_ble_eq_true rfl⟩) hR.sS (fun q _ h => hFc q h) hFc (fun q _ h => hFc q h) (fun E9 ce9 q9 u9 t9 H1 locs ht9 hvm9 hp9 hB9 hz9 hk9 hS hce9 hcv9 hcl9 => ?_) (fun  S12 t9 H1 locs ht9 hvm9 hw9 hB9 hz9 hk9 hS => ?_)
            · obtain ⟨hp9, hwx, hsx⟩ := hp9
              obtain ⟨rfl, hBx⟩ := hB9
              replace h := h.2 u9 hp9
              have hR : Rep g ad A s u9 H1 locs := hR.call ht9 hBx hwx hS hFc
              have hsh := hsh.tr hsx
              exact vx_out (E := RJxb5711) (q := q9) (fun x h9 => (hnt x h9).elim) hlocks hce9 hcv9 hcl9 (fun t9 ht9 ha9 => ⟨u9, ⟨h, hR.w, hsh⟩, ⟨rfl, by rw [ht9]; exact hR.P, hR.D⟩, hR.sS.F ht9⟩) hR.sS.2.2 (Nat.le_of_ble_eq_true rfl) (Nat.le_of_ble_eq_true rfl)
            · obtain ⟨hq13, hw9, hs9⟩ := hw9
              have hR : Rep g ad A s S12 H1 locs := hR.call ht9 hB9 hw9 hS hFc
              have hsh := hsh.tr hs9
              replace h := h.1  S12 hq13
              clear hB9 hz9 hk9 hvm9 ht9 hw9 hs9 hS
              generalize H1 = H at hR ⊢
              refine lv_iconst (v := 0) hx hb dX14_layout_110 (by decide) ?_
              refine lv_istore_n (lv' := [(1, .int 0), (0, .ref (ad 0))]) hx hb dX14_layout_111 rfl hl (by decide) rfl (fun ls hl => ?_)
              have J_112 : ∀ (n112 : Nat) (U112 : MS) (v112_1 : Int32) (H : Heap) (locs : List Loc) (ls : Array Slot), w_layout_L112 Q E n112 U112 v112_1 → shy S U112 → Rep g ad A s U112 H locs → lv_has ls 2 [(0, .ref (ad 0)), (1, .int v112_1)] → W p l e (headSpec (wt2 yX14_layout cX14_layout 2 none) ({ frames := 5, cells := 0, slots := 0, locals := 111 })).room s m ([.ref (ad 0)] : List Value).toArray below meth c H locs 0 0 (vx_MQ below (va_Qv (fun (u : MS) => Q u ∧ wfM u ∧ shy S u) (fun (u : MS) (t : State) => qE g ad A u t) A) ((vx_X (fun (u : MS) => E u ∧ wfM u ∧ shy S u) (fun (n9 : String) (u : MS) (t : State) => n9 = RJxb5711 ∧ qE g ad A u t) A)) ([.ref (ad 0)] : List Value).toArray s 0 0 A) (F0 m 112 ls []) := by
                intro n112
                induction n112 with
                | zero => intro U112 v112_1 H locs ls h hsh hR hl; unfold w_layout_L112 at h; exact h.elim
                | succ n112 ih_112 =>
                  intro U112 v112_1 H locs ls h hsh hR hl
                  unfold w_layout_L112 at h
                  refine lv_iload_n hx hb dX14_layout_112 rfl (lv_at hl 1 rfl) ?_
                  refine lv_aload_n hx hb dX14_layout_113 rfl (lv_at hl 0 rfl) ?_
                  refine va_get (D := rD g) (ci := 13) (v := .ref (ad 4)) (C := RX14) (T := TX14) (N := 143) hx hb hts in2X14 hown hR.K hR.P 0 (hR.at14 hR.w.1) rfl 15 (by decide) (hts _ kx_202) (fun _ h9 => h9) (congrArg (fun z => some (vf ad z)) (hR.w.2.1 _ fin_15).1) dX14_layout_114 ?_
                  refine va_alen (v := (Int32.ofNat (qN U112 4))) hx hb hR.K hR.P 4 1 (hR.atI (hR.w.2.1 _ fin_15).2.1) rfl rfl dX14_layout_117 ?_
                  refine lv_icmp_ge (tgt := 134) hx hb dX14_layout_118 (by decide) (fun c14 => ?_) (fun c14 => ?_)
                  · replace h := h.1 (k_le rfl rfl c14)
                    refine lv_iconst (v := 1) hx hb dX14_layout_134 (by decide) ?_
                    refine lv_istore_n (lv' := [(1, .int 1), (0, .ref (ad 0))]) hx hb dX14_layout_135 rfl hl (by decide) rfl (fun ls hl => ?_)
                    have J_136 : ∀ (n136 : Nat) (U136 : MS) (v136_1 : Int32) (H : Heap) (locs : List Loc) (ls : Array Slot), w_layout_L136 Q E n136 U136 v136_1 → shy S U136 → Rep g ad A s U136 H locs → lv_has ls 2 [(0, .ref (ad 0)), (1, .int v136_1)] → W p l e (headSpec (wt2 yX14_layout cX14_layout 2 none) ({ frames := 5, cells := 0, slots := 0, locals := 111 })).room s m ([.ref (ad 0)] : List Value).toArray below meth c H locs 0 0 (vx_MQ below (va_Qv (fun (u : MS) => Q u ∧ wfM u ∧ shy S u) (fun (u : MS) (t : State) => qE g ad A u t) A) ((vx_X (fun (u : MS) => E u ∧ wfM u ∧ shy S u) (fun (n9 : String) (u : MS) (t : State) => n9 = RJxb5711 ∧ qE g ad A u t) A)) ([.ref (ad 0)] : List Value).toArray s 0 0 A) (F0 m 136 ls []) := by
                      intro n136
                      induction n136 with
                      | zero => intro U136 v136_1 H locs ls h hsh hR hl; unfold w_layout_L136 at h; exact h.elim
                      | succ n136 ih_136 =>
                        intro U136 v136_1 H locs ls h hsh hR hl
                        unfold w_layout_L136 at h
                        refine lv_iload_n hx hb dX14_layout_136 rfl (lv_at hl 1 rfl) ?_
                        refine lv_aload_n hx hb dX14_layout_137 rfl (lv_at hl 0 rfl) ?_
                        refine va_get (D := rD g) (ci := 13) (v := .int (qI U136 0 14)) (C := RX14) (T := TX14) (N := 143) hx hb hts in2X14 hown hR.K hR.P 0 (hR.at14 hR.w.1) rfl 14 (by decide) (hts _ kx_197) (fun _ h9 => h9) rfl dX14_layout_138 ?_
                        refine lv_icmp_ge (tgt := 170) hx hb dX14_layout_141 (by decide) (fun c15 => ?_) (fun c15 => ?_)
                        · replace h := h.1 (k_le rfl rfl c15)
                          refine lv_aload_n hx hb dX14_layout_170 rfl (lv_at hl 0 rfl) ?_
                          refine lv_aload_n hx hb dX14_layout_171 rfl (lv_at hl 0 rfl) ?_
                          refine lv_ldc2 hx hb hown (hts _ kx_192) dX14_layout_172 ?_
                          obtain ⟨Q16, EQ16, h0, h⟩ := h
                          have hFc := rfree hR hA
                          refine vx_calli (vx_runV (As := [.long (2 : Int64)]) (rest := [.ref (ad 0)]) ⟨hx, hb, hml, hown, hts⟩ (r_over l g ad H.size U136 (2 : Int64) hR.w  Q16 EQ16 h0) (cwV 1 hts (gd2_V kx_193 kx_194 kx_195 kx_177 kx_196) rfl rfl rfl (by decide +kernel) ⟨Nat.le_of_ble_eq_true rfl, Nat.le_of_ble_eq_true rfl⟩) ⟨rblind, va_recv hR.K hR.P (ci := 13) (q0 := 0) rfl (hR.at14 hR.w.1), fun U hU hW9 => rmk hU hW9 hR hex hE hFc⟩ rfl rfl hl.1 rfl (lv_room (Nat.le_of_ble_eq_true rfl)) dX14_layout_175 ⟨Nat.le_of_ble_eq_true rfl, Nat.le_of_ble_eq_true rfl⟩) hR.sS (fun q _ h => hFc q h) hFc (fun q _ h => hFc q h) (fun E9 ce9 q9 u9 t9 H1 locs ht9 hvm9 hp9 hB9 hz9 hk9 hS hce9 hcv9 hcl9 => ?_) (fun r17 S18 t9 H1 locs ht9 hvm9 hw9 hB9 hz9 hk9 hS => ?_)
                          · obtain ⟨hp9, hwx, hsx⟩ := hp9
                            obtain ⟨rfl, hBx⟩ := hB9
                            replace h := h.2 u9 hp9
                            have hR : Rep g ad A s u9 H1 locs := hR.call ht9 hBx hwx hS hFc
                            have hsh := hsh.tr hsx
                            exact vx_out (E := RJxb5711) (q := q9) (fun x h9 => (hnt x h9).elim) hlocks hce9 hcv9 hcl9 (fun t9 ht9 ha9 => ⟨u9, ⟨h, hR.w, hsh⟩, ⟨rfl, by rw [ht9]; exact hR.P, hR.D⟩, hR.sS.F ht9⟩) hR.sS.2.2 (Nat.le_of_ble_eq_true rfl) (Nat.le_of_ble_eq_true rfl)
                          · obtain ⟨hq19, hw9, hs9⟩ := hw9
                            have hR : Rep g ad A s S18 H1 locs := hR.call ht9 hB9 hw9 hS hFc
                            have hsh := hsh.tr hs9
                            replace h := h.1 r17 S18 hq19
                            clear hB9 hz9 hk9 hvm9 ht9 hw9 hs9 hS
                            generalize H1 = H at hR ⊢
                            refine va_put (D := rD g) (ci := 13) (v := .int r17) (ty := .int) (C := RX14) (T := TX14) (N := 143) hx hb hts in2X14 tyX14 tyX14_ok nmX14 hown hR.K hR.P hR.D hR.sS 0 (hR.at14 hR.w.1) rfl 20 (by decide) (hts _ kx_203) (fun _ h9 => h9) rfl (by decide +kernel) rfl rfl (Nat.le_of_ble_eq_true rfl) dX14_layout_178 (fun H locs hP hD hS => ?_)
                            have hR : Rep g ad A s (wI S18 0 20 r17) H locs := hR.pI hR.w.1 F14_s20 hP hD hS
                            obtain ⟨S20, eS20⟩ : ∃ z, z = wI S18 0 20 r17 := ⟨_, rfl⟩
                            rw [← eS20] at hR
                            replace h := h S20 eS20
                            have hsh : shy S S20 := by rw [eS20]; exact hsh
                            refine lv_aload_n hx hb dX14_layout_181 rfl (lv_at hl 0 rfl) ?_
                            refine lv_ldc2 hx hb hown (hts _ kx_204) dX14_layout_182 ?_
                            obtain ⟨Q21, EQ21, h0, h⟩ := h
                            have hFc := rfree hR hA
                            refine vx_calli (vx_runV (As := [.long (6 : Int64)]) (rest := []) ⟨hx, hb, hml, hown, hts⟩ (r_over l g ad H.size S20 (6 : Int64) hR.w  Q21 EQ21 h0) (cwV 1 hts (gd2_V kx_193 kx_194 kx_195 kx_177 kx_196) rfl rfl rfl (by decide +kernel) ⟨Nat.le_of_ble_eq_true rfl, Nat.le_of_ble_eq_true rfl⟩) ⟨rblind, va_recv hR.K hR.P (ci := 13) (q0 := 0) rfl (hR.at14 hR.w.1), fun U hU hW9 => rmk hU hW9 hR hex hE hFc⟩ rfl rfl hl.1 rfl (lv_room (Nat.le_of_ble_eq_true rfl)) dX14_layout_185 ⟨Nat.le_of_ble_eq_true rfl, Nat.le_of_ble_eq_true rfl⟩) hR.sS (fun q _ h => hFc q h) hFc (fun q _ h => hFc q h) (fun E9 ce9 q9 u9 t9 H1 locs ht9 hvm9 hp9 hB9 hz9 hk9 hS hce9 hcv9 hcl9 => ?_) (fun r22 S23 t9 H1 locs ht9 hvm9 hw9 hB9 hz9 hk9 hS => ?_)
                            · obtain ⟨hp9, hwx, hsx⟩ := hp9
                              obtain ⟨rfl, hBx⟩ := hB9
                              replace h := h.2 u9 hp9
                              have hR : Rep g ad A s u9 H1 locs := hR.call ht9 hBx hwx hS hFc
                              have hsh := hsh.tr hsx
                              exact vx_out (E := RJxb5711) (q := q9) (fun x h9 => (hnt x h9).elim) hlocks hce9 hcv9 hcl9 (fun t9 ht9 ha9 => ⟨u9, ⟨h, hR.w, hsh⟩, ⟨rfl, by rw [ht9]; exact hR.P, hR.D⟩, hR.sS.F ht9⟩) hR.sS.2.2 (Nat.le_of_ble_eq_true rfl) (Nat.le_of_ble_eq_true rfl)
                            · obtain ⟨hq24, hw9, hs9⟩ := hw9
                              have hR : Rep g ad A s S23 H1 locs := hR.call ht9 hB9 hw9 hS hFc
                              have hsh := hsh.tr hs9
                              replace h := h.1 r22 S23 hq24
                              clear hB9 hz9 hk9 hvm9 ht9 hw9 hs9 hS
                              generalize H1 = H at hR ⊢
                              refine lv_pop hx hb dX14_layout_188 rfl ?_
                              refine lv_aload_n hx hb dX14_layout_189 rfl (lv_at hl 0 rfl) ?_
                              refine lv_iconst (v := 0) hx hb dX14_layout_190 (by decide) ?_
                              refine va_put (D := rD g) (ci := 13) (v := .int 0) (ty := .int) (C := RX14) (T := TX14) (N := 143) hx hb hts in2X14 tyX14 tyX14_ok nmX14 hown hR.K hR.P hR.D hR.sS 0 (hR.at14 hR.w.1) rfl 21 (by decide) (hts _ kx_205) (fun _ h9 => h9) rfl (by decide +kernel) rfl rfl (Nat.le_of_ble_eq_true rfl) dX14_layout_191 (fun H locs hP hD hS => ?_)
                              have hR : Rep g ad A s (wI S23 0 21 0) H locs := hR.pI hR.w.1 F14_s21 hP hD hS
                              obtain ⟨S25, eS25⟩ : ∃ z, z = wI S23 0 21 0 := ⟨_, rfl⟩
                              rw [← eS25] at hR
                              replace h := h S25 eS25
                              have hsh : shy S S25 := by rw [eS25]; exact hsh
                              refine lv_aload_n hx hb dX14_layout_194 rfl (lv_at hl 0 rfl) ?_
                              refine lv_iconst (v := 0) hx hb dX14_layout_195 (by decide) ?_
                              refine va_put (D := rD g) (ci := 13) (v := .int 0) (ty := .int) (C := RX14) (T := TX14) (N := 143) hx hb hts in2X14 tyX14 tyX14_ok nmX14 hown hR.K hR.P hR.D hR.sS 0 (hR.at14 hR.w.1) rfl 25 (by decide) (hts _ kx_206) (fun _ h9 => h9) rfl (by decide +kernel) rfl rfl (Nat.le_of_ble_eq_true rfl) dX14_layout_196 (fun H locs hP hD hS => ?_)
                              have hR : Rep g ad A s (wI S25 0 25 0) H locs := hR.pI hR.w.1 F14_s25 hP hD hS
                              obtain ⟨S26, eS26⟩ : ∃ z, z = wI S25 0 25 0 := ⟨_, rfl⟩
                              rw [← eS26] at hR
                              replace h := h S26 eS26
                              have hsh : shy S S26 := by rw [eS26]; exact hsh
                              refine lv_aload_n hx hb dX14_layout_199 rfl (lv_at hl 0 rfl) ?_
                              obtain ⟨Q27, EQ27, h0, h⟩ := h
                              have hFc := rfree hR hA
                              refine vx_callv (vx_runV (As := []) (rest := []) ⟨hx, hb, hml, hown, hts⟩ (r_members l g ad H.size S26 hR.w  Q27 EQ27 h0) (cwV 0 hts (gd2_V kx_1020 kx_1021 kx_1022 kx_177 kx_1023) rfl rfl rfl (by decide +kernel) ⟨Nat.le_of_ble_eq_true rfl, Nat.le_of_ble_eq_true rfl⟩) ⟨rblind, va_recv hR.K hR.P (ci := 13) (q0 := 0) rfl (hR.at14 hR.w.1), fun U hU hW9 => rmk hU hW9 hR hex hE hFc⟩ rfl rfl hl.1 rfl (lv_room (Nat.le_of_ble_eq_true rfl)) dX14_layout_200 ⟨Nat.le_of_ble_eq_true rfl, Nat.le_of_ble_eq_true rfl⟩) hR.sS (fun q _ h => hFc q h) hFc (fun q _ h => hFc q h) (fun E9 ce9 q9 u9 t9 H1 locs ht9 hvm9 hp9 hB9 hz9 hk9 hS hce9 hcv9 hcl9 => ?_) (fun  S28 t9 H1 locs ht9 hvm9 hw9 hB9 hz9 hk9 hS => ?_)
                              · obtain ⟨hp9, hwx, hsx⟩ := hp9
                                obtain ⟨rfl, hBx⟩ := hB9
                                replace h := h.2 u9 hp9
                                have hR : Rep g ad A s u9 H1 locs := hR.call ht9 hBx hwx hS hFc
                                have hsh := hsh.tr hsx
                                exact vx_out (E := RJxb5711) (q := q9) (fun x h9 => (hnt x h9).elim) hlocks hce9 hcv9 hcl9 (fun t9 ht9 ha9 => ⟨u9, ⟨h, hR.w, hsh⟩, ⟨rfl, by rw [ht9]; exact hR.P, hR.D⟩, hR.sS.F ht9⟩) hR.sS.2.2 (Nat.le_of_ble_eq_true rfl) (Nat.le_of_ble_eq_true rfl)
                              · obtain ⟨hq29, hw9, hs9⟩ := hw9
                                have hR : Rep g ad A s S28 H1 locs := hR.call ht9 hB9 hw9 hS hFc
                                have hsh := hsh.tr hs9
                                replace h := h.1  S28 hq29
                                clear hB9 hz9 hk9 hvm9 ht9 hw9 hs9 hS
                                generalize H1 = H at hR ⊢
                                refine lv_aload_n hx hb dX14_layout_203 rfl (lv_at hl 0 rfl) ?_
                                refine lv_aload_n hx hb dX14_layout_204 rfl (lv_at hl 0 rfl) ?_
                                refine va_get (D := rD g) (ci := 13) (v := .int (qI S28 0 21)) (C := RX14) (T := TX14) (N := 143) hx hb hts in2X14 hown hR.K hR.P 0 (hR.at14 hR.w.1) rfl 21 (by decide) (hts _ kx_205) (fun _ h9 => h9) rfl dX14_layout_205 ?_
                                refine va_put (D := rD g) (ci := 13) (v := .int (qI S28 0 21)) (ty := .int) (C := RX14) (T := TX14) (N := 143) hx hb hts in2X14 tyX14 tyX14_ok nmX14 hown hR.K hR.P hR.D hR.sS 0 (hR.at14 hR.w.1) rfl 22 (by decide) (hts _ kx_239) (fun _ h9 => h9) rfl (by decide +kernel) rfl rfl (Nat.le_of_ble_eq_true rfl) dX14_layout_208 (fun H locs hP hD hS => ?_)
                                have hR : Rep g ad A s (wI S28 0 22 (qI S28 0 21)) H locs := hR.pI hR.w.1 F14_s22 hP hD hS
                                obtain ⟨S30, eS30⟩ : ∃ z, z = wI S28 0 22 (qI S28 0 21) := ⟨_, rfl⟩
                                rw [← eS30] at hR
                                replace h := h S30 eS30
                                have hsh : shy S S30 := by rw [eS30]; exact hsh
                                refine lv_aload_n hx hb dX14_layout_211 rfl (lv_at hl 0 rfl) ?_
                                obtain ⟨Q31, EQ31, h0, h⟩ := h
                                have hFc := rfree hR hA
                                refine vx_callv (vx_runV (As := []) (rest := []) ⟨hx, hb, hml, hown, hts⟩ (r_members l g ad H.size S30 hR.w  Q31 EQ31 h0) (cwV 0 hts (gd2_V kx_1020 kx_1021 kx_1022 kx_177 kx_1023) rfl rfl rfl (by decide +kernel) ⟨Nat.le_of_ble_eq_true rfl, Nat.le_of_ble_eq_true rfl⟩) ⟨rblind, va_recv hR.K hR.P (ci := 13) (q0 := 0) rfl (hR.at14 hR.w.1), fun U hU hW9 => rmk hU hW9 hR hex hE hFc⟩ rfl rfl hl.1 rfl (lv_room (Nat.le_of_ble_eq_true rfl)) dX14_layout_212 ⟨Nat.le_of_ble_eq_true rfl, Nat.le_of_ble_eq_true rfl⟩) hR.sS (fun q _ h => hFc q h) hFc (fun q _ h => hFc q h) (fun E9 ce9 q9 u9 t9 H1 locs ht9 hvm9 hp9 hB9 hz9 hk9 hS hce9 hcv9 hcl9 => ?_) (fun  S32 t9 H1 locs ht9 hvm9 hw9 hB9 hz9 hk9 hS => ?_)
                                · obtain ⟨hp9, hwx, hsx⟩ := hp9
                                  obtain ⟨rfl, hBx⟩ := hB9
                                  replace h := h.2 u9 hp9
                                  have hR : Rep g ad A s u9 H1 locs := hR.call ht9 hBx hwx hS hFc
                                  have hsh := hsh.tr hsx
                                  exact vx_out (E := RJxb5711) (q := q9) (fun x h9 => (hnt x h9).elim) hlocks hce9 hcv9 hcl9 (fun t9 ht9 ha9 => ⟨u9, ⟨h, hR.w, hsh⟩, ⟨rfl, by rw [ht9]; exact hR.P, hR.D⟩, hR.sS.F ht9⟩) hR.sS.2.2 (Nat.le_of_ble_eq_true rfl) (Nat.le_of_ble_eq_true rfl)
                                · obtain ⟨hq33, hw9, hs9⟩ := hw9
                                  have hR : Rep g ad A s S32 H1 locs := hR.call ht9 hB9 hw9 hS hFc
                                  have hsh := hsh.tr hs9
                                  replace h := h.1  S32 hq33
                                  clear hB9 hz9 hk9 hvm9 ht9 hw9 hs9 hS
                                  generalize H1 = H at hR ⊢
                                  refine lv_aload_n hx hb dX14_layout_215 rfl (lv_at hl 0 rfl) ?_
                                  refine lv_iconst (v := (-1)) hx hb dX14_layout_216 (by decide) ?_
                                  obtain ⟨Q34, EQ34, h0, h⟩ := h
                                  have hFc := rfree hR hA
                                  refine vx_callv (vx_runV (As := [.int (-1)]) (rest := []) ⟨hx, hb, hml, hown, hts⟩ (r_attributesOf l g ad H.size S32 (-1 : Int32) hR.w  Q34 EQ34 h0) (cwV 1 hts (gd2_V kx_849 kx_850 kx_851 kx_177 kx_852) rfl rfl rfl (by decide +kernel) ⟨Nat.le_of_ble_eq_true rfl, Nat.le_of_ble_eq_true rfl⟩) ⟨rblind, va_recv hR.K hR.P (ci := 13) (q0 := 0) rfl (hR.at14 hR.w.1), fun U hU hW9 => rmk hU hW9 hR hex hE hFc⟩ rfl rfl hl.1 rfl (lv_room (Nat.le_of_ble_eq_true rfl)) dX14_layout_217 ⟨Nat.le_of_ble_eq_true rfl, Nat.le_of_ble_eq_true rfl⟩) hR.sS (fun q _ h => hFc q h) hFc (fun q _ h => hFc q h) (fun E9 ce9 q9 u9 t9 H1 locs ht9 hvm9 hp9 hB9 hz9 hk9 hS hce9 hcv9 hcl9 => ?_) (fun  S35 t9 H1 locs ht9 hvm9 hw9 hB9 hz9 hk9 hS => ?_)
                                  · obtain ⟨hp9, hwx, hsx⟩ := hp9
                                    obtain ⟨rfl, hBx⟩ := hB9
                                    replace h := h.2 u9 hp9
                                    have hR : Rep g ad A s u9 H1 locs := hR.call ht9 hBx hwx hS hFc
                                    have hsh := hsh.tr hsx
                                    exact vx_out (E := RJxb5711) (q := q9) (fun x h9 => (hnt x h9).elim) hlocks hce9 hcv9 hcl9 (fun t9 ht9 ha9 => ⟨u9, ⟨h, hR.w, hsh⟩, ⟨rfl, by rw [ht9]; exact hR.P, hR.D⟩, hR.sS.F ht9⟩) hR.sS.2.2 (Nat.le_of_ble_eq_true rfl) (Nat.le_of_ble_eq_true rfl)
                                  · obtain ⟨hq36, hw9, hs9⟩ := hw9
                                    have hR : Rep g ad A s S35 H1 locs := hR.call ht9 hB9 hw9 hS hFc
                                    have hsh := hsh.tr hs9
                                    replace h := h.1  S35 hq36
                                    clear hB9 hz9 hk9 hvm9 ht9 hw9 hs9 hS
                                    generalize H1 = H at hR ⊢
                                    refine lv_aload_n hx hb dX14_layout_220 rfl (lv_at hl 0 rfl) ?_
                                    refine lv_aload_n hx hb dX14_layout_221 rfl (lv_at hl 0 rfl) ?_
                                    refine va_get (D := rD g) (ci := 13) (v := .int (qI S35 0 13)) (C := RX14) (T := TX14) (N := 143) hx hb hts in2X14 hown hR.K hR.P 0 (hR.at14 hR.w.1) rfl 13 (by decide) (hts _ kx_190) (fun _ h9 => h9) rfl dX14_layout_222 ?_
                                    refine va_put (D := rD g) (ci := 13) (v := .int (qI S35 0 13)) (ty := .int) (C := RX14) (T := TX14) (N := 143) hx hb hts in2X14 tyX14 tyX14_ok nmX14 hown hR.K hR.P hR.D hR.sS 0 (hR.at14 hR.w.1) rfl 28 (by decide) (hts _ kx_1024) (fun _ h9 => h9) rfl (by decide +kernel) rfl rfl (Nat.le_of_ble_eq_true rfl) dX14_layout_225 (fun H locs hP hD hS => ?_)
                                    have hR : Rep g ad A s (wI S35 0 28 (qI S35 0 13)) H locs := hR.pI hR.w.1 F14_s28 hP hD hS
                                    obtain ⟨S37, eS37⟩ : ∃ z, z = wI S35 0 28 (qI S35 0 13) := ⟨_, rfl⟩
                                    rw [← eS37] at hR
                                    replace h := h S37 eS37
                                    have hsh : shy S S37 := by rw [eS37]; exact hsh
                                    exact vx_ret (W.vret hx hb hr (fun t9 ht9 hW9 => ⟨⟨S37, rfl, ⟨h, hR.w, hsh⟩, ⟨by rw [ht9]; exact hR.P, hR.D⟩⟩, hR.sS.F ht9⟩) hR.sS.2.2 dX14_layout_228)
                        · replace h := h.2 (k_nle rfl rfl c15)
                          refine lv_aload_n hx hb dX14_layout_144 rfl (lv_at hl 0 rfl) ?_
                          refine lv_iload_n hx hb dX14_layout_145 rfl (lv_at hl 1 rfl) ?_
                          obtain ⟨Q38, EQ38, h0, h⟩ := h
                          have hFc := rfree hR hA
                          refine vx_callv (vx_runV (As := [.int v136_1]) (rest := []) ⟨hx, hb, hml, hown, hts⟩ (r_entry l g ad H.size U136 v136_1 hR.w  Q38 EQ38 h0) (cwV 1 hts (gd2_V kx_1025 kx_1026 kx_1027 kx_177 kx_1028) rfl rfl rfl (by decide +kernel) ⟨Nat.le_of_ble_eq_true rfl, Nat.le_of_ble_eq_true rfl⟩) ⟨rblind, va_recv hR.K hR.P (ci := 13) (q0 := 0) rfl (hR.at14 hR.w.1), fun U hU hW9 => rmk hU hW9 hR hex hE hFc⟩ rfl rfl hl.1 rfl (lv_room (Nat.le_of_ble_eq_true rfl)) dX14_layout_146 ⟨Nat.le_of_ble_eq_true rfl, Nat.le_of_ble_eq_true rfl⟩) hR.sS (fun q _ h => hFc q h) hFc (fun q _ h => hFc q h) (fun E9 ce9 q9 u9 t9 H1 locs ht9 hvm9 hp9 hB9 hz9 hk9 hS hce9 hcv9 hcl9 => ?_) (fun  S39 t9 H1 locs ht9 hvm9 hw9 hB9 hz9 hk9 hS => ?_)
                          · obtain ⟨hp9, hwx, hsx⟩ := hp9
                            obtain ⟨rfl, hBx⟩ := hB9
                            replace h := h.2 u9 hp9
                            have hR : Rep g ad A s u9 H1 locs := hR.call ht9 hBx hwx hS hFc
                            have hsh := hsh.tr hsx
                            exact vx_out (E := RJxb5711) (q := q9) (fun x h9 => (hnt x h9).elim) hlocks hce9 hcv9 hcl9 (fun t9 ht9 ha9 => ⟨u9, ⟨h, hR.w, hsh⟩, ⟨rfl, by rw [ht9]; exact hR.P, hR.D⟩, hR.sS.F ht9⟩) hR.sS.2.2 (Nat.le_of_ble_eq_true rfl) (Nat.le_of_ble_eq_true rfl)
                          · obtain ⟨hq40, hw9, hs9⟩ := hw9
                            have hR : Rep g ad A s S39 H1 locs := hR.call ht9 hB9 hw9 hS hFc
                            have hsh := hsh.tr hs9
                            replace h := h.1  S39 hq40
                            clear hB9 hz9 hk9 hvm9 ht9 hw9 hs9 hS
                            generalize H1 = H at hR ⊢
                            refine lv_iload_n hx hb dX14_layout_149 rfl (lv_at hl 1 rfl) ?_
                            refine lv_aload_n hx hb dX14_layout_150 rfl (lv_at hl 0 rfl) ?_
                            refine va_get (D := rD g) (ci := 13) (v := .ref (ad 4)) (C := RX14) (T := TX14) (N := 143) hx hb hts in2X14 hown hR.K hR.P 0 (hR.at14 hR.w.1) rfl 15 (by decide) (hts _ kx_202) (fun _ h9 => h9) (congrArg (fun z => some (vf ad z)) (hR.w.2.1 _ fin_15).1) dX14_layout_151 ?_
                            refine lv_iload_n hx hb dX14_layout_154 rfl (lv_at hl 1 rfl) ?_
                            obtain ⟨hv41, h⟩ := h
                            refine va_iald hx hb hR.K hR.P 4 1 (hR.atI (hR.w.2.1 _ fin_15).2.1) rfl (k_ixN (k_ix (n := 502) (x := v136_1) (a := v136_1.toInt) rfl hv41) (hR.w.2.1 _ fin_15).2.2) dX14_layout_155 ?_
                            refine lv_topi (fun z42 ez42 => ?_)
                            obtain rfl : z42 = (qI S39 4 v136_1.toInt.toNat) := ez42
                            refine lv_iconst (v := 5) hx hb dX14_layout_156 (by decide) ?_
                            have J_165 : ∀ (U165 : MS) (t165_0 : Int32) (t165_1 : Int32) (H : Heap) (locs : List Loc) (ls : Array Slot), w_layout_J165 Q E (w_layout_L136 Q E n136) U165 t165_0 t165_1 → shy S U165 → Rep g ad A s U165 H locs → lv_has ls 2 [(0, .ref (ad 0))] → W p l e (headSpec (wt2 yX14_layout cX14_layout 2 none) ({ frames := 5, cells := 0, slots := 0, locals := 111 })).room s m ([.ref (ad 0)] : List Value).toArray below meth c H locs 0 0 (vx_MQ below (va_Qv (fun (u : MS) => Q u ∧ wfM u ∧ shy S u) (fun (u : MS) (t : State) => qE g ad A u t) A) ((vx_X (fun (u : MS) => E u ∧ wfM u ∧ shy S u) (fun (n9 : String) (u : MS) (t : State) => n9 = RJxb5711 ∧ qE g ad A u t) A)) ([.ref (ad 0)] : List Value).toArray s 0 0 A) (F0 m 165 ls [.int t165_0, .int t165_1]) := by
                              intro U165 t165_0 t165_1 H locs ls h hsh hR hl
                              unfold w_layout_J165 at h
                              refine lv_iadd hx hb dX14_layout_165 ?_
                              refine lv_topi (fun z43 ez43 => ?_)
                              obtain rfl : z43 = (t165_1 + t165_0) := ez43
                              obtain ⟨a44, ea44⟩ : ∃ z, z = (t165_1 + t165_0) := ⟨_, rfl⟩
                              rw [← ea44]
                              replace h := h a44 ea44
                              refine lv_istore_n (lv' := [(1, .int a44), (0, .ref (ad 0))]) hx hb dX14_layout_166 rfl hl (by decide) rfl (fun ls hl => ?_)
                              refine lv_goto (tgt := 136) hx hb dX14_layout_167 (by decide) ?_
                              exact ih_136 U165 a44 _ _ ls h  hsh hR (lv_sub hl [1, 0] rfl)
                            refine lv_icmp_ne (tgt := 164) hx hb dX14_layout_157 (by decide) (fun c45 => ?_) (fun c45 => ?_)
                            · replace h := h.2 (k_ne rfl (by decide) c45)
                              refine lv_iconst (v := 1) hx hb dX14_layout_164 (by decide) ?_
                              exact J_165 S39 1 v136_1 _ _ ls h  hsh hR (lv_sub hl [0] rfl)
                            · replace h := h.1 (k_eq rfl (by decide) c45)
                              refine lv_iconst (v := 2) hx hb dX14_layout_160 (by decide) ?_
                              refine lv_goto (tgt := 165) hx hb dX14_layout_161 (by decide) ?_
                              exact J_165 S39 2 v136_1 _ _ ls h  hsh hR (lv_sub hl [0] rfl)
                    obtain ⟨n9, h⟩ := h
                    exact J_136 n9 U112 1 _ _ ls h  hsh hR (lv_sub hl [1, 0] rfl)
                  · replace h := h.2 (k_nle rfl rfl c14)
                    refine lv_aload_n hx hb dX14_layout_121 rfl (lv_at hl 0 rfl) ?_
                    refine va_get (D := rD g) (ci := 13) (v := .ref (ad 4)) (C := RX14) (T := TX14) (N := 143) hx hb hts in2X14 hown hR.K hR.P 0 (hR.at14 hR.w.1) rfl 15 (by decide) (hts _ kx_202) (fun _ h9 => h9) (congrArg (fun z => some (vf ad z)) (hR.w.2.1 _ fin_15).1) dX14_layout_122 ?_
                    refine lv_iload_n hx hb dX14_layout_125 rfl (lv_at hl 1 rfl) ?_
                    refine lv_iconst (v := 0) hx hb dX14_layout_126 (by decide) ?_
                    obtain ⟨hv46, h⟩ := h
                    refine va_iast hx hb hR.K hR.P hR.D hR.sS 4 1 (hR.atI (hR.w.2.1 _ fin_15).2.1) rfl (k_ixN (k_ix (n := 502) (x := v112_1) (a := v112_1.toInt) rfl hv46) (hR.w.2.1 _ fin_15).2.2) dX14_layout_127 (fun H locs hP hD hS => ?_)
                    have hR : Rep g ad A s (wI U112 4 v112_1.toInt.toNat (0 : Int32)) H locs := hR.aI (hR.w.2.1 _ fin_15).2.1 hP hD hS
                    obtain ⟨S47, eS47⟩ : ∃ z, z = wI U112 4 v112_1.toInt.toNat (0 : Int32) := ⟨_, rfl⟩
                    rw [← eS47] at hR
                    replace h := h S47 eS47
                    have hsh : shy S S47 := by rw [eS47]; exact hsh
                    obtain ⟨a48, ea48⟩ : ∃ z, z = (v112_1 + Int32.ofInt 1) := ⟨_, rfl⟩
                    replace h := h a48 ea48
                    refine lv_iinc (v := a48) (lv' := [(1, .int a48), (0, .ref (ad 0))]) hx hb dX14_layout_128 hl (k := 1) rfl ea48.symm (by decide) rfl (fun ls hl => ?_)
                    refine lv_goto (tgt := 112) hx hb dX14_layout_131 (by decide) ?_
                    exact ih_112 S47 a48 _ _ ls h  hsh hR (lv_sub hl [1, 0] rfl)
              obtain ⟨n9, h⟩ := h
              exact J_112 n9 S12 0 _ _ ls h  hsh hR (lv_sub hl [1, 0] rfl)
          have J_103 : ∀ (U103 : MS) (H : Heap) (locs : List Loc) (ls : Array Slot), w_layout_J103 Q E U103 → shy S U103 → Rep g ad A s U103 H locs → lv_has ls 2 [(0, .ref (ad 0))] → W p l e (headSpec (wt2 yX14_layout cX14_layout 2 none) ({ frames := 5, cells := 0, slots := 0, locals := 111 })).room s m ([.ref (ad 0)] : List Value).toArray below meth c H locs 0 0 (vx_MQ below (va_Qv (fun (u : MS) => Q u ∧ wfM u ∧ shy S u) (fun (u : MS) (t : State) => qE g ad A u t) A) ((vx_X (fun (u : MS) => E u ∧ wfM u ∧ shy S u) (fun (n9 : String) (u : MS) (t : State) => n9 = RJxb5711 ∧ qE g ad A u t) A)) ([.ref (ad 0)] : List Value).toArray s 0 0 A) (F0 m 103 ls [.ref (ad 0)]) := by
            intro U103 H locs ls h hsh hR hl
            unfold w_layout_J103 at h
            refine lv_iconst (v := 0) hx hb dX14_layout_103 (by decide) ?_
            exact J_104 U103 0 _ _ ls h (Or.inl rfl) hsh hR (lv_sub hl [0] rfl)
          refine lv_icmp_lt (tgt := 103) hx hb dX14_layout_86 (by decide) (fun c49 => ?_) (fun c49 => ?_)
          · replace h := h.1 (k_lt rfl (by decide) c49)
            exact J_103 S10 _ _ ls h  hsh hR (lv_sub hl [0] rfl)
          · replace h := h.2 (k_nlt rfl (by decide) c49)
            refine lv_aload_n hx hb dX14_layout_89 rfl (lv_at hl 0 rfl) ?_
            refine va_get (D := rD g) (ci := 13) (v := .int (qI S10 0 14)) (C := RX14) (T := TX14) (N := 143) hx hb hts in2X14 hown hR.K hR.P 0 (hR.at14 hR.w.1) rfl 14 (by decide) (hts _ kx_197) (fun _ h9 => h9) rfl dX14_layout_90 ?_
            refine lv_sipush (v := 500) hx hb dX14_layout_93 (by decide) ?_
            refine lv_icmp_gt (tgt := 103) hx hb dX14_layout_96 (by decide) (fun c50 => ?_) (fun c50 => ?_)
            · replace h := h.1 (k_lt (by decide) rfl c50)
              exact J_103 S10 _ _ ls h  hsh hR (lv_sub hl [0] rfl)
            · replace h := h.2 (k_nlt (by decide) rfl c50)
              refine lv_iconst (v := 1) hx hb dX14_layout_99 (by decide) ?_
              refine lv_goto (tgt := 104) hx hb dX14_layout_100 (by decide) ?_
              exact J_104 S10 1 _ _ ls h (Or.inr rfl) hsh hR (lv_sub hl [0] rfl)
      · replace h := h.2 (k_nle (by decide) rfl c1)
        refine lv_aload_n hx hb dX14_layout_8 rfl (lv_at hl 0 rfl) ?_
        refine lv_iload_n hx hb dX14_layout_9 rfl (lv_at hl 1 rfl) ?_
        refine lv_aload_n hx hb dX14_layout_10 rfl (lv_at hl 0 rfl) ?_
        refine va_get (D := rD g) (ci := 13) (v := .int (qI U2 0 12)) (C := RX14) (T := TX14) (N := 143) hx hb hts in2X14 hown hR.K hR.P 0 (hR.at14 hR.w.1) rfl 12 (by decide) (hts _ kx_191) (fun _ h9 => h9) rfl dX14_layout_11 ?_
        have J_22 : ∀ (U22 : MS) (t22_0 : Int32) (v22_1 : Int32) (H : Heap) (locs : List Loc) (ls : Array Slot), w_layout_J22 Q E (w_layout_L2 Q E n2) U22 t22_0 v22_1 → (t22_0 = 0 ∨ t22_0 = 1) → shy S U22 → Rep g ad A s U22 H locs → lv_has ls 2 [(0, .ref (ad 0)), (1, .int v22_1)] → W p l e (headSpec (wt2 yX14_layout cX14_layout 2 none) ({ frames := 5, cells := 0, slots := 0, locals := 111 })).room s m ([.ref (ad 0)] : List Value).toArray below meth c H locs 0 0 (vx_MQ below (va_Qv (fun (u : MS) => Q u ∧ wfM u ∧ shy S u) (fun (u : MS) (t : State) => qE g ad A u t) A) ((vx_X (fun (u : MS) => E u ∧ wfM u ∧ shy S u) (fun (n9 : String) (u : MS) (t : State) => n9 = RJxb5711 ∧ qE g ad A u t) A)) ([.ref (ad 0)] : List Value).toArray s 0 0 A) (F0 m 22 ls [.int t22_0, .ref (ad 0)]) := by
          intro U22 t22_0 v22_1 H locs ls h hz_t22_0 hsh hR hl
          unfold w_layout_J22 at h
          refine lv_iconst (v := 2) hx hb dX14_layout_22 (by decide) ?_
          refine lv_aload_n hx hb dX14_layout_23 rfl (lv_at hl 0 rfl) ?_
          refine va_get (D := rD g) (ci := 13) (v := .int (qI U22 0 12)) (C := RX14) (T := TX14) (N := 143) hx hb hts in2X14 hown hR.K hR.P 0 (hR.at14 hR.w.1) rfl 12 (by decide) (hts _ kx_191) (fun _ h9 => h9) rfl dX14_layout_24 ?_
          obtain ⟨Q51, EQ51, h0, h⟩ := h
          have hFc := rfree hR hA
          refine vx_callv (vx_runV (As := [.int t22_0, .int 2, .int (qI U22 0 12)]) (rest := []) ⟨hx, hb, hml, hown, hts⟩ (r_must l g ad H.size U22 t22_0 (2 : Int32) (qI U22 0 12) hR.w hz_t22_0 Q51 EQ51 h0) (cwV 3 hts (gd2_V kx_198 kx_199 kx_200 kx_177 kx_201) rfl rfl rfl (by decide +kernel) ⟨Nat.le_of_ble_eq_true rfl, Nat.le_of_ble_eq_true rfl⟩) ⟨rblind, va_recv hR.K hR.P (ci := 13) (q0 := 0) rfl (hR.at14 hR.w.1), fun U hU hW9 => rmk hU hW9 hR hex hE hFc⟩ rfl rfl hl.1 rfl (lv_room (Nat.le_of_ble_eq_true rfl)) dX14_layout_27 ⟨Nat.le_of_ble_eq_true rfl, Nat.le_of_ble_eq_true rfl⟩) hR.sS (fun q _ h => hFc q h) hFc (fun q _ h => hFc q h) (fun E9 ce9 q9 u9 t9 H1 locs ht9 hvm9 hp9 hB9 hz9 hk9 hS hce9 hcv9 hcl9 => ?_) (fun  S52 t9 H1 locs ht9 hvm9 hw9 hB9 hz9 hk9 hS => ?_)
          · obtain ⟨hp9, hwx, hsx⟩ := hp9
            obtain ⟨rfl, hBx⟩ := hB9
            replace h := h.2 u9 hp9
            have hR : Rep g ad A s u9 H1 locs := hR.call ht9 hBx hwx hS hFc
            have hsh := hsh.tr hsx
            exact vx_out (E := RJxb5711) (q := q9) (fun x h9 => (hnt x h9).elim) hlocks hce9 hcv9 hcl9 (fun t9 ht9 ha9 => ⟨u9, ⟨h, hR.w, hsh⟩, ⟨rfl, by rw [ht9]; exact hR.P, hR.D⟩, hR.sS.F ht9⟩) hR.sS.2.2 (Nat.le_of_ble_eq_true rfl) (Nat.le_of_ble_eq_true rfl)
          · obtain ⟨hq53, hw9, hs9⟩ := hw9
            have hR : Rep g ad A s S52 H1 locs := hR.call ht9 hB9 hw9 hS hFc
            have hsh := hsh.tr hs9
            replace h := h.1  S52 hq53
            clear hB9 hz9 hk9 hvm9 ht9 hw9 hs9 hS
            generalize H1 = H at hR ⊢
            refine lv_aload_n hx hb dX14_layout_30 rfl (lv_at hl 0 rfl) ?_
            refine lv_aload_n hx hb dX14_layout_31 rfl (lv_at hl 0 rfl) ?_
            refine lv_iload_n hx hb dX14_layout_32 rfl (lv_at hl 1 rfl) ?_
            obtain ⟨hv54, h⟩ := h
            have hFc := rfree hR hA
            refine va_calli (va_runV (As := [.int v22_1]) (rest := [.ref (ad 0)]) ⟨hx, hb, hml, hown, hts⟩ (r_octet l g ad H.size S52 v22_1 hR.w  hv54) (cwV 1 hts (gd2_V kx_182 kx_183 kx_184 kx_177 kx_185) rfl rfl rfl (by decide +kernel) ⟨Nat.le_of_ble_eq_true rfl, Nat.le_of_ble_eq_true rfl⟩) ⟨rblind, va_recv hR.K hR.P (ci := 13) (q0 := 0) rfl (hR.at14 hR.w.1), fun U hU hW9 => rmk hU hW9 hR hex hE hFc⟩ rfl rfl hl.1 rfl (lv_room (Nat.le_of_ble_eq_true rfl)) dX14_layout_33 ⟨Nat.le_of_ble_eq_true rfl, Nat.le_of_ble_eq_true rfl⟩) hR.sS (fun q _ h => hFc q h) hFc (fun r55 u9 t9 H1 locs ht9 hvm9 hw9 hB9 hz9 hk9 hS => ?_)
            have hR : Rep g ad A s S52 H1 locs := hR.call ht9 hB9 hR.w hS hFc
            obtain rfl : r55 = (f_octet S52 v22_1) := hw9
            clear hB9 hz9 hk9 hvm9 ht9 hS
            generalize H1 = H at hR ⊢
            refine lv_iload_n hx hb dX14_layout_36 rfl (lv_at hl 1 rfl) ?_
            obtain ⟨hv57, h⟩ := h
            have hFc := rfree hR hA
            refine va_calli (va_runS (As := [.int v22_1]) (rest := [.int (f_octet S52 v22_1), .ref (ad 0)]) ⟨hx, hb, hml, hown, hts⟩ (r_headByte l g ad H.size S52 v22_1 hR.w  hv57) (va_cwS 1 hts (gd2_S kx_941 kx_942 kx_177 kx_943) rfl rfl rfl (by decide +kernel) ⟨Nat.le_of_ble_eq_true rfl, Nat.le_of_ble_eq_true rfl⟩) ⟨rblind, fun U hU hW9 => rmk hU hW9 hR hex hE hFc⟩ rfl rfl hl.1 rfl (lv_room (Nat.le_of_ble_eq_true rfl)) dX14_layout_37 ⟨Nat.le_of_ble_eq_true rfl, Nat.le_of_ble_eq_true rfl⟩) hR.sS (fun q _ h => hFc q h) hFc (fun r58 u9 t9 H1 locs ht9 hvm9 hw9 hB9 hz9 hk9 hS => ?_)
            have hR : Rep g ad A s S52 H1 locs := hR.call ht9 hB9 hR.w hS hFc
            obtain rfl : r58 = (f_headByte S52 v22_1) := hw9
            clear hB9 hz9 hk9 hvm9 ht9 hS
            generalize H1 = H at hR ⊢
            have J_48 : ∀ (U48 : MS) (t48_0 : Int32) (v48_1 : Int32) (H : Heap) (locs : List Loc) (ls : Array Slot), w_layout_J48 Q E (w_layout_L2 Q E n2) U48 t48_0 v48_1 → (t48_0 = 0 ∨ t48_0 = 1) → shy S U48 → Rep g ad A s U48 H locs → lv_has ls 2 [(0, .ref (ad 0)), (1, .int v48_1)] → W p l e (headSpec (wt2 yX14_layout cX14_layout 2 none) ({ frames := 5, cells := 0, slots := 0, locals := 111 })).room s m ([.ref (ad 0)] : List Value).toArray below meth c H locs 0 0 (vx_MQ below (va_Qv (fun (u : MS) => Q u ∧ wfM u ∧ shy S u) (fun (u : MS) (t : State) => qE g ad A u t) A) ((vx_X (fun (u : MS) => E u ∧ wfM u ∧ shy S u) (fun (n9 : String) (u : MS) (t : State) => n9 = RJxb5711 ∧ qE g ad A u t) A)) ([.ref (ad 0)] : List Value).toArray s 0 0 A) (F0 m 48 ls [.int t48_0, .ref (ad 0)]) := by
              intro U48 t48_0 v48_1 H locs ls h hz_t48_0 hsh hR hl
              unfold w_layout_J48 at h
              refine lv_iconst (v := 1) hx hb dX14_layout_48 (by decide) ?_
              refine lv_iload_n hx hb dX14_layout_49 rfl (lv_at hl 1 rfl) ?_
              obtain ⟨Q60, EQ60, h0, h⟩ := h
              have hFc := rfree hR hA
              refine vx_callv (vx_runV (As := [.int t48_0, .int 1, .int v48_1]) (rest := []) ⟨hx, hb, hml, hown, hts⟩ (r_must l g ad H.size U48 t48_0 (1 : Int32) v48_1 hR.w hz_t48_0 Q60 EQ60 h0) (cwV 3 hts (gd2_V kx_198 kx_199 kx_200 kx_177 kx_201) rfl rfl rfl (by decide +kernel) ⟨Nat.le_of_ble_eq_true rfl, Nat.le_of_ble_eq_true rfl⟩) ⟨rblind, va_recv hR.K hR.P (ci := 13) (q0 := 0) rfl (hR.at14 hR.w.1), fun U hU hW9 => rmk hU hW9 hR hex hE hFc⟩ rfl rfl hl.1 rfl (lv_room (Nat.le_of_ble_eq_true rfl)) dX14_layout_50 ⟨Nat.le_of_ble_eq_true rfl, Nat.le_of_ble_eq_true rfl⟩) hR.sS (fun q _ h => hFc q h) hFc (fun q _ h => hFc q h) (fun E9 ce9 q9 u9 t9 H1 locs ht9 hvm9 hp9 hB9 hz9 hk9 hS hce9 hcv9 hcl9 => ?_) (fun  S61 t9 H1 locs ht9 hvm9 hw9 hB9 hz9 hk9 hS => ?_)
              · obtain ⟨hp9, hwx, hsx⟩ := hp9
                obtain ⟨rfl, hBx⟩ := hB9
                replace h := h.2 u9 hp9
                have hR : Rep g ad A s u9 H1 locs := hR.call ht9 hBx hwx hS hFc
                have hsh := hsh.tr hsx
                exact vx_out (E := RJxb5711) (q := q9) (fun x h9 => (hnt x h9).elim) hlocks hce9 hcv9 hcl9 (fun t9 ht9 ha9 => ⟨u9, ⟨h, hR.w, hsh⟩, ⟨rfl, by rw [ht9]; exact hR.P, hR.D⟩, hR.sS.F ht9⟩) hR.sS.2.2 (Nat.le_of_ble_eq_true rfl) (Nat.le_of_ble_eq_true rfl)
              · obtain ⟨hq62, hw9, hs9⟩ := hw9
                have hR : Rep g ad A s S61 H1 locs := hR.call ht9 hB9 hw9 hS hFc
                have hsh := hsh.tr hs9
                replace h := h.1  S61 hq62
                clear hB9 hz9 hk9 hvm9 ht9 hw9 hs9 hS
                generalize H1 = H at hR ⊢
                obtain ⟨a63, ea63⟩ : ∃ z, z = (v48_1 + Int32.ofInt 1) := ⟨_, rfl⟩
                replace h := h a63 ea63
                refine lv_iinc (v := a63) (lv' := [(1, .int a63), (0, .ref (ad 0))]) hx hb dX14_layout_53 hl (k := 1) rfl ea63.symm (by decide) rfl (fun ls hl => ?_)
                refine lv_goto (tgt := 2) hx hb dX14_layout_56 (by decide) ?_
                exact ih_2 S61 a63 _ _ ls h  hsh hR (lv_sub hl [1, 0] rfl)
            refine lv_icmp_ne (tgt := 47) hx hb dX14_layout_40 (by decide) (fun c64 => ?_) (fun c64 => ?_)
            · replace h := h.2 (k_ne rfl rfl c64)
              refine lv_iconst (v := 0) hx hb dX14_layout_47 (by decide) ?_
              exact J_48 S52 0 v22_1 _ _ ls h (Or.inl rfl) hsh hR (lv_sub hl [0, 1] rfl)
            · replace h := h.1 (k_eq rfl rfl c64)
              refine lv_iconst (v := 1) hx hb dX14_layout_43 (by decide) ?_
              refine lv_goto (tgt := 48) hx hb dX14_layout_44 (by decide) ?_
              exact J_48 S52 1 v22_1 _ _ ls h (Or.inr rfl) hsh hR (lv_sub hl [0, 1] rfl)
        refine lv_icmp_ge (tgt := 21) hx hb dX14_layout_14 (by decide) (fun c65 => ?_) (fun c65 => ?_)
        · replace h := h.1 (k_le rfl rfl c65)
          refine lv_iconst (v := 0) hx hb dX14_layout_21 (by decide) ?_
          exact J_22 U2 0 v2_1 _ _ ls h (Or.inl rfl) hsh hR (lv_sub hl [0, 1] rfl)
        · replace h := h.2 (k_nle rfl rfl c65)
          refine lv_iconst (v := 1) hx hb dX14_layout_17 (by decide) ?_
          refine lv_goto (tgt := 22) hx hb dX14_layout_18 (by decide) ?_
          exact J_22 U2 1 v2_1 _ _ ls h (Or.inr rfl) hsh hR (lv_sub hl [0, 1] rfl)
  obtain ⟨n9, h⟩ := h
  exact J_2 n9 S 0 _ _ ls h  hsh hR (lv_sub hl [1, 0] rfl)
def w_pointing_L89 (Q : MS → Prop) (E : MS → Prop) : Nat → MS → Int32 → Int32 → Prop
  | 0, _, _, _ => False
  | n89 + 1, U89, v89_1, v89_3 => (((0 : Int) ≤ v89_1.toInt ∧ v89_1.toInt < 24) ∧ (((qI U89 17 v89_1.toInt.toNat).toInt ≤ v89_3.toInt → Q U89) ∧ (¬ (qI U89 17 v89_1.toInt.toNat).toInt ≤ v89_3.toInt → (((0 : Int) ≤ v89_1.toInt ∧ v89_1.toInt < 24) ∧ (∃ Q33 EQ33, w_caught U89 ((qI U89 16 v89_1.toInt.toNat) + ((8 : Int32) * v89_3)) Q33 EQ33 ∧ (∀ S34, Q33 S34 → (∀ a36 : Int32, a36 = (v89_3 + Int32.ofInt 1) → (w_pointing_L89 Q E n89) S34 v89_1 a36)) ∧ (∀ u9, EQ33 u9 → E u9))))))
def w_pointing_J81 (Q : MS → Prop) (E : MS → Prop) (k59 : MS → Int32 → Int32 → Prop) (U81 : MS) (v81_1 : Int32) (v81_3 : Int32) : Prop := (∀ a39 : Int32, a39 = (v81_3 + Int32.ofInt 1) → k59 U81 v81_1 a39)
def w_pointing_L59 (Q : MS → Prop) (E : MS → Prop) : Nat → MS → Int32 → Int32 → Prop
  | 0, _, _, _ => False
  | n59 + 1, U59, v59_1, v59_3 => (((qI U59 0 37).toInt ≤ v59_3.toInt → (∃ n, w_pointing_L89 Q E n U59 v59_1 0)) ∧ (¬ (qI U59 0 37).toInt ≤ v59_3.toInt → (((0 : Int) ≤ v59_3.toInt ∧ v59_3.toInt < 1201) ∧ (((qI U59 18 v59_3.toInt.toNat).toInt < 0 → w_pointing_J81 Q E (w_pointing_L59 Q E n59) U59 v59_1 v59_3) ∧ (¬ (qI U59 18 v59_3.toInt.toNat).toInt < 0 → (∃ Q41 EQ41, w_instruction U59 v59_3 Q41 EQ41 ∧ (∀ S42, Q41 S42 → w_pointing_J81 Q E (w_pointing_L59 Q E n59) S42 v59_1 v59_3) ∧ (∀ u9, EQ41 u9 → E u9)))))))
def w_pointing (S : MS) (x1 : Int32) (p2 : Nat) (Q : MS → Prop) (E : MS → Prop) : Prop := (∃ Q1 EQ1, w_wholes S x1 Q1 EQ1 ∧ (∀ S2, Q1 S2 → (((0 : Int) ≤ x1.toInt ∧ x1.toInt < 24) ∧ (∀ S6, S6 = wI S2 0 46 (qI S2 13 x1.toInt.toNat) → ((qR S6 p2 14 = some (qO S6 p2 14)) ∧ (((0 : Int) ≤ x1.toInt ∧ x1.toInt < (qN S6 (qO S6 p2 14) : Int)) ∧ (∀ S10, S10 = wI S6 (qO S6 p2 14) x1.toInt.toNat (qI S6 0 41) → ((qR S10 p2 15 = some (qO S10 p2 15)) ∧ (((0 : Int) ≤ x1.toInt ∧ x1.toInt < (qN S10 (qO S10 p2 15) : Int)) ∧ (∀ S14, S14 = wI S10 (qO S10 p2 15) x1.toInt.toNat (qI S10 0 39) → ((qR S14 p2 16 = some (qO S14 p2 16)) ∧ (((0 : Int) ≤ x1.toInt ∧ x1.toInt < (qN S14 (qO S14 p2 16) : Int)) ∧ (∀ S18, S18 = wI S14 (qO S14 p2 16) x1.toInt.toNat (qI S14 0 45) → ((qR S18 p2 17 = some (qO S18 p2 17)) ∧ (((0 : Int) ≤ x1.toInt ∧ x1.toInt < 24) ∧ (((0 : Int) ≤ x1.toInt ∧ x1.toInt < (qN S18 (qO S18 p2 17) : Int)) ∧ (∀ S24, S24 = wI S18 (qO S18 p2 17) x1.toInt.toNat (qI S18 17 x1.toInt.toNat) → (∃ n, w_pointing_L59 Q E n S24 x1 0))))))))))))))))) ∧ (∀ u9, EQ1 u9 → E u9))
set_option maxHeartbeats 2000000 in
set_option maxRecDepth 100000 in
theorem r_pointing (l : Launch) (g : Gr) (ad : Nat → Nat) (sz : Nat) (S : MS) (x1 : Int32) (p2 : Nat) (hw : wfM S) (hT_p2 : qT S p2 = 11) (Q : MS → Prop) (E : MS → Prop) (h : w_pointing S x1 p2 Q E) : vx_Met l yX14_pointing (wt2 yX14_pointing cX14_pointing 4 none) ({ frames := 7, cells := 0, slots := 0, locals := 156 }) (va_Pc [.ref (ad 0), .int x1, .ref (ad p2)] (st_R g ad sz S)) (va_Qv (fun (u : MS) => Q u ∧ wfM u ∧ shy S u) (fun (u : MS) (t : State) => qE g ad (va_A (Wd g ad S) sz) u t) (va_A (Wd g ad S) sz)) (vx_X (fun (u : MS) => E u ∧ wfM u ∧ shy S u) (fun (n9 : String) (u : MS) (t : State) => n9 = RJxb5711 ∧ qE g ad (va_A (Wd g ad S) sz) u t) (va_A (Wd g ad S) sz)) 0 0 (va_A (Wd g ad S) sz) := by
  refine vx_ofW (cc := cX14_pointing) (maxL := 4) (ret := none) (by decide) rfl ?_
  intro p e s m args below meth c s₁ B hml hnt hv
  obtain ⟨rfl, hsz, hP, hK, hD0, hex, hE⟩ := hv
  have hx := B.exec
  have hb := B.bytes
  have hr := B.returns
  have hlocks := B.notSynchronized
  have hts0 := atoms_spec (ws := wt2 yX14_pointing cX14_pointing 4 none) B.pre
  have hts : ∀ w ∈ tb2, w.before _ s = true := fun w h => hts0 w (List.mem_cons_of_mem _ h)
  have hown : s.vm.findClass RX14 = some m.cls := findClass_of_methodNamed B.named
  subst hsz
  have hD := hD0.self (sz := s.heap.size)
  generalize hAe : va_A (Wd g ad S) s.heap.size = A at hD hE ⊢
  have hA : ∀ q : Nat, s.heap.size ≤ q → A q := fun q h => by rw [← hAe]; exact Or.inr h
  have hR : Rep g ad A s S s.heap [] := ⟨hK, hP, hD, va_S.rf, hw⟩
  clear hK hP hD hD0
  have hl := lv_entry ([.ref (ad 0), .int x1, .ref (ad p2)]) (n := 4) (Nat.le_of_ble_eq_true rfl)
  rw [lg_entry_eq]
  generalize (lg_sl ([.ref (ad 0), .int x1, .ref (ad p2)]) ++ List.replicate (4 - (lg_sl ([.ref (ad 0), .int x1, .ref (ad p2)])).length) Slot.unset).toArray = ls at hl ⊢
  have hl : lv_has ls 4 [(0, .ref (ad 0)), (1, .int x1), (2, .ref (ad p2))] := hl
  have hsh : shy S S := shy.rf
  unfold w_pointing at h
  refine lv_aload_n hx hb dX14_pointing_0 rfl (lv_at hl 0 rfl) ?_
  refine lv_iload_n hx hb dX14_pointing_1 rfl (lv_at hl 1 rfl) ?_
  obtain ⟨Q1, EQ1, h0, h⟩ := h
  have hFc := rfree hR hA
  refine vx_callv (vx_runV (As := [.int x1]) (rest := []) ⟨hx, hb, hml, hown, hts⟩ (r_wholes l g ad s.heap.size S x1 hR.w  Q1 EQ1 h0) (cwV 1 hts (gd2_V kx_877 kx_878 kx_879 kx_177 kx_880) rfl rfl rfl (by decide +kernel) ⟨Nat.le_of_ble_eq_true rfl, Nat.le_of_ble_eq_true rfl⟩) ⟨rblind, va_recv hR.K hR.P (ci := 13) (q0 := 0) rfl (hR.at14 hR.w.1), fun U hU hW9 => rmk hU hW9 hR hex hE hFc⟩ rfl rfl hl.1 rfl (lv_room (Nat.le_of_ble_eq_true rfl)) dX14_pointing_2 ⟨Nat.le_of_ble_eq_true rfl, Nat.le_of_ble_eq_true rfl⟩) hR.sS (fun q _ h => hFc q h) hFc (fun q _ h => hFc q h) (fun E9 ce9 q9 u9 t9 H1 locs ht9 hvm9 hp9 hB9 hz9 hk9 hS hce9 hcv9 hcl9 => ?_) (fun  S2 t9 H1 locs ht9 hvm9 hw9 hB9 hz9 hk9 hS => ?_)
  · obtain ⟨hp9, hwx, hsx⟩ := hp9
    obtain ⟨rfl, hBx⟩ := hB9
    replace h := h.2 u9 hp9
    have hR : Rep g ad A s u9 H1 locs := hR.call ht9 hBx hwx hS hFc
    have hsh := hsh.tr hsx
    exact vx_out (E := RJxb5711) (q := q9) (fun x h9 => (hnt x h9).elim) hlocks hce9 hcv9 hcl9 (fun t9 ht9 ha9 => ⟨u9, ⟨h, hR.w, hsh⟩, ⟨rfl, by rw [ht9]; exact hR.P, hR.D⟩, hR.sS.F ht9⟩) hR.sS.2.2 (Nat.le_of_ble_eq_true rfl) (Nat.le_of_ble_eq_true rfl)
  · obtain ⟨hq3, hw9, hs9⟩ := hw9
    have hR : Rep g ad A s S2 H1 locs := hR.call ht9 hB9 hw9 hS hFc
    have hsh := hsh.tr hs9
    replace h := h.1  S2 hq3
    have hT_p2 := hs9.T hT_p2 (by decide)
    clear hB9 hz9 hk9 hvm9 ht9 hw9 hs9 hS
    generalize H1 = H at hR ⊢
    refine lv_aload_n hx hb dX14_pointing_5 rfl (lv_at hl 0 rfl) ?_
    refine lv_aload_n hx hb dX14_pointing_6 rfl (lv_at hl 0 rfl) ?_
    refine va_get (D := rD g) (ci := 13) (v := .ref (ad 13)) (C := RX14) (T := TX14) (N := 143) hx hb hts in2X14 hown hR.K hR.P 0 (hR.at14 hR.w.1) rfl 30 (by decide) (hts _ kx_267) (fun _ h9 => h9) (congrArg (fun z => some (vf ad z)) (hR.w.2.1 _ fin_30).1) dX14_pointing_7 ?_
    refine lv_iload_n hx hb dX14_pointing_10 rfl (lv_at hl 1 rfl) ?_
    obtain ⟨hv4, h⟩ := h
    refine va_iald hx hb hR.K hR.P 13 1 (hR.atI (hR.w.2.1 _ fin_30).2.1) rfl (k_ixN (k_ix (n := 24) (x := x1) (a := x1.toInt) rfl hv4) (hR.w.2.1 _ fin_30).2.2) dX14_pointing_11 ?_
    refine lv_topi (fun z5 ez5 => ?_)
    obtain rfl : z5 = (qI S2 13 x1.toInt.toNat) := ez5
    refine va_put (D := rD g) (ci := 13) (v := .int (qI S2 13 x1.toInt.toNat)) (ty := .int) (C := RX14) (T := TX14) (N := 143) hx hb hts in2X14 tyX14 tyX14_ok nmX14 hown hR.K hR.P hR.D hR.sS 0 (hR.at14 hR.w.1) rfl 46 (by decide) (hts _ kx_306) (fun _ h9 => h9) rfl (by decide +kernel) rfl rfl (Nat.le_of_ble_eq_true rfl) dX14_pointing_12 (fun H locs hP hD hS => ?_)
    have hR : Rep g ad A s (wI S2 0 46 (qI S2 13 x1.toInt.toNat)) H locs := hR.pI hR.w.1 F14_s46 hP hD hS
    obtain ⟨S6, eS6⟩ : ∃ z, z = wI S2 0 46 (qI S2 13 x1.toInt.toNat) := ⟨_, rfl⟩
    rw [← eS6] at hR
    replace h := h S6 eS6
    have hT_p2 : qT S6 p2 = 11 := (congrArg (fun z => qT z p2) eS6).trans hT_p2
    have hsh : shy S S6 := by rw [eS6]; exact hsh
    refine lv_aload_n hx hb dX14_pointing_15 rfl (lv_at hl 2 rfl) ?_
    obtain ⟨hv7, h⟩ := h
    have hT_b8 : qT S6 (qO S6 p2 14) = 2 := hR.w.ref hv7 hT_p2
    refine va_get (D := rD g) (ci := 12) (v := .ref (ad (qO S6 p2 14))) (C := RX13) (T := TX13) (N := 23) hx hb hts in2X13 hown hR.K hR.P p2 (hR.at13 hT_p2) rfl 14 (by decide) (hts _ kx_368) (fun _ h9 => h9) (congrArg (fun z => some (vf ad z)) hv7) dX14_pointing_16 ?_
    refine lv_iload_n hx hb dX14_pointing_19 rfl (lv_at hl 1 rfl) ?_
    refine lv_aload_n hx hb dX14_pointing_20 rfl (lv_at hl 0 rfl) ?_
    refine va_get (D := rD g) (ci := 13) (v := .int (qI S6 0 41)) (C := RX14) (T := TX14) (N := 143) hx hb hts in2X14 hown hR.K hR.P 0 (hR.at14 hR.w.1) rfl 41 (by decide) (hts _ kx_297) (fun _ h9 => h9) rfl dX14_pointing_21 ?_
    obtain ⟨hv9, h⟩ := h
    refine va_iast hx hb hR.K hR.P hR.D hR.sS (qO S6 p2 14) 1 (hR.atI hT_b8) rfl (k_ix (x := x1) (a := x1.toInt) rfl hv9) dX14_pointing_24 (fun H locs hP hD hS => ?_)
    have hR : Rep g ad A s (wI S6 (qO S6 p2 14) x1.toInt.toNat (qI S6 0 41)) H locs := hR.aI hT_b8 hP hD hS
    obtain ⟨S10, eS10⟩ : ∃ z, z = wI S6 (qO S6 p2 14) x1.toInt.toNat (qI S6 0 41) := ⟨_, rfl⟩
    rw [← eS10] at hR
    replace h := h S10 eS10
    have hT_p2 : qT S10 p2 = 11 := (congrArg (fun z => qT z p2) eS10).trans hT_p2
    have hsh : shy S S10 := by rw [eS10]; exact hsh
    refine lv_aload_n hx hb dX14_pointing_25 rfl (lv_at hl 2 rfl) ?_
    obtain ⟨hv11, h⟩ := h
    have hT_b12 : qT S10 (qO S10 p2 15) = 2 := hR.w.ref hv11 hT_p2
    refine va_get (D := rD g) (ci := 12) (v := .ref (ad (qO S10 p2 15))) (C := RX13) (T := TX13) (N := 23) hx hb hts in2X13 hown hR.K hR.P p2 (hR.at13 hT_p2) rfl 15 (by decide) (hts _ kx_361) (fun _ h9 => h9) (congrArg (fun z => some (vf ad z)) hv11) dX14_pointing_26 ?_
    refine lv_iload_n hx hb dX14_pointing_29 rfl (lv_at hl 1 rfl) ?_
    refine lv_aload_n hx hb dX14_pointing_30 rfl (lv_at hl 0 rfl) ?_
    refine va_get (D := rD g) (ci := 13) (v := .int (qI S10 0 39)) (C := RX14) (T := TX14) (N := 143) hx hb hts in2X14 hown hR.K hR.P 0 (hR.at14 hR.w.1) rfl 39 (by decide) (hts _ kx_294) (fun _ h9 => h9) rfl dX14_pointing_31 ?_
    obtain ⟨hv13, h⟩ := h
    refine va_iast hx hb hR.K hR.P hR.D hR.sS (qO S10 p2 15) 1 (hR.atI hT_b12) rfl (k_ix (x := x1) (a := x1.toInt) rfl hv13) dX14_pointing_34 (fun H locs hP hD hS => ?_)
    have hR : Rep g ad A s (wI S10 (qO S10 p2 15) x1.toInt.toNat (qI S10 0 39)) H locs := hR.aI hT_b12 hP hD hS
    obtain ⟨S14, eS14⟩ : ∃ z, z = wI S10 (qO S10 p2 15) x1.toInt.toNat (qI S10 0 39) := ⟨_, rfl⟩
    rw [← eS14] at hR
    replace h := h S14 eS14
    have hT_p2 : qT S14 p2 = 11 := (congrArg (fun z => qT z p2) eS14).trans hT_p2
    have hsh : shy S S14 := by rw [eS14]; exact hsh
    refine lv_aload_n hx hb dX14_pointing_35 rfl (lv_at hl 2 rfl) ?_
    obtain ⟨hv15, h⟩ := h
    have hT_b16 : qT S14 (qO S14 p2 16) = 2 := hR.w.ref hv15 hT_p2
    refine va_get (D := rD g) (ci := 12) (v := .ref (ad (qO S14 p2 16))) (C := RX13) (T := TX13) (N := 23) hx hb hts in2X13 hown hR.K hR.P p2 (hR.at13 hT_p2) rfl 16 (by decide) (hts _ kx_371) (fun _ h9 => h9) (congrArg (fun z => some (vf ad z)) hv15) dX14_pointing_36 ?_
    refine lv_iload_n hx hb dX14_pointing_39 rfl (lv_at hl 1 rfl) ?_
    refine lv_aload_n hx hb dX14_pointing_40 rfl (lv_at hl 0 rfl) ?_
    refine va_get (D := rD g) (ci := 13) (v := .int (qI S14 0 45)) (C := RX14) (T := TX14) (N := 143) hx hb hts in2X14 hown hR.K hR.P 0 (hR.at14 hR.w.1) rfl 45 (by decide) (hts _ kx_332) (fun _ h9 => h9) rfl dX14_pointing_41 ?_
    obtain ⟨hv17, h⟩ := h
    refine va_iast hx hb hR.K hR.P hR.D hR.sS (qO S14 p2 16) 1 (hR.atI hT_b16) rfl (k_ix (x := x1) (a := x1.toInt) rfl hv17) dX14_pointing_44 (fun H locs hP hD hS => ?_)
    have hR : Rep g ad A s (wI S14 (qO S14 p2 16) x1.toInt.toNat (qI S14 0 45)) H locs := hR.aI hT_b16 hP hD hS
    obtain ⟨S18, eS18⟩ : ∃ z, z = wI S14 (qO S14 p2 16) x1.toInt.toNat (qI S14 0 45) := ⟨_, rfl⟩
    rw [← eS18] at hR
    replace h := h S18 eS18
    have hT_p2 : qT S18 p2 = 11 := (congrArg (fun z => qT z p2) eS18).trans hT_p2
    have hsh : shy S S18 := by rw [eS18]; exact hsh
    refine lv_aload_n hx hb dX14_pointing_45 rfl (lv_at hl 2 rfl) ?_
    obtain ⟨hv19, h⟩ := h
    have hT_b20 : qT S18 (qO S18 p2 17) = 2 := hR.w.ref hv19 hT_p2
    refine va_get (D := rD g) (ci := 12) (v := .ref (ad (qO S18 p2 17))) (C := RX13) (T := TX13) (N := 23) hx hb hts in2X13 hown hR.K hR.P p2 (hR.at13 hT_p2) rfl 17 (by decide) (hts _ kx_373) (fun _ h9 => h9) (congrArg (fun z => some (vf ad z)) hv19) dX14_pointing_46 ?_
    refine lv_iload_n hx hb dX14_pointing_49 rfl (lv_at hl 1 rfl) ?_
    refine lv_aload_n hx hb dX14_pointing_50 rfl (lv_at hl 0 rfl) ?_
    refine va_get (D := rD g) (ci := 13) (v := .ref (ad 17)) (C := RX14) (T := TX14) (N := 143) hx hb hts in2X14 hown hR.K hR.P 0 (hR.at14 hR.w.1) rfl 34 (by decide) (hts _ kx_270) (fun _ h9 => h9) (congrArg (fun z => some (vf ad z)) (hR.w.2.1 _ fin_34).1) dX14_pointing_51 ?_
    refine lv_iload_n hx hb dX14_pointing_54 rfl (lv_at hl 1 rfl) ?_
    obtain ⟨hv21, h⟩ := h
    refine va_iald hx hb hR.K hR.P 17 1 (hR.atI (hR.w.2.1 _ fin_34).2.1) rfl (k_ixN (k_ix (n := 24) (x := x1) (a := x1.toInt) rfl hv21) (hR.w.2.1 _ fin_34).2.2) dX14_pointing_55 ?_
    refine lv_topi (fun z22 ez22 => ?_)
    obtain rfl : z22 = (qI S18 17 x1.toInt.toNat) := ez22
    obtain ⟨hv23, h⟩ := h
    refine va_iast hx hb hR.K hR.P hR.D hR.sS (qO S18 p2 17) 1 (hR.atI hT_b20) rfl (k_ix (x := x1) (a := x1.toInt) rfl hv23) dX14_pointing_56 (fun H locs hP hD hS => ?_)
    have hR : Rep g ad A s (wI S18 (qO S18 p2 17) x1.toInt.toNat (qI S18 17 x1.toInt.toNat)) H locs := hR.aI hT_b20 hP hD hS
    obtain ⟨S24, eS24⟩ : ∃ z, z = wI S18 (qO S18 p2 17) x1.toInt.toNat (qI S18 17 x1.toInt.toNat) := ⟨_, rfl⟩
    rw [← eS24] at hR
    replace h := h S24 eS24
    have hT_p2 : qT S24 p2 = 11 := (congrArg (fun z => qT z p2) eS24).trans hT_p2
    have hsh : shy S S24 := by rw [eS24]; exact hsh
    refine lv_iconst (v := 0) hx hb dX14_pointing_57 (by decide) ?_
    refine lv_istore_n (lv' := [(3, .int 0), (0, .ref (ad 0)), (1, .int x1), (2, .ref (ad p2))]) hx hb dX14_pointing_58 rfl hl (by decide) rfl (fun ls hl => ?_)
    have J_59 : ∀ (n59 : Nat) (U59 : MS) (v59_1 : Int32) (v59_3 : Int32) (H : Heap) (locs : List Loc) (ls : Array Slot), w_pointing_L59 Q E n59 U59 v59_1 v59_3 → shy S U59 → Rep g ad A s U59 H locs → lv_has ls 4 [(0, .ref (ad 0)), (1, .int v59_1), (3, .int v59_3)] → W p l e (headSpec (wt2 yX14_pointing cX14_pointing 4 none) ({ frames := 7, cells := 0, slots := 0, locals := 156 })).room s m ([.ref (ad 0), .int x1, .ref (ad p2)] : List Value).toArray below meth c H locs 0 0 (vx_MQ below (va_Qv (fun (u : MS) => Q u ∧ wfM u ∧ shy S u) (fun (u : MS) (t : State) => qE g ad A u t) A) ((vx_X (fun (u : MS) => E u ∧ wfM u ∧ shy S u) (fun (n9 : String) (u : MS) (t : State) => n9 = RJxb5711 ∧ qE g ad A u t) A)) ([.ref (ad 0), .int x1, .ref (ad p2)] : List Value).toArray s 0 0 A) (F0 m 59 ls []) := by
      intro n59
      induction n59 with
      | zero => intro U59 v59_1 v59_3 H locs ls h hsh hR hl; unfold w_pointing_L59 at h; exact h.elim
      | succ n59 ih_59 =>
        intro U59 v59_1 v59_3 H locs ls h hsh hR hl
        unfold w_pointing_L59 at h
        refine lv_iload_n hx hb dX14_pointing_59 rfl (lv_at hl 2 rfl) ?_
        refine lv_aload_n hx hb dX14_pointing_60 rfl (lv_at hl 0 rfl) ?_
        refine va_get (D := rD g) (ci := 13) (v := .int (qI U59 0 37)) (C := RX14) (T := TX14) (N := 143) hx hb hts in2X14 hown hR.K hR.P 0 (hR.at14 hR.w.1) rfl 37 (by decide) (hts _ kx_281) (fun _ h9 => h9) rfl dX14_pointing_61 ?_
        refine lv_icmp_ge (tgt := 87) hx hb dX14_pointing_64 (by decide) (fun c25 => ?_) (fun c25 => ?_)
        · replace h := h.1 (k_le rfl rfl c25)
          refine lv_iconst (v := 0) hx hb dX14_pointing_87 (by decide) ?_
          refine lv_istore_n (lv' := [(3, .int 0), (0, .ref (ad 0)), (1, .int v59_1)]) hx hb dX14_pointing_88 rfl hl (by decide) rfl (fun ls hl => ?_)
          have J_89 : ∀ (n89 : Nat) (U89 : MS) (v89_1 : Int32) (v89_3 : Int32) (H : Heap) (locs : List Loc) (ls : Array Slot), w_pointing_L89 Q E n89 U89 v89_1 v89_3 → shy S U89 → Rep g ad A s U89 H locs → lv_has ls 4 [(0, .ref (ad 0)), (1, .int v89_1), (3, .int v89_3)] → W p l e (headSpec (wt2 yX14_pointing cX14_pointing 4 none) ({ frames := 7, cells := 0, slots := 0, locals := 156 })).room s m ([.ref (ad 0), .int x1, .ref (ad p2)] : List Value).toArray below meth c H locs 0 0 (vx_MQ below (va_Qv (fun (u : MS) => Q u ∧ wfM u ∧ shy S u) (fun (u : MS) (t : State) => qE g ad A u t) A) ((vx_X (fun (u : MS) => E u ∧ wfM u ∧ shy S u) (fun (n9 : String) (u : MS) (t : State) => n9 = RJxb5711 ∧ qE g ad A u t) A)) ([.ref (ad 0), .int x1, .ref (ad p2)] : List Value).toArray s 0 0 A) (F0 m 89 ls []) := by
            intro n89
            induction n89 with
            | zero => intro U89 v89_1 v89_3 H locs ls h hsh hR hl; unfold w_pointing_L89 at h; exact h.elim
            | succ n89 ih_89 =>
              intro U89 v89_1 v89_3 H locs ls h hsh hR hl
              unfold w_pointing_L89 at h
              refine lv_iload_n hx hb dX14_pointing_89 rfl (lv_at hl 2 rfl) ?_
              refine lv_aload_n hx hb dX14_pointing_90 rfl (lv_at hl 0 rfl) ?_
              refine va_get (D := rD g) (ci := 13) (v := .ref (ad 17)) (C := RX14) (T := TX14) (N := 143) hx hb hts in2X14 hown hR.K hR.P 0 (hR.at14 hR.w.1) rfl 34 (by decide) (hts _ kx_270) (fun _ h9 => h9) (congrArg (fun z => some (vf ad z)) (hR.w.2.1 _ fin_34).1) dX14_pointing_91 ?_
              refine lv_iload_n hx hb dX14_pointing_94 rfl (lv_at hl 1 rfl) ?_
              obtain ⟨hv26, h⟩ := h
              refine va_iald hx hb hR.K hR.P 17 1 (hR.atI (hR.w.2.1 _ fin_34).2.1) rfl (k_ixN (k_ix (n := 24) (x := v89_1) (a := v89_1.toInt) rfl hv26) (hR.w.2.1 _ fin_34).2.2) dX14_pointing_95 ?_
              refine lv_topi (fun z27 ez27 => ?_)
              obtain rfl : z27 = (qI U89 17 v89_1.toInt.toNat) := ez27
              refine lv_icmp_ge (tgt := 120) hx hb dX14_pointing_96 (by decide) (fun c28 => ?_) (fun c28 => ?_)
              · replace h := h.1 (k_le rfl rfl c28)
                exact vx_ret (W.vret hx hb hr (fun t9 ht9 hW9 => ⟨⟨U89, rfl, ⟨h, hR.w, hsh⟩, ⟨by rw [ht9]; exact hR.P, hR.D⟩⟩, hR.sS.F ht9⟩) hR.sS.2.2 dX14_pointing_120)
              · replace h := h.2 (k_nle rfl rfl c28)
                refine lv_aload_n hx hb dX14_pointing_99 rfl (lv_at hl 0 rfl) ?_
                refine lv_aload_n hx hb dX14_pointing_100 rfl (lv_at hl 0 rfl) ?_
                refine va_get (D := rD g) (ci := 13) (v := .ref (ad 16)) (C := RX14) (T := TX14) (N := 143) hx hb hts in2X14 hown hR.K hR.P 0 (hR.at14 hR.w.1) rfl 33 (by decide) (hts _ kx_271) (fun _ h9 => h9) (congrArg (fun z => some (vf ad z)) (hR.w.2.1 _ fin_33).1) dX14_pointing_101 ?_
                refine lv_iload_n hx hb dX14_pointing_104 rfl (lv_at hl 1 rfl) ?_
                obtain ⟨hv29, h⟩ := h
                refine va_iald hx hb hR.K hR.P 16 1 (hR.atI (hR.w.2.1 _ fin_33).2.1) rfl (k_ixN (k_ix (n := 24) (x := v89_1) (a := v89_1.toInt) rfl hv29) (hR.w.2.1 _ fin_33).2.2) dX14_pointing_105 ?_
                refine lv_topi (fun z30 ez30 => ?_)
                obtain rfl : z30 = (qI U89 16 v89_1.toInt.toNat) := ez30
                refine lv_bipush (v := 8) hx hb dX14_pointing_106 (by decide) ?_
                refine lv_iload_n hx hb dX14_pointing_108 rfl (lv_at hl 2 rfl) ?_
                refine lv_imul hx hb dX14_pointing_109 ?_
                refine lv_topi (fun z31 ez31 => ?_)
                obtain rfl : z31 = ((8 : Int32) * v89_3) := ez31
                refine lv_iadd hx hb dX14_pointing_110 ?_
                refine lv_topi (fun z32 ez32 => ?_)
                obtain rfl : z32 = ((qI U89 16 v89_1.toInt.toNat) + ((8 : Int32) * v89_3)) := ez32
                obtain ⟨Q33, EQ33, h0, h⟩ := h
                have hFc := rfree hR hA
                refine vx_callv (vx_runV (As := [.int ((qI U89 16 v89_1.toInt.toNat) + ((8 : Int32) * v89_3))]) (rest := []) ⟨hx, hb, hml, hown, hts⟩ (r_caught l g ad H.size U89 ((qI U89 16 v89_1.toInt.toNat) + ((8 : Int32) * v89_3)) hR.w  Q33 EQ33 h0) (cwV 1 hts (gd2_V kx_1029 kx_1030 kx_1031 kx_177 kx_1032) rfl rfl rfl (by decide +kernel) ⟨Nat.le_of_ble_eq_true rfl, Nat.le_of_ble_eq_true rfl⟩) ⟨rblind, va_recv hR.K hR.P (ci := 13) (q0 := 0) rfl (hR.at14 hR.w.1), fun U hU hW9 => rmk hU hW9 hR hex hE hFc⟩ rfl rfl hl.1 rfl (lv_room (Nat.le_of_ble_eq_true rfl)) dX14_pointing_111 ⟨Nat.le_of_ble_eq_true rfl, Nat.le_of_ble_eq_true rfl⟩) hR.sS (fun q _ h => hFc q h) hFc (fun q _ h => hFc q h) (fun E9 ce9 q9 u9 t9 H1 locs ht9 hvm9 hp9 hB9 hz9 hk9 hS hce9 hcv9 hcl9 => ?_) (fun  S34 t9 H1 locs ht9 hvm9 hw9 hB9 hz9 hk9 hS => ?_)
                · obtain ⟨hp9, hwx, hsx⟩ := hp9
                  obtain ⟨rfl, hBx⟩ := hB9
                  replace h := h.2 u9 hp9
                  have hR : Rep g ad A s u9 H1 locs := hR.call ht9 hBx hwx hS hFc
                  have hsh := hsh.tr hsx
                  exact vx_out (E := RJxb5711) (q := q9) (fun x h9 => (hnt x h9).elim) hlocks hce9 hcv9 hcl9 (fun t9 ht9 ha9 => ⟨u9, ⟨h, hR.w, hsh⟩, ⟨rfl, by rw [ht9]; exact hR.P, hR.D⟩, hR.sS.F ht9⟩) hR.sS.2.2 (Nat.le_of_ble_eq_true rfl) (Nat.le_of_ble_eq_true rfl)
                · obtain ⟨hq35, hw9, hs9⟩ := hw9
                  have hR : Rep g ad A s S34 H1 locs := hR.call ht9 hB9 hw9 hS hFc
                  have hsh := hsh.tr hs9
                  replace h := h.1  S34 hq35
                  clear hB9 hz9 hk9 hvm9 ht9 hw9 hs9 hS
                  generalize H1 = H at hR ⊢
                  obtain ⟨a36, ea36⟩ : ∃ z, z = (v89_3 + Int32.ofInt 1) := ⟨_, rfl⟩
                  replace h := h a36 ea36
                  refine lv_iinc (v := a36) (lv' := [(3, .int a36), (0, .ref (ad 0)), (1, .int v89_1)]) hx hb dX14_pointing_114 hl (k := 2) rfl ea36.symm (by decide) rfl (fun ls hl => ?_)
                  refine lv_goto (tgt := 89) hx hb dX14_pointing_117 (by decide) ?_
                  exact ih_89 S34 v89_1 a36 _ _ ls h  hsh hR (lv_sub hl [1, 2, 0] rfl)
          obtain ⟨n9, h⟩ := h
          exact J_89 n9 U59 v59_1 0 _ _ ls h  hsh hR (lv_sub hl [1, 2, 0] rfl)
        · replace h := h.2 (k_nle rfl rfl c25)
          refine lv_aload_n hx hb dX14_pointing_67 rfl (lv_at hl 0 rfl) ?_
          refine va_get (D := rD g) (ci := 13) (v := .ref (ad 18)) (C := RX14) (T := TX14) (N := 143) hx hb hts in2X14 hown hR.K hR.P 0 (hR.at14 hR.w.1) rfl 38 (by decide) (hts _ kx_295) (fun _ h9 => h9) (congrArg (fun z => some (vf ad z)) (hR.w.2.1 _ fin_38).1) dX14_pointing_68 ?_
          refine lv_iload_n hx hb dX14_pointing_71 rfl (lv_at hl 2 rfl) ?_
          obtain ⟨hv37, h⟩ := h
          refine va_iald hx hb hR.K hR.P 18 1 (hR.atI (hR.w.2.1 _ fin_38).2.1) rfl (k_ixN (k_ix (n := 1201) (x := v59_3) (a := v59_3.toInt) rfl hv37) (hR.w.2.1 _ fin_38).2.2) dX14_pointing_72 ?_
          refine lv_topi (fun z38 ez38 => ?_)
          obtain rfl : z38 = (qI U59 18 v59_3.toInt.toNat) := ez38
          have J_81 : ∀ (U81 : MS) (v81_1 : Int32) (v81_3 : Int32) (H : Heap) (locs : List Loc) (ls : Array Slot), w_pointing_J81 Q E (w_pointing_L59 Q E n59) U81 v81_1 v81_3 → shy S U81 → Rep g ad A s U81 H locs → lv_has ls 4 [(0, .ref (ad 0)), (1, .int v81_1), (3, .int v81_3)] → W p l e (headSpec (wt2 yX14_pointing cX14_pointing 4 none) ({ frames := 7, cells := 0, slots := 0, locals := 156 })).room s m ([.ref (ad 0), .int x1, .ref (ad p2)] : List Value).toArray below meth c H locs 0 0 (vx_MQ below (va_Qv (fun (u : MS) => Q u ∧ wfM u ∧ shy S u) (fun (u : MS) (t : State) => qE g ad A u t) A) ((vx_X (fun (u : MS) => E u ∧ wfM u ∧ shy S u) (fun (n9 : String) (u : MS) (t : State) => n9 = RJxb5711 ∧ qE g ad A u t) A)) ([.ref (ad 0), .int x1, .ref (ad p2)] : List Value).toArray s 0 0 A) (F0 m 81 ls []) := by
            intro U81 v81_1 v81_3 H locs ls h hsh hR hl
            unfold w_pointing_J81 at h
            obtain ⟨a39, ea39⟩ : ∃ z, z = (v81_3 + Int32.ofInt 1) := ⟨_, rfl⟩
            replace h := h a39 ea39
            refine lv_iinc (v := a39) (lv' := [(3, .int a39), (0, .ref (ad 0)), (1, .int v81_1)]) hx hb dX14_pointing_81 hl (k := 2) rfl ea39.symm (by decide) rfl (fun ls hl => ?_)
            refine lv_goto (tgt := 59) hx hb dX14_pointing_84 (by decide) ?_
            exact ih_59 U81 v81_1 a39 _ _ ls h  hsh hR (lv_sub hl [1, 2, 0] rfl)
          refine lv_if_lt (tgt := 81) hx hb dX14_pointing_73 (by decide) (fun c40 => ?_) (fun c40 => ?_)
          · replace h := h.1 (k_lt rfl (by decide) c40)
            exact J_81 U59 v59_1 v59_3 _ _ ls h  hsh hR (lv_sub hl [0, 1, 2] rfl)
          · replace h := h.2 (k_nlt rfl (by decide) c40)
            refine lv_aload_n hx hb dX14_pointing_76 rfl (lv_at hl 0 rfl) ?_
            refine lv_iload_n hx hb dX14_pointing_77 rfl (lv_at hl 2 rfl) ?_
            obtain ⟨Q41, EQ41, h0, h⟩ := h
            have hFc := rfree hR hA
            refine vx_callv (vx_runV (As := [.int v59_3]) (rest := []) ⟨hx, hb, hml, hown, hts⟩ (r_instruction l g ad H.size U59 v59_3 hR.w  Q41 EQ41 h0) (cwV 1 hts (gd2_V kx_1033 kx_1034 kx_1035 kx_177 kx_1036) rfl rfl rfl (by decide +kernel) ⟨Nat.le_of_ble_eq_true rfl, Nat.le_of_ble_eq_true rfl⟩) ⟨rblind, va_recv hR.K hR.P (ci := 13) (q0 := 0) rfl (hR.at14 hR.w.1), fun U hU hW9 => rmk hU hW9 hR hex hE hFc⟩ rfl rfl hl.1 rfl (lv_room (Nat.le_of_ble_eq_true rfl)) dX14_pointing_78 ⟨Nat.le_of_ble_eq_true rfl, Nat.le_of_ble_eq_true rfl⟩) hR.sS (fun q _ h => hFc q h) hFc (fun q _ h => hFc q h) (fun E9 ce9 q9 u9 t9 H1 locs ht9 hvm9 hp9 hB9 hz9 hk9 hS hce9 hcv9 hcl9 => ?_) (fun  S42 t9 H1 locs ht9 hvm9 hw9 hB9 hz9 hk9 hS => ?_)
            · obtain ⟨hp9, hwx, hsx⟩ := hp9
              obtain ⟨rfl, hBx⟩ := hB9
              replace h := h.2 u9 hp9
              have hR : Rep g ad A s u9 H1 locs := hR.call ht9 hBx hwx hS hFc
              have hsh := hsh.tr hsx
              exact vx_out (E := RJxb5711) (q := q9) (fun x h9 => (hnt x h9).elim) hlocks hce9 hcv9 hcl9 (fun t9 ht9 ha9 => ⟨u9, ⟨h, hR.w, hsh⟩, ⟨rfl, by rw [ht9]; exact hR.P, hR.D⟩, hR.sS.F ht9⟩) hR.sS.2.2 (Nat.le_of_ble_eq_true rfl) (Nat.le_of_ble_eq_true rfl)
            · obtain ⟨hq43, hw9, hs9⟩ := hw9
              have hR : Rep g ad A s S42 H1 locs := hR.call ht9 hB9 hw9 hS hFc
              have hsh := hsh.tr hs9
              replace h := h.1  S42 hq43
              clear hB9 hz9 hk9 hvm9 ht9 hw9 hs9 hS
              generalize H1 = H at hR ⊢
              exact J_81 S42 v59_1 v59_3 _ _ ls h  hsh hR (lv_sub hl [0, 1, 2] rfl)
    obtain ⟨n9, h⟩ := h
    exact J_59 n9 S24 x1 0 _ _ ls h  hsh hR (lv_sub hl [1, 2, 0] rfl)
def w_readFile_L330 (Q : Nat → MS → Prop) (E : MS → Prop) : Nat → MS → Int32 → Nat → Int32 → Prop
  | 0, _, _, _, _ => False
  | n330 + 1, U330, v330_3, v330_4, v330_5 => ((v330_3.toInt ≤ v330_5.toInt → (∃ Q79, w_firstInts U330 19 ((3 : Int32) * (qI U330 0 41)) Q79 ∧ ∀ b84 S81, Q79 b84 S81 → (∀ S85, S85 = wR S81 v330_4 18 (some b84) → (∃ Q86, w_firstInts S85 20 (qI S85 0 43) Q86 ∧ ∀ b91 S88, Q86 b91 S88 → (∀ S92, S92 = wR S88 v330_4 19 (some b91) → (∃ Q94, w_firstInts S92 21 ((4 : Int32) * (qI S92 0 45)) Q94 ∧ ∀ b99 S96, Q94 b99 S96 → (∀ S100, S100 = wR S96 v330_4 20 (some b99) → Q v330_4 S100))))))) ∧ (¬ v330_3.toInt ≤ v330_5.toInt → ((qR U330 v330_4 8 = some (qO U330 v330_4 8)) ∧ (((0 : Int) ≤ ((qI U330 0 22) + v330_5).toInt ∧ ((qI U330 0 22) + v330_5).toInt < 48) ∧ (d_two U330 ((qI U330 9 ((((qI U330 0 22) + v330_5).toInt).toNat)) + (2 : Int32)) ∧ (∃ Q110, w_text U330 (f_two U330 ((qI U330 9 ((((qI U330 0 22) + v330_5).toInt).toNat)) + (2 : Int32))) Q110 ∧ ∀ b115 S112, Q110 b115 S112 → (((0 : Int) ≤ v330_5.toInt ∧ v330_5.toInt < (qN S112 (qO U330 v330_4 8) : Int)) ∧ (∀ S117, S117 = wR S112 (qO U330 v330_4 8) v330_5.toInt.toNat (some b115) → (((0 : Int) ≤ ((qI S117 0 22) + v330_5).toInt ∧ ((qI S117 0 22) + v330_5).toInt < 48) ∧ (d_two S117 ((qI S117 9 ((((qI S117 0 22) + v330_5).toInt).toNat)) + (4 : Int32)) ∧ (∃ Q125, w_text S117 (f_two S117 ((qI S117 9 ((((qI S117 0 22) + v330_5).toInt).toNat)) + (4 : Int32))) Q125 ∧ ∀ b130 S127, Q125 b130 S127 → ((qR S127 v330_4 9 = some (qO S127 v330_4 9)) ∧ (((0 : Int) ≤ v330_5.toInt ∧ v330_5.toInt < (qN S127 (qO S127 v330_4 9) : Int)) ∧ (∀ S134, S134 = wR S127 (qO S127 v330_4 9) v330_5.toInt.toNat (some b130) → ((qR S134 v330_4 10 = some (qO S134 v330_4 10)) ∧ (∃ Q137, w_letters S134 b130 (1 : Int32) Q137 ∧ ∀ b142 S139, Q137 b142 S139 → (((0 : Int) ≤ v330_5.toInt ∧ v330_5.toInt < (qN S139 (qO S134 v330_4 10) : Int)) ∧ (∀ S144, S144 = wR S139 (qO S134 v330_4 10) v330_5.toInt.toNat (some b142) → ((qR S144 v330_4 11 = some (qO S144 v330_4 11)) ∧ (∃ Q147, w_closing S144 b130 Q147 ∧ ∀ r148 S149, Q147 r148 S149 → (∃ Q152, w_letters S149 b130 (r148 + (1 : Int32)) Q152 ∧ ∀ b157 S154, Q152 b157 S154 → (((0 : Int) ≤ v330_5.toInt ∧ v330_5.toInt < (qN S154 (qO S144 v330_4 11) : Int)) ∧ (∀ S159, S159 = wR S154 (qO S144 v330_4 11) v330_5.toInt.toNat (some b157) → ((qR S159 v330_4 12 = some (qO S159 v330_4 12)) ∧ (((0 : Int) ≤ v330_5.toInt ∧ v330_5.toInt < 24) ∧ (((0 : Int) ≤ v330_5.toInt ∧ v330_5.toInt < (qN S159 (qO S159 v330_4 12) : Int)) ∧ (∀ S165, S165 = wI S159 (qO S159 v330_4 12) v330_5.toInt.toNat (qI S159 12 v330_5.toInt.toNat) → ((qR S165 v330_4 13 = some (qO S165 v330_4 13)) ∧ (((0 : Int) ≤ v330_5.toInt ∧ v330_5.toInt < 24) ∧ (((0 : Int) ≤ v330_5.toInt ∧ v330_5.toInt < (qN S165 (qO S165 v330_4 13) : Int)) ∧ (∀ S171, S171 = wI S165 (qO S165 v330_4 13) v330_5.toInt.toNat (qI S165 13 v330_5.toInt.toNat) → (∀ a172 : Int32, a172 = (v330_5 + Int32.ofInt 1) → (w_readFile_L330 Q E n330) S171 v330_3 v330_4 a172))))))))))))))))))))))))))))))))
def w_readFile_L242 (Q : Nat → MS → Prop) (E : MS → Prop) : Nat → MS → Int32 → Nat → Int32 → Prop
  | 0, _, _, _, _ => False
  | n242 + 1, U242, v242_3, v242_4, v242_5 => (((qI U242 0 22).toInt ≤ v242_5.toInt → (∃ n, w_readFile_L330 Q E n U242 v242_3 v242_4 0)) ∧ (¬ (qI U242 0 22).toInt ≤ v242_5.toInt → ((qR U242 v242_4 5 = some (qO U242 v242_4 5)) ∧ (((0 : Int) ≤ v242_5.toInt ∧ v242_5.toInt < 48) ∧ (d_two U242 ((qI U242 9 v242_5.toInt.toNat) + (2 : Int32)) ∧ (∃ Q181, w_text U242 (f_two U242 ((qI U242 9 v242_5.toInt.toNat) + (2 : Int32))) Q181 ∧ ∀ b186 S183, Q181 b186 S183 → (((0 : Int) ≤ v242_5.toInt ∧ v242_5.toInt < (qN S183 (qO U242 v242_4 5) : Int)) ∧ (∀ S188, S188 = wR S183 (qO U242 v242_4 5) v242_5.toInt.toNat (some b186) → ((qR S188 v242_4 6 = some (qO S188 v242_4 6)) ∧ (((0 : Int) ≤ v242_5.toInt ∧ v242_5.toInt < 48) ∧ (d_two S188 ((qI S188 9 v242_5.toInt.toNat) + (4 : Int32)) ∧ (∃ Q197, w_text S188 (f_two S188 ((qI S188 9 v242_5.toInt.toNat) + (4 : Int32))) Q197 ∧ ∀ b202 S199, Q197 b202 S199 → (((0 : Int) ≤ v242_5.toInt ∧ v242_5.toInt < (qN S199 (qO S188 v242_4 6) : Int)) ∧ (∀ S204, S204 = wR S199 (qO S188 v242_4 6) v242_5.toInt.toNat (some b202) → ((qR S204 v242_4 7 = some (qO S204 v242_4 7)) ∧ ((qR S204 v242_4 6 = some (qO S204 v242_4 6)) ∧ (((0 : Int) ≤ v242_5.toInt ∧ v242_5.toInt < (qN S204 (qO S204 v242_4 6) : Int)) ∧ ((qR S204 (qO S204 v242_4 6) v242_5.toInt.toNat = some (qO S204 (qO S204 v242_4 6) v242_5.toInt.toNat)) ∧ (∃ Q212, w_letters S204 (qO S204 (qO S204 v242_4 6) v242_5.toInt.toNat) (0 : Int32) Q212 ∧ ∀ b217 S214, Q212 b217 S214 → (((0 : Int) ≤ v242_5.toInt ∧ v242_5.toInt < (qN S214 (qO S204 v242_4 7) : Int)) ∧ (∀ S219, S219 = wR S214 (qO S204 v242_4 7) v242_5.toInt.toNat (some b217) → (∀ a220 : Int32, a220 = (v242_5 + Int32.ofInt 1) → (w_readFile_L242 Q E n242) S219 v242_3 v242_4 a220))))))))))))))))))))))
def w_readFile_L147 (Q : Nat → MS → Prop) (E : MS → Prop) : Nat → MS → Int32 → Nat → Int32 → Prop
  | 0, _, _, _, _ => False
  | n147 + 1, U147, v147_3, v147_4, v147_5 => ((v147_3.toInt ≤ v147_5.toInt → (d_two U147 ((qI U147 0 20) + (2 : Int32)) ∧ (((0 : Int) ≤ (f_two U147 ((qI U147 0 20) + (2 : Int32))).toInt ∧ (f_two U147 ((qI U147 0 20) + (2 : Int32))).toInt < 502) ∧ (∃ Q53, w_text U147 (qI U147 6 (((f_two U147 ((qI U147 0 20) + (2 : Int32))).toInt).toNat)) Q53 ∧ ∀ b58 S55, Q53 b58 S55 → (∀ S59, S59 = wR S55 v147_4 0 (some b58) → (d_two S59 ((qI S59 0 20) + (4 : Int32)) ∧ (((0 : Int) ≤ (f_two S59 ((qI S59 0 20) + (4 : Int32))).toInt ∧ (f_two S59 ((qI S59 0 20) + (4 : Int32))).toInt < 502) ∧ (∃ Q66, w_text S59 (qI S59 6 (((f_two S59 ((qI S59 0 20) + (4 : Int32))).toInt).toNat)) Q66 ∧ ∀ b71 S68, Q66 b71 S68 → (∀ S72, S72 = wR S68 v147_4 1 (some b71) → (∀ S73, S73 = wI S72 v147_4 2 (qI S72 0 14) → (∀ S74, S74 = wI S73 v147_4 3 (qI S73 0 22) → (∀ S75, S75 = wI S74 v147_4 4 v147_3 → (∃ n, w_readFile_L242 Q E n S75 v147_3 v147_4 0))))))))))))) ∧ (¬ v147_3.toInt ≤ v147_5.toInt → (∃ Q221 EQ221, w_pointing U147 v147_5 v147_4 Q221 EQ221 ∧ (∀ S222, Q221 S222 → (∀ a224 : Int32, a224 = (v147_5 + Int32.ofInt 1) → (w_readFile_L147 Q E n147) S222 v147_3 v147_4 a224)) ∧ (∀ u9, EQ221 u9 → E u9))))
def w_readFile_L102 (Q : Nat → MS → Prop) (E : MS → Prop) : Nat → MS → Int32 → Int32 → Prop
  | 0, _, _, _ => False
  | n102 + 1, U102, v102_3, v102_4 => ((v102_3.toInt ≤ v102_4.toInt → (∀ S34, S34 = wI U102 0 41 0 → (∀ S35, S35 = wI S34 0 43 0 → (∀ S36, S36 = wI S35 0 45 0 → ((qn S36 + 1 ≤ KC ∧ qu S36 + 23 ≤ KS) ∧ (∀ S40, S40 = wN S36 11 0 23 → (∃ Q42, w_init S40 (qn S36) Q42 ∧ ∀ S43, Q42 S43 → (∃ n, w_readFile_L147 Q E n S43 v102_3 (qn S36) 0)))))))) ∧ (¬ v102_3.toInt ≤ v102_4.toInt → (∃ Q225 EQ225, w_wholes U102 v102_4 Q225 EQ225 ∧ (∀ S226, Q225 S226 → (∀ a228 : Int32, a228 = (v102_4 + Int32.ofInt 1) → (w_readFile_L102 Q E n102) S226 v102_3 a228)) ∧ (∀ u9, EQ225 u9 → E u9))))
def w_readFile_L81 (Q : Nat → MS → Prop) (E : MS → Prop) : Nat → MS → Int32 → Int32 → Prop
  | 0, _, _, _ => False
  | n81 + 1, U81, v81_3, v81_4 => ((v81_3.toInt ≤ v81_4.toInt → (∃ n, w_readFile_L102 Q E n U81 v81_3 0)) ∧ (¬ v81_3.toInt ≤ v81_4.toInt → (∃ Q229 EQ229, w_codeItems U81 v81_4 Q229 EQ229 ∧ (∀ S230, Q229 S230 → (∀ a232 : Int32, a232 = (v81_4 + Int32.ofInt 1) → (w_readFile_L81 Q E n81) S230 v81_3 a232)) ∧ (∀ u9, EQ229 u9 → E u9))))
def w_readFile_J59 (Q : Nat → MS → Prop) (E : MS → Prop) (U59 : MS) (t59_0 : Int32) : Prop := (∃ Q27 EQ27, w_must U59 t59_0 (17 : Int32) (qI U59 0 28) Q27 EQ27 ∧ (∀ S28, Q27 S28 → (∀ a31 : Int32, a31 = ((qI S28 0 21) - (qI S28 0 22)) → (∃ n, w_readFile_L81 Q E n S28 a31 0))) ∧ (∀ u9, EQ27 u9 → E u9))
def w_readFile (S : MS) (p1 : Nat) (x2 : Int32) (Q : Nat → MS → Prop) (E : MS → Prop) : Prop := (∀ S1, S1 = wR S 0 11 (some p1) → (∀ S2, S2 = wI S1 0 12 x2 → (∃ Q3 EQ3, w_layout S2 Q3 EQ3 ∧ (∀ S4, Q3 S4 → (∃ Q6 EQ6, w_entries S4 Q6 EQ6 ∧ (∀ S7, Q6 S7 → (∃ Q9 EQ9, w_flags S7 Q9 EQ9 ∧ (∀ S10, Q9 S10 → (∃ Q12 EQ12, w_classes S10 Q12 EQ12 ∧ (∀ S13, Q12 S13 → (∃ Q15 EQ15, w_names S13 Q15 EQ15 ∧ (∀ S16, Q15 S16 → (∃ Q18 EQ18, w_types S16 Q18 EQ18 ∧ (∀ S19, Q18 S19 → (∃ Q21 EQ21, w_twice S19 Q21 EQ21 ∧ (∀ S22, Q21 S22 → (∃ Q24 EQ24, w_codes S22 Q24 EQ24 ∧ (∀ S25, Q24 S25 → (((qI S25 0 28).toInt = (qI S25 0 12).toInt → w_readFile_J59 Q E S25 1) ∧ (¬ (qI S25 0 28).toInt = (qI S25 0 12).toInt → w_readFile_J59 Q E S25 0))) ∧ (∀ u9, EQ24 u9 → E u9))) ∧ (∀ u9, EQ21 u9 → E u9))) ∧ (∀ u9, EQ18 u9 → E u9))) ∧ (∀ u9, EQ15 u9 → E u9))) ∧ (∀ u9, EQ12 u9 → E u9))) ∧ (∀ u9, EQ9 u9 → E u9))) ∧ (∀ u9, EQ6 u9 → E u9))) ∧ (∀ u9, EQ3 u9 → E u9))))
set_option maxHeartbeats 2000000 in
set_option maxRecDepth 100000 in
theorem r_readFile (l : Launch) (g : Gr) (ad : Nat → Nat) (H0 : Heap) (S : MS) (p1 : Nat) (x2 : Int32) (hw : wfM S) (hT_p1 : qT S p1 = 1) (Q : Nat → MS → Prop) (E : MS → Prop) (h : w_readFile S p1 x2 Q E) : vx_Met l yX14_readFile (wt2 yX14_readFile cX14_readFile 7 (some (.object "CodeFoundryModel$File"))) ({ frames := 8, cells := KC - qn S, slots := KS - qu S, locals := 179 }) (va_Pc [.ref (ad 0), .ref (ad p1), .int x2] (st_RH g ad H0 S)) (va_Qq (fun (r : Option Nat) (u : MS × (Nat → Nat)) => ∃ b : Nat, r = some (u.2 b) ∧ Q b u.1 ∧ wfM u.1 ∧ shx S u.1 ∧ adk ad u.2 S ∧ qT u.1 b = 11) (fun (u : MS × (Nat → Nat)) (t : State) => qEH g (va_A (Wd g ad S) H0.size) S H0 u t) (va_A (Wd g ad S) H0.size)) (vx_X (fun (u : MS × (Nat → Nat)) => E u.1 ∧ wfM u.1 ∧ shx S u.1 ∧ adk ad u.2 S) (fun (n9 : String) (u : MS × (Nat → Nat)) (t : State) => n9 = RJxb5711 ∧ qEH g (va_A (Wd g ad S) H0.size) S H0 u t) (va_A (Wd g ad S) H0.size)) (KC - qn S) (KS - qu S) (va_A (Wd g ad S) H0.size) := by
  refine vx_ofW (cc := cX14_readFile) (maxL := 7) (ret := (some (.object "CodeFoundryModel$File"))) (by decide) rfl ?_
  intro p e s m args below meth c s₁ B hml hnt hv
  obtain ⟨rfl, hH0, hsz, hP, hK, hD0, hex, hE⟩ := hv
  have hx := B.exec
  have hb := B.bytes
  have hr := B.returns
  have hlocks := B.notSynchronized
  have hts0 := atoms_spec (ws := wt2 yX14_readFile cX14_readFile 7 (some (.object "CodeFoundryModel$File"))) B.pre
  have hts : ∀ w ∈ tb2, w.before _ s = true := fun w h => hts0 w (List.mem_cons_of_mem _ h)
  have hown : s.vm.findClass RX14 = some m.cls := findClass_of_methodNamed B.named
  subst hH0
  have hD := hD0.self (sz := s.heap.size)
  generalize hAe : va_A (Wd g ad S) s.heap.size = A at hD hE ⊢
  have hA : ∀ q : Nat, s.heap.size ≤ q → A q := fun q h => by rw [← hAe]; exact Or.inr h
  have hR : Rep g ad A s S s.heap [] := ⟨hK, hP, hD, va_S.rf, hw⟩
  clear hK hP hD hD0
  have hl := lv_entry ([.ref (ad 0), .ref (ad p1), .int x2]) (n := 7) (Nat.le_of_ble_eq_true rfl)
  rw [lg_entry_eq]
  generalize (lg_sl ([.ref (ad 0), .ref (ad p1), .int x2]) ++ List.replicate (7 - (lg_sl ([.ref (ad 0), .ref (ad p1), .int x2])).length) Slot.unset).toArray = ls at hl ⊢
  have hlg : lg S S 0 0 := lg.rf
  have hak : adk ad ad S := adk.rf
  have hl : lv_has ls 7 [(0, .ref (ad 0)), (1, .ref (ad p1)), (2, .int x2)] := hl
  have hsh : shx S S := shx.rf
  unfold w_readFile at h
  refine lv_aload_n hx hb dX14_readFile_0 rfl (lv_at hl 0 rfl) ?_
  refine lv_aload_n hx hb dX14_readFile_1 rfl (lv_at hl 1 rfl) ?_
  refine va_put (D := rD g) (ci := 13) (v := .ref (ad p1)) (ty := (.array .byte)) (C := RX14) (T := TX14) (N := 143) hx hb hts in2X14 tyX14 tyX14_ok nmX14 hown hR.K hR.P hR.D hR.sS 0 (hR.at14 hR.w.1) rfl 11 (by decide) (hts _ kx_181) (fun _ h9 => h9) rfl (by decide +kernel) rfl rfl (Nat.le_of_ble_eq_true rfl) dX14_readFile_2 (fun H locs hP hD hS => ?_)
  have hw9 : wfM (wR S 0 11 (some p1)) := hR.w.put (fun b q9 => by cases q9; exact (hT_p1).trans (by rw [hR.w.1]; rfl)) (fun _ => nofin_11) (by rw [hR.w.1]; decide)
  have hR : Rep g ad A s (wR S 0 11 (some p1)) H locs := hR.pR hR.w.1 F14_s11 hw9 hP hD hS
  obtain ⟨S1, eS1⟩ : ∃ z, z = wR S 0 11 (some p1) := ⟨_, rfl⟩
  rw [← eS1] at hR
  replace h := h S1 eS1
  have hT_p1 : qT S1 p1 = 1 := (congrArg (fun z => qT z p1) eS1).trans hT_p1
  have hsh : shx S S1 := by rw [eS1]; exact hsh
  have hlg : lg S S1 (0) (0) := by rw [eS1]; exact hlg
  refine lv_aload_n hx hb dX14_readFile_5 rfl (lv_at hl 0 rfl) ?_
  refine lv_iload_n hx hb dX14_readFile_6 rfl (lv_at hl 2 rfl) ?_
  refine va_put (D := rD g) (ci := 13) (v := .int x2) (ty := .int) (C := RX14) (T := TX14) (N := 143) hx hb hts in2X14 tyX14 tyX14_ok nmX14 hown hR.K hR.P hR.D hR.sS 0 (hR.at14 hR.w.1) rfl 12 (by decide) (hts _ kx_191) (fun _ h9 => h9) rfl (by decide +kernel) rfl rfl (Nat.le_of_ble_eq_true rfl) dX14_readFile_7 (fun H locs hP hD hS => ?_)
  have hR : Rep g ad A s (wI S1 0 12 x2) H locs := hR.pI hR.w.1 F14_s12 hP hD hS
  obtain ⟨S2, eS2⟩ : ∃ z, z = wI S1 0 12 x2 := ⟨_, rfl⟩
  rw [← eS2] at hR
  replace h := h S2 eS2
  have hT_p1 : qT S2 p1 = 1 := (congrArg (fun z => qT z p1) eS2).trans hT_p1
  have hsh : shx S S2 := by rw [eS2]; exact hsh
  have hlg : lg S S2 (0) (0) := by rw [eS2]; exact hlg
  refine lv_aload_n hx hb dX14_readFile_10 rfl (lv_at hl 0 rfl) ?_
  obtain ⟨Q3, EQ3, h0, h⟩ := h
  have hFc := rfree hR hA
  refine vx_callv (vx_runV (As := []) (rest := []) ⟨hx, hb, hml, hown, hts⟩ (r_layout l g ad H.size S2 hR.w  Q3 EQ3 h0) (cwV 0 hts (gd2_V kx_1037 kx_1038 kx_1039 kx_177 kx_1040) rfl rfl rfl (by decide +kernel) ⟨Nat.le_of_ble_eq_true rfl, Nat.le_of_ble_eq_true rfl⟩) ⟨rblind, va_recv hR.K hR.P (ci := 13) (q0 := 0) rfl (hR.at14 hR.w.1), fun U hU hW9 => rmk hU hW9 hR hex hE hFc⟩ rfl rfl hl.1 rfl (lv_room (Nat.le_of_ble_eq_true rfl)) dX14_readFile_11 ⟨(show 0 + 0 ≤ KC - qn S from hlg.c), (show 0 + 0 ≤ KS - qu S from hlg.s)⟩) hR.sS (fun q _ h => hFc q h) hFc (fun q _ h => hFc q h) (fun E9 ce9 q9 u9 t9 H1 locs ht9 hvm9 hp9 hB9 hz9 hk9 hS hce9 hcv9 hcl9 => ?_) (fun  S4 t9 H1 locs ht9 hvm9 hw9 hB9 hz9 hk9 hS => ?_)
  · obtain ⟨hp9, hwx, hsx⟩ := hp9
    obtain ⟨rfl, hBx⟩ := hB9
    replace h := h.2 u9 hp9
    have hR : Rep g ad A s u9 H1 locs := hR.call ht9 hBx hwx hS hFc
    have hsh := hsh.tr hsx.1
    have hlg : lg S u9 (0) (0) := hlg.same hsx
    refine vx_led2 (fun hLd => ?_)
    exact vx_out (E := RJxb5711) (q := q9) (fun x h9 => (hnt x h9).elim) hlocks hce9 hcv9 hcl9 (fun t9 ht9 ha9 => ⟨(u9, ad), ⟨h, hR.w, hsh, hak⟩, ⟨rfl, ⟨by rw [ht9]; exact hR.P, hR.D⟩, _, _, by rw [ht9]; exact hLd, hlg⟩, hR.sS.F ht9⟩) hR.sS.2.2 hlg.c hlg.s
  · obtain ⟨hq5, hw9, hs9⟩ := hw9
    have hR : Rep g ad A s S4 H1 locs := hR.call ht9 hB9 hw9 hS hFc
    have hsh := hsh.tr hs9.1
    have hlg : lg S S4 (0) (0) := hlg.same hs9
    replace h := h.1  S4 hq5
    have hT_p1 := hs9.T hT_p1 (by decide)
    clear hB9 hz9 hk9 hvm9 ht9 hw9 hs9 hS
    generalize H1 = H at hR ⊢
    refine lv_aload_n hx hb dX14_readFile_14 rfl (lv_at hl 0 rfl) ?_
    obtain ⟨Q6, EQ6, h0, h⟩ := h
    have hFc := rfree hR hA
    refine vx_callv (vx_runV (As := []) (rest := []) ⟨hx, hb, hml, hown, hts⟩ (r_entries l g ad H.size S4 hR.w  Q6 EQ6 h0) (cwV 0 hts (gd2_V kx_1041 kx_1042 kx_1043 kx_177 kx_1044) rfl rfl rfl (by decide +kernel) ⟨Nat.le_of_ble_eq_true rfl, Nat.le_of_ble_eq_true rfl⟩) ⟨rblind, va_recv hR.K hR.P (ci := 13) (q0 := 0) rfl (hR.at14 hR.w.1), fun U hU hW9 => rmk hU hW9 hR hex hE hFc⟩ rfl rfl hl.1 rfl (lv_room (Nat.le_of_ble_eq_true rfl)) dX14_readFile_15 ⟨(show 0 + 0 ≤ KC - qn S from hlg.c), (show 0 + 0 ≤ KS - qu S from hlg.s)⟩) hR.sS (fun q _ h => hFc q h) hFc (fun q _ h => hFc q h) (fun E9 ce9 q9 u9 t9 H1 locs ht9 hvm9 hp9 hB9 hz9 hk9 hS hce9 hcv9 hcl9 => ?_) (fun  S7 t9 H1 locs ht9 hvm9 hw9 hB9 hz9 hk9 hS => ?_)
    · obtain ⟨hp9, hwx, hsx⟩ := hp9
      obtain ⟨rfl, hBx⟩ := hB9
      replace h := h.2 u9 hp9
      have hR : Rep g ad A s u9 H1 locs := hR.call ht9 hBx hwx hS hFc
      have hsh := hsh.tr hsx.1
      have hlg : lg S u9 (0) (0) := hlg.same hsx
      refine vx_led2 (fun hLd => ?_)
      exact vx_out (E := RJxb5711) (q := q9) (fun x h9 => (hnt x h9).elim) hlocks hce9 hcv9 hcl9 (fun t9 ht9 ha9 => ⟨(u9, ad), ⟨h, hR.w, hsh, hak⟩, ⟨rfl, ⟨by rw [ht9]; exact hR.P, hR.D⟩, _, _, by rw [ht9]; exact hLd, hlg⟩, hR.sS.F ht9⟩) hR.sS.2.2 hlg.c hlg.s
    · obtain ⟨hq8, hw9, hs9⟩ := hw9
      have hR : Rep g ad A s S7 H1 locs := hR.call ht9 hB9 hw9 hS hFc
      have hsh := hsh.tr hs9.1
      have hlg : lg S S7 (0) (0) := hlg.same hs9
      replace h := h.1  S7 hq8
      have hT_p1 := hs9.T hT_p1 (by decide)
      clear hB9 hz9 hk9 hvm9 ht9 hw9 hs9 hS
      generalize H1 = H at hR ⊢
      refine lv_aload_n hx hb dX14_readFile_18 rfl (lv_at hl 0 rfl) ?_
      obtain ⟨Q9, EQ9, h0, h⟩ := h
      have hFc := rfree hR hA
      refine vx_callv (vx_runV (As := []) (rest := []) ⟨hx, hb, hml, hown, hts⟩ (r_flags l g ad H.size S7 hR.w  Q9 EQ9 h0) (cwV 0 hts (gd2_V kx_1045 kx_1046 kx_1047 kx_177 kx_1048) rfl rfl rfl (by decide +kernel) ⟨Nat.le_of_ble_eq_true rfl, Nat.le_of_ble_eq_true rfl⟩) ⟨rblind, va_recv hR.K hR.P (ci := 13) (q0 := 0) rfl (hR.at14 hR.w.1), fun U hU hW9 => rmk hU hW9 hR hex hE hFc⟩ rfl rfl hl.1 rfl (lv_room (Nat.le_of_ble_eq_true rfl)) dX14_readFile_19 ⟨(show 0 + 0 ≤ KC - qn S from hlg.c), (show 0 + 0 ≤ KS - qu S from hlg.s)⟩) hR.sS (fun q _ h => hFc q h) hFc (fun q _ h => hFc q h) (fun E9 ce9 q9 u9 t9 H1 locs ht9 hvm9 hp9 hB9 hz9 hk9 hS hce9 hcv9 hcl9 => ?_) (fun  S10 t9 H1 locs ht9 hvm9 hw9 hB9 hz9 hk9 hS => ?_)
      · obtain ⟨hp9, hwx, hsx⟩ := hp9
        obtain ⟨rfl, hBx⟩ := hB9
        replace h := h.2 u9 hp9
        have hR : Rep g ad A s u9 H1 locs := hR.call ht9 hBx hwx hS hFc
        have hsh := hsh.tr hsx.1
        have hlg : lg S u9 (0) (0) := hlg.same hsx
        refine vx_led2 (fun hLd => ?_)
        exact vx_out (E := RJxb5711) (q := q9) (fun x h9 => (hnt x h9).elim) hlocks hce9 hcv9 hcl9 (fun t9 ht9 ha9 => ⟨(u9, ad), ⟨h, hR.w, hsh, hak⟩, ⟨rfl, ⟨by rw [ht9]; exact hR.P, hR.D⟩, _, _, by rw [ht9]; exact hLd, hlg⟩, hR.sS.F ht9⟩) hR.sS.2.2 hlg.c hlg.s
      · obtain ⟨hq11, hw9, hs9⟩ := hw9
        have hR : Rep g ad A s S10 H1 locs := hR.call ht9 hB9 hw9 hS hFc
        have hsh := hsh.tr hs9.1
        have hlg : lg S S10 (0) (0) := hlg.same hs9
        replace h := h.1  S10 hq11
        have hT_p1 := hs9.T hT_p1 (by decide)
        clear hB9 hz9 hk9 hvm9 ht9 hw9 hs9 hS
        generalize H1 = H at hR ⊢
        refine lv_aload_n hx hb dX14_readFile_22 rfl (lv_at hl 0 rfl) ?_
        obtain ⟨Q12, EQ12, h0, h⟩ := h
        have hFc := rfree hR hA
        refine vx_callv (vx_runV (As := []) (rest := []) ⟨hx, hb, hml, hown, hts⟩ (r_classes l g ad H.size S10 hR.w  Q12 EQ12 h0) (cwV 0 hts (gd2_V kx_1049 kx_1050 kx_1051 kx_177 kx_1052) rfl rfl rfl (by decide +kernel) ⟨Nat.le_of_ble_eq_true rfl, Nat.le_of_ble_eq_true rfl⟩) ⟨rblind, va_recv hR.K hR.P (ci := 13) (q0 := 0) rfl (hR.at14 hR.w.1), fun U hU hW9 => rmk hU hW9 hR hex hE hFc⟩ rfl rfl hl.1 rfl (lv_room (Nat.le_of_ble_eq_true rfl)) dX14_readFile_23 ⟨(show 0 + 0 ≤ KC - qn S from hlg.c), (show 0 + 0 ≤ KS - qu S from hlg.s)⟩) hR.sS (fun q _ h => hFc q h) hFc (fun q _ h => hFc q h) (fun E9 ce9 q9 u9 t9 H1 locs ht9 hvm9 hp9 hB9 hz9 hk9 hS hce9 hcv9 hcl9 => ?_) (fun  S13 t9 H1 locs ht9 hvm9 hw9 hB9 hz9 hk9 hS => ?_)
        · obtain ⟨hp9, hwx, hsx⟩ := hp9
          obtain ⟨rfl, hBx⟩ := hB9
          replace h := h.2 u9 hp9
          have hR : Rep g ad A s u9 H1 locs := hR.call ht9 hBx hwx hS hFc
          have hsh := hsh.tr hsx.1
          have hlg : lg S u9 (0) (0) := hlg.same hsx
          refine vx_led2 (fun hLd => ?_)
          exact vx_out (E := RJxb5711) (q := q9) (fun x h9 => (hnt x h9).elim) hlocks hce9 hcv9 hcl9 (fun t9 ht9 ha9 => ⟨(u9, ad), ⟨h, hR.w, hsh, hak⟩, ⟨rfl, ⟨by rw [ht9]; exact hR.P, hR.D⟩, _, _, by rw [ht9]; exact hLd, hlg⟩, hR.sS.F ht9⟩) hR.sS.2.2 hlg.c hlg.s
        · obtain ⟨hq14, hw9, hs9⟩ := hw9
          have hR : Rep g ad A s S13 H1 locs := hR.call ht9 hB9 hw9 hS hFc
          have hsh := hsh.tr hs9.1
          have hlg : lg S S13 (0) (0) := hlg.same hs9
          replace h := h.1  S13 hq14
          have hT_p1 := hs9.T hT_p1 (by decide)
          clear hB9 hz9 hk9 hvm9 ht9 hw9 hs9 hS
          generalize H1 = H at hR ⊢
          refine lv_aload_n hx hb dX14_readFile_26 rfl (lv_at hl 0 rfl) ?_
          obtain ⟨Q15, EQ15, h0, h⟩ := h
          have hFc := rfree hR hA
          refine vx_callv (vx_runV (As := []) (rest := []) ⟨hx, hb, hml, hown, hts⟩ (r_names l g ad H.size S13 hR.w  Q15 EQ15 h0) (cwV 0 hts (gd2_V kx_1053 kx_1054 kx_1055 kx_177 kx_1056) rfl rfl rfl (by decide +kernel) ⟨Nat.le_of_ble_eq_true rfl, Nat.le_of_ble_eq_true rfl⟩) ⟨rblind, va_recv hR.K hR.P (ci := 13) (q0 := 0) rfl (hR.at14 hR.w.1), fun U hU hW9 => rmk hU hW9 hR hex hE hFc⟩ rfl rfl hl.1 rfl (lv_room (Nat.le_of_ble_eq_true rfl)) dX14_readFile_27 ⟨(show 0 + 0 ≤ KC - qn S from hlg.c), (show 0 + 0 ≤ KS - qu S from hlg.s)⟩) hR.sS (fun q _ h => hFc q h) hFc (fun q _ h => hFc q h) (fun E9 ce9 q9 u9 t9 H1 locs ht9 hvm9 hp9 hB9 hz9 hk9 hS hce9 hcv9 hcl9 => ?_) (fun  S16 t9 H1 locs ht9 hvm9 hw9 hB9 hz9 hk9 hS => ?_)
          · obtain ⟨hp9, hwx, hsx⟩ := hp9
            obtain ⟨rfl, hBx⟩ := hB9
            replace h := h.2 u9 hp9
            have hR : Rep g ad A s u9 H1 locs := hR.call ht9 hBx hwx hS hFc
            have hsh := hsh.tr hsx.1
            have hlg : lg S u9 (0) (0) := hlg.same hsx
            refine vx_led2 (fun hLd => ?_)
            exact vx_out (E := RJxb5711) (q := q9) (fun x h9 => (hnt x h9).elim) hlocks hce9 hcv9 hcl9 (fun t9 ht9 ha9 => ⟨(u9, ad), ⟨h, hR.w, hsh, hak⟩, ⟨rfl, ⟨by rw [ht9]; exact hR.P, hR.D⟩, _, _, by rw [ht9]; exact hLd, hlg⟩, hR.sS.F ht9⟩) hR.sS.2.2 hlg.c hlg.s
          · obtain ⟨hq17, hw9, hs9⟩ := hw9
            have hR : Rep g ad A s S16 H1 locs := hR.call ht9 hB9 hw9 hS hFc
            have hsh := hsh.tr hs9.1
            have hlg : lg S S16 (0) (0) := hlg.same hs9
            replace h := h.1  S16 hq17
            have hT_p1 := hs9.T hT_p1 (by decide)
            clear hB9 hz9 hk9 hvm9 ht9 hw9 hs9 hS
            generalize H1 = H at hR ⊢
            refine lv_aload_n hx hb dX14_readFile_30 rfl (lv_at hl 0 rfl) ?_
            obtain ⟨Q18, EQ18, h0, h⟩ := h
            have hFc := rfree hR hA
            refine vx_callv (vx_runV (As := []) (rest := []) ⟨hx, hb, hml, hown, hts⟩ (r_types l g ad H.size S16 hR.w  Q18 EQ18 h0) (cwV 0 hts (gd2_V kx_1057 kx_1058 kx_1059 kx_177 kx_1060) rfl rfl rfl (by decide +kernel) ⟨Nat.le_of_ble_eq_true rfl, Nat.le_of_ble_eq_true rfl⟩) ⟨rblind, va_recv hR.K hR.P (ci := 13) (q0 := 0) rfl (hR.at14 hR.w.1), fun U hU hW9 => rmk hU hW9 hR hex hE hFc⟩ rfl rfl hl.1 rfl (lv_room (Nat.le_of_ble_eq_true rfl)) dX14_readFile_31 ⟨(show 0 + 0 ≤ KC - qn S from hlg.c), (show 0 + 0 ≤ KS - qu S from hlg.s)⟩) hR.sS (fun q _ h => hFc q h) hFc (fun q _ h => hFc q h) (fun E9 ce9 q9 u9 t9 H1 locs ht9 hvm9 hp9 hB9 hz9 hk9 hS hce9 hcv9 hcl9 => ?_) (fun  S19 t9 H1 locs ht9 hvm9 hw9 hB9 hz9 hk9 hS => ?_)
            · obtain ⟨hp9, hwx, hsx⟩ := hp9
              obtain ⟨rfl, hBx⟩ := hB9
              replace h := h.2 u9 hp9
              have hR : Rep g ad A s u9 H1 locs := hR.call ht9 hBx hwx hS hFc
              have hsh := hsh.tr hsx.1
              have hlg : lg S u9 (0) (0) := hlg.same hsx
              refine vx_led2 (fun hLd => ?_)
              exact vx_out (E := RJxb5711) (q := q9) (fun x h9 => (hnt x h9).elim) hlocks hce9 hcv9 hcl9 (fun t9 ht9 ha9 => ⟨(u9, ad), ⟨h, hR.w, hsh, hak⟩, ⟨rfl, ⟨by rw [ht9]; exact hR.P, hR.D⟩, _, _, by rw [ht9]; exact hLd, hlg⟩, hR.sS.F ht9⟩) hR.sS.2.2 hlg.c hlg.s
            · obtain ⟨hq20, hw9, hs9⟩ := hw9
              have hR : Rep g ad A s S19 H1 locs := hR.call ht9 hB9 hw9 hS hFc
              have hsh := hsh.tr hs9.1
              have hlg : lg S S19 (0) (0) := hlg.same hs9
              replace h := h.1  S19 hq20
              have hT_p1 := hs9.T hT_p1 (by decide)
              clear hB9 hz9 hk9 hvm9 ht9 hw9 hs9 hS
              generalize H1 = H at hR ⊢
              refine lv_aload_n hx hb dX14_readFile_34 rfl (lv_at hl 0 rfl) ?_
              obtain ⟨Q21, EQ21, h0, h⟩ := h
              have hFc := rfree hR hA
              refine vx_callv (vx_runV (As := []) (rest := []) ⟨hx, hb, hml, hown, hts⟩ (r_twice l g ad H.size S19 hR.w  Q21 EQ21 h0) (cwV 0 hts (gd2_V kx_1061 kx_1062 kx_1063 kx_177 kx_1064) rfl rfl rfl (by decide +kernel) ⟨Nat.le_of_ble_eq_true rfl, Nat.le_of_ble_eq_true rfl⟩) ⟨rblind, va_recv hR.K hR.P (ci := 13) (q0 := 0) rfl (hR.at14 hR.w.1), fun U hU hW9 => rmk hU hW9 hR hex hE hFc⟩ rfl rfl hl.1 rfl (lv_room (Nat.le_of_ble_eq_true rfl)) dX14_readFile_35 ⟨(show 0 + 0 ≤ KC - qn S from hlg.c), (show 0 + 0 ≤ KS - qu S from hlg.s)⟩) hR.sS (fun q _ h => hFc q h) hFc (fun q _ h => hFc q h) (fun E9 ce9 q9 u9 t9 H1 locs ht9 hvm9 hp9 hB9 hz9 hk9 hS hce9 hcv9 hcl9 => ?_) (fun  S22 t9 H1 locs ht9 hvm9 hw9 hB9 hz9 hk9 hS => ?_)
              · obtain ⟨hp9, hwx, hsx⟩ := hp9
                obtain ⟨rfl, hBx⟩ := hB9
                replace h := h.2 u9 hp9
                have hR : Rep g ad A s u9 H1 locs := hR.call ht9 hBx hwx hS hFc
                have hsh := hsh.tr hsx.1
                have hlg : lg S u9 (0) (0) := hlg.same hsx
                refine vx_led2 (fun hLd => ?_)
                exact vx_out (E := RJxb5711) (q := q9) (fun x h9 => (hnt x h9).elim) hlocks hce9 hcv9 hcl9 (fun t9 ht9 ha9 => ⟨(u9, ad), ⟨h, hR.w, hsh, hak⟩, ⟨rfl, ⟨by rw [ht9]; exact hR.P, hR.D⟩, _, _, by rw [ht9]; exact hLd, hlg⟩, hR.sS.F ht9⟩) hR.sS.2.2 hlg.c hlg.s
              · obtain ⟨hq23, hw9, hs9⟩ := hw9
                have hR : Rep g ad A s S22 H1 locs := hR.call ht9 hB9 hw9 hS hFc
                have hsh := hsh.tr hs9.1
                have hlg : lg S S22 (0) (0) := hlg.same hs9
                replace h := h.1  S22 hq23
                have hT_p1 := hs9.T hT_p1 (by decide)
                clear hB9 hz9 hk9 hvm9 ht9 hw9 hs9 hS
                generalize H1 = H at hR ⊢
                refine lv_aload_n hx hb dX14_readFile_38 rfl (lv_at hl 0 rfl) ?_
                obtain ⟨Q24, EQ24, h0, h⟩ := h
                have hFc := rfree hR hA
                refine vx_callv (vx_runV (As := []) (rest := []) ⟨hx, hb, hml, hown, hts⟩ (r_codes l g ad H.size S22 hR.w  Q24 EQ24 h0) (cwV 0 hts (gd2_V kx_1065 kx_1066 kx_1067 kx_177 kx_1068) rfl rfl rfl (by decide +kernel) ⟨Nat.le_of_ble_eq_true rfl, Nat.le_of_ble_eq_true rfl⟩) ⟨rblind, va_recv hR.K hR.P (ci := 13) (q0 := 0) rfl (hR.at14 hR.w.1), fun U hU hW9 => rmk hU hW9 hR hex hE hFc⟩ rfl rfl hl.1 rfl (lv_room (Nat.le_of_ble_eq_true rfl)) dX14_readFile_39 ⟨(show 0 + 0 ≤ KC - qn S from hlg.c), (show 0 + 0 ≤ KS - qu S from hlg.s)⟩) hR.sS (fun q _ h => hFc q h) hFc (fun q _ h => hFc q h) (fun E9 ce9 q9 u9 t9 H1 locs ht9 hvm9 hp9 hB9 hz9 hk9 hS hce9 hcv9 hcl9 => ?_) (fun  S25 t9 H1 locs ht9 hvm9 hw9 hB9 hz9 hk9 hS => ?_)
                · obtain ⟨hp9, hwx, hsx⟩ := hp9
                  obtain ⟨rfl, hBx⟩ := hB9
                  replace h := h.2 u9 hp9
                  have hR : Rep g ad A s u9 H1 locs := hR.call ht9 hBx hwx hS hFc
                  have hsh := hsh.tr hsx.1
                  have hlg : lg S u9 (0) (0) := hlg.same hsx
                  refine vx_led2 (fun hLd => ?_)
                  exact vx_out (E := RJxb5711) (q := q9) (fun x h9 => (hnt x h9).elim) hlocks hce9 hcv9 hcl9 (fun t9 ht9 ha9 => ⟨(u9, ad), ⟨h, hR.w, hsh, hak⟩, ⟨rfl, ⟨by rw [ht9]; exact hR.P, hR.D⟩, _, _, by rw [ht9]; exact hLd, hlg⟩, hR.sS.F ht9⟩) hR.sS.2.2 hlg.c hlg.s
                · obtain ⟨hq26, hw9, hs9⟩ := hw9
                  have hR : Rep g ad A s S25 H1 locs := hR.call ht9 hB9 hw9 hS hFc
                  have hsh := hsh.tr hs9.1
                  have hlg : lg S S25 (0) (0) := hlg.same hs9
                  replace h := h.1  S25 hq26
                  have hT_p1 := hs9.T hT_p1 (by decide)
                  clear hB9 hz9 hk9 hvm9 ht9 hw9 hs9 hS
                  generalize H1 = H at hR ⊢
                  refine lv_aload_n hx hb dX14_readFile_42 rfl (lv_at hl 0 rfl) ?_
                  refine lv_aload_n hx hb dX14_readFile_43 rfl (lv_at hl 0 rfl) ?_
                  refine va_get (D := rD g) (ci := 13) (v := .int (qI S25 0 28)) (C := RX14) (T := TX14) (N := 143) hx hb hts in2X14 hown hR.K hR.P 0 (hR.at14 hR.w.1) rfl 28 (by decide) (hts _ kx_1024) (fun _ h9 => h9) rfl dX14_readFile_44 ?_
                  refine lv_aload_n hx hb dX14_readFile_47 rfl (lv_at hl 0 rfl) ?_
                  refine va_get (D := rD g) (ci := 13) (v := .int (qI S25 0 12)) (C := RX14) (T := TX14) (N := 143) hx hb hts in2X14 hown hR.K hR.P 0 (hR.at14 hR.w.1) rfl 12 (by decide) (hts _ kx_191) (fun _ h9 => h9) rfl dX14_readFile_48 ?_
                  have J_59 : ∀ (ad59 : Nat → Nat) (dc59 ds59 : Nat) (U59 : MS) (t59_0 : Int32) (H : Heap) (locs : List Loc) (ls : Array Slot), w_readFile_J59 Q E U59 t59_0 → (t59_0 = 0 ∨ t59_0 = 1) → shx S U59 → lg S U59 dc59 ds59 → adk ad ad59 S → ogR ad59 A s s.heap → Rep g ad59 A s U59 H locs → lv_has ls 7 [(0, .ref (ad59 0))] → W p l e (headSpec (wt2 yX14_readFile cX14_readFile 7 (some (.object "CodeFoundryModel$File"))) ({ frames := 8, cells := KC - qn S, slots := KS - qu S, locals := 179 })).room s m ([.ref (ad 0), .ref (ad p1), .int x2] : List Value).toArray below meth c H locs dc59 ds59 (vx_MQ below (va_Qq (fun (r : Option Nat) (u : MS × (Nat → Nat)) => ∃ b : Nat, r = some (u.2 b) ∧ Q b u.1 ∧ wfM u.1 ∧ shx S u.1 ∧ adk ad u.2 S ∧ qT u.1 b = 11) (fun (u : MS × (Nat → Nat)) (t : State) => qEH g A S s.heap u t) A) ((vx_X (fun (u : MS × (Nat → Nat)) => E u.1 ∧ wfM u.1 ∧ shx S u.1 ∧ adk ad u.2 S) (fun (n9 : String) (u : MS × (Nat → Nat)) (t : State) => n9 = RJxb5711 ∧ qEH g A S s.heap u t) A)) ([.ref (ad 0), .ref (ad p1), .int x2] : List Value).toArray s (KC - qn S) (KS - qu S) A) (F0 m 59 ls [.int t59_0, .ref (ad59 0)]) := by
                    intro ad59 dc59 ds59 U59 t59_0 H locs ls h hz_t59_0 hsh hlg hak hE hR hl
                    unfold w_readFile_J59 at h
                    refine lv_bipush (v := 17) hx hb dX14_readFile_59 (by decide) ?_
                    refine lv_aload_n hx hb dX14_readFile_61 rfl (lv_at hl 0 rfl) ?_
                    refine va_get (D := rD g) (ci := 13) (v := .int (qI U59 0 28)) (C := RX14) (T := TX14) (N := 143) hx hb hts in2X14 hown hR.K hR.P 0 (hR.at14 hR.w.1) rfl 28 (by decide) (hts _ kx_1024) (fun _ h9 => h9) rfl dX14_readFile_62 ?_
                    obtain ⟨Q27, EQ27, h0, h⟩ := h
                    have hFc := rfree hR hA
                    refine vx_callv (vx_runV (As := [.int t59_0, .int 17, .int (qI U59 0 28)]) (rest := []) ⟨hx, hb, hml, hown, hts⟩ (r_must l g ad59 H.size U59 t59_0 (17 : Int32) (qI U59 0 28) hR.w hz_t59_0 Q27 EQ27 h0) (cwV 3 hts (gd2_V kx_198 kx_199 kx_200 kx_177 kx_201) rfl rfl rfl (by decide +kernel) ⟨Nat.le_of_ble_eq_true rfl, Nat.le_of_ble_eq_true rfl⟩) ⟨rblind, va_recv hR.K hR.P (ci := 13) (q0 := 0) rfl (hR.at14 hR.w.1), fun U hU hW9 => rmk hU hW9 hR hex hE hFc⟩ rfl rfl hl.1 rfl (lv_room (Nat.le_of_ble_eq_true rfl)) dX14_readFile_65 ⟨(show dc59 + 0 ≤ KC - qn S from hlg.c), (show ds59 + 0 ≤ KS - qu S from hlg.s)⟩) hR.sS (fun q _ h => hFc q h) hFc (fun q _ h => hFc q h) (fun E9 ce9 q9 u9 t9 H1 locs ht9 hvm9 hp9 hB9 hz9 hk9 hS hce9 hcv9 hcl9 => ?_) (fun  S28 t9 H1 locs ht9 hvm9 hw9 hB9 hz9 hk9 hS => ?_)
                    · obtain ⟨hp9, hwx, hsx⟩ := hp9
                      obtain ⟨rfl, hBx⟩ := hB9
                      replace h := h.2 u9 hp9
                      have hR : Rep g ad59 A s u9 H1 locs := hR.call ht9 hBx hwx hS hFc
                      have hsh := hsh.tr hsx.1
                      have hlg : lg S u9 (dc59) (ds59) := hlg.same hsx
                      refine vx_led2 (fun hLd => ?_)
                      exact vx_out (E := RJxb5711) (q := q9) (fun x h9 => (hnt x h9).elim) hlocks hce9 hcv9 hcl9 (fun t9 ht9 ha9 => ⟨(u9, ad59), ⟨h, hR.w, hsh, hak⟩, ⟨rfl, ⟨by rw [ht9]; exact hR.P, hR.D⟩, _, _, by rw [ht9]; exact hLd, hlg⟩, hR.sS.F ht9⟩) hR.sS.2.2 hlg.c hlg.s
                    · obtain ⟨hq29, hw9, hs9⟩ := hw9
                      have hR : Rep g ad59 A s S28 H1 locs := hR.call ht9 hB9 hw9 hS hFc
                      have hsh := hsh.tr hs9.1
                      have hlg : lg S S28 (dc59) (ds59) := hlg.same hs9
                      replace h := h.1  S28 hq29
                      clear hB9 hz9 hk9 hvm9 ht9 hw9 hs9 hS
                      generalize H1 = H at hR ⊢
                      refine lv_aload_n hx hb dX14_readFile_68 rfl (lv_at hl 0 rfl) ?_
                      refine va_get (D := rD g) (ci := 13) (v := .int (qI S28 0 21)) (C := RX14) (T := TX14) (N := 143) hx hb hts in2X14 hown hR.K hR.P 0 (hR.at14 hR.w.1) rfl 21 (by decide) (hts _ kx_205) (fun _ h9 => h9) rfl dX14_readFile_69 ?_
                      refine lv_aload_n hx hb dX14_readFile_72 rfl (lv_at hl 0 rfl) ?_
                      refine va_get (D := rD g) (ci := 13) (v := .int (qI S28 0 22)) (C := RX14) (T := TX14) (N := 143) hx hb hts in2X14 hown hR.K hR.P 0 (hR.at14 hR.w.1) rfl 22 (by decide) (hts _ kx_239) (fun _ h9 => h9) rfl dX14_readFile_73 ?_
                      refine lv_isub hx hb dX14_readFile_76 ?_
                      refine lv_topi (fun z30 ez30 => ?_)
                      obtain rfl : z30 = ((qI S28 0 21) - (qI S28 0 22)) := ez30
                      obtain ⟨a31, ea31⟩ : ∃ z, z = ((qI S28 0 21) - (qI S28 0 22)) := ⟨_, rfl⟩
                      rw [← ea31]
                      replace h := h a31 ea31
                      refine lv_istore_n (lv' := [(3, .int a31), (0, .ref (ad59 0))]) hx hb dX14_readFile_77 rfl hl (by decide) rfl (fun ls hl => ?_)
                      refine lv_iconst (v := 0) hx hb dX14_readFile_78 (by decide) ?_
                      refine lv_istore (lv' := [(4, .int 0), (3, .int a31), (0, .ref (ad59 0))]) hx hb dX14_readFile_79 hl (by decide) rfl (fun ls hl => ?_)
                      have J_81 : ∀ (n81 : Nat) (ad81 : Nat → Nat) (dc81 ds81 : Nat) (U81 : MS) (v81_3 : Int32) (v81_4 : Int32) (H : Heap) (locs : List Loc) (ls : Array Slot), w_readFile_L81 Q E n81 U81 v81_3 v81_4 → shx S U81 → lg S U81 dc81 ds81 → adk ad ad81 S → ogR ad81 A s s.heap → Rep g ad81 A s U81 H locs → lv_has ls 7 [(0, .ref (ad81 0)), (3, .int v81_3), (4, .int v81_4)] → W p l e (headSpec (wt2 yX14_readFile cX14_readFile 7 (some (.object "CodeFoundryModel$File"))) ({ frames := 8, cells := KC - qn S, slots := KS - qu S, locals := 179 })).room s m ([.ref (ad 0), .ref (ad p1), .int x2] : List Value).toArray below meth c H locs dc81 ds81 (vx_MQ below (va_Qq (fun (r : Option Nat) (u : MS × (Nat → Nat)) => ∃ b : Nat, r = some (u.2 b) ∧ Q b u.1 ∧ wfM u.1 ∧ shx S u.1 ∧ adk ad u.2 S ∧ qT u.1 b = 11) (fun (u : MS × (Nat → Nat)) (t : State) => qEH g A S s.heap u t) A) ((vx_X (fun (u : MS × (Nat → Nat)) => E u.1 ∧ wfM u.1 ∧ shx S u.1 ∧ adk ad u.2 S) (fun (n9 : String) (u : MS × (Nat → Nat)) (t : State) => n9 = RJxb5711 ∧ qEH g A S s.heap u t) A)) ([.ref (ad 0), .ref (ad p1), .int x2] : List Value).toArray s (KC - qn S) (KS - qu S) A) (F0 m 81 ls []) := by
                        intro n81
                        induction n81 with
                        | zero => intro ad81 dc81 ds81 U81 v81_3 v81_4 H locs ls h hsh hlg hak hE hR hl; unfold w_readFile_L81 at h; exact h.elim
                        | succ n81 ih_81 =>
                          intro ad81 dc81 ds81 U81 v81_3 v81_4 H locs ls h hsh hlg hak hE hR hl
                          unfold w_readFile_L81 at h
                          refine lv_iload hx hb dX14_readFile_81 (lv_at hl 2 rfl) ?_
                          refine lv_iload_n hx hb dX14_readFile_83 rfl (lv_at hl 1 rfl) ?_
                          refine lv_icmp_ge (tgt := 99) hx hb dX14_readFile_84 (by decide) (fun c32 => ?_) (fun c32 => ?_)
                          · replace h := h.1 (k_le rfl rfl c32)
                            refine lv_iconst (v := 0) hx hb dX14_readFile_99 (by decide) ?_
                            refine lv_istore (lv' := [(4, .int 0), (0, .ref (ad81 0)), (3, .int v81_3)]) hx hb dX14_readFile_100 hl (by decide) rfl (fun ls hl => ?_)
                            have J_102 : ∀ (n102 : Nat) (ad102 : Nat → Nat) (dc102 ds102 : Nat) (U102 : MS) (v102_3 : Int32) (v102_4 : Int32) (H : Heap) (locs : List Loc) (ls : Array Slot), w_readFile_L102 Q E n102 U102 v102_3 v102_4 → shx S U102 → lg S U102 dc102 ds102 → adk ad ad102 S → ogR ad102 A s s.heap → Rep g ad102 A s U102 H locs → lv_has ls 7 [(0, .ref (ad102 0)), (3, .int v102_3), (4, .int v102_4)] → W p l e (headSpec (wt2 yX14_readFile cX14_readFile 7 (some (.object "CodeFoundryModel$File"))) ({ frames := 8, cells := KC - qn S, slots := KS - qu S, locals := 179 })).room s m ([.ref (ad 0), .ref (ad p1), .int x2] : List Value).toArray below meth c H locs dc102 ds102 (vx_MQ below (va_Qq (fun (r : Option Nat) (u : MS × (Nat → Nat)) => ∃ b : Nat, r = some (u.2 b) ∧ Q b u.1 ∧ wfM u.1 ∧ shx S u.1 ∧ adk ad u.2 S ∧ qT u.1 b = 11) (fun (u : MS × (Nat → Nat)) (t : State) => qEH g A S s.heap u t) A) ((vx_X (fun (u : MS × (Nat → Nat)) => E u.1 ∧ wfM u.1 ∧ shx S u.1 ∧ adk ad u.2 S) (fun (n9 : String) (u : MS × (Nat → Nat)) (t : State) => n9 = RJxb5711 ∧ qEH g A S s.heap u t) A)) ([.ref (ad 0), .ref (ad p1), .int x2] : List Value).toArray s (KC - qn S) (KS - qu S) A) (F0 m 102 ls []) := by
                              intro n102
                              induction n102 with
                              | zero => intro ad102 dc102 ds102 U102 v102_3 v102_4 H locs ls h hsh hlg hak hE hR hl; unfold w_readFile_L102 at h; exact h.elim
                              | succ n102 ih_102 =>
                                intro ad102 dc102 ds102 U102 v102_3 v102_4 H locs ls h hsh hlg hak hE hR hl
                                unfold w_readFile_L102 at h
                                refine lv_iload hx hb dX14_readFile_102 (lv_at hl 2 rfl) ?_
                                refine lv_iload_n hx hb dX14_readFile_104 rfl (lv_at hl 1 rfl) ?_
                                refine lv_icmp_ge (tgt := 120) hx hb dX14_readFile_105 (by decide) (fun c33 => ?_) (fun c33 => ?_)
                                · replace h := h.1 (k_le rfl rfl c33)
                                  refine lv_aload_n hx hb dX14_readFile_120 rfl (lv_at hl 0 rfl) ?_
                                  refine lv_iconst (v := 0) hx hb dX14_readFile_121 (by decide) ?_
                                  refine va_put (D := rD g) (ci := 13) (v := .int 0) (ty := .int) (C := RX14) (T := TX14) (N := 143) hx hb hts in2X14 tyX14 tyX14_ok nmX14 hown hR.K hR.P hR.D hR.sS 0 (hR.at14 hR.w.1) rfl 41 (by decide) (hts _ kx_297) (fun _ h9 => h9) rfl (by decide +kernel) rfl rfl (Nat.le_of_ble_eq_true rfl) dX14_readFile_122 (fun H locs hP hD hS => ?_)
                                  have hR : Rep g ad102 A s (wI U102 0 41 0) H locs := hR.pI hR.w.1 F14_s41 hP hD hS
                                  obtain ⟨S34, eS34⟩ : ∃ z, z = wI U102 0 41 0 := ⟨_, rfl⟩
                                  rw [← eS34] at hR
                                  replace h := h S34 eS34
                                  have hsh : shx S S34 := by rw [eS34]; exact hsh
                                  have hlg : lg S S34 (dc102) (ds102) := by rw [eS34]; exact hlg
                                  refine lv_aload_n hx hb dX14_readFile_125 rfl (lv_at hl 0 rfl) ?_
                                  refine lv_iconst (v := 0) hx hb dX14_readFile_126 (by decide) ?_
                                  refine va_put (D := rD g) (ci := 13) (v := .int 0) (ty := .int) (C := RX14) (T := TX14) (N := 143) hx hb hts in2X14 tyX14 tyX14_ok nmX14 hown hR.K hR.P hR.D hR.sS 0 (hR.at14 hR.w.1) rfl 43 (by decide) (hts _ kx_325) (fun _ h9 => h9) rfl (by decide +kernel) rfl rfl (Nat.le_of_ble_eq_true rfl) dX14_readFile_127 (fun H locs hP hD hS => ?_)
                                  have hR : Rep g ad102 A s (wI S34 0 43 0) H locs := hR.pI hR.w.1 F14_s43 hP hD hS
                                  obtain ⟨S35, eS35⟩ : ∃ z, z = wI S34 0 43 0 := ⟨_, rfl⟩
                                  rw [← eS35] at hR
                                  replace h := h S35 eS35
                                  have hsh : shx S S35 := by rw [eS35]; exact hsh
                                  have hlg : lg S S35 (dc102) (ds102) := by rw [eS35]; exact hlg
                                  refine lv_aload_n hx hb dX14_readFile_130 rfl (lv_at hl 0 rfl) ?_
                                  refine lv_iconst (v := 0) hx hb dX14_readFile_131 (by decide) ?_
                                  refine va_put (D := rD g) (ci := 13) (v := .int 0) (ty := .int) (C := RX14) (T := TX14) (N := 143) hx hb hts in2X14 tyX14 tyX14_ok nmX14 hown hR.K hR.P hR.D hR.sS 0 (hR.at14 hR.w.1) rfl 45 (by decide) (hts _ kx_332) (fun _ h9 => h9) rfl (by decide +kernel) rfl rfl (Nat.le_of_ble_eq_true rfl) dX14_readFile_132 (fun H locs hP hD hS => ?_)
                                  have hR : Rep g ad102 A s (wI S35 0 45 0) H locs := hR.pI hR.w.1 F14_s45 hP hD hS
                                  obtain ⟨S36, eS36⟩ : ∃ z, z = wI S35 0 45 0 := ⟨_, rfl⟩
                                  rw [← eS36] at hR
                                  replace h := h S36 eS36
                                  have hsh : shx S S36 := by rw [eS36]; exact hsh
                                  have hlg : lg S S36 (dc102) (ds102) := by rw [eS36]; exact hlg
                                  obtain ⟨hv37, h⟩ := h
                                  have e9 : KC = 300000 := rfl
                                  have e8 : KS = 3720000 := rfl
                                  have e7 : TXB = 10000000 := rfl
                                  have hTX : qn S36 < TXB := by have := hv37.1; omega
                                  refine va_new (ci := 12) (fs := dfX13) (C := RX13) (T := TX13) (N := 23) hx hb hts in2X13 tyX13 tyX13_ok hown (hts _ kx_1069) (hts _ kx_1070) (hts _ kx_1071) hR.K hR.P hR.D hR.sS hA rfl dfX13_ok (show dc102 + 1 ≤ KC - qn S from hlg.c1 hv37.1) (show ds102 + 23 ≤ KS - qu S from hlg.s1 hv37.2) dX14_readFile_135 (fun q38 H hP hD hS => ?_)
                                  have hw8 := hR.w
                                  have hR := hR.new (t := 11) (n := 0) (k := 23) hTX (by decide) (fun q9 => absurd q9 (by decide)) wN_c13 hP hD hS
                                  have hk8 : adk ad102 (adx ad102 (qn S36) q38) S36 := adk.rf.new (Nat.le_refl _) hTX
                                  have hak := hak.new (q := q38) hlg.2.2.1 hTX
                                  have hE := hE.ad hk8
                                  have hlg : lg S (wN S36 11 0 23) (dc102 + 1) (ds102 + 23) := hlg.new (t := 11) (n := 0) ⟨hv37.1, hv37.2⟩
                                  have hs8 : shx S36 (wN S36 11 0 23) := shx.new (t := 11) (n := 0) (k := 23) shx.rf hw8 hTX
                                  obtain ⟨am39, eam39⟩ : ∃ z, z = adx ad102 (qn S36) q38 := ⟨_, rfl⟩
                                  have eq_q38 : am39 (qn S36) = q38 := by rw [eam39]; exact if_pos rfl
                                  rw [← eam39] at hR hk8 hak hE
                                  obtain ⟨S40, eS40⟩ : ∃ z, z = wN S36 11 0 23 := ⟨_, rfl⟩
                                  rw [← eS40] at hR hlg hs8
                                  replace h := h S40 eS40
                                  have hsh := hsh.tr hs8
                                  have hT_b41 : qT S40 (qn S36) = 11 := by rw [eS40]; exact if_pos rfl
                                  have ea_0 : am39 0 = ad102 0 := hk8 _ (hw8.hd hw8.1 (by decide) (by decide))
                                  have hl : lv_has ls 7 [(0, .ref (am39 0)), (3, .int v102_3), (4, .int v102_4)] := by simp only [ea_0]; exact hl
                                  refine W.eq (g2 := F0 m 138 ls [.ref (am39 (qn S36))]) (by simp only [ea_0, eq_q38]) ?_
                                  clear hw8 hk8 hs8 hP hD hS e9 e8 e7 hTX
                                  refine lv_dup hx hb dX14_readFile_138 rfl ?_
                                  obtain ⟨Q42, h0, h⟩ := h
                                  have hFc := rfree hR hA
                                  refine W_led2 (fun hL0 => ?_)
                                  refine va_callv (va_runIN (As := []) (rest := [.ref (am39 (qn S36))]) ⟨hx, hb, hml, hown, hts⟩ (r_init l g am39 H S40 (qn S36) hR.w hT_b41 Q42 h0) ⟨va_cnB 0 hts (gd2_I kx_1072) rfl rfl rfl (nw_of (by exact nn_X14_222) hex) (hts _ kx_1071) (by decide +kernel) ⟨Nat.le_of_ble_eq_true rfl, Nat.le_of_ble_eq_true rfl⟩, rfl, hts _ kx_1073⟩ ⟨rblindH, fun U hU hW9 => rmkH hU hW9 hR hex hE hFc⟩ rfl rfl hl.1 rfl (lv_room (Nat.le_of_ble_eq_true rfl)) dX14_readFile_139 ⟨(show dc102 + 1 + (KC - qn S40) ≤ KC - qn S from hlg.cm), (show ds102 + 23 + (KS - qu S40) ≤ KS - qu S from hlg.sm)⟩) hR.sS (fun q _ h => hFc q h) hFc (fun  S43 t9 H1 locs ht9 hvm9 hw9 hB9 hz9 hk9 hS => ?_)
                                  rcases S43 with ⟨S43, ak45⟩
                                  obtain ⟨hB9, dc9, ds9, hL9, hl9⟩ := hB9
                                  dsimp only at hw9 hB9 hl9
                                  rw [ht9] at hL9
                                  obtain ⟨hq44, hw9, hs9, hk8⟩ := hw9
                                  have hw8 := hR.w
                                  have hak := hak.tr hk8 hlg.2.2.1
                                  have hE := hE.ad hk8
                                  have hR : Rep g ak45 A s S43 H1 locs := hR.callH ht9 hB9 hw9 hS hFc
                                  have hsh := hsh.tr hs9
                                  refine W_tight2 (hL0.tr hL9).1 (hL0.tr hL9).2.1 ?_
                                  have hlg := hlg.call hl9
                                  replace h := h  S43 hq44
                                  have ea_0 : ak45 0 = am39 0 := hk8 _ (hw8.hd hw8.1 (by decide) (by decide))
                                  have ea_1 : ak45 (qn S36) = am39 (qn S36) := hk8 _ (hw8.hd hT_b41 (by decide) (by decide))
                                  have hl : lv_has ls 7 [(0, .ref (ak45 0)), (3, .int v102_3), (4, .int v102_4)] := by simp only [ea_0, ea_1]; exact hl
                                  refine W.eq (g2 := F0 m 142 ls ([.ref (ak45 (qn S36))])) (by first | (simp only [ea_0, ea_1]; rfl) | simp only [ea_0, ea_1]) ?_
                                  have hT_b41 := hs9.T hT_b41 (by decide)
                                  clear hB9 hz9 hk9 hvm9 ht9 hw9 hs9 hS hL0 hL9
                                  generalize H1 = H at hR ⊢
                                  generalize dc9 = dc_ak45, ds9 = ds_ak45 at hlg ⊢
                                  refine lv_astore (lv' := [(4, .ref (ak45 (qn S36))), (0, .ref (ak45 0)), (3, .int v102_3)]) hx hb dX14_readFile_142 hl (by decide) rfl (fun ls hl => ?_)
                                  refine lv_iconst (v := 0) hx hb dX14_readFile_144 (by decide) ?_
                                  refine lv_istore (lv' := [(5, .int 0), (4, .ref (ak45 (qn S36))), (0, .ref (ak45 0)), (3, .int v102_3)]) hx hb dX14_readFile_145 hl (by decide) rfl (fun ls hl => ?_)
                                  have J_147 : ∀ (n147 : Nat) (ad147 : Nat → Nat) (dc147 ds147 : Nat) (U147 : MS) (v147_3 : Int32) (v147_4 : Nat) (v147_5 : Int32) (H : Heap) (locs : List Loc) (ls : Array Slot), w_readFile_L147 Q E n147 U147 v147_3 v147_4 v147_5 → qT U147 v147_4 = 11 → shx S U147 → lg S U147 dc147 ds147 → adk ad ad147 S → ogR ad147 A s s.heap → Rep g ad147 A s U147 H locs → lv_has ls 7 [(0, .ref (ad147 0)), (3, .int v147_3), (4, .ref (ad147 v147_4)), (5, .int v147_5)] → W p l e (headSpec (wt2 yX14_readFile cX14_readFile 7 (some (.object "CodeFoundryModel$File"))) ({ frames := 8, cells := KC - qn S, slots := KS - qu S, locals := 179 })).room s m ([.ref (ad 0), .ref (ad p1), .int x2] : List Value).toArray below meth c H locs dc147 ds147 (vx_MQ below (va_Qq (fun (r : Option Nat) (u : MS × (Nat → Nat)) => ∃ b : Nat, r = some (u.2 b) ∧ Q b u.1 ∧ wfM u.1 ∧ shx S u.1 ∧ adk ad u.2 S ∧ qT u.1 b = 11) (fun (u : MS × (Nat → Nat)) (t : State) => qEH g A S s.heap u t) A) ((vx_X (fun (u : MS × (Nat → Nat)) => E u.1 ∧ wfM u.1 ∧ shx S u.1 ∧ adk ad u.2 S) (fun (n9 : String) (u : MS × (Nat → Nat)) (t : State) => n9 = RJxb5711 ∧ qEH g A S s.heap u t) A)) ([.ref (ad 0), .ref (ad p1), .int x2] : List Value).toArray s (KC - qn S) (KS - qu S) A) (F0 m 147 ls []) := by
                                    intro n147
                                    induction n147 with
                                    | zero => intro ad147 dc147 ds147 U147 v147_3 v147_4 v147_5 H locs ls h hT_v147_4 hsh hlg hak hE hR hl; unfold w_readFile_L147 at h; exact h.elim
                                    | succ n147 ih_147 =>
                                      intro ad147 dc147 ds147 U147 v147_3 v147_4 v147_5 H locs ls h hT_v147_4 hsh hlg hak hE hR hl
                                      unfold w_readFile_L147 at h
                                      refine lv_iload hx hb dX14_readFile_147 (lv_at hl 3 rfl) ?_
                                      refine lv_iload_n hx hb dX14_readFile_149 rfl (lv_at hl 1 rfl) ?_
                                      refine lv_icmp_ge (tgt := 167) hx hb dX14_readFile_150 (by decide) (fun c46 => ?_) (fun c46 => ?_)
                                      · replace h := h.1 (k_le rfl rfl c46)
                                        refine lv_aload hx hb dX14_readFile_167 (lv_at hl 2 rfl) ?_
                                        refine lv_aload_n hx hb dX14_readFile_169 rfl (lv_at hl 0 rfl) ?_
                                        refine lv_aload_n hx hb dX14_readFile_170 rfl (lv_at hl 0 rfl) ?_
                                        refine va_get (D := rD g) (ci := 13) (v := .ref (ad147 6)) (C := RX14) (T := TX14) (N := 143) hx hb hts in2X14 hown hR.K hR.P 0 (hR.at14 hR.w.1) rfl 17 (by decide) (hts _ kx_208) (fun _ h9 => h9) (congrArg (fun z => some (vf ad147 z)) (hR.w.2.1 _ fin_17).1) dX14_readFile_171 ?_
                                        refine lv_aload_n hx hb dX14_readFile_174 rfl (lv_at hl 0 rfl) ?_
                                        refine lv_aload_n hx hb dX14_readFile_175 rfl (lv_at hl 0 rfl) ?_
                                        refine va_get (D := rD g) (ci := 13) (v := .int (qI U147 0 20)) (C := RX14) (T := TX14) (N := 143) hx hb hts in2X14 hown hR.K hR.P 0 (hR.at14 hR.w.1) rfl 20 (by decide) (hts _ kx_203) (fun _ h9 => h9) rfl dX14_readFile_176 ?_
                                        refine lv_iconst (v := 2) hx hb dX14_readFile_179 (by decide) ?_
                                        refine lv_iadd hx hb dX14_readFile_180 ?_
                                        refine lv_topi (fun z47 ez47 => ?_)
                                        obtain rfl : z47 = ((qI U147 0 20) + (2 : Int32)) := ez47
                                        obtain ⟨hv48, h⟩ := h
                                        have hFc := rfree hR hA
                                        refine va_calli (va_runV (As := [.int ((qI U147 0 20) + (2 : Int32))]) (rest := [.ref (ad147 6), .ref (ad147 0), .ref (ad147 v147_4)]) ⟨hx, hb, hml, hown, hts⟩ (r_two l g ad147 H.size U147 ((qI U147 0 20) + (2 : Int32)) hR.w  hv48) (cwV 1 hts (gd2_V kx_186 kx_187 kx_188 kx_177 kx_189) rfl rfl rfl (by decide +kernel) ⟨Nat.le_of_ble_eq_true rfl, Nat.le_of_ble_eq_true rfl⟩) ⟨rblind, va_recv hR.K hR.P (ci := 13) (q0 := 0) rfl (hR.at14 hR.w.1), fun U hU hW9 => rmk hU hW9 hR hex hE hFc⟩ rfl rfl hl.1 rfl (lv_room (Nat.le_of_ble_eq_true rfl)) dX14_readFile_181 ⟨(show dc147 + 0 ≤ KC - qn S from hlg.c), (show ds147 + 0 ≤ KS - qu S from hlg.s)⟩) hR.sS (fun q _ h => hFc q h) hFc (fun r49 u9 t9 H1 locs ht9 hvm9 hw9 hB9 hz9 hk9 hS => ?_)
                                        have hR : Rep g ad147 A s U147 H1 locs := hR.call ht9 hB9 hR.w hS hFc
                                        obtain rfl : r49 = (f_two U147 ((qI U147 0 20) + (2 : Int32))) := hw9
                                        clear hB9 hz9 hk9 hvm9 ht9 hS
                                        generalize H1 = H at hR ⊢
                                        obtain ⟨hv51, h⟩ := h
                                        refine va_iald hx hb hR.K hR.P 6 1 (hR.atI (hR.w.2.1 _ fin_17).2.1) rfl (k_ixN (k_ix (n := 502) (x := (f_two U147 ((qI U147 0 20) + (2 : Int32)))) (a := (f_two U147 ((qI U147 0 20) + (2 : Int32))).toInt) rfl hv51) (hR.w.2.1 _ fin_17).2.2) dX14_readFile_184 ?_
                                        refine lv_topi (fun z52 ez52 => ?_)
                                        obtain rfl : z52 = (qI U147 6 (((f_two U147 ((qI U147 0 20) + (2 : Int32))).toInt).toNat)) := ez52
                                        obtain ⟨Q53, h0, h⟩ := h
                                        have hFc := rfree hR hA
                                        refine W_led2 (fun hL0 => ?_)
                                        refine va_callq (va_runV (As := [.int (qI U147 6 (((f_two U147 ((qI U147 0 20) + (2 : Int32))).toInt).toNat))]) (rest := [.ref (ad147 v147_4)]) ⟨hx, hb, hml, hown, hts⟩ (r_text l g ad147 H U147 (qI U147 6 (((f_two U147 ((qI U147 0 20) + (2 : Int32))).toInt).toNat)) hR.w  Q53 h0) (cwV 1 hts (gd2_V kx_1074 kx_1075 kx_1076 kx_177 kx_1077) rfl rfl rfl (by decide +kernel) ⟨Nat.le_of_ble_eq_true rfl, Nat.le_of_ble_eq_true rfl⟩) ⟨rblindH, va_recv hR.K hR.P (ci := 13) (q0 := 0) rfl (hR.at14 hR.w.1), fun U hU hW9 => rmkH hU hW9 hR hex hE hFc⟩ rfl rfl hl.1 rfl (lv_room (Nat.le_of_ble_eq_true rfl)) dX14_readFile_185 ⟨(show dc147 + (KC - qn U147) ≤ KC - qn S from hlg.cm), (show ds147 + (KS - qu U147) ≤ KS - qu S from hlg.sm)⟩) hR.sS (fun q _ h => hFc q h) hFc (fun r54 S55 t9 H1 locs ht9 hvm9 hw9 hB9 hz9 hk9 hS => ?_)
                                        rcases S55 with ⟨S55, ak57⟩
                                        obtain ⟨hB9, dc9, ds9, hL9, hl9⟩ := hB9
                                        dsimp only at hw9 hB9 hl9
                                        rw [ht9] at hL9
                                        obtain ⟨b58, rfl, hq56, hw9, hs9, hk8, hT_b58⟩ := hw9
                                        have hw8 := hR.w
                                        have hak := hak.tr hk8 hlg.2.2.1
                                        have hE := hE.ad hk8
                                        have hR : Rep g ak57 A s S55 H1 locs := hR.callH ht9 hB9 hw9 hS hFc
                                        have hsh := hsh.tr hs9
                                        refine W_tight2 (hL0.tr hL9).1 (hL0.tr hL9).2.1 ?_
                                        have hlg := hlg.call hl9
                                        replace h := h b58 S55 hq56
                                        have ea_0 : ak57 0 = ad147 0 := hk8 _ (hw8.hd hw8.1 (by decide) (by decide))
                                        have ea_1 : ak57 v147_4 = ad147 v147_4 := hk8 _ (hw8.hd hT_v147_4 (by decide) (by decide))
                                        have hl : lv_has ls 7 [(0, .ref (ak57 0)), (3, .int v147_3), (4, .ref (ak57 v147_4)), (5, .int v147_5)] := by simp only [ea_0, ea_1]; exact hl
                                        refine W.eq (g2 := F0 m 188 ls (.ref (ak57 b58) :: [.ref (ak57 v147_4)])) (by first | (simp only [ea_0, ea_1]; rfl) | simp only [ea_0, ea_1]) ?_
                                        have hT_v147_4 := hs9.T hT_v147_4 (by decide)
                                        clear hB9 hz9 hk9 hvm9 ht9 hw9 hs9 hS hL0 hL9
                                        generalize H1 = H at hR ⊢
                                        generalize dc9 = dc_ak57, ds9 = ds_ak57 at hlg ⊢
                                        refine va_put (D := rD g) (ci := 12) (v := .ref (ak57 b58)) (ty := (.object "java/lang/String")) (C := RX13) (T := TX13) (N := 23) hx hb hts in2X13 tyX13 tyX13_ok nmX13 hown hR.K hR.P hR.D hR.sS v147_4 (hR.at13 hT_v147_4) rfl 0 (by decide) (hts _ kx_551) (fun _ h9 => h9) rfl (by decide +kernel) rfl rfl (Nat.le_of_ble_eq_true rfl) dX14_readFile_188 (fun H locs hP hD hS => ?_)
                                        have hw9 : wfM (wR S55 v147_4 0 (some b58)) := hR.w.put (fun b q9 => by cases q9; exact (hT_b58).trans (by rw [hT_v147_4]; rfl)) (fun q9 => absurd ((congrArg (qT S55) q9).symm.trans hT_v147_4) (by rw [hR.w.1]; decide)) (by rw [hT_v147_4]; decide)
                                        have hR : Rep g ak57 A s (wR S55 v147_4 0 (some b58)) H locs := hR.pR3 hT_v147_4 F13_s0 hw9 hP hD hS
                                        obtain ⟨S59, eS59⟩ : ∃ z, z = wR S55 v147_4 0 (some b58) := ⟨_, rfl⟩
                                        rw [← eS59] at hR
                                        replace h := h S59 eS59
                                        have hT_v147_4 : qT S59 v147_4 = 11 := (congrArg (fun z => qT z v147_4) eS59).trans hT_v147_4
                                        have hsh : shx S S59 := by rw [eS59]; exact hsh
                                        have hlg : lg S S59 (dc147 + dc_ak57) (ds147 + ds_ak57) := by rw [eS59]; exact hlg
                                        refine lv_aload hx hb dX14_readFile_191 (lv_at hl 2 rfl) ?_
                                        refine lv_aload_n hx hb dX14_readFile_193 rfl (lv_at hl 0 rfl) ?_
                                        refine lv_aload_n hx hb dX14_readFile_194 rfl (lv_at hl 0 rfl) ?_
                                        refine va_get (D := rD g) (ci := 13) (v := .ref (ak57 6)) (C := RX14) (T := TX14) (N := 143) hx hb hts in2X14 hown hR.K hR.P 0 (hR.at14 hR.w.1) rfl 17 (by decide) (hts _ kx_208) (fun _ h9 => h9) (congrArg (fun z => some (vf ak57 z)) (hR.w.2.1 _ fin_17).1) dX14_readFile_195 ?_
                                        refine lv_aload_n hx hb dX14_readFile_198 rfl (lv_at hl 0 rfl) ?_
                                        refine lv_aload_n hx hb dX14_readFile_199 rfl (lv_at hl 0 rfl) ?_
                                        refine va_get (D := rD g) (ci := 13) (v := .int (qI S59 0 20)) (C := RX14) (T := TX14) (N := 143) hx hb hts in2X14 hown hR.K hR.P 0 (hR.at14 hR.w.1) rfl 20 (by decide) (hts _ kx_203) (fun _ h9 => h9) rfl dX14_readFile_200 ?_
                                        refine lv_iconst (v := 4) hx hb dX14_readFile_203 (by decide) ?_
                                        refine lv_iadd hx hb dX14_readFile_204 ?_
                                        refine lv_topi (fun z60 ez60 => ?_)
                                        obtain rfl : z60 = ((qI S59 0 20) + (4 : Int32)) := ez60
                                        obtain ⟨hv61, h⟩ := h
                                        have hFc := rfree hR hA
                                        refine va_calli (va_runV (As := [.int ((qI S59 0 20) + (4 : Int32))]) (rest := [.ref (ak57 6), .ref (ak57 0), .ref (ak57 v147_4)]) ⟨hx, hb, hml, hown, hts⟩ (r_two l g ak57 H.size S59 ((qI S59 0 20) + (4 : Int32)) hR.w  hv61) (cwV 1 hts (gd2_V kx_186 kx_187 kx_188 kx_177 kx_189) rfl rfl rfl (by decide +kernel) ⟨Nat.le_of_ble_eq_true rfl, Nat.le_of_ble_eq_true rfl⟩) ⟨rblind, va_recv hR.K hR.P (ci := 13) (q0 := 0) rfl (hR.at14 hR.w.1), fun U hU hW9 => rmk hU hW9 hR hex hE hFc⟩ rfl rfl hl.1 rfl (lv_room (Nat.le_of_ble_eq_true rfl)) dX14_readFile_205 ⟨(show dc147 + dc_ak57 + 0 ≤ KC - qn S from hlg.c), (show ds147 + ds_ak57 + 0 ≤ KS - qu S from hlg.s)⟩) hR.sS (fun q _ h => hFc q h) hFc (fun r62 u9 t9 H1 locs ht9 hvm9 hw9 hB9 hz9 hk9 hS => ?_)
                                        have hR : Rep g ak57 A s S59 H1 locs := hR.call ht9 hB9 hR.w hS hFc
                                        obtain rfl : r62 = (f_two S59 ((qI S59 0 20) + (4 : Int32))) := hw9
                                        clear hB9 hz9 hk9 hvm9 ht9 hS
                                        generalize H1 = H at hR ⊢
                                        obtain ⟨hv64, h⟩ := h
                                        refine va_iald hx hb hR.K hR.P 6 1 (hR.atI (hR.w.2.1 _ fin_17).2.1) rfl (k_ixN (k_ix (n := 502) (x := (f_two S59 ((qI S59 0 20) + (4 : Int32)))) (a := (f_two S59 ((qI S59 0 20) + (4 : Int32))).toInt) rfl hv64) (hR.w.2.1 _ fin_17).2.2) dX14_readFile_208 ?_
                                        refine lv_topi (fun z65 ez65 => ?_)
                                        obtain rfl : z65 = (qI S59 6 (((f_two S59 ((qI S59 0 20) + (4 : Int32))).toInt).toNat)) := ez65
                                        obtain ⟨Q66, h0, h⟩ := h
                                        have hFc := rfree hR hA
                                        refine W_led2 (fun hL0 => ?_)
                                        refine va_callq (va_runV (As := [.int (qI S59 6 (((f_two S59 ((qI S59 0 20) + (4 : Int32))).toInt).toNat))]) (rest := [.ref (ak57 v147_4)]) ⟨hx, hb, hml, hown, hts⟩ (r_text l g ak57 H S59 (qI S59 6 (((f_two S59 ((qI S59 0 20) + (4 : Int32))).toInt).toNat)) hR.w  Q66 h0) (cwV 1 hts (gd2_V kx_1074 kx_1075 kx_1076 kx_177 kx_1077) rfl rfl rfl (by decide +kernel) ⟨Nat.le_of_ble_eq_true rfl, Nat.le_of_ble_eq_true rfl⟩) ⟨rblindH, va_recv hR.K hR.P (ci := 13) (q0 := 0) rfl (hR.at14 hR.w.1), fun U hU hW9 => rmkH hU hW9 hR hex hE hFc⟩ rfl rfl hl.1 rfl (lv_room (Nat.le_of_ble_eq_true rfl)) dX14_readFile_209 ⟨(show dc147 + dc_ak57 + (KC - qn S59) ≤ KC - qn S from hlg.cm), (show ds147 + ds_ak57 + (KS - qu S59) ≤ KS - qu S from hlg.sm)⟩) hR.sS (fun q _ h => hFc q h) hFc (fun r67 S68 t9 H1 locs ht9 hvm9 hw9 hB9 hz9 hk9 hS => ?_)
                                        rcases S68 with ⟨S68, ak70⟩
                                        obtain ⟨hB9, dc9, ds9, hL9, hl9⟩ := hB9
                                        dsimp only at hw9 hB9 hl9
                                        rw [ht9] at hL9
                                        obtain ⟨b71, rfl, hq69, hw9, hs9, hk8, hT_b71⟩ := hw9
                                        have hw8 := hR.w
                                        have hak := hak.tr hk8 hlg.2.2.1
                                        have hE := hE.ad hk8
                                        have hR : Rep g ak70 A s S68 H1 locs := hR.callH ht9 hB9 hw9 hS hFc
                                        have hsh := hsh.tr hs9
                                        refine W_tight2 (hL0.tr hL9).1 (hL0.tr hL9).2.1 ?_
                                        have hlg := hlg.call hl9
                                        replace h := h b71 S68 hq69
                                        have ea_0 : ak70 0 = ak57 0 := hk8 _ (hw8.hd hw8.1 (by decide) (by decide))
                                        have ea_1 : ak70 v147_4 = ak57 v147_4 := hk8 _ (hw8.hd hT_v147_4 (by decide) (by decide))
                                        have hl : lv_has ls 7 [(0, .ref (ak70 0)), (3, .int v147_3), (4, .ref (ak70 v147_4)), (5, .int v147_5)] := by simp only [ea_0, ea_1]; exact hl
                                        refine W.eq (g2 := F0 m 212 ls (.ref (ak70 b71) :: [.ref (ak70 v147_4)])) (by first | (simp only [ea_0, ea_1]; rfl) | simp only [ea_0, ea_1]) ?_
                                        have hT_v147_4 := hs9.T hT_v147_4 (by decide)
                                        clear hB9 hz9 hk9 hvm9 ht9 hw9 hs9 hS hL0 hL9
                                        generalize H1 = H at hR ⊢
                                        generalize dc9 = dc_ak70, ds9 = ds_ak70 at hlg ⊢
                                        refine va_put (D := rD g) (ci := 12) (v := .ref (ak70 b71)) (ty := (.object "java/lang/String")) (C := RX13) (T := TX13) (N := 23) hx hb hts in2X13 tyX13 tyX13_ok nmX13 hown hR.K hR.P hR.D hR.sS v147_4 (hR.at13 hT_v147_4) rfl 1 (by decide) (hts _ kx_571) (fun _ h9 => h9) rfl (by decide +kernel) rfl rfl (Nat.le_of_ble_eq_true rfl) dX14_readFile_212 (fun H locs hP hD hS => ?_)
                                        have hw9 : wfM (wR S68 v147_4 1 (some b71)) := hR.w.put (fun b q9 => by cases q9; exact (hT_b71).trans (by rw [hT_v147_4]; rfl)) (fun q9 => absurd ((congrArg (qT S68) q9).symm.trans hT_v147_4) (by rw [hR.w.1]; decide)) (by rw [hT_v147_4]; decide)
                                        have hR : Rep g ak70 A s (wR S68 v147_4 1 (some b71)) H locs := hR.pR3 hT_v147_4 F13_s1 hw9 hP hD hS
                                        obtain ⟨S72, eS72⟩ : ∃ z, z = wR S68 v147_4 1 (some b71) := ⟨_, rfl⟩
                                        rw [← eS72] at hR
                                        replace h := h S72 eS72
                                        have hT_v147_4 : qT S72 v147_4 = 11 := (congrArg (fun z => qT z v147_4) eS72).trans hT_v147_4
                                        have hsh : shx S S72 := by rw [eS72]; exact hsh
                                        have hlg : lg S S72 (dc147 + dc_ak57 + dc_ak70) (ds147 + ds_ak57 + ds_ak70) := by rw [eS72]; exact hlg
                                        refine lv_aload hx hb dX14_readFile_215 (lv_at hl 2 rfl) ?_
                                        refine lv_aload_n hx hb dX14_readFile_217 rfl (lv_at hl 0 rfl) ?_
                                        refine va_get (D := rD g) (ci := 13) (v := .int (qI S72 0 14)) (C := RX14) (T := TX14) (N := 143) hx hb hts in2X14 hown hR.K hR.P 0 (hR.at14 hR.w.1) rfl 14 (by decide) (hts _ kx_197) (fun _ h9 => h9) rfl dX14_readFile_218 ?_
                                        refine va_put (D := rD g) (ci := 12) (v := .int (qI S72 0 14)) (ty := .int) (C := RX13) (T := TX13) (N := 23) hx hb hts in2X13 tyX13 tyX13_ok nmX13 hown hR.K hR.P hR.D hR.sS v147_4 (hR.at13 hT_v147_4) rfl 2 (by decide) (hts _ kx_355) (fun _ h9 => h9) rfl (by decide +kernel) rfl rfl (Nat.le_of_ble_eq_true rfl) dX14_readFile_221 (fun H locs hP hD hS => ?_)
                                        have hR : Rep g ak70 A s (wI S72 v147_4 2 (qI S72 0 14)) H locs := hR.pI3 hT_v147_4 F13_s2 hP hD hS
                                        obtain ⟨S73, eS73⟩ : ∃ z, z = wI S72 v147_4 2 (qI S72 0 14) := ⟨_, rfl⟩
                                        rw [← eS73] at hR
                                        replace h := h S73 eS73
                                        have hT_v147_4 : qT S73 v147_4 = 11 := (congrArg (fun z => qT z v147_4) eS73).trans hT_v147_4
                                        have hsh : shx S S73 := by rw [eS73]; exact hsh
                                        have hlg : lg S S73 (dc147 + dc_ak57 + dc_ak70) (ds147 + ds_ak57 + ds_ak70) := by rw [eS73]; exact hlg
                                        refine lv_aload hx hb dX14_readFile_224 (lv_at hl 2 rfl) ?_
                                        refine lv_aload_n hx hb dX14_readFile_226 rfl (lv_at hl 0 rfl) ?_
                                        refine va_get (D := rD g) (ci := 13) (v := .int (qI S73 0 22)) (C := RX14) (T := TX14) (N := 143) hx hb hts in2X14 hown hR.K hR.P 0 (hR.at14 hR.w.1) rfl 22 (by decide) (hts _ kx_239) (fun _ h9 => h9) rfl dX14_readFile_227 ?_
                                        refine va_put (D := rD g) (ci := 12) (v := .int (qI S73 0 22)) (ty := .int) (C := RX13) (T := TX13) (N := 23) hx hb hts in2X13 tyX13 tyX13_ok nmX13 hown hR.K hR.P hR.D hR.sS v147_4 (hR.at13 hT_v147_4) rfl 3 (by decide) (hts _ kx_356) (fun _ h9 => h9) rfl (by decide +kernel) rfl rfl (Nat.le_of_ble_eq_true rfl) dX14_readFile_230 (fun H locs hP hD hS => ?_)
                                        have hR : Rep g ak70 A s (wI S73 v147_4 3 (qI S73 0 22)) H locs := hR.pI3 hT_v147_4 F13_s3 hP hD hS
                                        obtain ⟨S74, eS74⟩ : ∃ z, z = wI S73 v147_4 3 (qI S73 0 22) := ⟨_, rfl⟩
                                        rw [← eS74] at hR
                                        replace h := h S74 eS74
                                        have hT_v147_4 : qT S74 v147_4 = 11 := (congrArg (fun z => qT z v147_4) eS74).trans hT_v147_4
                                        have hsh : shx S S74 := by rw [eS74]; exact hsh
                                        have hlg : lg S S74 (dc147 + dc_ak57 + dc_ak70) (ds147 + ds_ak57 + ds_ak70) := by rw [eS74]; exact hlg
                                        refine lv_aload hx hb dX14_readFile_233 (lv_at hl 2 rfl) ?_
                                        refine lv_iload_n hx hb dX14_readFile_235 rfl (lv_at hl 1 rfl) ?_
                                        refine va_put (D := rD g) (ci := 12) (v := .int v147_3) (ty := .int) (C := RX13) (T := TX13) (N := 23) hx hb hts in2X13 tyX13 tyX13_ok nmX13 hown hR.K hR.P hR.D hR.sS v147_4 (hR.at13 hT_v147_4) rfl 4 (by decide) (hts _ kx_353) (fun _ h9 => h9) rfl (by decide +kernel) rfl rfl (Nat.le_of_ble_eq_true rfl) dX14_readFile_236 (fun H locs hP hD hS => ?_)
                                        have hR : Rep g ak70 A s (wI S74 v147_4 4 v147_3) H locs := hR.pI3 hT_v147_4 F13_s4 hP hD hS
                                        obtain ⟨S75, eS75⟩ : ∃ z, z = wI S74 v147_4 4 v147_3 := ⟨_, rfl⟩
                                        rw [← eS75] at hR
                                        replace h := h S75 eS75
                                        have hT_v147_4 : qT S75 v147_4 = 11 := (congrArg (fun z => qT z v147_4) eS75).trans hT_v147_4
                                        have hsh : shx S S75 := by rw [eS75]; exact hsh
                                        have hlg : lg S S75 (dc147 + dc_ak57 + dc_ak70) (ds147 + ds_ak57 + ds_ak70) := by rw [eS75]; exact hlg
                                        refine lv_iconst (v := 0) hx hb dX14_readFile_239 (by decide) ?_
                                        refine lv_istore (lv' := [(5, .int 0), (0, .ref (ak70 0)), (3, .int v147_3), (4, .ref (ak70 v147_4))]) hx hb dX14_readFile_240 hl (by decide) rfl (fun ls hl => ?_)
                                        have J_242 : ∀ (n242 : Nat) (ad242 : Nat → Nat) (dc242 ds242 : Nat) (U242 : MS) (v242_3 : Int32) (v242_4 : Nat) (v242_5 : Int32) (H : Heap) (locs : List Loc) (ls : Array Slot), w_readFile_L242 Q E n242 U242 v242_3 v242_4 v242_5 → qT U242 v242_4 = 11 → shx S U242 → lg S U242 dc242 ds242 → adk ad ad242 S → ogR ad242 A s s.heap → Rep g ad242 A s U242 H locs → lv_has ls 7 [(0, .ref (ad242 0)), (3, .int v242_3), (4, .ref (ad242 v242_4)), (5, .int v242_5)] → W p l e (headSpec (wt2 yX14_readFile cX14_readFile 7 (some (.object "CodeFoundryModel$File"))) ({ frames := 8, cells := KC - qn S, slots := KS - qu S, locals := 179 })).room s m ([.ref (ad 0), .ref (ad p1), .int x2] : List Value).toArray below meth c H locs dc242 ds242 (vx_MQ below (va_Qq (fun (r : Option Nat) (u : MS × (Nat → Nat)) => ∃ b : Nat, r = some (u.2 b) ∧ Q b u.1 ∧ wfM u.1 ∧ shx S u.1 ∧ adk ad u.2 S ∧ qT u.1 b = 11) (fun (u : MS × (Nat → Nat)) (t : State) => qEH g A S s.heap u t) A) ((vx_X (fun (u : MS × (Nat → Nat)) => E u.1 ∧ wfM u.1 ∧ shx S u.1 ∧ adk ad u.2 S) (fun (n9 : String) (u : MS × (Nat → Nat)) (t : State) => n9 = RJxb5711 ∧ qEH g A S s.heap u t) A)) ([.ref (ad 0), .ref (ad p1), .int x2] : List Value).toArray s (KC - qn S) (KS - qu S) A) (F0 m 242 ls []) := by
                                          intro n242
                                          induction n242 with
                                          | zero => intro ad242 dc242 ds242 U242 v242_3 v242_4 v242_5 H locs ls h hT_v242_4 hsh hlg hak hE hR hl; unfold w_readFile_L242 at h; exact h.elim
                                          | succ n242 ih_242 =>
                                            intro ad242 dc242 ds242 U242 v242_3 v242_4 v242_5 H locs ls h hT_v242_4 hsh hlg hak hE hR hl
                                            unfold w_readFile_L242 at h
                                            refine lv_iload hx hb dX14_readFile_242 (lv_at hl 3 rfl) ?_
                                            refine lv_aload_n hx hb dX14_readFile_244 rfl (lv_at hl 0 rfl) ?_
                                            refine va_get (D := rD g) (ci := 13) (v := .int (qI U242 0 22)) (C := RX14) (T := TX14) (N := 143) hx hb hts in2X14 hown hR.K hR.P 0 (hR.at14 hR.w.1) rfl 22 (by decide) (hts _ kx_239) (fun _ h9 => h9) rfl dX14_readFile_245 ?_
                                            refine lv_icmp_ge (tgt := 327) hx hb dX14_readFile_248 (by decide) (fun c76 => ?_) (fun c76 => ?_)
                                            · replace h := h.1 (k_le rfl rfl c76)
                                              refine lv_iconst (v := 0) hx hb dX14_readFile_327 (by decide) ?_
                                              refine lv_istore (lv' := [(5, .int 0), (0, .ref (ad242 0)), (3, .int v242_3), (4, .ref (ad242 v242_4))]) hx hb dX14_readFile_328 hl (by decide) rfl (fun ls hl => ?_)
                                              have J_330 : ∀ (n330 : Nat) (ad330 : Nat → Nat) (dc330 ds330 : Nat) (U330 : MS) (v330_3 : Int32) (v330_4 : Nat) (v330_5 : Int32) (H : Heap) (locs : List Loc) (ls : Array Slot), w_readFile_L330 Q E n330 U330 v330_3 v330_4 v330_5 → qT U330 v330_4 = 11 → shx S U330 → lg S U330 dc330 ds330 → adk ad ad330 S → ogR ad330 A s s.heap → Rep g ad330 A s U330 H locs → lv_has ls 7 [(0, .ref (ad330 0)), (3, .int v330_3), (4, .ref (ad330 v330_4)), (5, .int v330_5)] → W p l e (headSpec (wt2 yX14_readFile cX14_readFile 7 (some (.object "CodeFoundryModel$File"))) ({ frames := 8, cells := KC - qn S, slots := KS - qu S, locals := 179 })).room s m ([.ref (ad 0), .ref (ad p1), .int x2] : List Value).toArray below meth c H locs dc330 ds330 (vx_MQ below (va_Qq (fun (r : Option Nat) (u : MS × (Nat → Nat)) => ∃ b : Nat, r = some (u.2 b) ∧ Q b u.1 ∧ wfM u.1 ∧ shx S u.1 ∧ adk ad u.2 S ∧ qT u.1 b = 11) (fun (u : MS × (Nat → Nat)) (t : State) => qEH g A S s.heap u t) A) ((vx_X (fun (u : MS × (Nat → Nat)) => E u.1 ∧ wfM u.1 ∧ shx S u.1 ∧ adk ad u.2 S) (fun (n9 : String) (u : MS × (Nat → Nat)) (t : State) => n9 = RJxb5711 ∧ qEH g A S s.heap u t) A)) ([.ref (ad 0), .ref (ad p1), .int x2] : List Value).toArray s (KC - qn S) (KS - qu S) A) (F0 m 330 ls []) := by
                                                intro n330
                                                induction n330 with
                                                | zero => intro ad330 dc330 ds330 U330 v330_3 v330_4 v330_5 H locs ls h hT_v330_4 hsh hlg hak hE hR hl; unfold w_readFile_L330 at h; exact h.elim
                                                | succ n330 ih_330 =>
                                                  intro ad330 dc330 ds330 U330 v330_3 v330_4 v330_5 H locs ls h hT_v330_4 hsh hlg hak hE hR hl
                                                  unfold w_readFile_L330 at h
                                                  refine lv_iload hx hb dX14_readFile_330 (lv_at hl 3 rfl) ?_
                                                  refine lv_iload_n hx hb dX14_readFile_332 rfl (lv_at hl 1 rfl) ?_
                                                  refine lv_icmp_ge (tgt := 470) hx hb dX14_readFile_333 (by decide) (fun c77 => ?_) (fun c77 => ?_)
                                                  · replace h := h.1 (k_le rfl rfl c77)
                                                    refine lv_aload hx hb dX14_readFile_470 (lv_at hl 2 rfl) ?_
                                                    refine lv_aload_n hx hb dX14_readFile_472 rfl (lv_at hl 0 rfl) ?_
                                                    refine va_get (D := rD g) (ci := 13) (v := .ref (ad330 19)) (C := RX14) (T := TX14) (N := 143) hx hb hts in2X14 hown hR.K hR.P 0 (hR.at14 hR.w.1) rfl 40 (by decide) (hts _ kx_296) (fun _ h9 => h9) (congrArg (fun z => some (vf ad330 z)) (hR.w.2.1 _ fin_40).1) dX14_readFile_473 ?_
                                                    refine lv_iconst (v := 3) hx hb dX14_readFile_476 (by decide) ?_
                                                    refine lv_aload_n hx hb dX14_readFile_477 rfl (lv_at hl 0 rfl) ?_
                                                    refine va_get (D := rD g) (ci := 13) (v := .int (qI U330 0 41)) (C := RX14) (T := TX14) (N := 143) hx hb hts in2X14 hown hR.K hR.P 0 (hR.at14 hR.w.1) rfl 41 (by decide) (hts _ kx_297) (fun _ h9 => h9) rfl dX14_readFile_478 ?_
                                                    refine lv_imul hx hb dX14_readFile_481 ?_
                                                    refine lv_topi (fun z78 ez78 => ?_)
                                                    obtain rfl : z78 = ((3 : Int32) * (qI U330 0 41)) := ez78
                                                    obtain ⟨Q79, h0, h⟩ := h
                                                    have hFc := rfree hR hA
                                                    refine W_led2 (fun hL0 => ?_)
                                                    refine va_callq (va_runS (As := [.ref (ad330 19), .int ((3 : Int32) * (qI U330 0 41))]) (rest := [.ref (ad330 v330_4)]) ⟨hx, hb, hml, hown, hts⟩ (r_firstInts l g ad330 H U330 19 ((3 : Int32) * (qI U330 0 41)) hR.w (hR.w.2.1 _ fin_40).2.1 Q79 h0) (va_cwS 2 hts (gd2_S kx_519 kx_520 kx_177 kx_521) rfl rfl rfl (by decide +kernel) ⟨Nat.le_of_ble_eq_true rfl, Nat.le_of_ble_eq_true rfl⟩) ⟨rblindH, fun U hU hW9 => rmkH hU hW9 hR hex hE hFc⟩ rfl rfl hl.1 rfl (lv_room (Nat.le_of_ble_eq_true rfl)) dX14_readFile_482 ⟨(show dc330 + (KC - qn U330) ≤ KC - qn S from hlg.cm), (show ds330 + (KS - qu U330) ≤ KS - qu S from hlg.sm)⟩) hR.sS (fun q _ h => hFc q h) hFc (fun r80 S81 t9 H1 locs ht9 hvm9 hw9 hB9 hz9 hk9 hS => ?_)
                                                    rcases S81 with ⟨S81, ak83⟩
                                                    obtain ⟨hB9, dc9, ds9, hL9, hl9⟩ := hB9
                                                    dsimp only at hw9 hB9 hl9
                                                    rw [ht9] at hL9
                                                    obtain ⟨b84, rfl, hq82, hw9, hs9, hk8, hT_b84⟩ := hw9
                                                    have hw8 := hR.w
                                                    have hak := hak.tr hk8 hlg.2.2.1
                                                    have hE := hE.ad hk8
                                                    have hR : Rep g ak83 A s S81 H1 locs := hR.callH ht9 hB9 hw9 hS hFc
                                                    have hsh := hsh.tr hs9
                                                    refine W_tight2 (hL0.tr hL9).1 (hL0.tr hL9).2.1 ?_
                                                    have hlg := hlg.call hl9
                                                    replace h := h b84 S81 hq82
                                                    have ea_0 : ak83 0 = ad330 0 := hk8 _ (hw8.hd hw8.1 (by decide) (by decide))
                                                    have ea_1 : ak83 v330_4 = ad330 v330_4 := hk8 _ (hw8.hd hT_v330_4 (by decide) (by decide))
                                                    have hl : lv_has ls 7 [(0, .ref (ak83 0)), (3, .int v330_3), (4, .ref (ak83 v330_4)), (5, .int v330_5)] := by simp only [ea_0, ea_1]; exact hl
                                                    refine W.eq (g2 := F0 m 485 ls (.ref (ak83 b84) :: [.ref (ak83 v330_4)])) (by first | (simp only [ea_0, ea_1]; rfl) | simp only [ea_0, ea_1]) ?_
                                                    have hT_v330_4 := hs9.T hT_v330_4 (by decide)
                                                    clear hB9 hz9 hk9 hvm9 ht9 hw9 hs9 hS hL0 hL9
                                                    generalize H1 = H at hR ⊢
                                                    generalize dc9 = dc_ak83, ds9 = ds_ak83 at hlg ⊢
                                                    refine va_put (D := rD g) (ci := 12) (v := .ref (ak83 b84)) (ty := (.array .int)) (C := RX13) (T := TX13) (N := 23) hx hb hts in2X13 tyX13 tyX13_ok nmX13 hown hR.K hR.P hR.D hR.sS v330_4 (hR.at13 hT_v330_4) rfl 18 (by decide) (hts _ kx_354) (fun _ h9 => h9) rfl (by decide +kernel) rfl rfl (Nat.le_of_ble_eq_true rfl) dX14_readFile_485 (fun H locs hP hD hS => ?_)
                                                    have hw9 : wfM (wR S81 v330_4 18 (some b84)) := hR.w.put (fun b q9 => by cases q9; exact (hT_b84).trans (by rw [hT_v330_4]; rfl)) (fun q9 => absurd ((congrArg (qT S81) q9).symm.trans hT_v330_4) (by rw [hR.w.1]; decide)) (by rw [hT_v330_4]; decide)
                                                    have hR : Rep g ak83 A s (wR S81 v330_4 18 (some b84)) H locs := hR.pR3 hT_v330_4 F13_s18 hw9 hP hD hS
                                                    obtain ⟨S85, eS85⟩ : ∃ z, z = wR S81 v330_4 18 (some b84) := ⟨_, rfl⟩
                                                    rw [← eS85] at hR
                                                    replace h := h S85 eS85
                                                    have hT_v330_4 : qT S85 v330_4 = 11 := (congrArg (fun z => qT z v330_4) eS85).trans hT_v330_4
                                                    have hsh : shx S S85 := by rw [eS85]; exact hsh
                                                    have hlg : lg S S85 (dc330 + dc_ak83) (ds330 + ds_ak83) := by rw [eS85]; exact hlg
                                                    refine lv_aload hx hb dX14_readFile_488 (lv_at hl 2 rfl) ?_
                                                    refine lv_aload_n hx hb dX14_readFile_490 rfl (lv_at hl 0 rfl) ?_
                                                    refine va_get (D := rD g) (ci := 13) (v := .ref (ak83 20)) (C := RX14) (T := TX14) (N := 143) hx hb hts in2X14 hown hR.K hR.P 0 (hR.at14 hR.w.1) rfl 42 (by decide) (hts _ kx_326) (fun _ h9 => h9) (congrArg (fun z => some (vf ak83 z)) (hR.w.2.1 _ fin_42).1) dX14_readFile_491 ?_
                                                    refine lv_aload_n hx hb dX14_readFile_494 rfl (lv_at hl 0 rfl) ?_
                                                    refine va_get (D := rD g) (ci := 13) (v := .int (qI S85 0 43)) (C := RX14) (T := TX14) (N := 143) hx hb hts in2X14 hown hR.K hR.P 0 (hR.at14 hR.w.1) rfl 43 (by decide) (hts _ kx_325) (fun _ h9 => h9) rfl dX14_readFile_495 ?_
                                                    obtain ⟨Q86, h0, h⟩ := h
                                                    have hFc := rfree hR hA
                                                    refine W_led2 (fun hL0 => ?_)
                                                    refine va_callq (va_runS (As := [.ref (ak83 20), .int (qI S85 0 43)]) (rest := [.ref (ak83 v330_4)]) ⟨hx, hb, hml, hown, hts⟩ (r_firstInts l g ak83 H S85 20 (qI S85 0 43) hR.w (hR.w.2.1 _ fin_42).2.1 Q86 h0) (va_cwS 2 hts (gd2_S kx_519 kx_520 kx_177 kx_521) rfl rfl rfl (by decide +kernel) ⟨Nat.le_of_ble_eq_true rfl, Nat.le_of_ble_eq_true rfl⟩) ⟨rblindH, fun U hU hW9 => rmkH hU hW9 hR hex hE hFc⟩ rfl rfl hl.1 rfl (lv_room (Nat.le_of_ble_eq_true rfl)) dX14_readFile_498 ⟨(show dc330 + dc_ak83 + (KC - qn S85) ≤ KC - qn S from hlg.cm), (show ds330 + ds_ak83 + (KS - qu S85) ≤ KS - qu S from hlg.sm)⟩) hR.sS (fun q _ h => hFc q h) hFc (fun r87 S88 t9 H1 locs ht9 hvm9 hw9 hB9 hz9 hk9 hS => ?_)
                                                    rcases S88 with ⟨S88, ak90⟩
                                                    obtain ⟨hB9, dc9, ds9, hL9, hl9⟩ := hB9
                                                    dsimp only at hw9 hB9 hl9
                                                    rw [ht9] at hL9
                                                    obtain ⟨b91, rfl, hq89, hw9, hs9, hk8, hT_b91⟩ := hw9
                                                    have hw8 := hR.w
                                                    have hak := hak.tr hk8 hlg.2.2.1
                                                    have hE := hE.ad hk8
                                                    have hR : Rep g ak90 A s S88 H1 locs := hR.callH ht9 hB9 hw9 hS hFc
                                                    have hsh := hsh.tr hs9
                                                    refine W_tight2 (hL0.tr hL9).1 (hL0.tr hL9).2.1 ?_
                                                    have hlg := hlg.call hl9
                                                    replace h := h b91 S88 hq89
                                                    have ea_0 : ak90 0 = ak83 0 := hk8 _ (hw8.hd hw8.1 (by decide) (by decide))
                                                    have ea_1 : ak90 v330_4 = ak83 v330_4 := hk8 _ (hw8.hd hT_v330_4 (by decide) (by decide))
                                                    have hl : lv_has ls 7 [(0, .ref (ak90 0)), (3, .int v330_3), (4, .ref (ak90 v330_4)), (5, .int v330_5)] := by simp only [ea_0, ea_1]; exact hl
                                                    refine W.eq (g2 := F0 m 501 ls (.ref (ak90 b91) :: [.ref (ak90 v330_4)])) (by first | (simp only [ea_0, ea_1]; rfl) | simp only [ea_0, ea_1]) ?_
                                                    have hT_v330_4 := hs9.T hT_v330_4 (by decide)
                                                    clear hB9 hz9 hk9 hvm9 ht9 hw9 hs9 hS hL0 hL9
                                                    generalize H1 = H at hR ⊢
                                                    generalize dc9 = dc_ak90, ds9 = ds_ak90 at hlg ⊢
                                                    refine va_put (D := rD g) (ci := 12) (v := .ref (ak90 b91)) (ty := (.array .int)) (C := RX13) (T := TX13) (N := 23) hx hb hts in2X13 tyX13 tyX13_ok nmX13 hown hR.K hR.P hR.D hR.sS v330_4 (hR.at13 hT_v330_4) rfl 19 (by decide) (hts _ kx_364) (fun _ h9 => h9) rfl (by decide +kernel) rfl rfl (Nat.le_of_ble_eq_true rfl) dX14_readFile_501 (fun H locs hP hD hS => ?_)
                                                    have hw9 : wfM (wR S88 v330_4 19 (some b91)) := hR.w.put (fun b q9 => by cases q9; exact (hT_b91).trans (by rw [hT_v330_4]; rfl)) (fun q9 => absurd ((congrArg (qT S88) q9).symm.trans hT_v330_4) (by rw [hR.w.1]; decide)) (by rw [hT_v330_4]; decide)
                                                    have hR : Rep g ak90 A s (wR S88 v330_4 19 (some b91)) H locs := hR.pR3 hT_v330_4 F13_s19 hw9 hP hD hS
                                                    obtain ⟨S92, eS92⟩ : ∃ z, z = wR S88 v330_4 19 (some b91) := ⟨_, rfl⟩
                                                    rw [← eS92] at hR
                                                    replace h := h S92 eS92
                                                    have hT_v330_4 : qT S92 v330_4 = 11 := (congrArg (fun z => qT z v330_4) eS92).trans hT_v330_4
                                                    have hsh : shx S S92 := by rw [eS92]; exact hsh
                                                    have hlg : lg S S92 (dc330 + dc_ak83 + dc_ak90) (ds330 + ds_ak83 + ds_ak90) := by rw [eS92]; exact hlg
                                                    refine lv_aload hx hb dX14_readFile_504 (lv_at hl 2 rfl) ?_
                                                    refine lv_aload_n hx hb dX14_readFile_506 rfl (lv_at hl 0 rfl) ?_
                                                    refine va_get (D := rD g) (ci := 13) (v := .ref (ak90 21)) (C := RX14) (T := TX14) (N := 143) hx hb hts in2X14 hown hR.K hR.P 0 (hR.at14 hR.w.1) rfl 44 (by decide) (hts _ kx_331) (fun _ h9 => h9) (congrArg (fun z => some (vf ak90 z)) (hR.w.2.1 _ fin_44).1) dX14_readFile_507 ?_
                                                    refine lv_iconst (v := 4) hx hb dX14_readFile_510 (by decide) ?_
                                                    refine lv_aload_n hx hb dX14_readFile_511 rfl (lv_at hl 0 rfl) ?_
                                                    refine va_get (D := rD g) (ci := 13) (v := .int (qI S92 0 45)) (C := RX14) (T := TX14) (N := 143) hx hb hts in2X14 hown hR.K hR.P 0 (hR.at14 hR.w.1) rfl 45 (by decide) (hts _ kx_332) (fun _ h9 => h9) rfl dX14_readFile_512 ?_
                                                    refine lv_imul hx hb dX14_readFile_515 ?_
                                                    refine lv_topi (fun z93 ez93 => ?_)
                                                    obtain rfl : z93 = ((4 : Int32) * (qI S92 0 45)) := ez93
                                                    obtain ⟨Q94, h0, h⟩ := h
                                                    have hFc := rfree hR hA
                                                    refine W_led2 (fun hL0 => ?_)
                                                    refine va_callq (va_runS (As := [.ref (ak90 21), .int ((4 : Int32) * (qI S92 0 45))]) (rest := [.ref (ak90 v330_4)]) ⟨hx, hb, hml, hown, hts⟩ (r_firstInts l g ak90 H S92 21 ((4 : Int32) * (qI S92 0 45)) hR.w (hR.w.2.1 _ fin_44).2.1 Q94 h0) (va_cwS 2 hts (gd2_S kx_519 kx_520 kx_177 kx_521) rfl rfl rfl (by decide +kernel) ⟨Nat.le_of_ble_eq_true rfl, Nat.le_of_ble_eq_true rfl⟩) ⟨rblindH, fun U hU hW9 => rmkH hU hW9 hR hex hE hFc⟩ rfl rfl hl.1 rfl (lv_room (Nat.le_of_ble_eq_true rfl)) dX14_readFile_516 ⟨(show dc330 + dc_ak83 + dc_ak90 + (KC - qn S92) ≤ KC - qn S from hlg.cm), (show ds330 + ds_ak83 + ds_ak90 + (KS - qu S92) ≤ KS - qu S from hlg.sm)⟩) hR.sS (fun q _ h => hFc q h) hFc (fun r95 S96 t9 H1 locs ht9 hvm9 hw9 hB9 hz9 hk9 hS => ?_)
                                                    rcases S96 with ⟨S96, ak98⟩
                                                    obtain ⟨hB9, dc9, ds9, hL9, hl9⟩ := hB9
                                                    dsimp only at hw9 hB9 hl9
                                                    rw [ht9] at hL9
                                                    obtain ⟨b99, rfl, hq97, hw9, hs9, hk8, hT_b99⟩ := hw9
                                                    have hw8 := hR.w
                                                    have hak := hak.tr hk8 hlg.2.2.1
                                                    have hE := hE.ad hk8
                                                    have hR : Rep g ak98 A s S96 H1 locs := hR.callH ht9 hB9 hw9 hS hFc
                                                    have hsh := hsh.tr hs9
                                                    refine W_tight2 (hL0.tr hL9).1 (hL0.tr hL9).2.1 ?_
                                                    have hlg := hlg.call hl9
                                                    replace h := h b99 S96 hq97
                                                    have ea_0 : ak98 0 = ak90 0 := hk8 _ (hw8.hd hw8.1 (by decide) (by decide))
                                                    have ea_1 : ak98 v330_4 = ak90 v330_4 := hk8 _ (hw8.hd hT_v330_4 (by decide) (by decide))
                                                    have hl : lv_has ls 7 [(0, .ref (ak98 0)), (3, .int v330_3), (4, .ref (ak98 v330_4)), (5, .int v330_5)] := by simp only [ea_0, ea_1]; exact hl
                                                    refine W.eq (g2 := F0 m 519 ls (.ref (ak98 b99) :: [.ref (ak98 v330_4)])) (by first | (simp only [ea_0, ea_1]; rfl) | simp only [ea_0, ea_1]) ?_
                                                    have hT_v330_4 := hs9.T hT_v330_4 (by decide)
                                                    clear hB9 hz9 hk9 hvm9 ht9 hw9 hs9 hS hL0 hL9
                                                    generalize H1 = H at hR ⊢
                                                    generalize dc9 = dc_ak98, ds9 = ds_ak98 at hlg ⊢
                                                    refine va_put (D := rD g) (ci := 12) (v := .ref (ak98 b99)) (ty := (.array .int)) (C := RX13) (T := TX13) (N := 23) hx hb hts in2X13 tyX13 tyX13_ok nmX13 hown hR.K hR.P hR.D hR.sS v330_4 (hR.at13 hT_v330_4) rfl 20 (by decide) (hts _ kx_366) (fun _ h9 => h9) rfl (by decide +kernel) rfl rfl (Nat.le_of_ble_eq_true rfl) dX14_readFile_519 (fun H locs hP hD hS => ?_)
                                                    have hw9 : wfM (wR S96 v330_4 20 (some b99)) := hR.w.put (fun b q9 => by cases q9; exact (hT_b99).trans (by rw [hT_v330_4]; rfl)) (fun q9 => absurd ((congrArg (qT S96) q9).symm.trans hT_v330_4) (by rw [hR.w.1]; decide)) (by rw [hT_v330_4]; decide)
                                                    have hR : Rep g ak98 A s (wR S96 v330_4 20 (some b99)) H locs := hR.pR3 hT_v330_4 F13_s20 hw9 hP hD hS
                                                    obtain ⟨S100, eS100⟩ : ∃ z, z = wR S96 v330_4 20 (some b99) := ⟨_, rfl⟩
                                                    rw [← eS100] at hR
                                                    replace h := h S100 eS100
                                                    have hT_v330_4 : qT S100 v330_4 = 11 := (congrArg (fun z => qT z v330_4) eS100).trans hT_v330_4
                                                    have hsh : shx S S100 := by rw [eS100]; exact hsh
                                                    have hlg : lg S S100 (dc330 + dc_ak83 + dc_ak90 + dc_ak98) (ds330 + ds_ak83 + ds_ak90 + ds_ak98) := by rw [eS100]; exact hlg
                                                    refine lv_aload hx hb dX14_readFile_522 (lv_at hl 2 rfl) ?_
                                                    refine W_led2 (fun hLd => ?_)
                                                    refine W.widen (k := KC - qn S) (n := KS - qu S) hlg.c hlg.s ?_
                                                    exact vx_ret (W.aret (v := .ref (ak98 v330_4)) hx hb hr (Or.inl ⟨_, rfl⟩) (Or.inr ⟨_, rfl⟩) (fun t9 ht9 hW9 => ⟨⟨some (ak98 v330_4), (S100, ak98), rfl, ⟨v330_4, rfl, h, hR.w, hsh, hak, hT_v330_4⟩, ⟨⟨by rw [ht9]; exact hR.P, hR.D⟩, _, _, by rw [ht9]; exact hLd, hlg⟩⟩, hR.sS.F ht9⟩) hR.sS.2.2 dX14_readFile_524)
                                                  · replace h := h.2 (k_nle rfl rfl c77)
                                                    refine lv_aload hx hb dX14_readFile_336 (lv_at hl 2 rfl) ?_
                                                    obtain ⟨hv101, h⟩ := h
                                                    have hT_b102 : qT U330 (qO U330 v330_4 8) = 5 := hR.w.ref hv101 hT_v330_4
                                                    refine va_get (D := rD g) (ci := 12) (v := .ref (ad330 (qO U330 v330_4 8))) (C := RX13) (T := TX13) (N := 23) hx hb hts in2X13 hown hR.K hR.P v330_4 (hR.at13 hT_v330_4) rfl 8 (by decide) (hts _ kx_569) (fun _ h9 => h9) (congrArg (fun z => some (vf ad330 z)) hv101) dX14_readFile_338 ?_
                                                    refine lv_iload hx hb dX14_readFile_341 (lv_at hl 3 rfl) ?_
                                                    refine lv_aload_n hx hb dX14_readFile_343 rfl (lv_at hl 0 rfl) ?_
                                                    refine lv_aload_n hx hb dX14_readFile_344 rfl (lv_at hl 0 rfl) ?_
                                                    refine lv_aload_n hx hb dX14_readFile_345 rfl (lv_at hl 0 rfl) ?_
                                                    refine va_get (D := rD g) (ci := 13) (v := .ref (ad330 9)) (C := RX14) (T := TX14) (N := 143) hx hb hts in2X14 hown hR.K hR.P 0 (hR.at14 hR.w.1) rfl 24 (by decide) (hts _ kx_210) (fun _ h9 => h9) (congrArg (fun z => some (vf ad330 z)) (hR.w.2.1 _ fin_24).1) dX14_readFile_346 ?_
                                                    refine lv_aload_n hx hb dX14_readFile_349 rfl (lv_at hl 0 rfl) ?_
                                                    refine va_get (D := rD g) (ci := 13) (v := .int (qI U330 0 22)) (C := RX14) (T := TX14) (N := 143) hx hb hts in2X14 hown hR.K hR.P 0 (hR.at14 hR.w.1) rfl 22 (by decide) (hts _ kx_239) (fun _ h9 => h9) rfl dX14_readFile_350 ?_
                                                    refine lv_iload hx hb dX14_readFile_353 (lv_at hl 3 rfl) ?_
                                                    refine lv_iadd hx hb dX14_readFile_355 ?_
                                                    refine lv_topi (fun z103 ez103 => ?_)
                                                    obtain rfl : z103 = ((qI U330 0 22) + v330_5) := ez103
                                                    obtain ⟨hv104, h⟩ := h
                                                    refine va_iald hx hb hR.K hR.P 9 1 (hR.atI (hR.w.2.1 _ fin_24).2.1) rfl (k_ixN (k_ix (n := 48) (x := ((qI U330 0 22) + v330_5)) (a := ((qI U330 0 22) + v330_5).toInt) rfl hv104) (hR.w.2.1 _ fin_24).2.2) dX14_readFile_356 ?_
                                                    refine lv_topi (fun z105 ez105 => ?_)
                                                    obtain rfl : z105 = (qI U330 9 ((((qI U330 0 22) + v330_5).toInt).toNat)) := ez105
                                                    refine lv_iconst (v := 2) hx hb dX14_readFile_357 (by decide) ?_
                                                    refine lv_iadd hx hb dX14_readFile_358 ?_
                                                    refine lv_topi (fun z106 ez106 => ?_)
                                                    obtain rfl : z106 = ((qI U330 9 ((((qI U330 0 22) + v330_5).toInt).toNat)) + (2 : Int32)) := ez106
                                                    obtain ⟨hv107, h⟩ := h
                                                    have hFc := rfree hR hA
                                                    refine va_calli (va_runV (As := [.int ((qI U330 9 ((((qI U330 0 22) + v330_5).toInt).toNat)) + (2 : Int32))]) (rest := [.ref (ad330 0), .int v330_5, .ref (ad330 (qO U330 v330_4 8))]) ⟨hx, hb, hml, hown, hts⟩ (r_two l g ad330 H.size U330 ((qI U330 9 ((((qI U330 0 22) + v330_5).toInt).toNat)) + (2 : Int32)) hR.w  hv107) (cwV 1 hts (gd2_V kx_186 kx_187 kx_188 kx_177 kx_189) rfl rfl rfl (by decide +kernel) ⟨Nat.le_of_ble_eq_true rfl, Nat.le_of_ble_eq_true rfl⟩) ⟨rblind, va_recv hR.K hR.P (ci := 13) (q0 := 0) rfl (hR.at14 hR.w.1), fun U hU hW9 => rmk hU hW9 hR hex hE hFc⟩ rfl rfl hl.1 rfl (lv_room (Nat.le_of_ble_eq_true rfl)) dX14_readFile_359 ⟨(show dc330 + 0 ≤ KC - qn S from hlg.c), (show ds330 + 0 ≤ KS - qu S from hlg.s)⟩) hR.sS (fun q _ h => hFc q h) hFc (fun r108 u9 t9 H1 locs ht9 hvm9 hw9 hB9 hz9 hk9 hS => ?_)
                                                    have hR : Rep g ad330 A s U330 H1 locs := hR.call ht9 hB9 hR.w hS hFc
                                                    obtain rfl : r108 = (f_two U330 ((qI U330 9 ((((qI U330 0 22) + v330_5).toInt).toNat)) + (2 : Int32))) := hw9
                                                    clear hB9 hz9 hk9 hvm9 ht9 hS
                                                    generalize H1 = H at hR ⊢
                                                    obtain ⟨Q110, h0, h⟩ := h
                                                    have hFc := rfree hR hA
                                                    refine W_led2 (fun hL0 => ?_)
                                                    refine va_callq (va_runV (As := [.int (f_two U330 ((qI U330 9 ((((qI U330 0 22) + v330_5).toInt).toNat)) + (2 : Int32)))]) (rest := [.int v330_5, .ref (ad330 (qO U330 v330_4 8))]) ⟨hx, hb, hml, hown, hts⟩ (r_text l g ad330 H U330 (f_two U330 ((qI U330 9 ((((qI U330 0 22) + v330_5).toInt).toNat)) + (2 : Int32))) hR.w  Q110 h0) (cwV 1 hts (gd2_V kx_1074 kx_1075 kx_1076 kx_177 kx_1077) rfl rfl rfl (by decide +kernel) ⟨Nat.le_of_ble_eq_true rfl, Nat.le_of_ble_eq_true rfl⟩) ⟨rblindH, va_recv hR.K hR.P (ci := 13) (q0 := 0) rfl (hR.at14 hR.w.1), fun U hU hW9 => rmkH hU hW9 hR hex hE hFc⟩ rfl rfl hl.1 rfl (lv_room (Nat.le_of_ble_eq_true rfl)) dX14_readFile_362 ⟨(show dc330 + (KC - qn U330) ≤ KC - qn S from hlg.cm), (show ds330 + (KS - qu U330) ≤ KS - qu S from hlg.sm)⟩) hR.sS (fun q _ h => hFc q h) hFc (fun r111 S112 t9 H1 locs ht9 hvm9 hw9 hB9 hz9 hk9 hS => ?_)
                                                    rcases S112 with ⟨S112, ak114⟩
                                                    obtain ⟨hB9, dc9, ds9, hL9, hl9⟩ := hB9
                                                    dsimp only at hw9 hB9 hl9
                                                    rw [ht9] at hL9
                                                    obtain ⟨b115, rfl, hq113, hw9, hs9, hk8, hT_b115⟩ := hw9
                                                    have hw8 := hR.w
                                                    have hak := hak.tr hk8 hlg.2.2.1
                                                    have hE := hE.ad hk8
                                                    have hR : Rep g ak114 A s S112 H1 locs := hR.callH ht9 hB9 hw9 hS hFc
                                                    have hsh := hsh.tr hs9
                                                    refine W_tight2 (hL0.tr hL9).1 (hL0.tr hL9).2.1 ?_
                                                    have hlg := hlg.call hl9
                                                    replace h := h b115 S112 hq113
                                                    have ea_0 : ak114 0 = ad330 0 := hk8 _ (hw8.hd hw8.1 (by decide) (by decide))
                                                    have ea_1 : ak114 v330_4 = ad330 v330_4 := hk8 _ (hw8.hd hT_v330_4 (by decide) (by decide))
                                                    have ea_2 : ak114 (qO U330 v330_4 8) = ad330 (qO U330 v330_4 8) := hk8 _ (hw8.hd hT_b102 (by decide) (by decide))
                                                    have hl : lv_has ls 7 [(0, .ref (ak114 0)), (3, .int v330_3), (4, .ref (ak114 v330_4)), (5, .int v330_5)] := by simp only [ea_0, ea_1, ea_2]; exact hl
                                                    refine W.eq (g2 := F0 m 365 ls (.ref (ak114 b115) :: [.int v330_5, .ref (ak114 (qO U330 v330_4 8))])) (by first | (simp only [ea_0, ea_1, ea_2]; rfl) | simp only [ea_0, ea_1, ea_2]) ?_
                                                    have hT_v330_4 := hs9.T hT_v330_4 (by decide)
                                                    have hT_b102 := hs9.T hT_b102 (by decide)
                                                    clear hB9 hz9 hk9 hvm9 ht9 hw9 hs9 hS hL0 hL9
                                                    generalize H1 = H at hR ⊢
                                                    generalize dc9 = dc_ak114, ds9 = ds_ak114 at hlg ⊢
                                                    obtain ⟨hv116, h⟩ := h
                                                    refine va_astqM (E := "java/lang/String") hx hb hR.K hR.P hR.D hR.sS (qO U330 v330_4 8) 4 (hR.atS hT_b102) rfl (any_str hts hR hE hA hT_b115) (k_ix (x := v330_5) (a := v330_5.toInt) rfl hv116) dX14_readFile_365 (fun H locs hP hD hS => ?_)
                                                    have hw9 : wfM (wR S112 (qO U330 v330_4 8) v330_5.toInt.toNat (some b115)) := hR.w.put (fun b q9 => by cases q9; exact (hT_b115).trans (by rw [hT_b102]; rfl)) (fun q9 => absurd ((congrArg (qT S112) q9).symm.trans hT_b102) (by rw [hR.w.1]; decide)) (by rw [hT_b102]; show (12 : Nat) ≠ 0; decide)
                                                    have hR : Rep g ak114 A s (wR S112 (qO U330 v330_4 8) v330_5.toInt.toNat (some b115)) H locs := hR.aS hT_b102 hw9 hP hD hS
                                                    obtain ⟨S117, eS117⟩ : ∃ z, z = wR S112 (qO U330 v330_4 8) v330_5.toInt.toNat (some b115) := ⟨_, rfl⟩
                                                    rw [← eS117] at hR
                                                    replace h := h S117 eS117
                                                    have hT_v330_4 : qT S117 v330_4 = 11 := (congrArg (fun z => qT z v330_4) eS117).trans hT_v330_4
                                                    have hsh : shx S S117 := by rw [eS117]; exact hsh
                                                    have hlg : lg S S117 (dc330 + dc_ak114) (ds330 + ds_ak114) := by rw [eS117]; exact hlg
                                                    refine lv_aload_n hx hb dX14_readFile_366 rfl (lv_at hl 0 rfl) ?_
                                                    refine lv_aload_n hx hb dX14_readFile_367 rfl (lv_at hl 0 rfl) ?_
                                                    refine lv_aload_n hx hb dX14_readFile_368 rfl (lv_at hl 0 rfl) ?_
                                                    refine va_get (D := rD g) (ci := 13) (v := .ref (ak114 9)) (C := RX14) (T := TX14) (N := 143) hx hb hts in2X14 hown hR.K hR.P 0 (hR.at14 hR.w.1) rfl 24 (by decide) (hts _ kx_210) (fun _ h9 => h9) (congrArg (fun z => some (vf ak114 z)) (hR.w.2.1 _ fin_24).1) dX14_readFile_369 ?_
                                                    refine lv_aload_n hx hb dX14_readFile_372 rfl (lv_at hl 0 rfl) ?_
                                                    refine va_get (D := rD g) (ci := 13) (v := .int (qI S117 0 22)) (C := RX14) (T := TX14) (N := 143) hx hb hts in2X14 hown hR.K hR.P 0 (hR.at14 hR.w.1) rfl 22 (by decide) (hts _ kx_239) (fun _ h9 => h9) rfl dX14_readFile_373 ?_
                                                    refine lv_iload hx hb dX14_readFile_376 (lv_at hl 3 rfl) ?_
                                                    refine lv_iadd hx hb dX14_readFile_378 ?_
                                                    refine lv_topi (fun z118 ez118 => ?_)
                                                    obtain rfl : z118 = ((qI S117 0 22) + v330_5) := ez118
                                                    obtain ⟨hv119, h⟩ := h
                                                    refine va_iald hx hb hR.K hR.P 9 1 (hR.atI (hR.w.2.1 _ fin_24).2.1) rfl (k_ixN (k_ix (n := 48) (x := ((qI S117 0 22) + v330_5)) (a := ((qI S117 0 22) + v330_5).toInt) rfl hv119) (hR.w.2.1 _ fin_24).2.2) dX14_readFile_379 ?_
                                                    refine lv_topi (fun z120 ez120 => ?_)
                                                    obtain rfl : z120 = (qI S117 9 ((((qI S117 0 22) + v330_5).toInt).toNat)) := ez120
                                                    refine lv_iconst (v := 4) hx hb dX14_readFile_380 (by decide) ?_
                                                    refine lv_iadd hx hb dX14_readFile_381 ?_
                                                    refine lv_topi (fun z121 ez121 => ?_)
                                                    obtain rfl : z121 = ((qI S117 9 ((((qI S117 0 22) + v330_5).toInt).toNat)) + (4 : Int32)) := ez121
                                                    obtain ⟨hv122, h⟩ := h
                                                    have hFc := rfree hR hA
                                                    refine va_calli (va_runV (As := [.int ((qI S117 9 ((((qI S117 0 22) + v330_5).toInt).toNat)) + (4 : Int32))]) (rest := [.ref (ak114 0)]) ⟨hx, hb, hml, hown, hts⟩ (r_two l g ak114 H.size S117 ((qI S117 9 ((((qI S117 0 22) + v330_5).toInt).toNat)) + (4 : Int32)) hR.w  hv122) (cwV 1 hts (gd2_V kx_186 kx_187 kx_188 kx_177 kx_189) rfl rfl rfl (by decide +kernel) ⟨Nat.le_of_ble_eq_true rfl, Nat.le_of_ble_eq_true rfl⟩) ⟨rblind, va_recv hR.K hR.P (ci := 13) (q0 := 0) rfl (hR.at14 hR.w.1), fun U hU hW9 => rmk hU hW9 hR hex hE hFc⟩ rfl rfl hl.1 rfl (lv_room (Nat.le_of_ble_eq_true rfl)) dX14_readFile_382 ⟨(show dc330 + dc_ak114 + 0 ≤ KC - qn S from hlg.c), (show ds330 + ds_ak114 + 0 ≤ KS - qu S from hlg.s)⟩) hR.sS (fun q _ h => hFc q h) hFc (fun r123 u9 t9 H1 locs ht9 hvm9 hw9 hB9 hz9 hk9 hS => ?_)
                                                    have hR : Rep g ak114 A s S117 H1 locs := hR.call ht9 hB9 hR.w hS hFc
                                                    obtain rfl : r123 = (f_two S117 ((qI S117 9 ((((qI S117 0 22) + v330_5).toInt).toNat)) + (4 : Int32))) := hw9
                                                    clear hB9 hz9 hk9 hvm9 ht9 hS
                                                    generalize H1 = H at hR ⊢
                                                    obtain ⟨Q125, h0, h⟩ := h
                                                    have hFc := rfree hR hA
                                                    refine W_led2 (fun hL0 => ?_)
                                                    refine va_callq (va_runV (As := [.int (f_two S117 ((qI S117 9 ((((qI S117 0 22) + v330_5).toInt).toNat)) + (4 : Int32)))]) (rest := []) ⟨hx, hb, hml, hown, hts⟩ (r_text l g ak114 H S117 (f_two S117 ((qI S117 9 ((((qI S117 0 22) + v330_5).toInt).toNat)) + (4 : Int32))) hR.w  Q125 h0) (cwV 1 hts (gd2_V kx_1074 kx_1075 kx_1076 kx_177 kx_1077) rfl rfl rfl (by decide +kernel) ⟨Nat.le_of_ble_eq_true rfl, Nat.le_of_ble_eq_true rfl⟩) ⟨rblindH, va_recv hR.K hR.P (ci := 13) (q0 := 0) rfl (hR.at14 hR.w.1), fun U hU hW9 => rmkH hU hW9 hR hex hE hFc⟩ rfl rfl hl.1 rfl (lv_room (Nat.le_of_ble_eq_true rfl)) dX14_readFile_385 ⟨(show dc330 + dc_ak114 + (KC - qn S117) ≤ KC - qn S from hlg.cm), (show ds330 + ds_ak114 + (KS - qu S117) ≤ KS - qu S from hlg.sm)⟩) hR.sS (fun q _ h => hFc q h) hFc (fun r126 S127 t9 H1 locs ht9 hvm9 hw9 hB9 hz9 hk9 hS => ?_)
                                                    rcases S127 with ⟨S127, ak129⟩
                                                    obtain ⟨hB9, dc9, ds9, hL9, hl9⟩ := hB9
                                                    dsimp only at hw9 hB9 hl9
                                                    rw [ht9] at hL9
                                                    obtain ⟨b130, rfl, hq128, hw9, hs9, hk8, hT_b130⟩ := hw9
                                                    have hw8 := hR.w
                                                    have hak := hak.tr hk8 hlg.2.2.1
                                                    have hE := hE.ad hk8
                                                    have hR : Rep g ak129 A s S127 H1 locs := hR.callH ht9 hB9 hw9 hS hFc
                                                    have hsh := hsh.tr hs9
                                                    refine W_tight2 (hL0.tr hL9).1 (hL0.tr hL9).2.1 ?_
                                                    have hlg := hlg.call hl9
                                                    replace h := h b130 S127 hq128
                                                    have ea_0 : ak129 0 = ak114 0 := hk8 _ (hw8.hd hw8.1 (by decide) (by decide))
                                                    have ea_1 : ak129 v330_4 = ak114 v330_4 := hk8 _ (hw8.hd hT_v330_4 (by decide) (by decide))
                                                    have hl : lv_has ls 7 [(0, .ref (ak129 0)), (3, .int v330_3), (4, .ref (ak129 v330_4)), (5, .int v330_5)] := by simp only [ea_0, ea_1]; exact hl
                                                    have hT_v330_4 := hs9.T hT_v330_4 (by decide)
                                                    clear hB9 hz9 hk9 hvm9 ht9 hw9 hs9 hS hL0 hL9
                                                    generalize H1 = H at hR ⊢
                                                    generalize dc9 = dc_ak129, ds9 = ds_ak129 at hlg ⊢
                                                    refine lv_astore (lv' := [(6, .ref (ak129 b130)), (0, .ref (ak129 0)), (3, .int v330_3), (4, .ref (ak129 v330_4)), (5, .int v330_5)]) hx hb dX14_readFile_388 hl (by decide) rfl (fun ls hl => ?_)
                                                    refine lv_aload hx hb dX14_readFile_390 (lv_at hl 3 rfl) ?_
                                                    obtain ⟨hv131, h⟩ := h
                                                    have hT_b132 : qT S127 (qO S127 v330_4 9) = 5 := hR.w.ref hv131 hT_v330_4
                                                    refine va_get (D := rD g) (ci := 12) (v := .ref (ak129 (qO S127 v330_4 9))) (C := RX13) (T := TX13) (N := 23) hx hb hts in2X13 hown hR.K hR.P v330_4 (hR.at13 hT_v330_4) rfl 9 (by decide) (hts _ kx_570) (fun _ h9 => h9) (congrArg (fun z => some (vf ak129 z)) hv131) dX14_readFile_392 ?_
                                                    refine lv_iload hx hb dX14_readFile_395 (lv_at hl 4 rfl) ?_
                                                    refine lv_aload hx hb dX14_readFile_397 (lv_at hl 0 rfl) ?_
                                                    obtain ⟨hv133, h⟩ := h
                                                    refine va_astqM (E := "java/lang/String") hx hb hR.K hR.P hR.D hR.sS (qO S127 v330_4 9) 4 (hR.atS hT_b132) rfl (any_str hts hR hE hA hT_b130) (k_ix (x := v330_5) (a := v330_5.toInt) rfl hv133) dX14_readFile_399 (fun H locs hP hD hS => ?_)
                                                    have hw9 : wfM (wR S127 (qO S127 v330_4 9) v330_5.toInt.toNat (some b130)) := hR.w.put (fun b q9 => by cases q9; exact (hT_b130).trans (by rw [hT_b132]; rfl)) (fun q9 => absurd ((congrArg (qT S127) q9).symm.trans hT_b132) (by rw [hR.w.1]; decide)) (by rw [hT_b132]; show (12 : Nat) ≠ 0; decide)
                                                    have hR : Rep g ak129 A s (wR S127 (qO S127 v330_4 9) v330_5.toInt.toNat (some b130)) H locs := hR.aS hT_b132 hw9 hP hD hS
                                                    obtain ⟨S134, eS134⟩ : ∃ z, z = wR S127 (qO S127 v330_4 9) v330_5.toInt.toNat (some b130) := ⟨_, rfl⟩
                                                    rw [← eS134] at hR
                                                    replace h := h S134 eS134
                                                    have hT_b130 : qT S134 b130 = 12 := (congrArg (fun z => qT z b130) eS134).trans hT_b130
                                                    have hT_v330_4 : qT S134 v330_4 = 11 := (congrArg (fun z => qT z v330_4) eS134).trans hT_v330_4
                                                    have hsh : shx S S134 := by rw [eS134]; exact hsh
                                                    have hlg : lg S S134 (dc330 + dc_ak114 + dc_ak129) (ds330 + ds_ak114 + ds_ak129) := by rw [eS134]; exact hlg
                                                    refine lv_aload hx hb dX14_readFile_400 (lv_at hl 3 rfl) ?_
                                                    obtain ⟨hv135, h⟩ := h
                                                    have hT_b136 : qT S134 (qO S134 v330_4 10) = 5 := hR.w.ref hv135 hT_v330_4
                                                    refine va_get (D := rD g) (ci := 12) (v := .ref (ak129 (qO S134 v330_4 10))) (C := RX13) (T := TX13) (N := 23) hx hb hts in2X13 hown hR.K hR.P v330_4 (hR.at13 hT_v330_4) rfl 10 (by decide) (hts _ kx_398) (fun _ h9 => h9) (congrArg (fun z => some (vf ak129 z)) hv135) dX14_readFile_402 ?_
                                                    refine lv_iload hx hb dX14_readFile_405 (lv_at hl 4 rfl) ?_
                                                    refine lv_aload hx hb dX14_readFile_407 (lv_at hl 0 rfl) ?_
                                                    refine lv_iconst (v := 1) hx hb dX14_readFile_409 (by decide) ?_
                                                    obtain ⟨Q137, h0, h⟩ := h
                                                    have hFc := rfree hR hA
                                                    refine W_led2 (fun hL0 => ?_)
                                                    refine va_callq (va_runS (As := [.ref (ak129 b130), .int 1]) (rest := [.int v330_5, .ref (ak129 (qO S134 v330_4 10))]) ⟨hx, hb, hml, hown, hts⟩ (r_letters l g ak129 H S134 b130 (1 : Int32) hR.w hT_b130 Q137 h0) (va_cwS 2 hts (gd2_S kx_1078 kx_1079 kx_177 kx_1080) rfl rfl rfl (by decide +kernel) ⟨Nat.le_of_ble_eq_true rfl, Nat.le_of_ble_eq_true rfl⟩) ⟨rblindH, fun U hU hW9 => rmkH hU hW9 hR hex hE hFc⟩ rfl rfl hl.1 rfl (lv_room (Nat.le_of_ble_eq_true rfl)) dX14_readFile_410 ⟨(show dc330 + dc_ak114 + dc_ak129 + (KC - qn S134) ≤ KC - qn S from hlg.cm), (show ds330 + ds_ak114 + ds_ak129 + (KS - qu S134) ≤ KS - qu S from hlg.sm)⟩) hR.sS (fun q _ h => hFc q h) hFc (fun r138 S139 t9 H1 locs ht9 hvm9 hw9 hB9 hz9 hk9 hS => ?_)
                                                    rcases S139 with ⟨S139, ak141⟩
                                                    obtain ⟨hB9, dc9, ds9, hL9, hl9⟩ := hB9
                                                    dsimp only at hw9 hB9 hl9
                                                    rw [ht9] at hL9
                                                    obtain ⟨b142, rfl, hq140, hw9, hs9, hk8, hT_b142⟩ := hw9
                                                    have hw8 := hR.w
                                                    have hak := hak.tr hk8 hlg.2.2.1
                                                    have hE := hE.ad hk8
                                                    have hR : Rep g ak141 A s S139 H1 locs := hR.callH ht9 hB9 hw9 hS hFc
                                                    have hsh := hsh.tr hs9
                                                    refine W_tight2 (hL0.tr hL9).1 (hL0.tr hL9).2.1 ?_
                                                    have hlg := hlg.call hl9
                                                    replace h := h b142 S139 hq140
                                                    have ea_0 : ak141 b130 = ak129 b130 := hk8 _ (hw8.hd hT_b130 (by decide) (by decide))
                                                    have ea_1 : ak141 0 = ak129 0 := hk8 _ (hw8.hd hw8.1 (by decide) (by decide))
                                                    have ea_2 : ak141 v330_4 = ak129 v330_4 := hk8 _ (hw8.hd hT_v330_4 (by decide) (by decide))
                                                    have ea_3 : ak141 (qO S134 v330_4 10) = ak129 (qO S134 v330_4 10) := hk8 _ (hw8.hd hT_b136 (by decide) (by decide))
                                                    have hl : lv_has ls 7 [(6, .ref (ak141 b130)), (0, .ref (ak141 0)), (3, .int v330_3), (4, .ref (ak141 v330_4)), (5, .int v330_5)] := by simp only [ea_0, ea_1, ea_2, ea_3]; exact hl
                                                    refine W.eq (g2 := F0 m 413 ls (.ref (ak141 b142) :: [.int v330_5, .ref (ak141 (qO S134 v330_4 10))])) (by first | (simp only [ea_0, ea_1, ea_2, ea_3]; rfl) | simp only [ea_0, ea_1, ea_2, ea_3]) ?_
                                                    have hT_b130 := hs9.T hT_b130 (by decide)
                                                    have hT_v330_4 := hs9.T hT_v330_4 (by decide)
                                                    have hT_b136 := hs9.T hT_b136 (by decide)
                                                    clear hB9 hz9 hk9 hvm9 ht9 hw9 hs9 hS hL0 hL9
                                                    generalize H1 = H at hR ⊢
                                                    generalize dc9 = dc_ak141, ds9 = ds_ak141 at hlg ⊢
                                                    obtain ⟨hv143, h⟩ := h
                                                    refine va_astqM (E := "java/lang/String") hx hb hR.K hR.P hR.D hR.sS (qO S134 v330_4 10) 4 (hR.atS hT_b136) rfl (any_str hts hR hE hA hT_b142) (k_ix (x := v330_5) (a := v330_5.toInt) rfl hv143) dX14_readFile_413 (fun H locs hP hD hS => ?_)
                                                    have hw9 : wfM (wR S139 (qO S134 v330_4 10) v330_5.toInt.toNat (some b142)) := hR.w.put (fun b q9 => by cases q9; exact (hT_b142).trans (by rw [hT_b136]; rfl)) (fun q9 => absurd ((congrArg (qT S139) q9).symm.trans hT_b136) (by rw [hR.w.1]; decide)) (by rw [hT_b136]; show (12 : Nat) ≠ 0; decide)
                                                    have hR : Rep g ak141 A s (wR S139 (qO S134 v330_4 10) v330_5.toInt.toNat (some b142)) H locs := hR.aS hT_b136 hw9 hP hD hS
                                                    obtain ⟨S144, eS144⟩ : ∃ z, z = wR S139 (qO S134 v330_4 10) v330_5.toInt.toNat (some b142) := ⟨_, rfl⟩
                                                    rw [← eS144] at hR
                                                    replace h := h S144 eS144
                                                    have hT_b130 : qT S144 b130 = 12 := (congrArg (fun z => qT z b130) eS144).trans hT_b130
                                                    have hT_v330_4 : qT S144 v330_4 = 11 := (congrArg (fun z => qT z v330_4) eS144).trans hT_v330_4
                                                    have hsh : shx S S144 := by rw [eS144]; exact hsh
                                                    have hlg : lg S S144 (dc330 + dc_ak114 + dc_ak129 + dc_ak141) (ds330 + ds_ak114 + ds_ak129 + ds_ak141) := by rw [eS144]; exact hlg
                                                    refine lv_aload hx hb dX14_readFile_414 (lv_at hl 3 rfl) ?_
                                                    obtain ⟨hv145, h⟩ := h
                                                    have hT_b146 : qT S144 (qO S144 v330_4 11) = 5 := hR.w.ref hv145 hT_v330_4
                                                    refine va_get (D := rD g) (ci := 12) (v := .ref (ak141 (qO S144 v330_4 11))) (C := RX13) (T := TX13) (N := 23) hx hb hts in2X13 hown hR.K hR.P v330_4 (hR.at13 hT_v330_4) rfl 11 (by decide) (hts _ kx_399) (fun _ h9 => h9) (congrArg (fun z => some (vf ak141 z)) hv145) dX14_readFile_416 ?_
                                                    refine lv_iload hx hb dX14_readFile_419 (lv_at hl 4 rfl) ?_
                                                    refine lv_aload hx hb dX14_readFile_421 (lv_at hl 0 rfl) ?_
                                                    refine lv_aload hx hb dX14_readFile_423 (lv_at hl 0 rfl) ?_
                                                    obtain ⟨Q147, h0, h⟩ := h
                                                    have hFc := rfree hR hA
                                                    refine va_calli (va_runS (As := [.ref (ak141 b130)]) (rest := [.ref (ak141 b130), .int v330_5, .ref (ak141 (qO S144 v330_4 11))]) ⟨hx, hb, hml, hown, hts⟩ (r_closing l g ak141 H.size S144 b130 hR.w hT_b130 Q147 h0) (va_cwS 1 hts (gd2_S kx_1081 kx_1082 kx_177 kx_1083) rfl rfl rfl (by decide +kernel) ⟨Nat.le_of_ble_eq_true rfl, Nat.le_of_ble_eq_true rfl⟩) ⟨rblind, fun U hU hW9 => rmk hU hW9 hR hex hE hFc⟩ rfl rfl hl.1 rfl (lv_room (Nat.le_of_ble_eq_true rfl)) dX14_readFile_425 ⟨(show dc330 + dc_ak114 + dc_ak129 + dc_ak141 + 0 ≤ KC - qn S from hlg.c), (show ds330 + ds_ak114 + ds_ak129 + ds_ak141 + 0 ≤ KS - qu S from hlg.s)⟩) hR.sS (fun q _ h => hFc q h) hFc (fun r148 S149 t9 H1 locs ht9 hvm9 hw9 hB9 hz9 hk9 hS => ?_)
                                                    obtain ⟨hq150, hw9, hs9⟩ := hw9
                                                    have hR : Rep g ak141 A s S149 H1 locs := hR.call ht9 hB9 hw9 hS hFc
                                                    have hsh := hsh.tr hs9.1
                                                    have hlg : lg S S149 (dc330 + dc_ak114 + dc_ak129 + dc_ak141) (ds330 + ds_ak114 + ds_ak129 + ds_ak141) := hlg.same hs9
                                                    replace h := h r148 S149 hq150
                                                    have hT_b130 := hs9.T hT_b130 (by decide)
                                                    have hT_v330_4 := hs9.T hT_v330_4 (by decide)
                                                    have hT_b146 := hs9.T hT_b146 (by decide)
                                                    clear hB9 hz9 hk9 hvm9 ht9 hw9 hs9 hS
                                                    generalize H1 = H at hR ⊢
                                                    refine lv_iconst (v := 1) hx hb dX14_readFile_428 (by decide) ?_
                                                    refine lv_iadd hx hb dX14_readFile_429 ?_
                                                    refine lv_topi (fun z151 ez151 => ?_)
                                                    obtain rfl : z151 = (r148 + (1 : Int32)) := ez151
                                                    obtain ⟨Q152, h0, h⟩ := h
                                                    have hFc := rfree hR hA
                                                    refine W_led2 (fun hL0 => ?_)
                                                    refine va_callq (va_runS (As := [.ref (ak141 b130), .int (r148 + (1 : Int32))]) (rest := [.int v330_5, .ref (ak141 (qO S144 v330_4 11))]) ⟨hx, hb, hml, hown, hts⟩ (r_letters l g ak141 H S149 b130 (r148 + (1 : Int32)) hR.w hT_b130 Q152 h0) (va_cwS 2 hts (gd2_S kx_1078 kx_1079 kx_177 kx_1080) rfl rfl rfl (by decide +kernel) ⟨Nat.le_of_ble_eq_true rfl, Nat.le_of_ble_eq_true rfl⟩) ⟨rblindH, fun U hU hW9 => rmkH hU hW9 hR hex hE hFc⟩ rfl rfl hl.1 rfl (lv_room (Nat.le_of_ble_eq_true rfl)) dX14_readFile_430 ⟨(show dc330 + dc_ak114 + dc_ak129 + dc_ak141 + (KC - qn S149) ≤ KC - qn S from hlg.cm), (show ds330 + ds_ak114 + ds_ak129 + ds_ak141 + (KS - qu S149) ≤ KS - qu S from hlg.sm)⟩) hR.sS (fun q _ h => hFc q h) hFc (fun r153 S154 t9 H1 locs ht9 hvm9 hw9 hB9 hz9 hk9 hS => ?_)
                                                    rcases S154 with ⟨S154, ak156⟩
                                                    obtain ⟨hB9, dc9, ds9, hL9, hl9⟩ := hB9
                                                    dsimp only at hw9 hB9 hl9
                                                    rw [ht9] at hL9
                                                    obtain ⟨b157, rfl, hq155, hw9, hs9, hk8, hT_b157⟩ := hw9
                                                    have hw8 := hR.w
                                                    have hak := hak.tr hk8 hlg.2.2.1
                                                    have hE := hE.ad hk8
                                                    have hR : Rep g ak156 A s S154 H1 locs := hR.callH ht9 hB9 hw9 hS hFc
                                                    have hsh := hsh.tr hs9
                                                    refine W_tight2 (hL0.tr hL9).1 (hL0.tr hL9).2.1 ?_
                                                    have hlg := hlg.call hl9
                                                    replace h := h b157 S154 hq155
                                                    have ea_0 : ak156 b130 = ak141 b130 := hk8 _ (hw8.hd hT_b130 (by decide) (by decide))
                                                    have ea_1 : ak156 0 = ak141 0 := hk8 _ (hw8.hd hw8.1 (by decide) (by decide))
                                                    have ea_2 : ak156 v330_4 = ak141 v330_4 := hk8 _ (hw8.hd hT_v330_4 (by decide) (by decide))
                                                    have ea_3 : ak156 (qO S144 v330_4 11) = ak141 (qO S144 v330_4 11) := hk8 _ (hw8.hd hT_b146 (by decide) (by decide))
                                                    have hl : lv_has ls 7 [(6, .ref (ak156 b130)), (0, .ref (ak156 0)), (3, .int v330_3), (4, .ref (ak156 v330_4)), (5, .int v330_5)] := by simp only [ea_0, ea_1, ea_2, ea_3]; exact hl
                                                    refine W.eq (g2 := F0 m 433 ls (.ref (ak156 b157) :: [.int v330_5, .ref (ak156 (qO S144 v330_4 11))])) (by first | (simp only [ea_0, ea_1, ea_2, ea_3]; rfl) | simp only [ea_0, ea_1, ea_2, ea_3]) ?_
                                                    have hT_b130 := hs9.T hT_b130 (by decide)
                                                    have hT_v330_4 := hs9.T hT_v330_4 (by decide)
                                                    have hT_b146 := hs9.T hT_b146 (by decide)
                                                    clear hB9 hz9 hk9 hvm9 ht9 hw9 hs9 hS hL0 hL9
                                                    generalize H1 = H at hR ⊢
                                                    generalize dc9 = dc_ak156, ds9 = ds_ak156 at hlg ⊢
                                                    obtain ⟨hv158, h⟩ := h
                                                    refine va_astqM (E := "java/lang/String") hx hb hR.K hR.P hR.D hR.sS (qO S144 v330_4 11) 4 (hR.atS hT_b146) rfl (any_str hts hR hE hA hT_b157) (k_ix (x := v330_5) (a := v330_5.toInt) rfl hv158) dX14_readFile_433 (fun H locs hP hD hS => ?_)
                                                    have hw9 : wfM (wR S154 (qO S144 v330_4 11) v330_5.toInt.toNat (some b157)) := hR.w.put (fun b q9 => by cases q9; exact (hT_b157).trans (by rw [hT_b146]; rfl)) (fun q9 => absurd ((congrArg (qT S154) q9).symm.trans hT_b146) (by rw [hR.w.1]; decide)) (by rw [hT_b146]; show (12 : Nat) ≠ 0; decide)
                                                    have hR : Rep g ak156 A s (wR S154 (qO S144 v330_4 11) v330_5.toInt.toNat (some b157)) H locs := hR.aS hT_b146 hw9 hP hD hS
                                                    obtain ⟨S159, eS159⟩ : ∃ z, z = wR S154 (qO S144 v330_4 11) v330_5.toInt.toNat (some b157) := ⟨_, rfl⟩
                                                    rw [← eS159] at hR
                                                    replace h := h S159 eS159
                                                    have hT_b130 : qT S159 b130 = 12 := (congrArg (fun z => qT z b130) eS159).trans hT_b130
                                                    have hT_v330_4 : qT S159 v330_4 = 11 := (congrArg (fun z => qT z v330_4) eS159).trans hT_v330_4
                                                    have hsh : shx S S159 := by rw [eS159]; exact hsh
                                                    have hlg : lg S S159 (dc330 + dc_ak114 + dc_ak129 + dc_ak141 + dc_ak156) (ds330 + ds_ak114 + ds_ak129 + ds_ak141 + ds_ak156) := by rw [eS159]; exact hlg
                                                    refine lv_aload hx hb dX14_readFile_434 (lv_at hl 3 rfl) ?_
                                                    obtain ⟨hv160, h⟩ := h
                                                    have hT_b161 : qT S159 (qO S159 v330_4 12) = 2 := hR.w.ref hv160 hT_v330_4
                                                    refine va_get (D := rD g) (ci := 12) (v := .ref (ak156 (qO S159 v330_4 12))) (C := RX13) (T := TX13) (N := 23) hx hb hts in2X13 hown hR.K hR.P v330_4 (hR.at13 hT_v330_4) rfl 12 (by decide) (hts _ kx_502) (fun _ h9 => h9) (congrArg (fun z => some (vf ak156 z)) hv160) dX14_readFile_436 ?_
                                                    refine lv_iload hx hb dX14_readFile_439 (lv_at hl 4 rfl) ?_
                                                    refine lv_aload_n hx hb dX14_readFile_441 rfl (lv_at hl 1 rfl) ?_
                                                    refine va_get (D := rD g) (ci := 13) (v := .ref (ak156 12)) (C := RX14) (T := TX14) (N := 143) hx hb hts in2X14 hown hR.K hR.P 0 (hR.at14 hR.w.1) rfl 29 (by decide) (hts _ kx_266) (fun _ h9 => h9) (congrArg (fun z => some (vf ak156 z)) (hR.w.2.1 _ fin_29).1) dX14_readFile_442 ?_
                                                    refine lv_iload hx hb dX14_readFile_445 (lv_at hl 4 rfl) ?_
                                                    obtain ⟨hv162, h⟩ := h
                                                    refine va_iald hx hb hR.K hR.P 12 1 (hR.atI (hR.w.2.1 _ fin_29).2.1) rfl (k_ixN (k_ix (n := 24) (x := v330_5) (a := v330_5.toInt) rfl hv162) (hR.w.2.1 _ fin_29).2.2) dX14_readFile_447 ?_
                                                    refine lv_topi (fun z163 ez163 => ?_)
                                                    obtain rfl : z163 = (qI S159 12 v330_5.toInt.toNat) := ez163
                                                    obtain ⟨hv164, h⟩ := h
                                                    refine va_iast hx hb hR.K hR.P hR.D hR.sS (qO S159 v330_4 12) 1 (hR.atI hT_b161) rfl (k_ix (x := v330_5) (a := v330_5.toInt) rfl hv164) dX14_readFile_448 (fun H locs hP hD hS => ?_)
                                                    have hR : Rep g ak156 A s (wI S159 (qO S159 v330_4 12) v330_5.toInt.toNat (qI S159 12 v330_5.toInt.toNat)) H locs := hR.aI hT_b161 hP hD hS
                                                    obtain ⟨S165, eS165⟩ : ∃ z, z = wI S159 (qO S159 v330_4 12) v330_5.toInt.toNat (qI S159 12 v330_5.toInt.toNat) := ⟨_, rfl⟩
                                                    rw [← eS165] at hR
                                                    replace h := h S165 eS165
                                                    have hT_b130 : qT S165 b130 = 12 := (congrArg (fun z => qT z b130) eS165).trans hT_b130
                                                    have hT_v330_4 : qT S165 v330_4 = 11 := (congrArg (fun z => qT z v330_4) eS165).trans hT_v330_4
                                                    have hsh : shx S S165 := by rw [eS165]; exact hsh
                                                    have hlg : lg S S165 (dc330 + dc_ak114 + dc_ak129 + dc_ak141 + dc_ak156) (ds330 + ds_ak114 + ds_ak129 + ds_ak141 + ds_ak156) := by rw [eS165]; exact hlg
                                                    refine lv_aload hx hb dX14_readFile_449 (lv_at hl 3 rfl) ?_
                                                    obtain ⟨hv166, h⟩ := h
                                                    have hT_b167 : qT S165 (qO S165 v330_4 13) = 2 := hR.w.ref hv166 hT_v330_4
                                                    refine va_get (D := rD g) (ci := 12) (v := .ref (ak156 (qO S165 v330_4 13))) (C := RX13) (T := TX13) (N := 23) hx hb hts in2X13 hown hR.K hR.P v330_4 (hR.at13 hT_v330_4) rfl 13 (by decide) (hts _ kx_1084) (fun _ h9 => h9) (congrArg (fun z => some (vf ak156 z)) hv166) dX14_readFile_451 ?_
                                                    refine lv_iload hx hb dX14_readFile_454 (lv_at hl 4 rfl) ?_
                                                    refine lv_aload_n hx hb dX14_readFile_456 rfl (lv_at hl 1 rfl) ?_
                                                    refine va_get (D := rD g) (ci := 13) (v := .ref (ak156 13)) (C := RX14) (T := TX14) (N := 143) hx hb hts in2X14 hown hR.K hR.P 0 (hR.at14 hR.w.1) rfl 30 (by decide) (hts _ kx_267) (fun _ h9 => h9) (congrArg (fun z => some (vf ak156 z)) (hR.w.2.1 _ fin_30).1) dX14_readFile_457 ?_
                                                    refine lv_iload hx hb dX14_readFile_460 (lv_at hl 4 rfl) ?_
                                                    obtain ⟨hv168, h⟩ := h
                                                    refine va_iald hx hb hR.K hR.P 13 1 (hR.atI (hR.w.2.1 _ fin_30).2.1) rfl (k_ixN (k_ix (n := 24) (x := v330_5) (a := v330_5.toInt) rfl hv168) (hR.w.2.1 _ fin_30).2.2) dX14_readFile_462 ?_
                                                    refine lv_topi (fun z169 ez169 => ?_)
                                                    obtain rfl : z169 = (qI S165 13 v330_5.toInt.toNat) := ez169
                                                    obtain ⟨hv170, h⟩ := h
                                                    refine va_iast hx hb hR.K hR.P hR.D hR.sS (qO S165 v330_4 13) 1 (hR.atI hT_b167) rfl (k_ix (x := v330_5) (a := v330_5.toInt) rfl hv170) dX14_readFile_463 (fun H locs hP hD hS => ?_)
                                                    have hR : Rep g ak156 A s (wI S165 (qO S165 v330_4 13) v330_5.toInt.toNat (qI S165 13 v330_5.toInt.toNat)) H locs := hR.aI hT_b167 hP hD hS
                                                    obtain ⟨S171, eS171⟩ : ∃ z, z = wI S165 (qO S165 v330_4 13) v330_5.toInt.toNat (qI S165 13 v330_5.toInt.toNat) := ⟨_, rfl⟩
                                                    rw [← eS171] at hR
                                                    replace h := h S171 eS171
                                                    have hT_b130 : qT S171 b130 = 12 := (congrArg (fun z => qT z b130) eS171).trans hT_b130
                                                    have hT_v330_4 : qT S171 v330_4 = 11 := (congrArg (fun z => qT z v330_4) eS171).trans hT_v330_4
                                                    have hsh : shx S S171 := by rw [eS171]; exact hsh
                                                    have hlg : lg S S171 (dc330 + dc_ak114 + dc_ak129 + dc_ak141 + dc_ak156) (ds330 + ds_ak114 + ds_ak129 + ds_ak141 + ds_ak156) := by rw [eS171]; exact hlg
                                                    obtain ⟨a172, ea172⟩ : ∃ z, z = (v330_5 + Int32.ofInt 1) := ⟨_, rfl⟩
                                                    replace h := h a172 ea172
                                                    refine lv_iinc (v := a172) (lv' := [(5, .int a172), (6, .ref (ak156 b130)), (0, .ref (ak156 0)), (3, .int v330_3), (4, .ref (ak156 v330_4))]) hx hb dX14_readFile_464 hl (k := 4) rfl ea172.symm (by decide) rfl (fun ls hl => ?_)
                                                    refine lv_goto (tgt := 330) hx hb dX14_readFile_467 (by decide) ?_
                                                    exact ih_330 ak156 (dc330 + dc_ak114 + dc_ak129 + dc_ak141 + dc_ak156) (ds330 + ds_ak114 + ds_ak129 + ds_ak141 + ds_ak156) S171 v330_3 v330_4 a172 _ _ ls h hT_v330_4 hsh hlg hak hE hR (lv_sub hl [2, 3, 4, 0] rfl)
                                              obtain ⟨n9, h⟩ := h
                                              exact J_330 n9 ad242 (dc242) (ds242) U242 v242_3 v242_4 0 _ _ ls h hT_v242_4 hsh hlg hak hE hR (lv_sub hl [1, 2, 3, 0] rfl)
                                            · replace h := h.2 (k_nle rfl rfl c76)
                                              refine lv_aload hx hb dX14_readFile_251 (lv_at hl 2 rfl) ?_
                                              obtain ⟨hv173, h⟩ := h
                                              have hT_b174 : qT U242 (qO U242 v242_4 5) = 5 := hR.w.ref hv173 hT_v242_4
                                              refine va_get (D := rD g) (ci := 12) (v := .ref (ad242 (qO U242 v242_4 5))) (C := RX13) (T := TX13) (N := 23) hx hb hts in2X13 hown hR.K hR.P v242_4 (hR.at13 hT_v242_4) rfl 5 (by decide) (hts _ kx_563) (fun _ h9 => h9) (congrArg (fun z => some (vf ad242 z)) hv173) dX14_readFile_253 ?_
                                              refine lv_iload hx hb dX14_readFile_256 (lv_at hl 3 rfl) ?_
                                              refine lv_aload_n hx hb dX14_readFile_258 rfl (lv_at hl 0 rfl) ?_
                                              refine lv_aload_n hx hb dX14_readFile_259 rfl (lv_at hl 0 rfl) ?_
                                              refine lv_aload_n hx hb dX14_readFile_260 rfl (lv_at hl 0 rfl) ?_
                                              refine va_get (D := rD g) (ci := 13) (v := .ref (ad242 9)) (C := RX14) (T := TX14) (N := 143) hx hb hts in2X14 hown hR.K hR.P 0 (hR.at14 hR.w.1) rfl 24 (by decide) (hts _ kx_210) (fun _ h9 => h9) (congrArg (fun z => some (vf ad242 z)) (hR.w.2.1 _ fin_24).1) dX14_readFile_261 ?_
                                              refine lv_iload hx hb dX14_readFile_264 (lv_at hl 3 rfl) ?_
                                              obtain ⟨hv175, h⟩ := h
                                              refine va_iald hx hb hR.K hR.P 9 1 (hR.atI (hR.w.2.1 _ fin_24).2.1) rfl (k_ixN (k_ix (n := 48) (x := v242_5) (a := v242_5.toInt) rfl hv175) (hR.w.2.1 _ fin_24).2.2) dX14_readFile_266 ?_
                                              refine lv_topi (fun z176 ez176 => ?_)
                                              obtain rfl : z176 = (qI U242 9 v242_5.toInt.toNat) := ez176
                                              refine lv_iconst (v := 2) hx hb dX14_readFile_267 (by decide) ?_
                                              refine lv_iadd hx hb dX14_readFile_268 ?_
                                              refine lv_topi (fun z177 ez177 => ?_)
                                              obtain rfl : z177 = ((qI U242 9 v242_5.toInt.toNat) + (2 : Int32)) := ez177
                                              obtain ⟨hv178, h⟩ := h
                                              have hFc := rfree hR hA
                                              refine va_calli (va_runV (As := [.int ((qI U242 9 v242_5.toInt.toNat) + (2 : Int32))]) (rest := [.ref (ad242 0), .int v242_5, .ref (ad242 (qO U242 v242_4 5))]) ⟨hx, hb, hml, hown, hts⟩ (r_two l g ad242 H.size U242 ((qI U242 9 v242_5.toInt.toNat) + (2 : Int32)) hR.w  hv178) (cwV 1 hts (gd2_V kx_186 kx_187 kx_188 kx_177 kx_189) rfl rfl rfl (by decide +kernel) ⟨Nat.le_of_ble_eq_true rfl, Nat.le_of_ble_eq_true rfl⟩) ⟨rblind, va_recv hR.K hR.P (ci := 13) (q0 := 0) rfl (hR.at14 hR.w.1), fun U hU hW9 => rmk hU hW9 hR hex hE hFc⟩ rfl rfl hl.1 rfl (lv_room (Nat.le_of_ble_eq_true rfl)) dX14_readFile_269 ⟨(show dc242 + 0 ≤ KC - qn S from hlg.c), (show ds242 + 0 ≤ KS - qu S from hlg.s)⟩) hR.sS (fun q _ h => hFc q h) hFc (fun r179 u9 t9 H1 locs ht9 hvm9 hw9 hB9 hz9 hk9 hS => ?_)
                                              have hR : Rep g ad242 A s U242 H1 locs := hR.call ht9 hB9 hR.w hS hFc
                                              obtain rfl : r179 = (f_two U242 ((qI U242 9 v242_5.toInt.toNat) + (2 : Int32))) := hw9
                                              clear hB9 hz9 hk9 hvm9 ht9 hS
                                              generalize H1 = H at hR ⊢
                                              obtain ⟨Q181, h0, h⟩ := h
                                              have hFc := rfree hR hA
                                              refine W_led2 (fun hL0 => ?_)
                                              refine va_callq (va_runV (As := [.int (f_two U242 ((qI U242 9 v242_5.toInt.toNat) + (2 : Int32)))]) (rest := [.int v242_5, .ref (ad242 (qO U242 v242_4 5))]) ⟨hx, hb, hml, hown, hts⟩ (r_text l g ad242 H U242 (f_two U242 ((qI U242 9 v242_5.toInt.toNat) + (2 : Int32))) hR.w  Q181 h0) (cwV 1 hts (gd2_V kx_1074 kx_1075 kx_1076 kx_177 kx_1077) rfl rfl rfl (by decide +kernel) ⟨Nat.le_of_ble_eq_true rfl, Nat.le_of_ble_eq_true rfl⟩) ⟨rblindH, va_recv hR.K hR.P (ci := 13) (q0 := 0) rfl (hR.at14 hR.w.1), fun U hU hW9 => rmkH hU hW9 hR hex hE hFc⟩ rfl rfl hl.1 rfl (lv_room (Nat.le_of_ble_eq_true rfl)) dX14_readFile_272 ⟨(show dc242 + (KC - qn U242) ≤ KC - qn S from hlg.cm), (show ds242 + (KS - qu U242) ≤ KS - qu S from hlg.sm)⟩) hR.sS (fun q _ h => hFc q h) hFc (fun r182 S183 t9 H1 locs ht9 hvm9 hw9 hB9 hz9 hk9 hS => ?_)
                                              rcases S183 with ⟨S183, ak185⟩
                                              obtain ⟨hB9, dc9, ds9, hL9, hl9⟩ := hB9
                                              dsimp only at hw9 hB9 hl9
                                              rw [ht9] at hL9
                                              obtain ⟨b186, rfl, hq184, hw9, hs9, hk8, hT_b186⟩ := hw9
                                              have hw8 := hR.w
                                              have hak := hak.tr hk8 hlg.2.2.1
                                              have hE := hE.ad hk8
                                              have hR : Rep g ak185 A s S183 H1 locs := hR.callH ht9 hB9 hw9 hS hFc
                                              have hsh := hsh.tr hs9
                                              refine W_tight2 (hL0.tr hL9).1 (hL0.tr hL9).2.1 ?_
                                              have hlg := hlg.call hl9
                                              replace h := h b186 S183 hq184
                                              have ea_0 : ak185 0 = ad242 0 := hk8 _ (hw8.hd hw8.1 (by decide) (by decide))
                                              have ea_1 : ak185 v242_4 = ad242 v242_4 := hk8 _ (hw8.hd hT_v242_4 (by decide) (by decide))
                                              have ea_2 : ak185 (qO U242 v242_4 5) = ad242 (qO U242 v242_4 5) := hk8 _ (hw8.hd hT_b174 (by decide) (by decide))
                                              have hl : lv_has ls 7 [(0, .ref (ak185 0)), (3, .int v242_3), (4, .ref (ak185 v242_4)), (5, .int v242_5)] := by simp only [ea_0, ea_1, ea_2]; exact hl
                                              refine W.eq (g2 := F0 m 275 ls (.ref (ak185 b186) :: [.int v242_5, .ref (ak185 (qO U242 v242_4 5))])) (by first | (simp only [ea_0, ea_1, ea_2]; rfl) | simp only [ea_0, ea_1, ea_2]) ?_
                                              have hT_v242_4 := hs9.T hT_v242_4 (by decide)
                                              have hT_b174 := hs9.T hT_b174 (by decide)
                                              clear hB9 hz9 hk9 hvm9 ht9 hw9 hs9 hS hL0 hL9
                                              generalize H1 = H at hR ⊢
                                              generalize dc9 = dc_ak185, ds9 = ds_ak185 at hlg ⊢
                                              obtain ⟨hv187, h⟩ := h
                                              refine va_astqM (E := "java/lang/String") hx hb hR.K hR.P hR.D hR.sS (qO U242 v242_4 5) 4 (hR.atS hT_b174) rfl (any_str hts hR hE hA hT_b186) (k_ix (x := v242_5) (a := v242_5.toInt) rfl hv187) dX14_readFile_275 (fun H locs hP hD hS => ?_)
                                              have hw9 : wfM (wR S183 (qO U242 v242_4 5) v242_5.toInt.toNat (some b186)) := hR.w.put (fun b q9 => by cases q9; exact (hT_b186).trans (by rw [hT_b174]; rfl)) (fun q9 => absurd ((congrArg (qT S183) q9).symm.trans hT_b174) (by rw [hR.w.1]; decide)) (by rw [hT_b174]; show (12 : Nat) ≠ 0; decide)
                                              have hR : Rep g ak185 A s (wR S183 (qO U242 v242_4 5) v242_5.toInt.toNat (some b186)) H locs := hR.aS hT_b174 hw9 hP hD hS
                                              obtain ⟨S188, eS188⟩ : ∃ z, z = wR S183 (qO U242 v242_4 5) v242_5.toInt.toNat (some b186) := ⟨_, rfl⟩
                                              rw [← eS188] at hR
                                              replace h := h S188 eS188
                                              have hT_v242_4 : qT S188 v242_4 = 11 := (congrArg (fun z => qT z v242_4) eS188).trans hT_v242_4
                                              have hsh : shx S S188 := by rw [eS188]; exact hsh
                                              have hlg : lg S S188 (dc242 + dc_ak185) (ds242 + ds_ak185) := by rw [eS188]; exact hlg
                                              refine lv_aload hx hb dX14_readFile_276 (lv_at hl 2 rfl) ?_
                                              obtain ⟨hv189, h⟩ := h
                                              have hT_b190 : qT S188 (qO S188 v242_4 6) = 5 := hR.w.ref hv189 hT_v242_4
                                              refine va_get (D := rD g) (ci := 12) (v := .ref (ak185 (qO S188 v242_4 6))) (C := RX13) (T := TX13) (N := 23) hx hb hts in2X13 hown hR.K hR.P v242_4 (hR.at13 hT_v242_4) rfl 6 (by decide) (hts _ kx_564) (fun _ h9 => h9) (congrArg (fun z => some (vf ak185 z)) hv189) dX14_readFile_278 ?_
                                              refine lv_iload hx hb dX14_readFile_281 (lv_at hl 3 rfl) ?_
                                              refine lv_aload_n hx hb dX14_readFile_283 rfl (lv_at hl 0 rfl) ?_
                                              refine lv_aload_n hx hb dX14_readFile_284 rfl (lv_at hl 0 rfl) ?_
                                              refine lv_aload_n hx hb dX14_readFile_285 rfl (lv_at hl 0 rfl) ?_
                                              refine va_get (D := rD g) (ci := 13) (v := .ref (ak185 9)) (C := RX14) (T := TX14) (N := 143) hx hb hts in2X14 hown hR.K hR.P 0 (hR.at14 hR.w.1) rfl 24 (by decide) (hts _ kx_210) (fun _ h9 => h9) (congrArg (fun z => some (vf ak185 z)) (hR.w.2.1 _ fin_24).1) dX14_readFile_286 ?_
                                              refine lv_iload hx hb dX14_readFile_289 (lv_at hl 3 rfl) ?_
                                              obtain ⟨hv191, h⟩ := h
                                              refine va_iald hx hb hR.K hR.P 9 1 (hR.atI (hR.w.2.1 _ fin_24).2.1) rfl (k_ixN (k_ix (n := 48) (x := v242_5) (a := v242_5.toInt) rfl hv191) (hR.w.2.1 _ fin_24).2.2) dX14_readFile_291 ?_
                                              refine lv_topi (fun z192 ez192 => ?_)
                                              obtain rfl : z192 = (qI S188 9 v242_5.toInt.toNat) := ez192
                                              refine lv_iconst (v := 4) hx hb dX14_readFile_292 (by decide) ?_
                                              refine lv_iadd hx hb dX14_readFile_293 ?_
                                              refine lv_topi (fun z193 ez193 => ?_)
                                              obtain rfl : z193 = ((qI S188 9 v242_5.toInt.toNat) + (4 : Int32)) := ez193
                                              obtain ⟨hv194, h⟩ := h
                                              have hFc := rfree hR hA
                                              refine va_calli (va_runV (As := [.int ((qI S188 9 v242_5.toInt.toNat) + (4 : Int32))]) (rest := [.ref (ak185 0), .int v242_5, .ref (ak185 (qO S188 v242_4 6))]) ⟨hx, hb, hml, hown, hts⟩ (r_two l g ak185 H.size S188 ((qI S188 9 v242_5.toInt.toNat) + (4 : Int32)) hR.w  hv194) (cwV 1 hts (gd2_V kx_186 kx_187 kx_188 kx_177 kx_189) rfl rfl rfl (by decide +kernel) ⟨Nat.le_of_ble_eq_true rfl, Nat.le_of_ble_eq_true rfl⟩) ⟨rblind, va_recv hR.K hR.P (ci := 13) (q0 := 0) rfl (hR.at14 hR.w.1), fun U hU hW9 => rmk hU hW9 hR hex hE hFc⟩ rfl rfl hl.1 rfl (lv_room (Nat.le_of_ble_eq_true rfl)) dX14_readFile_294 ⟨(show dc242 + dc_ak185 + 0 ≤ KC - qn S from hlg.c), (show ds242 + ds_ak185 + 0 ≤ KS - qu S from hlg.s)⟩) hR.sS (fun q _ h => hFc q h) hFc (fun r195 u9 t9 H1 locs ht9 hvm9 hw9 hB9 hz9 hk9 hS => ?_)
                                              have hR : Rep g ak185 A s S188 H1 locs := hR.call ht9 hB9 hR.w hS hFc
                                              obtain rfl : r195 = (f_two S188 ((qI S188 9 v242_5.toInt.toNat) + (4 : Int32))) := hw9
                                              clear hB9 hz9 hk9 hvm9 ht9 hS
                                              generalize H1 = H at hR ⊢
                                              obtain ⟨Q197, h0, h⟩ := h
                                              have hFc := rfree hR hA
                                              refine W_led2 (fun hL0 => ?_)
                                              refine va_callq (va_runV (As := [.int (f_two S188 ((qI S188 9 v242_5.toInt.toNat) + (4 : Int32)))]) (rest := [.int v242_5, .ref (ak185 (qO S188 v242_4 6))]) ⟨hx, hb, hml, hown, hts⟩ (r_text l g ak185 H S188 (f_two S188 ((qI S188 9 v242_5.toInt.toNat) + (4 : Int32))) hR.w  Q197 h0) (cwV 1 hts (gd2_V kx_1074 kx_1075 kx_1076 kx_177 kx_1077) rfl rfl rfl (by decide +kernel) ⟨Nat.le_of_ble_eq_true rfl, Nat.le_of_ble_eq_true rfl⟩) ⟨rblindH, va_recv hR.K hR.P (ci := 13) (q0 := 0) rfl (hR.at14 hR.w.1), fun U hU hW9 => rmkH hU hW9 hR hex hE hFc⟩ rfl rfl hl.1 rfl (lv_room (Nat.le_of_ble_eq_true rfl)) dX14_readFile_297 ⟨(show dc242 + dc_ak185 + (KC - qn S188) ≤ KC - qn S from hlg.cm), (show ds242 + ds_ak185 + (KS - qu S188) ≤ KS - qu S from hlg.sm)⟩) hR.sS (fun q _ h => hFc q h) hFc (fun r198 S199 t9 H1 locs ht9 hvm9 hw9 hB9 hz9 hk9 hS => ?_)
                                              rcases S199 with ⟨S199, ak201⟩
                                              obtain ⟨hB9, dc9, ds9, hL9, hl9⟩ := hB9
                                              dsimp only at hw9 hB9 hl9
                                              rw [ht9] at hL9
                                              obtain ⟨b202, rfl, hq200, hw9, hs9, hk8, hT_b202⟩ := hw9
                                              have hw8 := hR.w
                                              have hak := hak.tr hk8 hlg.2.2.1
                                              have hE := hE.ad hk8
                                              have hR : Rep g ak201 A s S199 H1 locs := hR.callH ht9 hB9 hw9 hS hFc
                                              have hsh := hsh.tr hs9
                                              refine W_tight2 (hL0.tr hL9).1 (hL0.tr hL9).2.1 ?_
                                              have hlg := hlg.call hl9
                                              replace h := h b202 S199 hq200
                                              have ea_0 : ak201 0 = ak185 0 := hk8 _ (hw8.hd hw8.1 (by decide) (by decide))
                                              have ea_1 : ak201 v242_4 = ak185 v242_4 := hk8 _ (hw8.hd hT_v242_4 (by decide) (by decide))
                                              have ea_2 : ak201 (qO S188 v242_4 6) = ak185 (qO S188 v242_4 6) := hk8 _ (hw8.hd hT_b190 (by decide) (by decide))
                                              have hl : lv_has ls 7 [(0, .ref (ak201 0)), (3, .int v242_3), (4, .ref (ak201 v242_4)), (5, .int v242_5)] := by simp only [ea_0, ea_1, ea_2]; exact hl
                                              refine W.eq (g2 := F0 m 300 ls (.ref (ak201 b202) :: [.int v242_5, .ref (ak201 (qO S188 v242_4 6))])) (by first | (simp only [ea_0, ea_1, ea_2]; rfl) | simp only [ea_0, ea_1, ea_2]) ?_
                                              have hT_v242_4 := hs9.T hT_v242_4 (by decide)
                                              have hT_b190 := hs9.T hT_b190 (by decide)
                                              clear hB9 hz9 hk9 hvm9 ht9 hw9 hs9 hS hL0 hL9
                                              generalize H1 = H at hR ⊢
                                              generalize dc9 = dc_ak201, ds9 = ds_ak201 at hlg ⊢
                                              obtain ⟨hv203, h⟩ := h
                                              refine va_astqM (E := "java/lang/String") hx hb hR.K hR.P hR.D hR.sS (qO S188 v242_4 6) 4 (hR.atS hT_b190) rfl (any_str hts hR hE hA hT_b202) (k_ix (x := v242_5) (a := v242_5.toInt) rfl hv203) dX14_readFile_300 (fun H locs hP hD hS => ?_)
                                              have hw9 : wfM (wR S199 (qO S188 v242_4 6) v242_5.toInt.toNat (some b202)) := hR.w.put (fun b q9 => by cases q9; exact (hT_b202).trans (by rw [hT_b190]; rfl)) (fun q9 => absurd ((congrArg (qT S199) q9).symm.trans hT_b190) (by rw [hR.w.1]; decide)) (by rw [hT_b190]; show (12 : Nat) ≠ 0; decide)
                                              have hR : Rep g ak201 A s (wR S199 (qO S188 v242_4 6) v242_5.toInt.toNat (some b202)) H locs := hR.aS hT_b190 hw9 hP hD hS
                                              obtain ⟨S204, eS204⟩ : ∃ z, z = wR S199 (qO S188 v242_4 6) v242_5.toInt.toNat (some b202) := ⟨_, rfl⟩
                                              rw [← eS204] at hR
                                              replace h := h S204 eS204
                                              have hT_v242_4 : qT S204 v242_4 = 11 := (congrArg (fun z => qT z v242_4) eS204).trans hT_v242_4
                                              have hsh : shx S S204 := by rw [eS204]; exact hsh
                                              have hlg : lg S S204 (dc242 + dc_ak185 + dc_ak201) (ds242 + ds_ak185 + ds_ak201) := by rw [eS204]; exact hlg
                                              refine lv_aload hx hb dX14_readFile_301 (lv_at hl 2 rfl) ?_
                                              obtain ⟨hv205, h⟩ := h
                                              have hT_b206 : qT S204 (qO S204 v242_4 7) = 5 := hR.w.ref hv205 hT_v242_4
                                              refine va_get (D := rD g) (ci := 12) (v := .ref (ak201 (qO S204 v242_4 7))) (C := RX13) (T := TX13) (N := 23) hx hb hts in2X13 hown hR.K hR.P v242_4 (hR.at13 hT_v242_4) rfl 7 (by decide) (hts _ kx_397) (fun _ h9 => h9) (congrArg (fun z => some (vf ak201 z)) hv205) dX14_readFile_303 ?_
                                              refine lv_iload hx hb dX14_readFile_306 (lv_at hl 3 rfl) ?_
                                              refine lv_aload hx hb dX14_readFile_308 (lv_at hl 2 rfl) ?_
                                              obtain ⟨hv207, h⟩ := h
                                              have hT_b208 : qT S204 (qO S204 v242_4 6) = 5 := hR.w.ref hv207 hT_v242_4
                                              refine va_get (D := rD g) (ci := 12) (v := .ref (ak201 (qO S204 v242_4 6))) (C := RX13) (T := TX13) (N := 23) hx hb hts in2X13 hown hR.K hR.P v242_4 (hR.at13 hT_v242_4) rfl 6 (by decide) (hts _ kx_564) (fun _ h9 => h9) (congrArg (fun z => some (vf ak201 z)) hv207) dX14_readFile_310 ?_
                                              refine lv_iload hx hb dX14_readFile_313 (lv_at hl 3 rfl) ?_
                                              obtain ⟨hv209, h⟩ := h
                                              refine va_aldq hx hb hR.K hR.P (qO S204 v242_4 6) 4 (hR.atS hT_b208) rfl (k_ix (x := v242_5) (a := v242_5.toInt) rfl hv209) dX14_readFile_315 ?_
                                              obtain ⟨hv210, h⟩ := h
                                              have hT_b211 : qT S204 (qO S204 (qO S204 v242_4 6) v242_5.toInt.toNat) = 12 := hR.w.ref hv210 hT_b208
                                              rw [show va_rf (Option.map ak201 (qR S204 (qO S204 v242_4 6) (v242_5 : Int32).toNatClampNeg)) = .ref (ak201 (qO S204 (qO S204 v242_4 6) v242_5.toInt.toNat)) from congrArg (fun z => vf ak201 z) hv210]
                                              refine lv_iconst (v := 0) hx hb dX14_readFile_316 (by decide) ?_
                                              obtain ⟨Q212, h0, h⟩ := h
                                              have hFc := rfree hR hA
                                              refine W_led2 (fun hL0 => ?_)
                                              refine va_callq (va_runS (As := [.ref (ak201 (qO S204 (qO S204 v242_4 6) v242_5.toInt.toNat)), .int 0]) (rest := [.int v242_5, .ref (ak201 (qO S204 v242_4 7))]) ⟨hx, hb, hml, hown, hts⟩ (r_letters l g ak201 H S204 (qO S204 (qO S204 v242_4 6) v242_5.toInt.toNat) (0 : Int32) hR.w hT_b211 Q212 h0) (va_cwS 2 hts (gd2_S kx_1078 kx_1079 kx_177 kx_1080) rfl rfl rfl (by decide +kernel) ⟨Nat.le_of_ble_eq_true rfl, Nat.le_of_ble_eq_true rfl⟩) ⟨rblindH, fun U hU hW9 => rmkH hU hW9 hR hex hE hFc⟩ rfl rfl hl.1 rfl (lv_room (Nat.le_of_ble_eq_true rfl)) dX14_readFile_317 ⟨(show dc242 + dc_ak185 + dc_ak201 + (KC - qn S204) ≤ KC - qn S from hlg.cm), (show ds242 + ds_ak185 + ds_ak201 + (KS - qu S204) ≤ KS - qu S from hlg.sm)⟩) hR.sS (fun q _ h => hFc q h) hFc (fun r213 S214 t9 H1 locs ht9 hvm9 hw9 hB9 hz9 hk9 hS => ?_)
                                              rcases S214 with ⟨S214, ak216⟩
                                              obtain ⟨hB9, dc9, ds9, hL9, hl9⟩ := hB9
                                              dsimp only at hw9 hB9 hl9
                                              rw [ht9] at hL9
                                              obtain ⟨b217, rfl, hq215, hw9, hs9, hk8, hT_b217⟩ := hw9
                                              have hw8 := hR.w
                                              have hak := hak.tr hk8 hlg.2.2.1
                                              have hE := hE.ad hk8
                                              have hR : Rep g ak216 A s S214 H1 locs := hR.callH ht9 hB9 hw9 hS hFc
                                              have hsh := hsh.tr hs9
                                              refine W_tight2 (hL0.tr hL9).1 (hL0.tr hL9).2.1 ?_
                                              have hlg := hlg.call hl9
                                              replace h := h b217 S214 hq215
                                              have ea_0 : ak216 0 = ak201 0 := hk8 _ (hw8.hd hw8.1 (by decide) (by decide))
                                              have ea_1 : ak216 v242_4 = ak201 v242_4 := hk8 _ (hw8.hd hT_v242_4 (by decide) (by decide))
                                              have ea_2 : ak216 (qO S204 v242_4 7) = ak201 (qO S204 v242_4 7) := hk8 _ (hw8.hd hT_b206 (by decide) (by decide))
                                              have hl : lv_has ls 7 [(0, .ref (ak216 0)), (3, .int v242_3), (4, .ref (ak216 v242_4)), (5, .int v242_5)] := by simp only [ea_0, ea_1, ea_2]; exact hl
                                              refine W.eq (g2 := F0 m 320 ls (.ref (ak216 b217) :: [.int v242_5, .ref (ak216 (qO S204 v242_4 7))])) (by first | (simp only [ea_0, ea_1, ea_2]; rfl) | simp only [ea_0, ea_1, ea_2]) ?_
                                              have hT_v242_4 := hs9.T hT_v242_4 (by decide)
                                              have hT_b206 := hs9.T hT_b206 (by decide)
                                              clear hB9 hz9 hk9 hvm9 ht9 hw9 hs9 hS hL0 hL9
                                              generalize H1 = H at hR ⊢
                                              generalize dc9 = dc_ak216, ds9 = ds_ak216 at hlg ⊢
                                              obtain ⟨hv218, h⟩ := h
                                              refine va_astqM (E := "java/lang/String") hx hb hR.K hR.P hR.D hR.sS (qO S204 v242_4 7) 4 (hR.atS hT_b206) rfl (any_str hts hR hE hA hT_b217) (k_ix (x := v242_5) (a := v242_5.toInt) rfl hv218) dX14_readFile_320 (fun H locs hP hD hS => ?_)
                                              have hw9 : wfM (wR S214 (qO S204 v242_4 7) v242_5.toInt.toNat (some b217)) := hR.w.put (fun b q9 => by cases q9; exact (hT_b217).trans (by rw [hT_b206]; rfl)) (fun q9 => absurd ((congrArg (qT S214) q9).symm.trans hT_b206) (by rw [hR.w.1]; decide)) (by rw [hT_b206]; show (12 : Nat) ≠ 0; decide)
                                              have hR : Rep g ak216 A s (wR S214 (qO S204 v242_4 7) v242_5.toInt.toNat (some b217)) H locs := hR.aS hT_b206 hw9 hP hD hS
                                              obtain ⟨S219, eS219⟩ : ∃ z, z = wR S214 (qO S204 v242_4 7) v242_5.toInt.toNat (some b217) := ⟨_, rfl⟩
                                              rw [← eS219] at hR
                                              replace h := h S219 eS219
                                              have hT_v242_4 : qT S219 v242_4 = 11 := (congrArg (fun z => qT z v242_4) eS219).trans hT_v242_4
                                              have hsh : shx S S219 := by rw [eS219]; exact hsh
                                              have hlg : lg S S219 (dc242 + dc_ak185 + dc_ak201 + dc_ak216) (ds242 + ds_ak185 + ds_ak201 + ds_ak216) := by rw [eS219]; exact hlg
                                              obtain ⟨a220, ea220⟩ : ∃ z, z = (v242_5 + Int32.ofInt 1) := ⟨_, rfl⟩
                                              replace h := h a220 ea220
                                              refine lv_iinc (v := a220) (lv' := [(5, .int a220), (0, .ref (ak216 0)), (3, .int v242_3), (4, .ref (ak216 v242_4))]) hx hb dX14_readFile_321 hl (k := 3) rfl ea220.symm (by decide) rfl (fun ls hl => ?_)
                                              refine lv_goto (tgt := 242) hx hb dX14_readFile_324 (by decide) ?_
                                              exact ih_242 ak216 (dc242 + dc_ak185 + dc_ak201 + dc_ak216) (ds242 + ds_ak185 + ds_ak201 + ds_ak216) S219 v242_3 v242_4 a220 _ _ ls h hT_v242_4 hsh hlg hak hE hR (lv_sub hl [1, 2, 3, 0] rfl)
                                        obtain ⟨n9, h⟩ := h
                                        exact J_242 n9 ak70 (dc147 + dc_ak57 + dc_ak70) (ds147 + ds_ak57 + ds_ak70) S75 v147_3 v147_4 0 _ _ ls h hT_v147_4 hsh hlg hak hE hR (lv_sub hl [1, 2, 3, 0] rfl)
                                      · replace h := h.2 (k_nle rfl rfl c46)
                                        refine lv_aload_n hx hb dX14_readFile_153 rfl (lv_at hl 0 rfl) ?_
                                        refine lv_iload hx hb dX14_readFile_154 (lv_at hl 3 rfl) ?_
                                        refine lv_aload hx hb dX14_readFile_156 (lv_at hl 2 rfl) ?_
                                        obtain ⟨Q221, EQ221, h0, h⟩ := h
                                        have hFc := rfree hR hA
                                        refine vx_callv (vx_runV (As := [.int v147_5, .ref (ad147 v147_4)]) (rest := []) ⟨hx, hb, hml, hown, hts⟩ (r_pointing l g ad147 H.size U147 v147_5 v147_4 hR.w hT_v147_4 Q221 EQ221 h0) (cwV 2 hts (gd2_V kx_1085 kx_1086 kx_1087 kx_177 kx_1088) rfl rfl rfl (by decide +kernel) ⟨Nat.le_of_ble_eq_true rfl, Nat.le_of_ble_eq_true rfl⟩) ⟨rblind, va_recv hR.K hR.P (ci := 13) (q0 := 0) rfl (hR.at14 hR.w.1), fun U hU hW9 => rmk hU hW9 hR hex hE hFc⟩ rfl rfl hl.1 rfl (lv_room (Nat.le_of_ble_eq_true rfl)) dX14_readFile_158 ⟨(show dc147 + 0 ≤ KC - qn S from hlg.c), (show ds147 + 0 ≤ KS - qu S from hlg.s)⟩) hR.sS (fun q _ h => hFc q h) hFc (fun q _ h => hFc q h) (fun E9 ce9 q9 u9 t9 H1 locs ht9 hvm9 hp9 hB9 hz9 hk9 hS hce9 hcv9 hcl9 => ?_) (fun  S222 t9 H1 locs ht9 hvm9 hw9 hB9 hz9 hk9 hS => ?_)
                                        · obtain ⟨hp9, hwx, hsx⟩ := hp9
                                          obtain ⟨rfl, hBx⟩ := hB9
                                          replace h := h.2 u9 hp9
                                          have hR : Rep g ad147 A s u9 H1 locs := hR.call ht9 hBx hwx hS hFc
                                          have hsh := hsh.tr hsx.1
                                          have hlg : lg S u9 (dc147) (ds147) := hlg.same hsx
                                          refine vx_led2 (fun hLd => ?_)
                                          exact vx_out (E := RJxb5711) (q := q9) (fun x h9 => (hnt x h9).elim) hlocks hce9 hcv9 hcl9 (fun t9 ht9 ha9 => ⟨(u9, ad147), ⟨h, hR.w, hsh, hak⟩, ⟨rfl, ⟨by rw [ht9]; exact hR.P, hR.D⟩, _, _, by rw [ht9]; exact hLd, hlg⟩, hR.sS.F ht9⟩) hR.sS.2.2 hlg.c hlg.s
                                        · obtain ⟨hq223, hw9, hs9⟩ := hw9
                                          have hR : Rep g ad147 A s S222 H1 locs := hR.call ht9 hB9 hw9 hS hFc
                                          have hsh := hsh.tr hs9.1
                                          have hlg : lg S S222 (dc147) (ds147) := hlg.same hs9
                                          replace h := h.1  S222 hq223
                                          have hT_v147_4 := hs9.T hT_v147_4 (by decide)
                                          clear hB9 hz9 hk9 hvm9 ht9 hw9 hs9 hS
                                          generalize H1 = H at hR ⊢
                                          obtain ⟨a224, ea224⟩ : ∃ z, z = (v147_5 + Int32.ofInt 1) := ⟨_, rfl⟩
                                          replace h := h a224 ea224
                                          refine lv_iinc (v := a224) (lv' := [(5, .int a224), (0, .ref (ad147 0)), (3, .int v147_3), (4, .ref (ad147 v147_4))]) hx hb dX14_readFile_161 hl (k := 3) rfl ea224.symm (by decide) rfl (fun ls hl => ?_)
                                          refine lv_goto (tgt := 147) hx hb dX14_readFile_164 (by decide) ?_
                                          exact ih_147 ad147 (dc147) (ds147) S222 v147_3 v147_4 a224 _ _ ls h hT_v147_4 hsh hlg hak hE hR (lv_sub hl [1, 2, 3, 0] rfl)
                                  obtain ⟨n9, h⟩ := h
                                  exact J_147 n9 ak45 (dc102 + 1 + dc_ak45) (ds102 + 23 + ds_ak45) S43 v102_3 (qn S36) 0 _ _ ls h hT_b41 hsh hlg hak hE hR (lv_sub hl [2, 3, 1, 0] rfl)
                                · replace h := h.2 (k_nle rfl rfl c33)
                                  refine lv_aload_n hx hb dX14_readFile_108 rfl (lv_at hl 0 rfl) ?_
                                  refine lv_iload hx hb dX14_readFile_109 (lv_at hl 2 rfl) ?_
                                  obtain ⟨Q225, EQ225, h0, h⟩ := h
                                  have hFc := rfree hR hA
                                  refine vx_callv (vx_runV (As := [.int v102_4]) (rest := []) ⟨hx, hb, hml, hown, hts⟩ (r_wholes l g ad102 H.size U102 v102_4 hR.w  Q225 EQ225 h0) (cwV 1 hts (gd2_V kx_877 kx_878 kx_879 kx_177 kx_880) rfl rfl rfl (by decide +kernel) ⟨Nat.le_of_ble_eq_true rfl, Nat.le_of_ble_eq_true rfl⟩) ⟨rblind, va_recv hR.K hR.P (ci := 13) (q0 := 0) rfl (hR.at14 hR.w.1), fun U hU hW9 => rmk hU hW9 hR hex hE hFc⟩ rfl rfl hl.1 rfl (lv_room (Nat.le_of_ble_eq_true rfl)) dX14_readFile_111 ⟨(show dc102 + 0 ≤ KC - qn S from hlg.c), (show ds102 + 0 ≤ KS - qu S from hlg.s)⟩) hR.sS (fun q _ h => hFc q h) hFc (fun q _ h => hFc q h) (fun E9 ce9 q9 u9 t9 H1 locs ht9 hvm9 hp9 hB9 hz9 hk9 hS hce9 hcv9 hcl9 => ?_) (fun  S226 t9 H1 locs ht9 hvm9 hw9 hB9 hz9 hk9 hS => ?_)
                                  · obtain ⟨hp9, hwx, hsx⟩ := hp9
                                    obtain ⟨rfl, hBx⟩ := hB9
                                    replace h := h.2 u9 hp9
                                    have hR : Rep g ad102 A s u9 H1 locs := hR.call ht9 hBx hwx hS hFc
                                    have hsh := hsh.tr hsx.1
                                    have hlg : lg S u9 (dc102) (ds102) := hlg.same hsx
                                    refine vx_led2 (fun hLd => ?_)
                                    exact vx_out (E := RJxb5711) (q := q9) (fun x h9 => (hnt x h9).elim) hlocks hce9 hcv9 hcl9 (fun t9 ht9 ha9 => ⟨(u9, ad102), ⟨h, hR.w, hsh, hak⟩, ⟨rfl, ⟨by rw [ht9]; exact hR.P, hR.D⟩, _, _, by rw [ht9]; exact hLd, hlg⟩, hR.sS.F ht9⟩) hR.sS.2.2 hlg.c hlg.s
                                  · obtain ⟨hq227, hw9, hs9⟩ := hw9
                                    have hR : Rep g ad102 A s S226 H1 locs := hR.call ht9 hB9 hw9 hS hFc
                                    have hsh := hsh.tr hs9.1
                                    have hlg : lg S S226 (dc102) (ds102) := hlg.same hs9
                                    replace h := h.1  S226 hq227
                                    clear hB9 hz9 hk9 hvm9 ht9 hw9 hs9 hS
                                    generalize H1 = H at hR ⊢
                                    obtain ⟨a228, ea228⟩ : ∃ z, z = (v102_4 + Int32.ofInt 1) := ⟨_, rfl⟩
                                    replace h := h a228 ea228
                                    refine lv_iinc (v := a228) (lv' := [(4, .int a228), (0, .ref (ad102 0)), (3, .int v102_3)]) hx hb dX14_readFile_114 hl (k := 2) rfl ea228.symm (by decide) rfl (fun ls hl => ?_)
                                    refine lv_goto (tgt := 102) hx hb dX14_readFile_117 (by decide) ?_
                                    exact ih_102 ad102 (dc102) (ds102) S226 v102_3 a228 _ _ ls h  hsh hlg hak hE hR (lv_sub hl [1, 2, 0] rfl)
                            obtain ⟨n9, h⟩ := h
                            exact J_102 n9 ad81 (dc81) (ds81) U81 v81_3 0 _ _ ls h  hsh hlg hak hE hR (lv_sub hl [1, 2, 0] rfl)
                          · replace h := h.2 (k_nle rfl rfl c32)
                            refine lv_aload_n hx hb dX14_readFile_87 rfl (lv_at hl 0 rfl) ?_
                            refine lv_iload hx hb dX14_readFile_88 (lv_at hl 2 rfl) ?_
                            obtain ⟨Q229, EQ229, h0, h⟩ := h
                            have hFc := rfree hR hA
                            refine vx_callv (vx_runV (As := [.int v81_4]) (rest := []) ⟨hx, hb, hml, hown, hts⟩ (r_codeItems l g ad81 H.size U81 v81_4 hR.w  Q229 EQ229 h0) (cwV 1 hts (gd2_V kx_1089 kx_1090 kx_1091 kx_177 kx_1092) rfl rfl rfl (by decide +kernel) ⟨Nat.le_of_ble_eq_true rfl, Nat.le_of_ble_eq_true rfl⟩) ⟨rblind, va_recv hR.K hR.P (ci := 13) (q0 := 0) rfl (hR.at14 hR.w.1), fun U hU hW9 => rmk hU hW9 hR hex hE hFc⟩ rfl rfl hl.1 rfl (lv_room (Nat.le_of_ble_eq_true rfl)) dX14_readFile_90 ⟨(show dc81 + 0 ≤ KC - qn S from hlg.c), (show ds81 + 0 ≤ KS - qu S from hlg.s)⟩) hR.sS (fun q _ h => hFc q h) hFc (fun q _ h => hFc q h) (fun E9 ce9 q9 u9 t9 H1 locs ht9 hvm9 hp9 hB9 hz9 hk9 hS hce9 hcv9 hcl9 => ?_) (fun  S230 t9 H1 locs ht9 hvm9 hw9 hB9 hz9 hk9 hS => ?_)
                            · obtain ⟨hp9, hwx, hsx⟩ := hp9
                              obtain ⟨rfl, hBx⟩ := hB9
                              replace h := h.2 u9 hp9
                              have hR : Rep g ad81 A s u9 H1 locs := hR.call ht9 hBx hwx hS hFc
                              have hsh := hsh.tr hsx.1
                              have hlg : lg S u9 (dc81) (ds81) := hlg.same hsx
                              refine vx_led2 (fun hLd => ?_)
                              exact vx_out (E := RJxb5711) (q := q9) (fun x h9 => (hnt x h9).elim) hlocks hce9 hcv9 hcl9 (fun t9 ht9 ha9 => ⟨(u9, ad81), ⟨h, hR.w, hsh, hak⟩, ⟨rfl, ⟨by rw [ht9]; exact hR.P, hR.D⟩, _, _, by rw [ht9]; exact hLd, hlg⟩, hR.sS.F ht9⟩) hR.sS.2.2 hlg.c hlg.s
                            · obtain ⟨hq231, hw9, hs9⟩ := hw9
                              have hR : Rep g ad81 A s S230 H1 locs := hR.call ht9 hB9 hw9 hS hFc
                              have hsh := hsh.tr hs9.1
                              have hlg : lg S S230 (dc81) (ds81) := hlg.same hs9
                              replace h := h.1  S230 hq231
                              clear hB9 hz9 hk9 hvm9 ht9 hw9 hs9 hS
                              generalize H1 = H at hR ⊢
                              obtain ⟨a232, ea232⟩ : ∃ z, z = (v81_4 + Int32.ofInt 1) := ⟨_, rfl⟩
                              replace h := h a232 ea232
                              refine lv_iinc (v := a232) (lv' := [(4, .int a232), (0, .ref (ad81 0)), (3, .int v81_3)]) hx hb dX14_readFile_93 hl (k := 2) rfl ea232.symm (by decide) rfl (fun ls hl => ?_)
                              refine lv_goto (tgt := 81) hx hb dX14_readFile_96 (by decide) ?_
                              exact ih_81 ad81 (dc81) (ds81) S230 v81_3 a232 _ _ ls h  hsh hlg hak hE hR (lv_sub hl [1, 2, 0] rfl)
                      obtain ⟨n9, h⟩ := h
                      exact J_81 n9 ad59 (dc59) (ds59) S28 a31 0 _ _ ls h  hsh hlg hak hE hR (lv_sub hl [2, 1, 0] rfl)
                  refine lv_icmp_ne (tgt := 58) hx hb dX14_readFile_51 (by decide) (fun c233 => ?_) (fun c233 => ?_)
                  · replace h := h.2 (k_ne rfl rfl c233)
                    refine lv_iconst (v := 0) hx hb dX14_readFile_58 (by decide) ?_
                    exact J_59 ad (0) (0) S25 0 _ _ ls h (Or.inl rfl) hsh hlg hak hE hR (lv_sub hl [0] rfl)
                  · replace h := h.1 (k_eq rfl rfl c233)
                    refine lv_iconst (v := 1) hx hb dX14_readFile_54 (by decide) ?_
                    refine lv_goto (tgt := 59) hx hb dX14_readFile_55 (by decide) ?_
                    exact J_59 ad (0) (0) S25 1 _ _ ls h (Or.inr rfl) hsh hlg hak hE hR (lv_sub hl [0] rfl)
