def w_X9_findReached_J78 (Q : MS → Prop) (k50 : MS → Int32 → Int32 → Int32 → Prop) (U78 : MS) (v78_1 : Int32) (v78_2 : Int32) (v78_3 : Int32) : Prop := (wfC U78 → (∀ a13 : Int32, a13 = (v78_3 + Int32.ofInt 1) → k50 U78 v78_1 v78_2 a13))
def w_X9_findReached_L50 (Q : MS → Prop) (k36 : MS → Int32 → Int32 → Prop) : Nat → MS → Int32 → Int32 → Int32 → Prop
  | 0, _, _, _, _ => False
  | n50 + 1, U50, v50_1, v50_2, v50_3 => (wfC U50 → (((qI U50 (qO U50 66 0) 2).toInt ≤ v50_3.toInt → (∀ a8 : Int32, a8 = (v50_2 + Int32.ofInt 1) → k36 U50 v50_1 a8)) ∧ (¬ (qI U50 (qO U50 66 0) 2).toInt ≤ v50_3.toInt → (((0 : Int) ≤ v50_3.toInt ∧ v50_3.toInt < (qN U50 (qO U50 66 3) : Int)) ∧ (((qI U50 (qO U50 66 3) v50_3.toInt.toNat).toInt = 0 → w_X9_findReached_J78 Q (w_X9_findReached_L50 Q k36 n50) U50 v50_1 v50_2 v50_3) ∧ (¬ (qI U50 (qO U50 66 3) v50_3.toInt.toNat).toInt = 0 → (∃ Q15, wX9_reachFrom U50 v50_3 Q15 ∧ ∀ r16 S17, Q15 r16 S17 → wfC S17 → shy U50 S17 → (∀ a20 : Int32, a20 = (v50_1 ||| r16) → w_X9_findReached_J78 Q (w_X9_findReached_L50 Q k36 n50) S17 a20 v50_2 v50_3))))))))
def w_X9_findReached_L36 (Q : MS → Prop) : Nat → MS → Int32 → Int32 → Prop
  | 0, _, _, _ => False
  | n36 + 1, U36, v36_1, v36_2 => (wfC U36 → ((v36_1.toInt = 0 → Q U36) ∧ (¬ v36_1.toInt = 0 → ((1000000 ≤ v36_2.toInt → Q U36) ∧ (¬ 1000000 ≤ v36_2.toInt → (∃ n, w_X9_findReached_L50 Q (w_X9_findReached_L36 Q n36) n U36 0 v36_2 0))))))
def w_X9_findReached_J25 (Q : MS → Prop) (k2 : MS → Int32 → Prop) (U25 : MS) (t25_0 : Int32) (t25_1 : Int32) (t25_2 : Nat) (v25_1 : Int32) : Prop := (wfC U25 → qT U25 t25_2 = 306 → (t25_0 = 0 ∨ t25_0 = 1) → (((0 : Int) ≤ t25_1.toInt ∧ t25_1.toInt < (qN U25 t25_2 : Int)) ∧ (∀ S23, S23 = wI U25 t25_2 t25_1.toInt.toNat (vp_nar .boolean t25_0) → qT U25 t25_2 = 306 → wfC S23 → (∀ a24 : Int32, a24 = (v25_1 + Int32.ofInt 1) → k2 S23 a24))))
def w_X9_findReached_L2 (Q : MS → Prop) : Nat → MS → Int32 → Prop
  | 0, _, _ => False
  | n2 + 1, U2, v2_1 => (wfC U2 → (((qN U2 (qO U2 66 3) : Int) ≤ v2_1.toInt → (∃ n, w_X9_findReached_L36 Q n U2 1 0)) ∧ (¬ (qN U2 (qO U2 66 3) : Int) ≤ v2_1.toInt → ((v2_1.toInt = 0 → w_X9_findReached_J25 Q (w_X9_findReached_L2 Q n2) U2 1 v2_1 (qO U2 66 3) v2_1) ∧ (¬ v2_1.toInt = 0 → w_X9_findReached_J25 Q (w_X9_findReached_L2 Q n2) U2 0 v2_1 (qO U2 66 3) v2_1)))))
def wX9_findReached (S : MS) (Q : MS → Prop) : Prop := (∃ n, w_X9_findReached_L2 Q n S 0)
set_option maxHeartbeats 2000000 in
set_option maxRecDepth 100000 in
theorem rX9_findReached (l : Launch) (g : Gr) (ad : Nat → Nat) (sz : Nat) (S : MS) (hw : wfC S) (Q : MS → Prop) (h : wX9_findReached S Q) : Met l yX9_findReached (wt yX9_findReached cX9_findReached 4 none) ({ frames := 3, cells := 0, slots := 0, locals := 67 }) (va_Pc [.ref (ad 66)] (st_C g ad sz S)) (va_Qv (fun (u : MS) => Q u ∧ wfC u ∧ shy S u) (fun (u : MS) (t : State) => qEC g ad (va_A (WdC g ad S) sz) u t) (va_A (WdC g ad S) sz)) 0 0 (va_A (WdC g ad S) sz) := by
  refine Met.ofW (cc := cX9_findReached) (maxL := 4) (ret := none) (by decide) rfl ?_
  intro p e s m args below meth c s₁ B hml hv
  obtain ⟨rfl, hsz, hP, hK, hD0, hex, hE⟩ := hv
  have hx := B.exec
  have hb := B.bytes
  have hr := B.returns
  have hts0 := atoms_spec (ws := wt yX9_findReached cX9_findReached 4 none) B.pre
  have hts : ∀ w ∈ tb, w.before _ s = true := fun w h => hts0 w (List.mem_cons_of_mem _ h)
  have hown : s.vm.findClass RX9 = some m.cls := findClass_of_methodNamed B.named
  subst hsz
  have hD := hD0.self (sz := s.heap.size)
  generalize hAe : va_A (WdC g ad S) s.heap.size = A at hD hE ⊢
  have hA : ∀ q : Nat, s.heap.size ≤ q → A q := fun q h => by rw [← hAe]; exact Or.inr h
  have hR : RepC g ad A s S s.heap [] := ⟨hK, hP, hD, va_S.rf, hw⟩
  clear hK hP hD hD0
  have hl := lv_entry ([.ref (ad 66)]) (n := 4) (Nat.le_of_ble_eq_true rfl)
  rw [lg_entry_eq]
  generalize (lg_sl ([.ref (ad 66)]) ++ List.replicate (4 - (lg_sl ([.ref (ad 66)])).length) Slot.unset).toArray = ls at hl ⊢
  have hl : lv_has ls 4 [(0, .ref (ad 66))] := hl
  have hsh : shy S S := shy.rf
  unfold wX9_findReached at h
  refine lv_iconst (v := 0) hx hb dX9_findReached_0 (by decide) ?_
  refine lv_istore_n (lv' := [(1, .int 0), (0, .ref (ad 66))]) hx hb dX9_findReached_1 rfl hl (by decide) rfl (fun ls hl => ?_)
  have J_2 : ∀ (n2 : Nat) (U2 : MS) (v2_1 : Int32) (H : Heap) (locs : List Loc) (ls : Array Slot), w_X9_findReached_L2 Q n2 U2 v2_1 → shy S U2 → RepC g ad A s U2 H locs → lv_has ls 4 [(0, .ref (ad 66)), (1, .int v2_1)] → W p l e (headSpec (wt yX9_findReached cX9_findReached 4 none) ({ frames := 3, cells := 0, slots := 0, locals := 67 })).room s m ([.ref (ad 66)] : List Value).toArray below meth c H locs 0 0 (MQ below (va_Qv (fun (u : MS) => Q u ∧ wfC u ∧ shy S u) (fun (u : MS) (t : State) => qEC g ad A u t) A) ([.ref (ad 66)] : List Value).toArray s 0 0 A) (F0 m 2 ls []) := by
    intro n2
    induction n2 with
    | zero => intro U2 v2_1 H locs ls h hsh hR hl; unfold w_X9_findReached_L2 at h; exact h.elim
    | succ n2 ih_2 =>
      intro U2 v2_1 H locs ls h hsh hR hl
      unfold w_X9_findReached_L2 at h
      replace h := h hR.w
      refine lv_iload_n hx hb dX9_findReached_2 rfl (lv_at hl 1 rfl) ?_
      refine lv_aload_n hx hb dX9_findReached_3 rfl (lv_at hl 0 rfl) ?_
      have hT_b1 : qT U2 (qO U2 66 3) = 306 := hR.w.ref (hR.w.ptr ptrC_36) (hR.w.2.1 _ finC_31).2.1
      refine va_get (D := rD g) (ci := 8) (v := .ref (ad (qO U2 66 3))) (C := RX9) (T := TX9) (N := 6) hx hb hts inX9 hown hR.K hR.P 66 (hR.at48 (hR.w.2.1 _ finC_31).2.1) rfl 3 (by decide) (hts _ kw_1554) (fun _ h9 => h9) (congrArg (fun z => some (vf ad z)) (hR.w.ptr ptrC_36)) dX9_findReached_4 ?_
      refine va_alen (v := (Int32.ofNat (qN U2 (qO U2 66 3)))) hx hb hR.K hR.P (qO U2 66 3) 2 (hR.atZ hT_b1 (by decide)) rfl rfl dX9_findReached_7 ?_
      have hln2 : (Int32.ofNat (qN U2 (qO U2 66 3))).toInt = (qN U2 (qO U2 66 3) : Int) := toI_len (hR.w.len9 (hT_b1) (by decide))
      refine lv_icmp_ge (tgt := 32) hx hb dX9_findReached_8 (by decide) (fun c3 => ?_) (fun c3 => ?_)
      · replace h := h.1 (k_le hln2 rfl c3)
        refine lv_iconst (v := 1) hx hb dX9_findReached_32 (by decide) ?_
        refine lv_istore_n (lv' := [(1, .int 1), (0, .ref (ad 66))]) hx hb dX9_findReached_33 rfl hl (by decide) rfl (fun ls hl => ?_)
        refine lv_iconst (v := 0) hx hb dX9_findReached_34 (by decide) ?_
        refine lv_istore_n (lv' := [(2, .int 0), (1, .int 1), (0, .ref (ad 66))]) hx hb dX9_findReached_35 rfl hl (by decide) rfl (fun ls hl => ?_)
        have J_36 : ∀ (n36 : Nat) (U36 : MS) (v36_1 : Int32) (v36_2 : Int32) (H : Heap) (locs : List Loc) (ls : Array Slot), w_X9_findReached_L36 Q n36 U36 v36_1 v36_2 → shy S U36 → RepC g ad A s U36 H locs → lv_has ls 4 [(0, .ref (ad 66)), (1, .int v36_1), (2, .int v36_2)] → W p l e (headSpec (wt yX9_findReached cX9_findReached 4 none) ({ frames := 3, cells := 0, slots := 0, locals := 67 })).room s m ([.ref (ad 66)] : List Value).toArray below meth c H locs 0 0 (MQ below (va_Qv (fun (u : MS) => Q u ∧ wfC u ∧ shy S u) (fun (u : MS) (t : State) => qEC g ad A u t) A) ([.ref (ad 66)] : List Value).toArray s 0 0 A) (F0 m 36 ls []) := by
          intro n36
          induction n36 with
          | zero => intro U36 v36_1 v36_2 H locs ls h hsh hR hl; unfold w_X9_findReached_L36 at h; exact h.elim
          | succ n36 ih_36 =>
            intro U36 v36_1 v36_2 H locs ls h hsh hR hl
            unfold w_X9_findReached_L36 at h
            replace h := h hR.w
            refine lv_iload_n hx hb dX9_findReached_36 rfl (lv_at hl 1 rfl) ?_
            refine lv_if_eq (tgt := 90) hx hb dX9_findReached_37 (by decide) (fun c4 => ?_) (fun c4 => ?_)
            · replace h := h.1 (k_eq rfl (by decide) c4)
              exact W.vret hx hb hr (fun t9 ht9 hW9 => ⟨⟨U36, rfl, ⟨h, hR.w, hsh⟩, ⟨by rw [ht9]; exact hR.P, hR.D⟩⟩, hR.sS.F ht9⟩) hR.sS.2.2 dX9_findReached_90
            · replace h := h.2 (k_ne rfl (by decide) c4)
              refine lv_iload_n hx hb dX9_findReached_40 rfl (lv_at hl 2 rfl) ?_
              refine lv_ldc hx hb hown (hts _ kw_1561) dX9_findReached_41 ?_
              refine lv_icmp_ge (tgt := 90) hx hb dX9_findReached_43 (by decide) (fun c5 => ?_) (fun c5 => ?_)
              · replace h := h.1 (k_le (by decide) rfl c5)
                exact W.vret hx hb hr (fun t9 ht9 hW9 => ⟨⟨U36, rfl, ⟨h, hR.w, hsh⟩, ⟨by rw [ht9]; exact hR.P, hR.D⟩⟩, hR.sS.F ht9⟩) hR.sS.2.2 dX9_findReached_90
              · replace h := h.2 (k_nle (by decide) rfl c5)
                refine lv_iconst (v := 0) hx hb dX9_findReached_46 (by decide) ?_
                refine lv_istore_n (lv' := [(1, .int 0), (0, .ref (ad 66)), (2, .int v36_2)]) hx hb dX9_findReached_47 rfl hl (by decide) rfl (fun ls hl => ?_)
                refine lv_iconst (v := 0) hx hb dX9_findReached_48 (by decide) ?_
                refine lv_istore_n (lv' := [(3, .int 0), (1, .int 0), (0, .ref (ad 66)), (2, .int v36_2)]) hx hb dX9_findReached_49 rfl hl (by decide) rfl (fun ls hl => ?_)
                have J_50 : ∀ (n50 : Nat) (U50 : MS) (v50_1 : Int32) (v50_2 : Int32) (v50_3 : Int32) (H : Heap) (locs : List Loc) (ls : Array Slot), w_X9_findReached_L50 Q (w_X9_findReached_L36 Q n36) n50 U50 v50_1 v50_2 v50_3 → shy S U50 → RepC g ad A s U50 H locs → lv_has ls 4 [(0, .ref (ad 66)), (1, .int v50_1), (2, .int v50_2), (3, .int v50_3)] → W p l e (headSpec (wt yX9_findReached cX9_findReached 4 none) ({ frames := 3, cells := 0, slots := 0, locals := 67 })).room s m ([.ref (ad 66)] : List Value).toArray below meth c H locs 0 0 (MQ below (va_Qv (fun (u : MS) => Q u ∧ wfC u ∧ shy S u) (fun (u : MS) (t : State) => qEC g ad A u t) A) ([.ref (ad 66)] : List Value).toArray s 0 0 A) (F0 m 50 ls []) := by
                  intro n50
                  induction n50 with
                  | zero => intro U50 v50_1 v50_2 v50_3 H locs ls h hsh hR hl; unfold w_X9_findReached_L50 at h; exact h.elim
                  | succ n50 ih_50 =>
                    intro U50 v50_1 v50_2 v50_3 H locs ls h hsh hR hl
                    unfold w_X9_findReached_L50 at h
                    replace h := h hR.w
                    refine lv_iload_n hx hb dX9_findReached_50 rfl (lv_at hl 3 rfl) ?_
                    refine lv_aload_n hx hb dX9_findReached_51 rfl (lv_at hl 0 rfl) ?_
                    have hT_b6 : qT U50 (qO U50 66 0) = 47 := hR.w.ref (hR.w.ptr ptrC_39) (hR.w.2.1 _ finC_31).2.1
                    refine va_get (D := rD g) (ci := 8) (v := .ref (ad (qO U50 66 0))) (C := RX9) (T := TX9) (N := 6) hx hb hts inX9 hown hR.K hR.P 66 (hR.at48 (hR.w.2.1 _ finC_31).2.1) rfl 0 (by decide) (hts _ kw_1552) (fun _ h9 => h9) (congrArg (fun z => some (vf ad z)) (hR.w.ptr ptrC_39)) dX9_findReached_52 ?_
                    refine va_get (D := rD g) (ci := 7) (v := .int (qI U50 (qO U50 66 0) 2)) (C := RX8) (T := TX8) (N := 15) hx hb hts inX8 hown hR.K hR.P (qO U50 66 0) (hR.at47 hT_b6) rfl 2 (by decide) (hts _ kw_1553) (fun _ h9 => h9) rfl dX9_findReached_55 ?_
                    refine lv_icmp_ge (tgt := 84) hx hb dX9_findReached_58 (by decide) (fun c7 => ?_) (fun c7 => ?_)
                    · replace h := h.1 (k_le rfl rfl c7)
                      obtain ⟨a8, ea8⟩ : ∃ z, z = (v50_2 + Int32.ofInt 1) := ⟨_, rfl⟩
                      replace h := h a8 ea8
                      refine lv_iinc (v := a8) (lv' := [(2, .int a8), (0, .ref (ad 66)), (1, .int v50_1), (3, .int v50_3)]) hx hb dX9_findReached_84 hl (k := 2) rfl ea8.symm (by decide) rfl (fun ls hl => ?_)
                      refine lv_goto (tgt := 36) hx hb dX9_findReached_87 (by decide) ?_
                      exact ih_36 U50 v50_1 a8 _ _ ls h  hsh hR (lv_sub hl [1, 2, 0] rfl)
                    · replace h := h.2 (k_nle rfl rfl c7)
                      refine lv_aload_n hx hb dX9_findReached_61 rfl (lv_at hl 0 rfl) ?_
                      have hT_b9 : qT U50 (qO U50 66 3) = 306 := hR.w.ref (hR.w.ptr ptrC_36) (hR.w.2.1 _ finC_31).2.1
                      refine va_get (D := rD g) (ci := 8) (v := .ref (ad (qO U50 66 3))) (C := RX9) (T := TX9) (N := 6) hx hb hts inX9 hown hR.K hR.P 66 (hR.at48 (hR.w.2.1 _ finC_31).2.1) rfl 3 (by decide) (hts _ kw_1554) (fun _ h9 => h9) (congrArg (fun z => some (vf ad z)) (hR.w.ptr ptrC_36)) dX9_findReached_62 ?_
                      refine lv_iload_n hx hb dX9_findReached_65 rfl (lv_at hl 3 rfl) ?_
                      obtain ⟨hv10, h⟩ := h
                      refine va_zald hx hb hR.K hR.P (qO U50 66 3) 2 (hR.atZ hT_b9 (by decide)) rfl (k_ix (x := v50_3) (a := v50_3.toInt) rfl hv10) dX9_findReached_66 ?_
                      refine lv_topi (fun z11 ez11 => ?_)
                      obtain rfl : z11 = (qI U50 (qO U50 66 3) v50_3.toInt.toNat) := ez11
                      have hz12 := hR.w.bit3 (b := (qO U50 66 3)) (j := v50_3.toInt.toNat) (hT_b9) (by decide)
                      have J_78 : ∀ (U78 : MS) (v78_1 : Int32) (v78_2 : Int32) (v78_3 : Int32) (H : Heap) (locs : List Loc) (ls : Array Slot), w_X9_findReached_J78 Q (w_X9_findReached_L50 Q (w_X9_findReached_L36 Q n36) n50) U78 v78_1 v78_2 v78_3 → shy S U78 → RepC g ad A s U78 H locs → lv_has ls 4 [(0, .ref (ad 66)), (1, .int v78_1), (2, .int v78_2), (3, .int v78_3)] → W p l e (headSpec (wt yX9_findReached cX9_findReached 4 none) ({ frames := 3, cells := 0, slots := 0, locals := 67 })).room s m ([.ref (ad 66)] : List Value).toArray below meth c H locs 0 0 (MQ below (va_Qv (fun (u : MS) => Q u ∧ wfC u ∧ shy S u) (fun (u : MS) (t : State) => qEC g ad A u t) A) ([.ref (ad 66)] : List Value).toArray s 0 0 A) (F0 m 78 ls []) := by
                        intro U78 v78_1 v78_2 v78_3 H locs ls h hsh hR hl
                        unfold w_X9_findReached_J78 at h
                        replace h := h hR.w
                        obtain ⟨a13, ea13⟩ : ∃ z, z = (v78_3 + Int32.ofInt 1) := ⟨_, rfl⟩
                        replace h := h a13 ea13
                        refine lv_iinc (v := a13) (lv' := [(3, .int a13), (0, .ref (ad 66)), (1, .int v78_1), (2, .int v78_2)]) hx hb dX9_findReached_78 hl (k := 3) rfl ea13.symm (by decide) rfl (fun ls hl => ?_)
                        refine lv_goto (tgt := 50) hx hb dX9_findReached_81 (by decide) ?_
                        exact ih_50 U78 v78_1 v78_2 a13 _ _ ls h  hsh hR (lv_sub hl [1, 2, 3, 0] rfl)
                      refine lv_if_eq (tgt := 78) hx hb dX9_findReached_67 (by decide) (fun c14 => ?_) (fun c14 => ?_)
                      · replace h := h.1 (k_eq rfl (by decide) c14)
                        exact J_78 U50 v50_1 v50_2 v50_3 _ _ ls h  hsh hR (lv_sub hl [0, 1, 2, 3] rfl)
                      · replace h := h.2 (k_ne rfl (by decide) c14)
                        refine lv_iload_n hx hb dX9_findReached_70 rfl (lv_at hl 1 rfl) ?_
                        refine lv_aload_n hx hb dX9_findReached_71 rfl (lv_at hl 0 rfl) ?_
                        refine lv_iload_n hx hb dX9_findReached_72 rfl (lv_at hl 3 rfl) ?_
                        obtain ⟨Q15, h0, h⟩ := h
                        have hFc := cfree hR hA
                        refine va_calli (va_runV (As := [.int v50_3]) (rest := [.int v50_1]) ⟨hx, hb, hml, hown, hts⟩ (rX9_reachFrom l g ad H.size U50 v50_3 hR.w  Q15 h0) (cwV 1 hts (gd_V kw_1577 kw_1715 kw_1716 kw_404 kw_1714) rfl rfl rfl (by decide +kernel) ⟨Nat.le_of_ble_eq_true rfl, Nat.le_of_ble_eq_true rfl⟩) ⟨cblind, va_recv hR.K hR.P (ci := 8) (q0 := 66) rfl (hR.at48 (hR.w.2.1 _ finC_31).2.1), fun U hU hW9 => cmk hU hW9 hR hex hE hFc⟩ rfl rfl hl.1 rfl (lv_room (Nat.le_of_ble_eq_true rfl)) dX9_findReached_73 ⟨Nat.le_of_ble_eq_true rfl, Nat.le_of_ble_eq_true rfl⟩) hR.sS (fun q _ h => hFc q h) hFc (fun r16 S17 t9 H1 locs ht9 hvm9 hw9 hB9 hz9 hk9 hS => ?_)
                        obtain ⟨hq18, hw9, hs9, hz_r16⟩ := hw9
                        have hR : RepC g ad A s S17 H1 locs := hR.call ht9 hB9 hw9 hS hFc
                        have hsh := hsh.tr hs9
                        replace h := h r16 S17 hq18 hw9 hs9
                        clear hB9 hz9 hk9 hvm9 ht9 hw9 hs9 hS
                        generalize H1 = H at hR ⊢
                        refine lv_ior hx hb dX9_findReached_76 ?_
                        refine lv_topi (fun z19 ez19 => ?_)
                        obtain rfl : z19 = (v50_1 ||| r16) := ez19
                        obtain ⟨a20, ea20⟩ : ∃ z, z = (v50_1 ||| r16) := ⟨_, rfl⟩
                        rw [← ea20]
                        replace h := h a20 ea20
                        refine lv_istore_n (lv' := [(1, .int a20), (0, .ref (ad 66)), (2, .int v50_2), (3, .int v50_3)]) hx hb dX9_findReached_77 rfl hl (by decide) rfl (fun ls hl => ?_)
                        exact J_78 S17 a20 v50_2 v50_3 _ _ ls h  hsh hR (lv_sub hl [1, 0, 2, 3] rfl)
                obtain ⟨n9, h⟩ := h
                exact J_50 n9 U36 0 v36_2 0 _ _ ls h  hsh hR (lv_sub hl [2, 1, 3, 0] rfl)
        obtain ⟨n9, h⟩ := h
        exact J_36 n9 U2 1 0 _ _ ls h  hsh hR (lv_sub hl [2, 1, 0] rfl)
      · replace h := h.2 (k_nle hln2 rfl c3)
        refine lv_aload_n hx hb dX9_findReached_11 rfl (lv_at hl 0 rfl) ?_
        have hT_b21 : qT U2 (qO U2 66 3) = 306 := hR.w.ref (hR.w.ptr ptrC_36) (hR.w.2.1 _ finC_31).2.1
        refine va_get (D := rD g) (ci := 8) (v := .ref (ad (qO U2 66 3))) (C := RX9) (T := TX9) (N := 6) hx hb hts inX9 hown hR.K hR.P 66 (hR.at48 (hR.w.2.1 _ finC_31).2.1) rfl 3 (by decide) (hts _ kw_1554) (fun _ h9 => h9) (congrArg (fun z => some (vf ad z)) (hR.w.ptr ptrC_36)) dX9_findReached_12 ?_
        refine lv_iload_n hx hb dX9_findReached_15 rfl (lv_at hl 1 rfl) ?_
        refine lv_iload_n hx hb dX9_findReached_16 rfl (lv_at hl 1 rfl) ?_
        have J_25 : ∀ (U25 : MS) (t25_0 : Int32) (t25_1 : Int32) (t25_2 : Nat) (v25_1 : Int32) (H : Heap) (locs : List Loc) (ls : Array Slot), w_X9_findReached_J25 Q (w_X9_findReached_L2 Q n2) U25 t25_0 t25_1 t25_2 v25_1 → qT U25 t25_2 = 306 → (t25_0 = 0 ∨ t25_0 = 1) → shy S U25 → RepC g ad A s U25 H locs → lv_has ls 4 [(0, .ref (ad 66)), (1, .int v25_1)] → W p l e (headSpec (wt yX9_findReached cX9_findReached 4 none) ({ frames := 3, cells := 0, slots := 0, locals := 67 })).room s m ([.ref (ad 66)] : List Value).toArray below meth c H locs 0 0 (MQ below (va_Qv (fun (u : MS) => Q u ∧ wfC u ∧ shy S u) (fun (u : MS) (t : State) => qEC g ad A u t) A) ([.ref (ad 66)] : List Value).toArray s 0 0 A) (F0 m 25 ls [.int t25_0, .int t25_1, .ref (ad t25_2)]) := by
          intro U25 t25_0 t25_1 t25_2 v25_1 H locs ls h hT_t25_2 hz_t25_0 hsh hR hl
          unfold w_X9_findReached_J25 at h
          replace h := h hR.w hT_t25_2 hz_t25_0
          obtain ⟨hv22, h⟩ := h
          refine va_zast hx hb hR.K hR.P hR.D hR.sS t25_2 2 (hR.atZ hT_t25_2 (by decide)) rfl (k_ix (x := t25_1) (a := t25_1.toInt) rfl hv22) dX9_findReached_25 (fun H locs hP hD hS => ?_)
          have hTk9 : qT U25 t25_2 = 306 := hT_t25_2
          have hR : RepC g ad A s (wI U25 t25_2 t25_1.toInt.toNat (vp_nar .boolean t25_0)) H locs := hR.aZ hT_t25_2 (by decide) (bit_nz2 hz_t25_0) hP hD hS
          obtain ⟨S23, eS23⟩ : ∃ z, z = wI U25 t25_2 t25_1.toInt.toNat (vp_nar .boolean t25_0) := ⟨_, rfl⟩
          rw [← eS23] at hR
          replace h := h S23 eS23 hTk9 hR.w
          have hsh : shy S S23 := by rw [eS23]; exact hsh
          obtain ⟨a24, ea24⟩ : ∃ z, z = (v25_1 + Int32.ofInt 1) := ⟨_, rfl⟩
          replace h := h a24 ea24
          refine lv_iinc (v := a24) (lv' := [(1, .int a24), (0, .ref (ad 66))]) hx hb dX9_findReached_26 hl (k := 1) rfl ea24.symm (by decide) rfl (fun ls hl => ?_)
          refine lv_goto (tgt := 2) hx hb dX9_findReached_29 (by decide) ?_
          exact ih_2 S23 a24 _ _ ls h  hsh hR (lv_sub hl [1, 0] rfl)
        refine lv_if_ne (tgt := 24) hx hb dX9_findReached_17 (by decide) (fun c25 => ?_) (fun c25 => ?_)
        · replace h := h.2 (k_ne rfl (by decide) c25)
          refine lv_iconst (v := 0) hx hb dX9_findReached_24 (by decide) ?_
          exact J_25 U2 0 v2_1 (qO U2 66 3) v2_1 _ _ ls h hT_b21 (Or.inl rfl) hsh hR (lv_sub hl [0, 1] rfl)
        · replace h := h.1 (k_eq rfl (by decide) c25)
          refine lv_iconst (v := 1) hx hb dX9_findReached_20 (by decide) ?_
          refine lv_goto (tgt := 25) hx hb dX9_findReached_21 (by decide) ?_
          exact J_25 U2 1 v2_1 (qO U2 66 3) v2_1 _ _ ls h hT_b21 (Or.inr rfl) hsh hR (lv_sub hl [0, 1] rfl)
  obtain ⟨n9, h⟩ := h
  exact J_2 n9 S 0 _ _ ls h  hsh hR (lv_sub hl [1, 0] rfl)
def w_X9_isPassedOn_J109 (Q : Int32 → MS → Prop) (U109 : MS) : Prop := (wfC U109 → Q (0 : Int32) U109)
def w_X9_isPassedOn_J61 (Q : Int32 → MS → Prop) (U61 : MS) (t61_0 : Int32) (v61_1 : Int32) : Prop := (wfC U61 → (t61_0 = 0 ∨ t61_0 = 1) → ((t61_0.toInt = 0 → w_X9_isPassedOn_J109 Q U61) ∧ (¬ t61_0.toInt = 0 → (d_X8_localOf U61 (qO U61 66 0) v61_1 ∧ (d_X8_localOf U61 (qO U61 66 0) (v61_1 + (1 : Int32)) ∧ (((fX8_localOf U61 (qO U61 66 0) v61_1).toInt = (fX8_localOf U61 (qO U61 66 0) (v61_1 + (1 : Int32))).toInt → (∃ Q24, wX9_liveBehind U61 (v61_1 + (1 : Int32)) Q24 ∧ ∀ r25 S26, Q24 r25 S26 → wfC S26 → shy U61 S26 → (d_X9_localBits S26 v61_1 ∧ (((r25 &&& (fX9_localBits S26 v61_1)).toInt = 0 → Q (1 : Int32) S26) ∧ (¬ (r25 &&& (fX9_localBits S26 v61_1)).toInt = 0 → w_X9_isPassedOn_J109 Q S26))))) ∧ (¬ (fX8_localOf U61 (qO U61 66 0) v61_1).toInt = (fX8_localOf U61 (qO U61 66 0) (v61_1 + (1 : Int32))).toInt → w_X9_isPassedOn_J109 Q U61)))))))
def w_X9_isPassedOn_J56 (Q : Int32 → MS → Prop) (U56 : MS) (v56_1 : Int32) : Prop := (wfC U56 → w_X9_isPassedOn_J61 Q U56 1 v56_1)
def w_X9_isPassedOn_J60 (Q : Int32 → MS → Prop) (U60 : MS) (v60_1 : Int32) : Prop := (wfC U60 → w_X9_isPassedOn_J61 Q U60 0 v60_1)
def w_X9_isPassedOn_J44 (Q : Int32 → MS → Prop) (U44 : MS) (v44_1 : Int32) (v44_2 : Int32) (v44_3 : Int32) : Prop := (wfC U44 → ((v44_2.toInt = 58 → ((v44_3.toInt = 25 → w_X9_isPassedOn_J56 Q U44 v44_1) ∧ (¬ v44_3.toInt = 25 → w_X9_isPassedOn_J60 Q U44 v44_1))) ∧ (¬ v44_2.toInt = 58 → w_X9_isPassedOn_J60 Q U44 v44_1)))
def w_X9_isPassedOn_J32 (Q : Int32 → MS → Prop) (U32 : MS) (v32_1 : Int32) (v32_2 : Int32) (v32_3 : Int32) : Prop := (wfC U32 → ((v32_2.toInt = 55 → ((v32_3.toInt = 22 → w_X9_isPassedOn_J56 Q U32 v32_1) ∧ (¬ v32_3.toInt = 22 → w_X9_isPassedOn_J44 Q U32 v32_1 v32_2 v32_3))) ∧ (¬ v32_2.toInt = 55 → w_X9_isPassedOn_J44 Q U32 v32_1 v32_2 v32_3)))
def wX9_isPassedOn (S : MS) (x1 : Int32) (Q : Int32 → MS → Prop) : Prop := (d_X8_opAt S (qO S 66 0) x1 ∧ (∀ a5 : Int32, a5 = (fX8_opAt S (qO S 66 0) x1) → (d_X8_opAt S (qO S 66 0) (x1 + (1 : Int32)) ∧ (∀ a11 : Int32, a11 = (fX8_opAt S (qO S 66 0) (x1 + (1 : Int32))) → ((a5.toInt = 54 → ((a11.toInt = 21 → w_X9_isPassedOn_J56 Q S x1) ∧ (¬ a11.toInt = 21 → w_X9_isPassedOn_J32 Q S x1 a5 a11))) ∧ (¬ a5.toInt = 54 → w_X9_isPassedOn_J32 Q S x1 a5 a11))))))
set_option maxHeartbeats 2000000 in
set_option maxRecDepth 100000 in
theorem rX9_isPassedOn (l : Launch) (g : Gr) (ad : Nat → Nat) (sz : Nat) (S : MS) (x1 : Int32) (hw : wfC S) (Q : Int32 → MS → Prop) (h : wX9_isPassedOn S x1 Q) : Met l yX9_isPassedOn (wt yX9_isPassedOn cX9_isPassedOn 5 (some .boolean)) ({ frames := 3, cells := 0, slots := 0, locals := 67 }) (va_Pc [.ref (ad 66), .int x1] (st_C g ad sz S)) (va_Qi (fun (r : Int32) (u : MS) => Q r u ∧ wfC u ∧ shy S u ∧ (r = 0 ∨ r = 1)) (fun (u : MS) (t : State) => qEC g ad (va_A (WdC g ad S) sz) u t) (va_A (WdC g ad S) sz)) 0 0 (va_A (WdC g ad S) sz) := by
  refine Met.ofW (cc := cX9_isPassedOn) (maxL := 5) (ret := (some .boolean)) (by decide) rfl ?_
  intro p e s m args below meth c s₁ B hml hv
  obtain ⟨rfl, hsz, hP, hK, hD0, hex, hE⟩ := hv
  have hx := B.exec
  have hb := B.bytes
  have hr := B.returns
  have hts0 := atoms_spec (ws := wt yX9_isPassedOn cX9_isPassedOn 5 (some .boolean)) B.pre
  have hts : ∀ w ∈ tb, w.before _ s = true := fun w h => hts0 w (List.mem_cons_of_mem _ h)
  have hown : s.vm.findClass RX9 = some m.cls := findClass_of_methodNamed B.named
  subst hsz
  have hD := hD0.self (sz := s.heap.size)
  generalize hAe : va_A (WdC g ad S) s.heap.size = A at hD hE ⊢
  have hA : ∀ q : Nat, s.heap.size ≤ q → A q := fun q h => by rw [← hAe]; exact Or.inr h
  have hR : RepC g ad A s S s.heap [] := ⟨hK, hP, hD, va_S.rf, hw⟩
  clear hK hP hD hD0
  have hl := lv_entry ([.ref (ad 66), .int x1]) (n := 5) (Nat.le_of_ble_eq_true rfl)
  rw [lg_entry_eq]
  generalize (lg_sl ([.ref (ad 66), .int x1]) ++ List.replicate (5 - (lg_sl ([.ref (ad 66), .int x1])).length) Slot.unset).toArray = ls at hl ⊢
  have hl : lv_has ls 5 [(0, .ref (ad 66)), (1, .int x1)] := hl
  have hsh : shy S S := shy.rf
  unfold wX9_isPassedOn at h
  refine lv_aload_n hx hb dX9_isPassedOn_0 rfl (lv_at hl 0 rfl) ?_
  have hT_b1 : qT S (qO S 66 0) = 47 := hR.w.ref (hR.w.ptr ptrC_39) (hR.w.2.1 _ finC_31).2.1
  refine va_get (D := rD g) (ci := 8) (v := .ref (ad (qO S 66 0))) (C := RX9) (T := TX9) (N := 6) hx hb hts inX9 hown hR.K hR.P 66 (hR.at48 (hR.w.2.1 _ finC_31).2.1) rfl 0 (by decide) (hts _ kw_1552) (fun _ h9 => h9) (congrArg (fun z => some (vf ad z)) (hR.w.ptr ptrC_39)) dX9_isPassedOn_1 ?_
  refine lv_iload_n hx hb dX9_isPassedOn_4 rfl (lv_at hl 1 rfl) ?_
  obtain ⟨hv2, h⟩ := h
  have hFc := cfree hR hA
  refine va_calli (va_runV (As := [.int x1]) (rest := []) ⟨hx, hb, hml, hown, hts⟩ (rX8_opAt l g ad s.heap.size S (qO S 66 0) x1 hR.w hT_b1 hv2) (cwV 1 hts (gd_V kw_1596 kw_1513 kw_1514 kw_782 kw_1512) rfl rfl rfl (by decide +kernel) ⟨Nat.le_of_ble_eq_true rfl, Nat.le_of_ble_eq_true rfl⟩) ⟨cblind, va_recv hR.K hR.P (ci := 7) (q0 := (qO S 66 0)) rfl (hR.at47 hT_b1), fun U hU hW9 => cmk hU hW9 hR hex hE hFc⟩ rfl rfl hl.1 rfl (lv_room (Nat.le_of_ble_eq_true rfl)) dX9_isPassedOn_5 ⟨Nat.le_of_ble_eq_true rfl, Nat.le_of_ble_eq_true rfl⟩) hR.sS (fun q _ h => hFc q h) hFc (fun r3 u9 t9 H1 locs ht9 hvm9 hw9 hB9 hz9 hk9 hS => ?_)
  have hR : RepC g ad A s S H1 locs := hR.call ht9 hB9 hR.w hS hFc
  obtain rfl : r3 = (fX8_opAt S (qO S 66 0) x1) := hw9
  clear hB9 hz9 hk9 hvm9 ht9 hS
  generalize H1 = H at hR ⊢
  obtain ⟨a5, ea5⟩ : ∃ z, z = (fX8_opAt S (qO S 66 0) x1) := ⟨_, rfl⟩
  rw [← ea5]
  replace h := h a5 ea5
  refine lv_istore_n (lv' := [(2, .int a5), (0, .ref (ad 66)), (1, .int x1)]) hx hb dX9_isPassedOn_8 rfl hl (by decide) rfl (fun ls hl => ?_)
  refine lv_aload_n hx hb dX9_isPassedOn_9 rfl (lv_at hl 1 rfl) ?_
  have hT_b6 : qT S (qO S 66 0) = 47 := hR.w.ref (hR.w.ptr ptrC_39) (hR.w.2.1 _ finC_31).2.1
  refine va_get (D := rD g) (ci := 8) (v := .ref (ad (qO S 66 0))) (C := RX9) (T := TX9) (N := 6) hx hb hts inX9 hown hR.K hR.P 66 (hR.at48 (hR.w.2.1 _ finC_31).2.1) rfl 0 (by decide) (hts _ kw_1552) (fun _ h9 => h9) (congrArg (fun z => some (vf ad z)) (hR.w.ptr ptrC_39)) dX9_isPassedOn_10 ?_
  refine lv_iload_n hx hb dX9_isPassedOn_13 rfl (lv_at hl 2 rfl) ?_
  refine lv_iconst (v := 1) hx hb dX9_isPassedOn_14 (by decide) ?_
  refine lv_iadd hx hb dX9_isPassedOn_15 ?_
  refine lv_topi (fun z7 ez7 => ?_)
  obtain rfl : z7 = (x1 + (1 : Int32)) := ez7
  obtain ⟨hv8, h⟩ := h
  have hFc := cfree hR hA
  refine va_calli (va_runV (As := [.int (x1 + (1 : Int32))]) (rest := []) ⟨hx, hb, hml, hown, hts⟩ (rX8_opAt l g ad H.size S (qO S 66 0) (x1 + (1 : Int32)) hR.w hT_b6 hv8) (cwV 1 hts (gd_V kw_1596 kw_1513 kw_1514 kw_782 kw_1512) rfl rfl rfl (by decide +kernel) ⟨Nat.le_of_ble_eq_true rfl, Nat.le_of_ble_eq_true rfl⟩) ⟨cblind, va_recv hR.K hR.P (ci := 7) (q0 := (qO S 66 0)) rfl (hR.at47 hT_b6), fun U hU hW9 => cmk hU hW9 hR hex hE hFc⟩ rfl rfl hl.1 rfl (lv_room (Nat.le_of_ble_eq_true rfl)) dX9_isPassedOn_16 ⟨Nat.le_of_ble_eq_true rfl, Nat.le_of_ble_eq_true rfl⟩) hR.sS (fun q _ h => hFc q h) hFc (fun r9 u9 t9 H1 locs ht9 hvm9 hw9 hB9 hz9 hk9 hS => ?_)
  have hR : RepC g ad A s S H1 locs := hR.call ht9 hB9 hR.w hS hFc
  obtain rfl : r9 = (fX8_opAt S (qO S 66 0) (x1 + (1 : Int32))) := hw9
  clear hB9 hz9 hk9 hvm9 ht9 hS
  generalize H1 = H at hR ⊢
  obtain ⟨a11, ea11⟩ : ∃ z, z = (fX8_opAt S (qO S 66 0) (x1 + (1 : Int32))) := ⟨_, rfl⟩
  rw [← ea11]
  replace h := h a11 ea11
  refine lv_istore_n (lv' := [(3, .int a11), (2, .int a5), (0, .ref (ad 66)), (1, .int x1)]) hx hb dX9_isPassedOn_19 rfl hl (by decide) rfl (fun ls hl => ?_)
  refine lv_iload_n hx hb dX9_isPassedOn_20 rfl (lv_at hl 1 rfl) ?_
  refine lv_bipush (v := 54) hx hb dX9_isPassedOn_21 (by decide) ?_
  have J_61 : ∀ (U61 : MS) (t61_0 : Int32) (v61_1 : Int32) (H : Heap) (locs : List Loc) (ls : Array Slot), w_X9_isPassedOn_J61 Q U61 t61_0 v61_1 → (t61_0 = 0 ∨ t61_0 = 1) → shy S U61 → RepC g ad A s U61 H locs → lv_has ls 5 [(0, .ref (ad 66)), (1, .int v61_1)] → W p l e (headSpec (wt yX9_isPassedOn cX9_isPassedOn 5 (some .boolean)) ({ frames := 3, cells := 0, slots := 0, locals := 67 })).room s m ([.ref (ad 66), .int x1] : List Value).toArray below meth c H locs 0 0 (MQ below (va_Qi (fun (r : Int32) (u : MS) => Q r u ∧ wfC u ∧ shy S u ∧ (r = 0 ∨ r = 1)) (fun (u : MS) (t : State) => qEC g ad A u t) A) ([.ref (ad 66), .int x1] : List Value).toArray s 0 0 A) (F0 m 61 ls [.int t61_0]) := by
    intro U61 t61_0 v61_1 H locs ls h hz_t61_0 hsh hR hl
    unfold w_X9_isPassedOn_J61 at h
    replace h := h hR.w hz_t61_0
    refine lv_istore (lv' := [(4, .int t61_0), (0, .ref (ad 66)), (1, .int v61_1)]) hx hb dX9_isPassedOn_61 hl (by decide) rfl (fun ls hl => ?_)
    refine lv_iload hx hb dX9_isPassedOn_63 (lv_at hl 0 rfl) ?_
    have J_109 : ∀ (U109 : MS) (H : Heap) (locs : List Loc) (ls : Array Slot), w_X9_isPassedOn_J109 Q U109 → shy S U109 → RepC g ad A s U109 H locs → lv_has ls 5 [] → W p l e (headSpec (wt yX9_isPassedOn cX9_isPassedOn 5 (some .boolean)) ({ frames := 3, cells := 0, slots := 0, locals := 67 })).room s m ([.ref (ad 66), .int x1] : List Value).toArray below meth c H locs 0 0 (MQ below (va_Qi (fun (r : Int32) (u : MS) => Q r u ∧ wfC u ∧ shy S u ∧ (r = 0 ∨ r = 1)) (fun (u : MS) (t : State) => qEC g ad A u t) A) ([.ref (ad 66), .int x1] : List Value).toArray s 0 0 A) (F0 m 109 ls []) := by
      intro U109 H locs ls h hsh hR hl
      unfold w_X9_isPassedOn_J109 at h
      replace h := h hR.w
      refine lv_iconst (v := 0) hx hb dX9_isPassedOn_109 (by decide) ?_
      exact W.zret (v := 0) hx hb hr (nz (Or.inl rfl)) (fun t9 ht9 hW9 => ⟨⟨_, U109, rfl, ⟨h, hR.w, hsh, (Or.inl rfl)⟩, ⟨by rw [ht9]; exact hR.P, hR.D⟩⟩, hR.sS.F ht9⟩) hR.sS.2.2 dX9_isPassedOn_110
    refine lv_if_eq (tgt := 109) hx hb dX9_isPassedOn_65 (by decide) (fun c12 => ?_) (fun c12 => ?_)
    · replace h := h.1 (k_eq rfl (by decide) c12)
      exact J_109 U61 _ _ ls h  hsh hR (lv_sub hl [] rfl)
    · replace h := h.2 (k_ne rfl (by decide) c12)
      refine lv_aload_n hx hb dX9_isPassedOn_68 rfl (lv_at hl 1 rfl) ?_
      have hT_b13 : qT U61 (qO U61 66 0) = 47 := hR.w.ref (hR.w.ptr ptrC_39) (hR.w.2.1 _ finC_31).2.1
      refine va_get (D := rD g) (ci := 8) (v := .ref (ad (qO U61 66 0))) (C := RX9) (T := TX9) (N := 6) hx hb hts inX9 hown hR.K hR.P 66 (hR.at48 (hR.w.2.1 _ finC_31).2.1) rfl 0 (by decide) (hts _ kw_1552) (fun _ h9 => h9) (congrArg (fun z => some (vf ad z)) (hR.w.ptr ptrC_39)) dX9_isPassedOn_69 ?_
      refine lv_iload_n hx hb dX9_isPassedOn_72 rfl (lv_at hl 2 rfl) ?_
      obtain ⟨hv14, h⟩ := h
      have hFc := cfree hR hA
      refine va_calli (va_runV (As := [.int v61_1]) (rest := []) ⟨hx, hb, hml, hown, hts⟩ (rX8_localOf l g ad H.size U61 (qO U61 66 0) v61_1 hR.w hT_b13 hv14) (cwV 1 hts (gd_V kw_1643 kw_1509 kw_1510 kw_782 kw_1508) rfl rfl rfl (by decide +kernel) ⟨Nat.le_of_ble_eq_true rfl, Nat.le_of_ble_eq_true rfl⟩) ⟨cblind, va_recv hR.K hR.P (ci := 7) (q0 := (qO U61 66 0)) rfl (hR.at47 hT_b13), fun U hU hW9 => cmk hU hW9 hR hex hE hFc⟩ rfl rfl hl.1 rfl (lv_room (Nat.le_of_ble_eq_true rfl)) dX9_isPassedOn_73 ⟨Nat.le_of_ble_eq_true rfl, Nat.le_of_ble_eq_true rfl⟩) hR.sS (fun q _ h => hFc q h) hFc (fun r15 u9 t9 H1 locs ht9 hvm9 hw9 hB9 hz9 hk9 hS => ?_)
      have hR : RepC g ad A s U61 H1 locs := hR.call ht9 hB9 hR.w hS hFc
      obtain rfl : r15 = (fX8_localOf U61 (qO U61 66 0) v61_1) := hw9
      clear hB9 hz9 hk9 hvm9 ht9 hS
      generalize H1 = H at hR ⊢
      refine lv_aload_n hx hb dX9_isPassedOn_76 rfl (lv_at hl 1 rfl) ?_
      have hT_b17 : qT U61 (qO U61 66 0) = 47 := hR.w.ref (hR.w.ptr ptrC_39) (hR.w.2.1 _ finC_31).2.1
      refine va_get (D := rD g) (ci := 8) (v := .ref (ad (qO U61 66 0))) (C := RX9) (T := TX9) (N := 6) hx hb hts inX9 hown hR.K hR.P 66 (hR.at48 (hR.w.2.1 _ finC_31).2.1) rfl 0 (by decide) (hts _ kw_1552) (fun _ h9 => h9) (congrArg (fun z => some (vf ad z)) (hR.w.ptr ptrC_39)) dX9_isPassedOn_77 ?_
      refine lv_iload_n hx hb dX9_isPassedOn_80 rfl (lv_at hl 2 rfl) ?_
      refine lv_iconst (v := 1) hx hb dX9_isPassedOn_81 (by decide) ?_
      refine lv_iadd hx hb dX9_isPassedOn_82 ?_
      refine lv_topi (fun z18 ez18 => ?_)
      obtain rfl : z18 = (v61_1 + (1 : Int32)) := ez18
      obtain ⟨hv19, h⟩ := h
      have hFc := cfree hR hA
      refine va_calli (va_runV (As := [.int (v61_1 + (1 : Int32))]) (rest := [.int (fX8_localOf U61 (qO U61 66 0) v61_1)]) ⟨hx, hb, hml, hown, hts⟩ (rX8_localOf l g ad H.size U61 (qO U61 66 0) (v61_1 + (1 : Int32)) hR.w hT_b17 hv19) (cwV 1 hts (gd_V kw_1643 kw_1509 kw_1510 kw_782 kw_1508) rfl rfl rfl (by decide +kernel) ⟨Nat.le_of_ble_eq_true rfl, Nat.le_of_ble_eq_true rfl⟩) ⟨cblind, va_recv hR.K hR.P (ci := 7) (q0 := (qO U61 66 0)) rfl (hR.at47 hT_b17), fun U hU hW9 => cmk hU hW9 hR hex hE hFc⟩ rfl rfl hl.1 rfl (lv_room (Nat.le_of_ble_eq_true rfl)) dX9_isPassedOn_83 ⟨Nat.le_of_ble_eq_true rfl, Nat.le_of_ble_eq_true rfl⟩) hR.sS (fun q _ h => hFc q h) hFc (fun r20 u9 t9 H1 locs ht9 hvm9 hw9 hB9 hz9 hk9 hS => ?_)
      have hR : RepC g ad A s U61 H1 locs := hR.call ht9 hB9 hR.w hS hFc
      obtain rfl : r20 = (fX8_localOf U61 (qO U61 66 0) (v61_1 + (1 : Int32))) := hw9
      clear hB9 hz9 hk9 hvm9 ht9 hS
      generalize H1 = H at hR ⊢
      refine lv_icmp_ne (tgt := 109) hx hb dX9_isPassedOn_86 (by decide) (fun c22 => ?_) (fun c22 => ?_)
      · replace h := h.2 (k_ne rfl rfl c22)
        exact J_109 U61 _ _ ls h  hsh hR (lv_sub hl [] rfl)
      · replace h := h.1 (k_eq rfl rfl c22)
        refine lv_aload_n hx hb dX9_isPassedOn_89 rfl (lv_at hl 1 rfl) ?_
        refine lv_iload_n hx hb dX9_isPassedOn_90 rfl (lv_at hl 2 rfl) ?_
        refine lv_iconst (v := 1) hx hb dX9_isPassedOn_91 (by decide) ?_
        refine lv_iadd hx hb dX9_isPassedOn_92 ?_
        refine lv_topi (fun z23 ez23 => ?_)
        obtain rfl : z23 = (v61_1 + (1 : Int32)) := ez23
        obtain ⟨Q24, h0, h⟩ := h
        have hFc := cfree hR hA
        refine va_calli (va_runV (As := [.int (v61_1 + (1 : Int32))]) (rest := []) ⟨hx, hb, hml, hown, hts⟩ (rX9_liveBehind l g ad H.size U61 (v61_1 + (1 : Int32)) hR.w  Q24 h0) (cwV 1 hts (gd_V kw_1598 kw_1670 kw_1671 kw_404 kw_1669) rfl rfl rfl (by decide +kernel) ⟨Nat.le_of_ble_eq_true rfl, Nat.le_of_ble_eq_true rfl⟩) ⟨cblind, va_recv hR.K hR.P (ci := 8) (q0 := 66) rfl (hR.at48 (hR.w.2.1 _ finC_31).2.1), fun U hU hW9 => cmk hU hW9 hR hex hE hFc⟩ rfl rfl hl.1 rfl (lv_room (Nat.le_of_ble_eq_true rfl)) dX9_isPassedOn_93 ⟨Nat.le_of_ble_eq_true rfl, Nat.le_of_ble_eq_true rfl⟩) hR.sS (fun q _ h => hFc q h) hFc (fun r25 S26 t9 H1 locs ht9 hvm9 hw9 hB9 hz9 hk9 hS => ?_)
        obtain ⟨hq27, hw9, hs9⟩ := hw9
        have hR : RepC g ad A s S26 H1 locs := hR.call ht9 hB9 hw9 hS hFc
        have hsh := hsh.tr hs9
        replace h := h r25 S26 hq27 hw9 hs9
        clear hB9 hz9 hk9 hvm9 ht9 hw9 hs9 hS
        generalize H1 = H at hR ⊢
        refine lv_aload_n hx hb dX9_isPassedOn_96 rfl (lv_at hl 1 rfl) ?_
        refine lv_iload_n hx hb dX9_isPassedOn_97 rfl (lv_at hl 2 rfl) ?_
        obtain ⟨hv28, h⟩ := h
        have hFc := cfree hR hA
        refine va_calli (va_runV (As := [.int v61_1]) (rest := [.int r25]) ⟨hx, hb, hml, hown, hts⟩ (rX9_localBits l g ad H.size S26 v61_1 hR.w  hv28) (cwV 1 hts (gd_V kw_1599 kw_1674 kw_1675 kw_404 kw_1673) rfl rfl rfl (by decide +kernel) ⟨Nat.le_of_ble_eq_true rfl, Nat.le_of_ble_eq_true rfl⟩) ⟨cblind, va_recv hR.K hR.P (ci := 8) (q0 := 66) rfl (hR.at48 (hR.w.2.1 _ finC_31).2.1), fun U hU hW9 => cmk hU hW9 hR hex hE hFc⟩ rfl rfl hl.1 rfl (lv_room (Nat.le_of_ble_eq_true rfl)) dX9_isPassedOn_98 ⟨Nat.le_of_ble_eq_true rfl, Nat.le_of_ble_eq_true rfl⟩) hR.sS (fun q _ h => hFc q h) hFc (fun r29 u9 t9 H1 locs ht9 hvm9 hw9 hB9 hz9 hk9 hS => ?_)
        have hR : RepC g ad A s S26 H1 locs := hR.call ht9 hB9 hR.w hS hFc
        obtain rfl : r29 = (fX9_localBits S26 v61_1) := hw9
        clear hB9 hz9 hk9 hvm9 ht9 hS
        generalize H1 = H at hR ⊢
        refine lv_iand hx hb dX9_isPassedOn_101 ?_
        refine lv_topi (fun z31 ez31 => ?_)
        obtain rfl : z31 = (r25 &&& (fX9_localBits S26 v61_1)) := ez31
        refine lv_if_ne (tgt := 109) hx hb dX9_isPassedOn_102 (by decide) (fun c32 => ?_) (fun c32 => ?_)
        · replace h := h.2 (k_ne rfl (by decide) c32)
          exact J_109 S26 _ _ ls h  hsh hR (lv_sub hl [] rfl)
        · replace h := h.1 (k_eq rfl (by decide) c32)
          refine lv_iconst (v := 1) hx hb dX9_isPassedOn_105 (by decide) ?_
          refine lv_goto (tgt := 110) hx hb dX9_isPassedOn_106 (by decide) ?_
          exact W.zret (v := 1) hx hb hr (nz (Or.inr rfl)) (fun t9 ht9 hW9 => ⟨⟨_, S26, rfl, ⟨h, hR.w, hsh, (Or.inr rfl)⟩, ⟨by rw [ht9]; exact hR.P, hR.D⟩⟩, hR.sS.F ht9⟩) hR.sS.2.2 dX9_isPassedOn_110
  have J_56 : ∀ (U56 : MS) (v56_1 : Int32) (H : Heap) (locs : List Loc) (ls : Array Slot), w_X9_isPassedOn_J56 Q U56 v56_1 → shy S U56 → RepC g ad A s U56 H locs → lv_has ls 5 [(0, .ref (ad 66)), (1, .int v56_1)] → W p l e (headSpec (wt yX9_isPassedOn cX9_isPassedOn 5 (some .boolean)) ({ frames := 3, cells := 0, slots := 0, locals := 67 })).room s m ([.ref (ad 66), .int x1] : List Value).toArray below meth c H locs 0 0 (MQ below (va_Qi (fun (r : Int32) (u : MS) => Q r u ∧ wfC u ∧ shy S u ∧ (r = 0 ∨ r = 1)) (fun (u : MS) (t : State) => qEC g ad A u t) A) ([.ref (ad 66), .int x1] : List Value).toArray s 0 0 A) (F0 m 56 ls []) := by
    intro U56 v56_1 H locs ls h hsh hR hl
    unfold w_X9_isPassedOn_J56 at h
    replace h := h hR.w
    refine lv_iconst (v := 1) hx hb dX9_isPassedOn_56 (by decide) ?_
    refine lv_goto (tgt := 61) hx hb dX9_isPassedOn_57 (by decide) ?_
    exact J_61 U56 1 v56_1 _ _ ls h (Or.inr rfl) hsh hR (lv_sub hl [0, 1] rfl)
  have J_32 : ∀ (U32 : MS) (v32_1 : Int32) (v32_2 : Int32) (v32_3 : Int32) (H : Heap) (locs : List Loc) (ls : Array Slot), w_X9_isPassedOn_J32 Q U32 v32_1 v32_2 v32_3 → shy S U32 → RepC g ad A s U32 H locs → lv_has ls 5 [(0, .ref (ad 66)), (1, .int v32_1), (2, .int v32_2), (3, .int v32_3)] → W p l e (headSpec (wt yX9_isPassedOn cX9_isPassedOn 5 (some .boolean)) ({ frames := 3, cells := 0, slots := 0, locals := 67 })).room s m ([.ref (ad 66), .int x1] : List Value).toArray below meth c H locs 0 0 (MQ below (va_Qi (fun (r : Int32) (u : MS) => Q r u ∧ wfC u ∧ shy S u ∧ (r = 0 ∨ r = 1)) (fun (u : MS) (t : State) => qEC g ad A u t) A) ([.ref (ad 66), .int x1] : List Value).toArray s 0 0 A) (F0 m 32 ls []) := by
    intro U32 v32_1 v32_2 v32_3 H locs ls h hsh hR hl
    unfold w_X9_isPassedOn_J32 at h
    replace h := h hR.w
    refine lv_iload_n hx hb dX9_isPassedOn_32 rfl (lv_at hl 2 rfl) ?_
    refine lv_bipush (v := 55) hx hb dX9_isPassedOn_33 (by decide) ?_
    have J_44 : ∀ (U44 : MS) (v44_1 : Int32) (v44_2 : Int32) (v44_3 : Int32) (H : Heap) (locs : List Loc) (ls : Array Slot), w_X9_isPassedOn_J44 Q U44 v44_1 v44_2 v44_3 → shy S U44 → RepC g ad A s U44 H locs → lv_has ls 5 [(0, .ref (ad 66)), (1, .int v44_1), (2, .int v44_2), (3, .int v44_3)] → W p l e (headSpec (wt yX9_isPassedOn cX9_isPassedOn 5 (some .boolean)) ({ frames := 3, cells := 0, slots := 0, locals := 67 })).room s m ([.ref (ad 66), .int x1] : List Value).toArray below meth c H locs 0 0 (MQ below (va_Qi (fun (r : Int32) (u : MS) => Q r u ∧ wfC u ∧ shy S u ∧ (r = 0 ∨ r = 1)) (fun (u : MS) (t : State) => qEC g ad A u t) A) ([.ref (ad 66), .int x1] : List Value).toArray s 0 0 A) (F0 m 44 ls []) := by
      intro U44 v44_1 v44_2 v44_3 H locs ls h hsh hR hl
      unfold w_X9_isPassedOn_J44 at h
      replace h := h hR.w
      refine lv_iload_n hx hb dX9_isPassedOn_44 rfl (lv_at hl 2 rfl) ?_
      refine lv_bipush (v := 58) hx hb dX9_isPassedOn_45 (by decide) ?_
      have J_60 : ∀ (U60 : MS) (v60_1 : Int32) (H : Heap) (locs : List Loc) (ls : Array Slot), w_X9_isPassedOn_J60 Q U60 v60_1 → shy S U60 → RepC g ad A s U60 H locs → lv_has ls 5 [(0, .ref (ad 66)), (1, .int v60_1)] → W p l e (headSpec (wt yX9_isPassedOn cX9_isPassedOn 5 (some .boolean)) ({ frames := 3, cells := 0, slots := 0, locals := 67 })).room s m ([.ref (ad 66), .int x1] : List Value).toArray below meth c H locs 0 0 (MQ below (va_Qi (fun (r : Int32) (u : MS) => Q r u ∧ wfC u ∧ shy S u ∧ (r = 0 ∨ r = 1)) (fun (u : MS) (t : State) => qEC g ad A u t) A) ([.ref (ad 66), .int x1] : List Value).toArray s 0 0 A) (F0 m 60 ls []) := by
        intro U60 v60_1 H locs ls h hsh hR hl
        unfold w_X9_isPassedOn_J60 at h
        replace h := h hR.w
        refine lv_iconst (v := 0) hx hb dX9_isPassedOn_60 (by decide) ?_
        exact J_61 U60 0 v60_1 _ _ ls h (Or.inl rfl) hsh hR (lv_sub hl [0, 1] rfl)
      refine lv_icmp_ne (tgt := 60) hx hb dX9_isPassedOn_47 (by decide) (fun c33 => ?_) (fun c33 => ?_)
      · replace h := h.2 (k_ne rfl (by decide) c33)
        exact J_60 U44 v44_1 _ _ ls h  hsh hR (lv_sub hl [0, 1] rfl)
      · replace h := h.1 (k_eq rfl (by decide) c33)
        refine lv_iload_n hx hb dX9_isPassedOn_50 rfl (lv_at hl 3 rfl) ?_
        refine lv_bipush (v := 25) hx hb dX9_isPassedOn_51 (by decide) ?_
        refine lv_icmp_ne (tgt := 60) hx hb dX9_isPassedOn_53 (by decide) (fun c34 => ?_) (fun c34 => ?_)
        · replace h := h.2 (k_ne rfl (by decide) c34)
          exact J_60 U44 v44_1 _ _ ls h  hsh hR (lv_sub hl [0, 1] rfl)
        · replace h := h.1 (k_eq rfl (by decide) c34)
          exact J_56 U44 v44_1 _ _ ls h  hsh hR (lv_sub hl [0, 1] rfl)
    refine lv_icmp_ne (tgt := 44) hx hb dX9_isPassedOn_35 (by decide) (fun c35 => ?_) (fun c35 => ?_)
    · replace h := h.2 (k_ne rfl (by decide) c35)
      exact J_44 U32 v32_1 v32_2 v32_3 _ _ ls h  hsh hR (lv_sub hl [0, 1, 2, 3] rfl)
    · replace h := h.1 (k_eq rfl (by decide) c35)
      refine lv_iload_n hx hb dX9_isPassedOn_38 rfl (lv_at hl 3 rfl) ?_
      refine lv_bipush (v := 22) hx hb dX9_isPassedOn_39 (by decide) ?_
      refine lv_icmp_eq (tgt := 56) hx hb dX9_isPassedOn_41 (by decide) (fun c36 => ?_) (fun c36 => ?_)
      · replace h := h.1 (k_eq rfl (by decide) c36)
        exact J_56 U32 v32_1 _ _ ls h  hsh hR (lv_sub hl [0, 1] rfl)
      · replace h := h.2 (k_ne rfl (by decide) c36)
        exact J_44 U32 v32_1 v32_2 v32_3 _ _ ls h  hsh hR (lv_sub hl [0, 1, 2, 3] rfl)
  refine lv_icmp_ne (tgt := 32) hx hb dX9_isPassedOn_23 (by decide) (fun c37 => ?_) (fun c37 => ?_)
  · replace h := h.2 (k_ne rfl (by decide) c37)
    exact J_32 S x1 a5 a11 _ _ ls h  hsh hR (lv_sub hl [2, 3, 1, 0] rfl)
  · replace h := h.1 (k_eq rfl (by decide) c37)
    refine lv_iload_n hx hb dX9_isPassedOn_26 rfl (lv_at hl 0 rfl) ?_
    refine lv_bipush (v := 21) hx hb dX9_isPassedOn_27 (by decide) ?_
    refine lv_icmp_eq (tgt := 56) hx hb dX9_isPassedOn_29 (by decide) (fun c38 => ?_) (fun c38 => ?_)
    · replace h := h.1 (k_eq rfl (by decide) c38)
      exact J_56 S x1 _ _ ls h  hsh hR (lv_sub hl [2, 3] rfl)
    · replace h := h.2 (k_ne rfl (by decide) c38)
      exact J_32 S x1 a5 a11 _ _ ls h  hsh hR (lv_sub hl [2, 3, 1, 0] rfl)
def w_X9_isDeadStoreDone_J76 (Q : Int32 → MS → Prop) (U76 : MS) (t76_0 : Int32) (t76_1 : Int32) (t76_2 : Nat) : Prop := (wfC U76 → qT U76 t76_2 = 47 → (qT U76 t76_2 = 47 → (∃ Q17, wX8_set U76 t76_2 t76_1 t76_0 0 Q17 ∧ ∀ S18, Q17 S18 → wfC S18 → shy U76 S18 → Q (1 : Int32) S18)))
def w_X9_isDeadStoreDone_J23 (Q : Int32 → MS → Prop) (U23 : MS) (v23_1 : Int32) (v23_2 : Int32) : Prop := (wfC U23 → (∃ Q6, wX9_liveBehind U23 v23_1 Q6 ∧ ∀ r7 S8, Q6 r7 S8 → wfC S8 → shy U23 S8 → (d_X9_localBits S8 v23_1 ∧ (((r7 &&& (fX9_localBits S8 v23_1)).toInt = 0 → ((v23_2.toInt = 132 → (qT S8 (qO S8 66 0) = 47 → (∃ Q22, wX8_remove S8 (qO S8 66 0) v23_1 (1 : Int32) Q22 ∧ ∀ S23, Q22 S23 → wfC S23 → shy S8 S23 → Q (1 : Int32) S23))) ∧ (¬ v23_2.toInt = 132 → ((v23_2.toInt = 55 → w_X9_isDeadStoreDone_J76 Q S8 88 v23_1 (qO S8 66 0)) ∧ (¬ v23_2.toInt = 55 → w_X9_isDeadStoreDone_J76 Q S8 87 v23_1 (qO S8 66 0)))))) ∧ (¬ (r7 &&& (fX9_localBits S8 v23_1)).toInt = 0 → Q (0 : Int32) S8)))))
def wX9_isDeadStoreDone (S : MS) (x1 : Int32) (Q : Int32 → MS → Prop) : Prop := (d_X8_opAt S (qO S 66 0) x1 ∧ (∀ a5 : Int32, a5 = (fX8_opAt S (qO S 66 0) x1) → ((a5.toInt = 132 → w_X9_isDeadStoreDone_J23 Q S x1 a5) ∧ (¬ a5.toInt = 132 → (d_X6_isStore S a5 ∧ (((fX6_isStore S a5).toInt = 0 → Q (0 : Int32) S) ∧ (¬ (fX6_isStore S a5).toInt = 0 → w_X9_isDeadStoreDone_J23 Q S x1 a5)))))))
set_option maxHeartbeats 2000000 in
set_option maxRecDepth 100000 in
theorem rX9_isDeadStoreDone (l : Launch) (g : Gr) (ad : Nat → Nat) (sz : Nat) (S : MS) (x1 : Int32) (hw : wfC S) (Q : Int32 → MS → Prop) (h : wX9_isDeadStoreDone S x1 Q) : Met l yX9_isDeadStoreDone (wt yX9_isDeadStoreDone cX9_isDeadStoreDone 3 (some .boolean)) ({ frames := 3, cells := 0, slots := 0, locals := 74 }) (va_Pc [.ref (ad 66), .int x1] (st_C g ad sz S)) (va_Qi (fun (r : Int32) (u : MS) => Q r u ∧ wfC u ∧ shy S u ∧ (r = 0 ∨ r = 1)) (fun (u : MS) (t : State) => qEC g ad (va_A (WdC g ad S) sz) u t) (va_A (WdC g ad S) sz)) 0 0 (va_A (WdC g ad S) sz) := by
  refine Met.ofW (cc := cX9_isDeadStoreDone) (maxL := 3) (ret := (some .boolean)) (by decide) rfl ?_
  intro p e s m args below meth c s₁ B hml hv
  obtain ⟨rfl, hsz, hP, hK, hD0, hex, hE⟩ := hv
  have hx := B.exec
  have hb := B.bytes
  have hr := B.returns
  have hts0 := atoms_spec (ws := wt yX9_isDeadStoreDone cX9_isDeadStoreDone 3 (some .boolean)) B.pre
  have hts : ∀ w ∈ tb, w.before _ s = true := fun w h => hts0 w (List.mem_cons_of_mem _ h)
  have hown : s.vm.findClass RX9 = some m.cls := findClass_of_methodNamed B.named
  subst hsz
  have hD := hD0.self (sz := s.heap.size)
  generalize hAe : va_A (WdC g ad S) s.heap.size = A at hD hE ⊢
  have hA : ∀ q : Nat, s.heap.size ≤ q → A q := fun q h => by rw [← hAe]; exact Or.inr h
  have hR : RepC g ad A s S s.heap [] := ⟨hK, hP, hD, va_S.rf, hw⟩
  clear hK hP hD hD0
  have hl := lv_entry ([.ref (ad 66), .int x1]) (n := 3) (Nat.le_of_ble_eq_true rfl)
  rw [lg_entry_eq]
  generalize (lg_sl ([.ref (ad 66), .int x1]) ++ List.replicate (3 - (lg_sl ([.ref (ad 66), .int x1])).length) Slot.unset).toArray = ls at hl ⊢
  have hl : lv_has ls 3 [(0, .ref (ad 66)), (1, .int x1)] := hl
  have hsh : shy S S := shy.rf
  unfold wX9_isDeadStoreDone at h
  refine lv_aload_n hx hb dX9_isDeadStoreDone_0 rfl (lv_at hl 0 rfl) ?_
  have hT_b1 : qT S (qO S 66 0) = 47 := hR.w.ref (hR.w.ptr ptrC_39) (hR.w.2.1 _ finC_31).2.1
  refine va_get (D := rD g) (ci := 8) (v := .ref (ad (qO S 66 0))) (C := RX9) (T := TX9) (N := 6) hx hb hts inX9 hown hR.K hR.P 66 (hR.at48 (hR.w.2.1 _ finC_31).2.1) rfl 0 (by decide) (hts _ kw_1552) (fun _ h9 => h9) (congrArg (fun z => some (vf ad z)) (hR.w.ptr ptrC_39)) dX9_isDeadStoreDone_1 ?_
  refine lv_iload_n hx hb dX9_isDeadStoreDone_4 rfl (lv_at hl 1 rfl) ?_
  obtain ⟨hv2, h⟩ := h
  have hFc := cfree hR hA
  refine va_calli (va_runV (As := [.int x1]) (rest := []) ⟨hx, hb, hml, hown, hts⟩ (rX8_opAt l g ad s.heap.size S (qO S 66 0) x1 hR.w hT_b1 hv2) (cwV 1 hts (gd_V kw_1596 kw_1513 kw_1514 kw_782 kw_1512) rfl rfl rfl (by decide +kernel) ⟨Nat.le_of_ble_eq_true rfl, Nat.le_of_ble_eq_true rfl⟩) ⟨cblind, va_recv hR.K hR.P (ci := 7) (q0 := (qO S 66 0)) rfl (hR.at47 hT_b1), fun U hU hW9 => cmk hU hW9 hR hex hE hFc⟩ rfl rfl hl.1 rfl (lv_room (Nat.le_of_ble_eq_true rfl)) dX9_isDeadStoreDone_5 ⟨Nat.le_of_ble_eq_true rfl, Nat.le_of_ble_eq_true rfl⟩) hR.sS (fun q _ h => hFc q h) hFc (fun r3 u9 t9 H1 locs ht9 hvm9 hw9 hB9 hz9 hk9 hS => ?_)
  have hR : RepC g ad A s S H1 locs := hR.call ht9 hB9 hR.w hS hFc
  obtain rfl : r3 = (fX8_opAt S (qO S 66 0) x1) := hw9
  clear hB9 hz9 hk9 hvm9 ht9 hS
  generalize H1 = H at hR ⊢
  obtain ⟨a5, ea5⟩ : ∃ z, z = (fX8_opAt S (qO S 66 0) x1) := ⟨_, rfl⟩
  rw [← ea5]
  replace h := h a5 ea5
  refine lv_istore_n (lv' := [(2, .int a5), (0, .ref (ad 66)), (1, .int x1)]) hx hb dX9_isDeadStoreDone_8 rfl hl (by decide) rfl (fun ls hl => ?_)
  refine lv_iload_n hx hb dX9_isDeadStoreDone_9 rfl (lv_at hl 0 rfl) ?_
  refine lv_sipush (v := 132) hx hb dX9_isDeadStoreDone_10 (by decide) ?_
  have J_23 : ∀ (U23 : MS) (v23_1 : Int32) (v23_2 : Int32) (H : Heap) (locs : List Loc) (ls : Array Slot), w_X9_isDeadStoreDone_J23 Q U23 v23_1 v23_2 → shy S U23 → RepC g ad A s U23 H locs → lv_has ls 3 [(0, .ref (ad 66)), (1, .int v23_1), (2, .int v23_2)] → W p l e (headSpec (wt yX9_isDeadStoreDone cX9_isDeadStoreDone 3 (some .boolean)) ({ frames := 3, cells := 0, slots := 0, locals := 74 })).room s m ([.ref (ad 66), .int x1] : List Value).toArray below meth c H locs 0 0 (MQ below (va_Qi (fun (r : Int32) (u : MS) => Q r u ∧ wfC u ∧ shy S u ∧ (r = 0 ∨ r = 1)) (fun (u : MS) (t : State) => qEC g ad A u t) A) ([.ref (ad 66), .int x1] : List Value).toArray s 0 0 A) (F0 m 23 ls []) := by
    intro U23 v23_1 v23_2 H locs ls h hsh hR hl
    unfold w_X9_isDeadStoreDone_J23 at h
    replace h := h hR.w
    refine lv_aload_n hx hb dX9_isDeadStoreDone_23 rfl (lv_at hl 0 rfl) ?_
    refine lv_iload_n hx hb dX9_isDeadStoreDone_24 rfl (lv_at hl 1 rfl) ?_
    obtain ⟨Q6, h0, h⟩ := h
    have hFc := cfree hR hA
    refine va_calli (va_runV (As := [.int v23_1]) (rest := []) ⟨hx, hb, hml, hown, hts⟩ (rX9_liveBehind l g ad H.size U23 v23_1 hR.w  Q6 h0) (cwV 1 hts (gd_V kw_1598 kw_1670 kw_1671 kw_404 kw_1669) rfl rfl rfl (by decide +kernel) ⟨Nat.le_of_ble_eq_true rfl, Nat.le_of_ble_eq_true rfl⟩) ⟨cblind, va_recv hR.K hR.P (ci := 8) (q0 := 66) rfl (hR.at48 (hR.w.2.1 _ finC_31).2.1), fun U hU hW9 => cmk hU hW9 hR hex hE hFc⟩ rfl rfl hl.1 rfl (lv_room (Nat.le_of_ble_eq_true rfl)) dX9_isDeadStoreDone_25 ⟨Nat.le_of_ble_eq_true rfl, Nat.le_of_ble_eq_true rfl⟩) hR.sS (fun q _ h => hFc q h) hFc (fun r7 S8 t9 H1 locs ht9 hvm9 hw9 hB9 hz9 hk9 hS => ?_)
    obtain ⟨hq9, hw9, hs9⟩ := hw9
    have hR : RepC g ad A s S8 H1 locs := hR.call ht9 hB9 hw9 hS hFc
    have hsh := hsh.tr hs9
    replace h := h r7 S8 hq9 hw9 hs9
    clear hB9 hz9 hk9 hvm9 ht9 hw9 hs9 hS
    generalize H1 = H at hR ⊢
    refine lv_aload_n hx hb dX9_isDeadStoreDone_28 rfl (lv_at hl 0 rfl) ?_
    refine lv_iload_n hx hb dX9_isDeadStoreDone_29 rfl (lv_at hl 1 rfl) ?_
    obtain ⟨hv10, h⟩ := h
    have hFc := cfree hR hA
    refine va_calli (va_runV (As := [.int v23_1]) (rest := [.int r7]) ⟨hx, hb, hml, hown, hts⟩ (rX9_localBits l g ad H.size S8 v23_1 hR.w  hv10) (cwV 1 hts (gd_V kw_1599 kw_1674 kw_1675 kw_404 kw_1673) rfl rfl rfl (by decide +kernel) ⟨Nat.le_of_ble_eq_true rfl, Nat.le_of_ble_eq_true rfl⟩) ⟨cblind, va_recv hR.K hR.P (ci := 8) (q0 := 66) rfl (hR.at48 (hR.w.2.1 _ finC_31).2.1), fun U hU hW9 => cmk hU hW9 hR hex hE hFc⟩ rfl rfl hl.1 rfl (lv_room (Nat.le_of_ble_eq_true rfl)) dX9_isDeadStoreDone_30 ⟨Nat.le_of_ble_eq_true rfl, Nat.le_of_ble_eq_true rfl⟩) hR.sS (fun q _ h => hFc q h) hFc (fun r11 u9 t9 H1 locs ht9 hvm9 hw9 hB9 hz9 hk9 hS => ?_)
    have hR : RepC g ad A s S8 H1 locs := hR.call ht9 hB9 hR.w hS hFc
    obtain rfl : r11 = (fX9_localBits S8 v23_1) := hw9
    clear hB9 hz9 hk9 hvm9 ht9 hS
    generalize H1 = H at hR ⊢
    refine lv_iand hx hb dX9_isDeadStoreDone_33 ?_
    refine lv_topi (fun z13 ez13 => ?_)
    obtain rfl : z13 = (r7 &&& (fX9_localBits S8 v23_1)) := ez13
    refine lv_if_eq (tgt := 39) hx hb dX9_isDeadStoreDone_34 (by decide) (fun c14 => ?_) (fun c14 => ?_)
    · replace h := h.1 (k_eq rfl (by decide) c14)
      refine lv_iload_n hx hb dX9_isDeadStoreDone_39 rfl (lv_at hl 2 rfl) ?_
      refine lv_sipush (v := 132) hx hb dX9_isDeadStoreDone_40 (by decide) ?_
      refine lv_icmp_ne (tgt := 58) hx hb dX9_isDeadStoreDone_43 (by decide) (fun c15 => ?_) (fun c15 => ?_)
      · replace h := h.2 (k_ne rfl (by decide) c15)
        refine lv_aload_n hx hb dX9_isDeadStoreDone_58 rfl (lv_at hl 0 rfl) ?_
        have hT_b16 : qT S8 (qO S8 66 0) = 47 := hR.w.ref (hR.w.ptr ptrC_39) (hR.w.2.1 _ finC_31).2.1
        refine va_get (D := rD g) (ci := 8) (v := .ref (ad (qO S8 66 0))) (C := RX9) (T := TX9) (N := 6) hx hb hts inX9 hown hR.K hR.P 66 (hR.at48 (hR.w.2.1 _ finC_31).2.1) rfl 0 (by decide) (hts _ kw_1552) (fun _ h9 => h9) (congrArg (fun z => some (vf ad z)) (hR.w.ptr ptrC_39)) dX9_isDeadStoreDone_59 ?_
        refine lv_iload_n hx hb dX9_isDeadStoreDone_62 rfl (lv_at hl 1 rfl) ?_
        refine lv_iload_n hx hb dX9_isDeadStoreDone_63 rfl (lv_at hl 2 rfl) ?_
        refine lv_bipush (v := 55) hx hb dX9_isDeadStoreDone_64 (by decide) ?_
        have J_76 : ∀ (U76 : MS) (t76_0 : Int32) (t76_1 : Int32) (t76_2 : Nat) (H : Heap) (locs : List Loc) (ls : Array Slot), w_X9_isDeadStoreDone_J76 Q U76 t76_0 t76_1 t76_2 → qT U76 t76_2 = 47 → shy S U76 → RepC g ad A s U76 H locs → lv_has ls 3 [] → W p l e (headSpec (wt yX9_isDeadStoreDone cX9_isDeadStoreDone 3 (some .boolean)) ({ frames := 3, cells := 0, slots := 0, locals := 74 })).room s m ([.ref (ad 66), .int x1] : List Value).toArray below meth c H locs 0 0 (MQ below (va_Qi (fun (r : Int32) (u : MS) => Q r u ∧ wfC u ∧ shy S u ∧ (r = 0 ∨ r = 1)) (fun (u : MS) (t : State) => qEC g ad A u t) A) ([.ref (ad 66), .int x1] : List Value).toArray s 0 0 A) (F0 m 76 ls [.int t76_0, .int t76_1, .ref (ad t76_2)]) := by
          intro U76 t76_0 t76_1 t76_2 H locs ls h hT_t76_2 hsh hR hl
          unfold w_X9_isDeadStoreDone_J76 at h
          replace h := h hR.w hT_t76_2
          refine lv_lconst (v := 0) hx hb dX9_isDeadStoreDone_76 (by decide) ?_
          replace h := h (hT_t76_2)
          obtain ⟨Q17, h0, h⟩ := h
          have hFc := cfree hR hA
          refine va_callv (va_runV (As := [.int t76_1, .int t76_0, .long 0]) (rest := []) ⟨hx, hb, hml, hown, hts⟩ (rX8_set l g ad H.size U76 t76_2 t76_1 t76_0 0 hR.w hT_t76_2 Q17 h0) (cwV 3 hts (gd_V kw_1600 kw_1523 kw_1524 kw_782 kw_1522) rfl rfl rfl (by decide +kernel) ⟨Nat.le_of_ble_eq_true rfl, Nat.le_of_ble_eq_true rfl⟩) ⟨cblind, va_recv hR.K hR.P (ci := 7) (q0 := t76_2) rfl (hR.at47 hT_t76_2), fun U hU hW9 => cmk hU hW9 hR hex hE hFc⟩ rfl rfl hl.1 rfl (lv_room (Nat.le_of_ble_eq_true rfl)) dX9_isDeadStoreDone_77 ⟨Nat.le_of_ble_eq_true rfl, Nat.le_of_ble_eq_true rfl⟩) hR.sS (fun q _ h => hFc q h) hFc (fun  S18 t9 H1 locs ht9 hvm9 hw9 hB9 hz9 hk9 hS => ?_)
          obtain ⟨hq19, hw9, hs9⟩ := hw9
          have hR : RepC g ad A s S18 H1 locs := hR.call ht9 hB9 hw9 hS hFc
          have hsh := hsh.tr hs9
          replace h := h  S18 hq19 hw9 hs9
          clear hB9 hz9 hk9 hvm9 ht9 hw9 hs9 hS
          generalize H1 = H at hR ⊢
          refine lv_iconst (v := 1) hx hb dX9_isDeadStoreDone_80 (by decide) ?_
          exact W.zret (v := 1) hx hb hr (nz (Or.inr rfl)) (fun t9 ht9 hW9 => ⟨⟨_, S18, rfl, ⟨h, hR.w, hsh, (Or.inr rfl)⟩, ⟨by rw [ht9]; exact hR.P, hR.D⟩⟩, hR.sS.F ht9⟩) hR.sS.2.2 dX9_isDeadStoreDone_81
        refine lv_icmp_ne (tgt := 74) hx hb dX9_isDeadStoreDone_66 (by decide) (fun c20 => ?_) (fun c20 => ?_)
        · replace h := h.2 (k_ne rfl (by decide) c20)
          refine lv_bipush (v := 87) hx hb dX9_isDeadStoreDone_74 (by decide) ?_
          exact J_76 S8 87 v23_1 (qO S8 66 0) _ _ ls h hT_b16 hsh hR (lv_sub hl [] rfl)
        · replace h := h.1 (k_eq rfl (by decide) c20)
          refine lv_bipush (v := 88) hx hb dX9_isDeadStoreDone_69 (by decide) ?_
          refine lv_goto (tgt := 76) hx hb dX9_isDeadStoreDone_71 (by decide) ?_
          exact J_76 S8 88 v23_1 (qO S8 66 0) _ _ ls h hT_b16 hsh hR (lv_sub hl [] rfl)
      · replace h := h.1 (k_eq rfl (by decide) c15)
        refine lv_aload_n hx hb dX9_isDeadStoreDone_46 rfl (lv_at hl 0 rfl) ?_
        have hT_b21 : qT S8 (qO S8 66 0) = 47 := hR.w.ref (hR.w.ptr ptrC_39) (hR.w.2.1 _ finC_31).2.1
        refine va_get (D := rD g) (ci := 8) (v := .ref (ad (qO S8 66 0))) (C := RX9) (T := TX9) (N := 6) hx hb hts inX9 hown hR.K hR.P 66 (hR.at48 (hR.w.2.1 _ finC_31).2.1) rfl 0 (by decide) (hts _ kw_1552) (fun _ h9 => h9) (congrArg (fun z => some (vf ad z)) (hR.w.ptr ptrC_39)) dX9_isDeadStoreDone_47 ?_
        refine lv_iload_n hx hb dX9_isDeadStoreDone_50 rfl (lv_at hl 1 rfl) ?_
        refine lv_iconst (v := 1) hx hb dX9_isDeadStoreDone_51 (by decide) ?_
        replace h := h (hT_b21)
        obtain ⟨Q22, h0, h⟩ := h
        have hFc := cfree hR hA
        refine va_callv (va_runV (As := [.int v23_1, .int 1]) (rest := []) ⟨hx, hb, hml, hown, hts⟩ (rX8_remove l g ad H.size S8 (qO S8 66 0) v23_1 (1 : Int32) hR.w hT_b21 Q22 h0) (cwV 2 hts (gd_V kw_1555 kw_1516 kw_1517 kw_782 kw_1515) rfl rfl rfl (by decide +kernel) ⟨Nat.le_of_ble_eq_true rfl, Nat.le_of_ble_eq_true rfl⟩) ⟨cblind, va_recv hR.K hR.P (ci := 7) (q0 := (qO S8 66 0)) rfl (hR.at47 hT_b21), fun U hU hW9 => cmk hU hW9 hR hex hE hFc⟩ rfl rfl hl.1 rfl (lv_room (Nat.le_of_ble_eq_true rfl)) dX9_isDeadStoreDone_52 ⟨Nat.le_of_ble_eq_true rfl, Nat.le_of_ble_eq_true rfl⟩) hR.sS (fun q _ h => hFc q h) hFc (fun  S23 t9 H1 locs ht9 hvm9 hw9 hB9 hz9 hk9 hS => ?_)
        obtain ⟨hq24, hw9, hs9⟩ := hw9
        have hR : RepC g ad A s S23 H1 locs := hR.call ht9 hB9 hw9 hS hFc
        have hsh := hsh.tr hs9
        replace h := h  S23 hq24 hw9 hs9
        clear hB9 hz9 hk9 hvm9 ht9 hw9 hs9 hS
        generalize H1 = H at hR ⊢
        refine lv_goto (tgt := 80) hx hb dX9_isDeadStoreDone_55 (by decide) ?_
        refine lv_iconst (v := 1) hx hb dX9_isDeadStoreDone_80 (by decide) ?_
        exact W.zret (v := 1) hx hb hr (nz (Or.inr rfl)) (fun t9 ht9 hW9 => ⟨⟨_, S23, rfl, ⟨h, hR.w, hsh, (Or.inr rfl)⟩, ⟨by rw [ht9]; exact hR.P, hR.D⟩⟩, hR.sS.F ht9⟩) hR.sS.2.2 dX9_isDeadStoreDone_81
    · replace h := h.2 (k_ne rfl (by decide) c14)
      refine lv_iconst (v := 0) hx hb dX9_isDeadStoreDone_37 (by decide) ?_
      exact W.zret (v := 0) hx hb hr (nz (Or.inl rfl)) (fun t9 ht9 hW9 => ⟨⟨_, S8, rfl, ⟨h, hR.w, hsh, (Or.inl rfl)⟩, ⟨by rw [ht9]; exact hR.P, hR.D⟩⟩, hR.sS.F ht9⟩) hR.sS.2.2 dX9_isDeadStoreDone_38
  refine lv_icmp_eq (tgt := 23) hx hb dX9_isDeadStoreDone_13 (by decide) (fun c25 => ?_) (fun c25 => ?_)
  · replace h := h.1 (k_eq rfl (by decide) c25)
    exact J_23 S x1 a5 _ _ ls h  hsh hR (lv_sub hl [1, 2, 0] rfl)
  · replace h := h.2 (k_ne rfl (by decide) c25)
    refine lv_iload_n hx hb dX9_isDeadStoreDone_16 rfl (lv_at hl 0 rfl) ?_
    obtain ⟨hv26, h⟩ := h
    have hFc := cfree hR hA
    refine va_calli (va_runS (As := [.int a5]) (rest := []) ⟨hx, hb, hml, hown, hts⟩ (rX6_isStore l g ad H.size S a5 hR.w  hv26) (va_cwS 1 hts (gd_S kw_1597 kw_1231 kw_1207 kw_1230) rfl rfl rfl (by decide +kernel) ⟨Nat.le_of_ble_eq_true rfl, Nat.le_of_ble_eq_true rfl⟩) ⟨cblind, fun U hU hW9 => cmk hU hW9 hR hex hE hFc⟩ rfl rfl hl.1 rfl (lv_room (Nat.le_of_ble_eq_true rfl)) dX9_isDeadStoreDone_17 ⟨Nat.le_of_ble_eq_true rfl, Nat.le_of_ble_eq_true rfl⟩) hR.sS (fun q _ h => hFc q h) hFc (fun r27 u9 t9 H1 locs ht9 hvm9 hw9 hB9 hz9 hk9 hS => ?_)
    have hR : RepC g ad A s S H1 locs := hR.call ht9 hB9 hR.w hS hFc
    obtain ⟨rfl, hz_r27⟩ := hw9
    clear hB9 hz9 hk9 hvm9 ht9 hS
    generalize H1 = H at hR ⊢
    refine lv_if_eq (tgt := 37) hx hb dX9_isDeadStoreDone_20 (by decide) (fun c29 => ?_) (fun c29 => ?_)
    · replace h := h.1 (k_eq rfl (by decide) c29)
      refine lv_iconst (v := 0) hx hb dX9_isDeadStoreDone_37 (by decide) ?_
      exact W.zret (v := 0) hx hb hr (nz (Or.inl rfl)) (fun t9 ht9 hW9 => ⟨⟨_, S, rfl, ⟨h, hR.w, hsh, (Or.inl rfl)⟩, ⟨by rw [ht9]; exact hR.P, hR.D⟩⟩, hR.sS.F ht9⟩) hR.sS.2.2 dX9_isDeadStoreDone_38
    · replace h := h.2 (k_ne rfl (by decide) c29)
      exact J_23 S x1 a5 _ _ ls h  hsh hR (lv_sub hl [1, 2, 0] rfl)
def w_X9_liveBefore_J95 (Q : Int32 → MS → Prop) (k53 : MS → Int32 → Int32 → Int32 → Prop) (U95 : MS) (v95_1 : Int32) (v95_3 : Int32) (v95_4 : Int32) : Prop := (wfC U95 → (∀ a19 : Int32, a19 = (v95_4 + Int32.ofInt 1) → k53 U95 v95_1 v95_3 a19))
def w_X9_liveBefore_L53 (Q : Int32 → MS → Prop) : Nat → MS → Int32 → Int32 → Int32 → Prop
  | 0, _, _, _, _ => False
  | n53 + 1, U53, v53_1, v53_3, v53_4 => (wfC U53 → (((qI U53 (qO U53 66 0) 9).toInt ≤ v53_4.toInt → Q v53_3 U53) ∧ (¬ (qI U53 (qO U53 66 0) 9).toInt ≤ v53_4.toInt → (d_X8_catchHas U53 (qO U53 66 0) v53_4 v53_1 ∧ (((fX8_catchHas U53 (qO U53 66 0) v53_4 v53_1).toInt = 0 → w_X9_liveBefore_J95 Q (w_X9_liveBefore_L53 Q n53) U53 v53_1 v53_3 v53_4) ∧ (¬ (fX8_catchHas U53 (qO U53 66 0) v53_4 v53_1).toInt = 0 → ((qR U53 (qO U53 66 0) 7 = some (qO U53 (qO U53 66 0) 7)) ∧ (((0 : Int) ≤ v53_4.toInt ∧ v53_4.toInt < (qN U53 (qO U53 (qO U53 66 0) 7) : Int)) ∧ (d_X9_liveAt U53 (qI U53 (qO U53 (qO U53 66 0) 7) v53_4.toInt.toNat) ∧ (∀ a30 : Int32, a30 = (v53_3 ||| (fX9_liveAt U53 (qI U53 (qO U53 (qO U53 66 0) 7) v53_4.toInt.toNat))) → w_X9_liveBefore_J95 Q (w_X9_liveBefore_L53 Q n53) U53 v53_1 a30 v53_4))))))))))
def w_X9_liveBefore_J50 (Q : Int32 → MS → Prop) (U50 : MS) (v50_1 : Int32) (v50_3 : Int32) : Prop := (wfC U50 → (∃ n, w_X9_liveBefore_L53 Q n U50 v50_1 v50_3 0))
def wX9_liveBefore (S : MS) (x1 : Int32) (Q : Int32 → MS → Prop) : Prop := (d_X8_opAt S (qO S 66 0) x1 ∧ (∀ a5 : Int32, a5 = (fX8_opAt S (qO S 66 0) x1) → (∃ Q6, wX9_liveBehind S x1 Q6 ∧ ∀ r7 S8, Q6 r7 S8 → wfC S8 → shy S S8 → (d_X6_isStore S8 a5 ∧ (((fX6_isStore S8 a5).toInt = 0 → (d_X6_usesLocal S8 a5 ∧ (((fX6_usesLocal S8 a5).toInt = 0 → w_X9_liveBefore_J50 Q S8 x1 r7) ∧ (¬ (fX6_usesLocal S8 a5).toInt = 0 → (d_X9_localBits S8 x1 ∧ (∀ a40 : Int32, a40 = (r7 ||| (fX9_localBits S8 x1)) → w_X9_liveBefore_J50 Q S8 x1 a40)))))) ∧ (¬ (fX6_isStore S8 a5).toInt = 0 → (d_X9_localBits S8 x1 ∧ (∀ a46 : Int32, a46 = (r7 &&& ((fX9_localBits S8 x1) ^^^ (-1 : Int32))) → w_X9_liveBefore_J50 Q S8 x1 a46))))))))
set_option maxHeartbeats 2000000 in
set_option maxRecDepth 100000 in
theorem rX9_liveBefore (l : Launch) (g : Gr) (ad : Nat → Nat) (sz : Nat) (S : MS) (x1 : Int32) (hw : wfC S) (Q : Int32 → MS → Prop) (h : wX9_liveBefore S x1 Q) : Met l yX9_liveBefore (wt yX9_liveBefore cX9_liveBefore 5 (some .int)) ({ frames := 3, cells := 0, slots := 0, locals := 67 }) (va_Pc [.ref (ad 66), .int x1] (st_C g ad sz S)) (va_Qi (fun (r : Int32) (u : MS) => Q r u ∧ wfC u ∧ shy S u) (fun (u : MS) (t : State) => qEC g ad (va_A (WdC g ad S) sz) u t) (va_A (WdC g ad S) sz)) 0 0 (va_A (WdC g ad S) sz) := by
  refine Met.ofW (cc := cX9_liveBefore) (maxL := 5) (ret := (some .int)) (by decide) rfl ?_
  intro p e s m args below meth c s₁ B hml hv
  obtain ⟨rfl, hsz, hP, hK, hD0, hex, hE⟩ := hv
  have hx := B.exec
  have hb := B.bytes
  have hr := B.returns
  have hts0 := atoms_spec (ws := wt yX9_liveBefore cX9_liveBefore 5 (some .int)) B.pre
  have hts : ∀ w ∈ tb, w.before _ s = true := fun w h => hts0 w (List.mem_cons_of_mem _ h)
  have hown : s.vm.findClass RX9 = some m.cls := findClass_of_methodNamed B.named
  subst hsz
  have hD := hD0.self (sz := s.heap.size)
  generalize hAe : va_A (WdC g ad S) s.heap.size = A at hD hE ⊢
  have hA : ∀ q : Nat, s.heap.size ≤ q → A q := fun q h => by rw [← hAe]; exact Or.inr h
  have hR : RepC g ad A s S s.heap [] := ⟨hK, hP, hD, va_S.rf, hw⟩
  clear hK hP hD hD0
  have hl := lv_entry ([.ref (ad 66), .int x1]) (n := 5) (Nat.le_of_ble_eq_true rfl)
  rw [lg_entry_eq]
  generalize (lg_sl ([.ref (ad 66), .int x1]) ++ List.replicate (5 - (lg_sl ([.ref (ad 66), .int x1])).length) Slot.unset).toArray = ls at hl ⊢
  have hl : lv_has ls 5 [(0, .ref (ad 66)), (1, .int x1)] := hl
  have hsh : shy S S := shy.rf
  unfold wX9_liveBefore at h
  refine lv_aload_n hx hb dX9_liveBefore_0 rfl (lv_at hl 0 rfl) ?_
  have hT_b1 : qT S (qO S 66 0) = 47 := hR.w.ref (hR.w.ptr ptrC_39) (hR.w.2.1 _ finC_31).2.1
  refine va_get (D := rD g) (ci := 8) (v := .ref (ad (qO S 66 0))) (C := RX9) (T := TX9) (N := 6) hx hb hts inX9 hown hR.K hR.P 66 (hR.at48 (hR.w.2.1 _ finC_31).2.1) rfl 0 (by decide) (hts _ kw_1552) (fun _ h9 => h9) (congrArg (fun z => some (vf ad z)) (hR.w.ptr ptrC_39)) dX9_liveBefore_1 ?_
  refine lv_iload_n hx hb dX9_liveBefore_4 rfl (lv_at hl 1 rfl) ?_
  obtain ⟨hv2, h⟩ := h
  have hFc := cfree hR hA
  refine va_calli (va_runV (As := [.int x1]) (rest := []) ⟨hx, hb, hml, hown, hts⟩ (rX8_opAt l g ad s.heap.size S (qO S 66 0) x1 hR.w hT_b1 hv2) (cwV 1 hts (gd_V kw_1596 kw_1513 kw_1514 kw_782 kw_1512) rfl rfl rfl (by decide +kernel) ⟨Nat.le_of_ble_eq_true rfl, Nat.le_of_ble_eq_true rfl⟩) ⟨cblind, va_recv hR.K hR.P (ci := 7) (q0 := (qO S 66 0)) rfl (hR.at47 hT_b1), fun U hU hW9 => cmk hU hW9 hR hex hE hFc⟩ rfl rfl hl.1 rfl (lv_room (Nat.le_of_ble_eq_true rfl)) dX9_liveBefore_5 ⟨Nat.le_of_ble_eq_true rfl, Nat.le_of_ble_eq_true rfl⟩) hR.sS (fun q _ h => hFc q h) hFc (fun r3 u9 t9 H1 locs ht9 hvm9 hw9 hB9 hz9 hk9 hS => ?_)
  have hR : RepC g ad A s S H1 locs := hR.call ht9 hB9 hR.w hS hFc
  obtain rfl : r3 = (fX8_opAt S (qO S 66 0) x1) := hw9
  clear hB9 hz9 hk9 hvm9 ht9 hS
  generalize H1 = H at hR ⊢
  obtain ⟨a5, ea5⟩ : ∃ z, z = (fX8_opAt S (qO S 66 0) x1) := ⟨_, rfl⟩
  rw [← ea5]
  replace h := h a5 ea5
  refine lv_istore_n (lv' := [(2, .int a5), (0, .ref (ad 66)), (1, .int x1)]) hx hb dX9_liveBefore_8 rfl hl (by decide) rfl (fun ls hl => ?_)
  refine lv_aload_n hx hb dX9_liveBefore_9 rfl (lv_at hl 1 rfl) ?_
  refine lv_iload_n hx hb dX9_liveBefore_10 rfl (lv_at hl 2 rfl) ?_
  obtain ⟨Q6, h0, h⟩ := h
  have hFc := cfree hR hA
  refine va_calli (va_runV (As := [.int x1]) (rest := []) ⟨hx, hb, hml, hown, hts⟩ (rX9_liveBehind l g ad H.size S x1 hR.w  Q6 h0) (cwV 1 hts (gd_V kw_1598 kw_1670 kw_1671 kw_404 kw_1669) rfl rfl rfl (by decide +kernel) ⟨Nat.le_of_ble_eq_true rfl, Nat.le_of_ble_eq_true rfl⟩) ⟨cblind, va_recv hR.K hR.P (ci := 8) (q0 := 66) rfl (hR.at48 (hR.w.2.1 _ finC_31).2.1), fun U hU hW9 => cmk hU hW9 hR hex hE hFc⟩ rfl rfl hl.1 rfl (lv_room (Nat.le_of_ble_eq_true rfl)) dX9_liveBefore_11 ⟨Nat.le_of_ble_eq_true rfl, Nat.le_of_ble_eq_true rfl⟩) hR.sS (fun q _ h => hFc q h) hFc (fun r7 S8 t9 H1 locs ht9 hvm9 hw9 hB9 hz9 hk9 hS => ?_)
  obtain ⟨hq9, hw9, hs9⟩ := hw9
  have hR : RepC g ad A s S8 H1 locs := hR.call ht9 hB9 hw9 hS hFc
  have hsh := hsh.tr hs9
  replace h := h r7 S8 hq9 hw9 hs9
  clear hB9 hz9 hk9 hvm9 ht9 hw9 hs9 hS
  generalize H1 = H at hR ⊢
  refine lv_istore_n (lv' := [(3, .int r7), (2, .int a5), (0, .ref (ad 66)), (1, .int x1)]) hx hb dX9_liveBefore_14 rfl hl (by decide) rfl (fun ls hl => ?_)
  refine lv_iload_n hx hb dX9_liveBefore_15 rfl (lv_at hl 1 rfl) ?_
  obtain ⟨hv10, h⟩ := h
  have hFc := cfree hR hA
  refine va_calli (va_runS (As := [.int a5]) (rest := []) ⟨hx, hb, hml, hown, hts⟩ (rX6_isStore l g ad H.size S8 a5 hR.w  hv10) (va_cwS 1 hts (gd_S kw_1597 kw_1231 kw_1207 kw_1230) rfl rfl rfl (by decide +kernel) ⟨Nat.le_of_ble_eq_true rfl, Nat.le_of_ble_eq_true rfl⟩) ⟨cblind, fun U hU hW9 => cmk hU hW9 hR hex hE hFc⟩ rfl rfl hl.1 rfl (lv_room (Nat.le_of_ble_eq_true rfl)) dX9_liveBefore_16 ⟨Nat.le_of_ble_eq_true rfl, Nat.le_of_ble_eq_true rfl⟩) hR.sS (fun q _ h => hFc q h) hFc (fun r11 u9 t9 H1 locs ht9 hvm9 hw9 hB9 hz9 hk9 hS => ?_)
  have hR : RepC g ad A s S8 H1 locs := hR.call ht9 hB9 hR.w hS hFc
  obtain ⟨rfl, hz_r11⟩ := hw9
  clear hB9 hz9 hk9 hvm9 ht9 hS
  generalize H1 = H at hR ⊢
  have J_50 : ∀ (U50 : MS) (v50_1 : Int32) (v50_3 : Int32) (H : Heap) (locs : List Loc) (ls : Array Slot), w_X9_liveBefore_J50 Q U50 v50_1 v50_3 → shy S U50 → RepC g ad A s U50 H locs → lv_has ls 5 [(0, .ref (ad 66)), (1, .int v50_1), (3, .int v50_3)] → W p l e (headSpec (wt yX9_liveBefore cX9_liveBefore 5 (some .int)) ({ frames := 3, cells := 0, slots := 0, locals := 67 })).room s m ([.ref (ad 66), .int x1] : List Value).toArray below meth c H locs 0 0 (MQ below (va_Qi (fun (r : Int32) (u : MS) => Q r u ∧ wfC u ∧ shy S u) (fun (u : MS) (t : State) => qEC g ad A u t) A) ([.ref (ad 66), .int x1] : List Value).toArray s 0 0 A) (F0 m 50 ls []) := by
    intro U50 v50_1 v50_3 H locs ls h hsh hR hl
    unfold w_X9_liveBefore_J50 at h
    replace h := h hR.w
    refine lv_iconst (v := 0) hx hb dX9_liveBefore_50 (by decide) ?_
    refine lv_istore (lv' := [(4, .int 0), (0, .ref (ad 66)), (1, .int v50_1), (3, .int v50_3)]) hx hb dX9_liveBefore_51 hl (by decide) rfl (fun ls hl => ?_)
    have J_53 : ∀ (n53 : Nat) (U53 : MS) (v53_1 : Int32) (v53_3 : Int32) (v53_4 : Int32) (H : Heap) (locs : List Loc) (ls : Array Slot), w_X9_liveBefore_L53 Q n53 U53 v53_1 v53_3 v53_4 → shy S U53 → RepC g ad A s U53 H locs → lv_has ls 5 [(0, .ref (ad 66)), (1, .int v53_1), (3, .int v53_3), (4, .int v53_4)] → W p l e (headSpec (wt yX9_liveBefore cX9_liveBefore 5 (some .int)) ({ frames := 3, cells := 0, slots := 0, locals := 67 })).room s m ([.ref (ad 66), .int x1] : List Value).toArray below meth c H locs 0 0 (MQ below (va_Qi (fun (r : Int32) (u : MS) => Q r u ∧ wfC u ∧ shy S u) (fun (u : MS) (t : State) => qEC g ad A u t) A) ([.ref (ad 66), .int x1] : List Value).toArray s 0 0 A) (F0 m 53 ls []) := by
      intro n53
      induction n53 with
      | zero => intro U53 v53_1 v53_3 v53_4 H locs ls h hsh hR hl; unfold w_X9_liveBefore_L53 at h; exact h.elim
      | succ n53 ih_53 =>
        intro U53 v53_1 v53_3 v53_4 H locs ls h hsh hR hl
        unfold w_X9_liveBefore_L53 at h
        replace h := h hR.w
        refine lv_iload hx hb dX9_liveBefore_53 (lv_at hl 3 rfl) ?_
        refine lv_aload_n hx hb dX9_liveBefore_55 rfl (lv_at hl 0 rfl) ?_
        have hT_b13 : qT U53 (qO U53 66 0) = 47 := hR.w.ref (hR.w.ptr ptrC_39) (hR.w.2.1 _ finC_31).2.1
        refine va_get (D := rD g) (ci := 8) (v := .ref (ad (qO U53 66 0))) (C := RX9) (T := TX9) (N := 6) hx hb hts inX9 hown hR.K hR.P 66 (hR.at48 (hR.w.2.1 _ finC_31).2.1) rfl 0 (by decide) (hts _ kw_1552) (fun _ h9 => h9) (congrArg (fun z => some (vf ad z)) (hR.w.ptr ptrC_39)) dX9_liveBefore_56 ?_
        refine va_get (D := rD g) (ci := 7) (v := .int (qI U53 (qO U53 66 0) 9)) (C := RX8) (T := TX8) (N := 15) hx hb hts inX8 hown hR.K hR.P (qO U53 66 0) (hR.at47 hT_b13) rfl 9 (by decide) (hts _ kw_1570) (fun _ h9 => h9) rfl dX9_liveBefore_59 ?_
        refine lv_icmp_ge (tgt := 101) hx hb dX9_liveBefore_62 (by decide) (fun c14 => ?_) (fun c14 => ?_)
        · replace h := h.1 (k_le rfl rfl c14)
          refine lv_iload_n hx hb dX9_liveBefore_101 rfl (lv_at hl 2 rfl) ?_
          exact W.iret (v := v53_3) hx hb hr (fun t9 ht9 hW9 => ⟨⟨_, U53, rfl, ⟨h, hR.w, hsh⟩, ⟨by rw [ht9]; exact hR.P, hR.D⟩⟩, hR.sS.F ht9⟩) hR.sS.2.2 dX9_liveBefore_102
        · replace h := h.2 (k_nle rfl rfl c14)
          refine lv_aload_n hx hb dX9_liveBefore_65 rfl (lv_at hl 0 rfl) ?_
          have hT_b15 : qT U53 (qO U53 66 0) = 47 := hR.w.ref (hR.w.ptr ptrC_39) (hR.w.2.1 _ finC_31).2.1
          refine va_get (D := rD g) (ci := 8) (v := .ref (ad (qO U53 66 0))) (C := RX9) (T := TX9) (N := 6) hx hb hts inX9 hown hR.K hR.P 66 (hR.at48 (hR.w.2.1 _ finC_31).2.1) rfl 0 (by decide) (hts _ kw_1552) (fun _ h9 => h9) (congrArg (fun z => some (vf ad z)) (hR.w.ptr ptrC_39)) dX9_liveBefore_66 ?_
          refine lv_iload hx hb dX9_liveBefore_69 (lv_at hl 3 rfl) ?_
          refine lv_iload_n hx hb dX9_liveBefore_71 rfl (lv_at hl 1 rfl) ?_
          obtain ⟨hv16, h⟩ := h
          have hFc := cfree hR hA
          refine va_calli (va_runV (As := [.int v53_4, .int v53_1]) (rest := []) ⟨hx, hb, hml, hown, hts⟩ (rX8_catchHas l g ad H.size U53 (qO U53 66 0) v53_4 v53_1 hR.w hT_b15 hv16) (cwV 2 hts (gd_V kw_1667 kw_1483 kw_1484 kw_782 kw_1482) rfl rfl rfl (by decide +kernel) ⟨Nat.le_of_ble_eq_true rfl, Nat.le_of_ble_eq_true rfl⟩) ⟨cblind, va_recv hR.K hR.P (ci := 7) (q0 := (qO U53 66 0)) rfl (hR.at47 hT_b15), fun U hU hW9 => cmk hU hW9 hR hex hE hFc⟩ rfl rfl hl.1 rfl (lv_room (Nat.le_of_ble_eq_true rfl)) dX9_liveBefore_72 ⟨Nat.le_of_ble_eq_true rfl, Nat.le_of_ble_eq_true rfl⟩) hR.sS (fun q _ h => hFc q h) hFc (fun r17 u9 t9 H1 locs ht9 hvm9 hw9 hB9 hz9 hk9 hS => ?_)
          have hR : RepC g ad A s U53 H1 locs := hR.call ht9 hB9 hR.w hS hFc
          obtain ⟨rfl, hz_r17⟩ := hw9
          clear hB9 hz9 hk9 hvm9 ht9 hS
          generalize H1 = H at hR ⊢
          have J_95 : ∀ (U95 : MS) (v95_1 : Int32) (v95_3 : Int32) (v95_4 : Int32) (H : Heap) (locs : List Loc) (ls : Array Slot), w_X9_liveBefore_J95 Q (w_X9_liveBefore_L53 Q n53) U95 v95_1 v95_3 v95_4 → shy S U95 → RepC g ad A s U95 H locs → lv_has ls 5 [(0, .ref (ad 66)), (1, .int v95_1), (3, .int v95_3), (4, .int v95_4)] → W p l e (headSpec (wt yX9_liveBefore cX9_liveBefore 5 (some .int)) ({ frames := 3, cells := 0, slots := 0, locals := 67 })).room s m ([.ref (ad 66), .int x1] : List Value).toArray below meth c H locs 0 0 (MQ below (va_Qi (fun (r : Int32) (u : MS) => Q r u ∧ wfC u ∧ shy S u) (fun (u : MS) (t : State) => qEC g ad A u t) A) ([.ref (ad 66), .int x1] : List Value).toArray s 0 0 A) (F0 m 95 ls []) := by
            intro U95 v95_1 v95_3 v95_4 H locs ls h hsh hR hl
            unfold w_X9_liveBefore_J95 at h
            replace h := h hR.w
            obtain ⟨a19, ea19⟩ : ∃ z, z = (v95_4 + Int32.ofInt 1) := ⟨_, rfl⟩
            replace h := h a19 ea19
            refine lv_iinc (v := a19) (lv' := [(4, .int a19), (0, .ref (ad 66)), (1, .int v95_1), (3, .int v95_3)]) hx hb dX9_liveBefore_95 hl (k := 3) rfl ea19.symm (by decide) rfl (fun ls hl => ?_)
            refine lv_goto (tgt := 53) hx hb dX9_liveBefore_98 (by decide) ?_
            exact ih_53 U95 v95_1 v95_3 a19 _ _ ls h  hsh hR (lv_sub hl [1, 2, 3, 0] rfl)
          refine lv_if_eq (tgt := 95) hx hb dX9_liveBefore_75 (by decide) (fun c20 => ?_) (fun c20 => ?_)
          · replace h := h.1 (k_eq rfl (by decide) c20)
            exact J_95 U53 v53_1 v53_3 v53_4 _ _ ls h  hsh hR (lv_sub hl [0, 1, 2, 3] rfl)
          · replace h := h.2 (k_ne rfl (by decide) c20)
            refine lv_iload_n hx hb dX9_liveBefore_78 rfl (lv_at hl 2 rfl) ?_
            refine lv_aload_n hx hb dX9_liveBefore_79 rfl (lv_at hl 0 rfl) ?_
            refine lv_aload_n hx hb dX9_liveBefore_80 rfl (lv_at hl 0 rfl) ?_
            have hT_b21 : qT U53 (qO U53 66 0) = 47 := hR.w.ref (hR.w.ptr ptrC_39) (hR.w.2.1 _ finC_31).2.1
            refine va_get (D := rD g) (ci := 8) (v := .ref (ad (qO U53 66 0))) (C := RX9) (T := TX9) (N := 6) hx hb hts inX9 hown hR.K hR.P 66 (hR.at48 (hR.w.2.1 _ finC_31).2.1) rfl 0 (by decide) (hts _ kw_1552) (fun _ h9 => h9) (congrArg (fun z => some (vf ad z)) (hR.w.ptr ptrC_39)) dX9_liveBefore_81 ?_
            obtain ⟨hv23, h⟩ := h
            have hT_b22 : qT U53 (qO U53 (qO U53 66 0) 7) = 226 := hR.w.ref hv23 hT_b21
            refine va_get (D := rD g) (ci := 7) (v := .ref (ad (qO U53 (qO U53 66 0) 7))) (C := RX8) (T := TX8) (N := 15) hx hb hts inX8 hown hR.K hR.P (qO U53 66 0) (hR.at47 hT_b21) rfl 7 (by decide) (hts _ kw_1573) (fun _ h9 => h9) (congrArg (fun z => some (vf ad z)) hv23) dX9_liveBefore_84 ?_
            refine lv_iload hx hb dX9_liveBefore_87 (lv_at hl 3 rfl) ?_
            obtain ⟨hv24, h⟩ := h
            refine va_iald hx hb hR.K hR.P (qO U53 (qO U53 66 0) 7) 1 (hR.atI hT_b22 (by decide)) rfl (k_ix (x := v53_4) (a := v53_4.toInt) rfl hv24) dX9_liveBefore_89 ?_
            refine lv_topi (fun z25 ez25 => ?_)
            obtain rfl : z25 = (qI U53 (qO U53 (qO U53 66 0) 7) v53_4.toInt.toNat) := ez25
            obtain ⟨hv26, h⟩ := h
            have hFc := cfree hR hA
            refine va_calli (va_runV (As := [.int (qI U53 (qO U53 (qO U53 66 0) 7) v53_4.toInt.toNat)]) (rest := [.int v53_3]) ⟨hx, hb, hml, hown, hts⟩ (rX9_liveAt l g ad H.size U53 (qI U53 (qO U53 (qO U53 66 0) 7) v53_4.toInt.toNat) hR.w  hv26) (cwV 1 hts (gd_V kw_1668 kw_1661 kw_1662 kw_404 kw_1660) rfl rfl rfl (by decide +kernel) ⟨Nat.le_of_ble_eq_true rfl, Nat.le_of_ble_eq_true rfl⟩) ⟨cblind, va_recv hR.K hR.P (ci := 8) (q0 := 66) rfl (hR.at48 (hR.w.2.1 _ finC_31).2.1), fun U hU hW9 => cmk hU hW9 hR hex hE hFc⟩ rfl rfl hl.1 rfl (lv_room (Nat.le_of_ble_eq_true rfl)) dX9_liveBefore_90 ⟨Nat.le_of_ble_eq_true rfl, Nat.le_of_ble_eq_true rfl⟩) hR.sS (fun q _ h => hFc q h) hFc (fun r27 u9 t9 H1 locs ht9 hvm9 hw9 hB9 hz9 hk9 hS => ?_)
            have hR : RepC g ad A s U53 H1 locs := hR.call ht9 hB9 hR.w hS hFc
            obtain rfl : r27 = (fX9_liveAt U53 (qI U53 (qO U53 (qO U53 66 0) 7) v53_4.toInt.toNat)) := hw9
            clear hB9 hz9 hk9 hvm9 ht9 hS
            generalize H1 = H at hR ⊢
            refine lv_ior hx hb dX9_liveBefore_93 ?_
            refine lv_topi (fun z29 ez29 => ?_)
            obtain rfl : z29 = (v53_3 ||| (fX9_liveAt U53 (qI U53 (qO U53 (qO U53 66 0) 7) v53_4.toInt.toNat))) := ez29
            obtain ⟨a30, ea30⟩ : ∃ z, z = (v53_3 ||| (fX9_liveAt U53 (qI U53 (qO U53 (qO U53 66 0) 7) v53_4.toInt.toNat))) := ⟨_, rfl⟩
            rw [← ea30]
            replace h := h a30 ea30
            refine lv_istore_n (lv' := [(3, .int a30), (0, .ref (ad 66)), (1, .int v53_1), (4, .int v53_4)]) hx hb dX9_liveBefore_94 rfl hl (by decide) rfl (fun ls hl => ?_)
            exact J_95 U53 v53_1 a30 v53_4 _ _ ls h  hsh hR (lv_sub hl [1, 2, 0, 3] rfl)
    obtain ⟨n9, h⟩ := h
    exact J_53 n9 U50 v50_1 v50_3 0 _ _ ls h  hsh hR (lv_sub hl [1, 2, 3, 0] rfl)
  refine lv_if_eq (tgt := 35) hx hb dX9_liveBefore_19 (by decide) (fun c31 => ?_) (fun c31 => ?_)
  · replace h := h.1 (k_eq rfl (by decide) c31)
    refine lv_iload_n hx hb dX9_liveBefore_35 rfl (lv_at hl 1 rfl) ?_
    obtain ⟨hv32, h⟩ := h
    have hFc := cfree hR hA
    refine va_calli (va_runS (As := [.int a5]) (rest := []) ⟨hx, hb, hml, hown, hts⟩ (rX6_usesLocal l g ad H.size S8 a5 hR.w  hv32) (va_cwS 1 hts (gd_S kw_1666 kw_1260 kw_1207 kw_1259) rfl rfl rfl (by decide +kernel) ⟨Nat.le_of_ble_eq_true rfl, Nat.le_of_ble_eq_true rfl⟩) ⟨cblind, fun U hU hW9 => cmk hU hW9 hR hex hE hFc⟩ rfl rfl hl.1 rfl (lv_room (Nat.le_of_ble_eq_true rfl)) dX9_liveBefore_36 ⟨Nat.le_of_ble_eq_true rfl, Nat.le_of_ble_eq_true rfl⟩) hR.sS (fun q _ h => hFc q h) hFc (fun r33 u9 t9 H1 locs ht9 hvm9 hw9 hB9 hz9 hk9 hS => ?_)
    have hR : RepC g ad A s S8 H1 locs := hR.call ht9 hB9 hR.w hS hFc
    obtain ⟨rfl, hz_r33⟩ := hw9
    clear hB9 hz9 hk9 hvm9 ht9 hS
    generalize H1 = H at hR ⊢
    refine lv_if_eq (tgt := 50) hx hb dX9_liveBefore_39 (by decide) (fun c35 => ?_) (fun c35 => ?_)
    · replace h := h.1 (k_eq rfl (by decide) c35)
      exact J_50 S8 x1 r7 _ _ ls h  hsh hR (lv_sub hl [2, 3, 0] rfl)
    · replace h := h.2 (k_ne rfl (by decide) c35)
      refine lv_iload_n hx hb dX9_liveBefore_42 rfl (lv_at hl 0 rfl) ?_
      refine lv_aload_n hx hb dX9_liveBefore_43 rfl (lv_at hl 2 rfl) ?_
      refine lv_iload_n hx hb dX9_liveBefore_44 rfl (lv_at hl 3 rfl) ?_
      obtain ⟨hv36, h⟩ := h
      have hFc := cfree hR hA
      refine va_calli (va_runV (As := [.int x1]) (rest := [.int r7]) ⟨hx, hb, hml, hown, hts⟩ (rX9_localBits l g ad H.size S8 x1 hR.w  hv36) (cwV 1 hts (gd_V kw_1599 kw_1674 kw_1675 kw_404 kw_1673) rfl rfl rfl (by decide +kernel) ⟨Nat.le_of_ble_eq_true rfl, Nat.le_of_ble_eq_true rfl⟩) ⟨cblind, va_recv hR.K hR.P (ci := 8) (q0 := 66) rfl (hR.at48 (hR.w.2.1 _ finC_31).2.1), fun U hU hW9 => cmk hU hW9 hR hex hE hFc⟩ rfl rfl hl.1 rfl (lv_room (Nat.le_of_ble_eq_true rfl)) dX9_liveBefore_45 ⟨Nat.le_of_ble_eq_true rfl, Nat.le_of_ble_eq_true rfl⟩) hR.sS (fun q _ h => hFc q h) hFc (fun r37 u9 t9 H1 locs ht9 hvm9 hw9 hB9 hz9 hk9 hS => ?_)
      have hR : RepC g ad A s S8 H1 locs := hR.call ht9 hB9 hR.w hS hFc
      obtain rfl : r37 = (fX9_localBits S8 x1) := hw9
      clear hB9 hz9 hk9 hvm9 ht9 hS
      generalize H1 = H at hR ⊢
      refine lv_ior hx hb dX9_liveBefore_48 ?_
      refine lv_topi (fun z39 ez39 => ?_)
      obtain rfl : z39 = (r7 ||| (fX9_localBits S8 x1)) := ez39
      obtain ⟨a40, ea40⟩ : ∃ z, z = (r7 ||| (fX9_localBits S8 x1)) := ⟨_, rfl⟩
      rw [← ea40]
      replace h := h a40 ea40
      refine lv_istore_n (lv' := [(3, .int a40), (2, .int a5), (0, .ref (ad 66)), (1, .int x1)]) hx hb dX9_liveBefore_49 rfl hl (by decide) rfl (fun ls hl => ?_)
      exact J_50 S8 x1 a40 _ _ ls h  hsh hR (lv_sub hl [2, 3, 0] rfl)
  · replace h := h.2 (k_ne rfl (by decide) c31)
    refine lv_iload_n hx hb dX9_liveBefore_22 rfl (lv_at hl 0 rfl) ?_
    refine lv_aload_n hx hb dX9_liveBefore_23 rfl (lv_at hl 2 rfl) ?_
    refine lv_iload_n hx hb dX9_liveBefore_24 rfl (lv_at hl 3 rfl) ?_
    obtain ⟨hv41, h⟩ := h
    have hFc := cfree hR hA
    refine va_calli (va_runV (As := [.int x1]) (rest := [.int r7]) ⟨hx, hb, hml, hown, hts⟩ (rX9_localBits l g ad H.size S8 x1 hR.w  hv41) (cwV 1 hts (gd_V kw_1599 kw_1674 kw_1675 kw_404 kw_1673) rfl rfl rfl (by decide +kernel) ⟨Nat.le_of_ble_eq_true rfl, Nat.le_of_ble_eq_true rfl⟩) ⟨cblind, va_recv hR.K hR.P (ci := 8) (q0 := 66) rfl (hR.at48 (hR.w.2.1 _ finC_31).2.1), fun U hU hW9 => cmk hU hW9 hR hex hE hFc⟩ rfl rfl hl.1 rfl (lv_room (Nat.le_of_ble_eq_true rfl)) dX9_liveBefore_25 ⟨Nat.le_of_ble_eq_true rfl, Nat.le_of_ble_eq_true rfl⟩) hR.sS (fun q _ h => hFc q h) hFc (fun r42 u9 t9 H1 locs ht9 hvm9 hw9 hB9 hz9 hk9 hS => ?_)
    have hR : RepC g ad A s S8 H1 locs := hR.call ht9 hB9 hR.w hS hFc
    obtain rfl : r42 = (fX9_localBits S8 x1) := hw9
    clear hB9 hz9 hk9 hvm9 ht9 hS
    generalize H1 = H at hR ⊢
    refine lv_iconst (v := (-1)) hx hb dX9_liveBefore_28 (by decide) ?_
    refine lv_ixor hx hb dX9_liveBefore_29 ?_
    refine lv_topi (fun z44 ez44 => ?_)
    obtain rfl : z44 = ((fX9_localBits S8 x1) ^^^ (-1 : Int32)) := ez44
    refine lv_iand hx hb dX9_liveBefore_30 ?_
    refine lv_topi (fun z45 ez45 => ?_)
    obtain rfl : z45 = (r7 &&& ((fX9_localBits S8 x1) ^^^ (-1 : Int32))) := ez45
    obtain ⟨a46, ea46⟩ : ∃ z, z = (r7 &&& ((fX9_localBits S8 x1) ^^^ (-1 : Int32))) := ⟨_, rfl⟩
    rw [← ea46]
    replace h := h a46 ea46
    refine lv_istore_n (lv' := [(3, .int a46), (2, .int a5), (0, .ref (ad 66)), (1, .int x1)]) hx hb dX9_liveBefore_31 rfl hl (by decide) rfl (fun ls hl => ?_)
    refine lv_goto (tgt := 50) hx hb dX9_liveBefore_32 (by decide) ?_
    exact J_50 S8 x1 a46 _ _ ls h  hsh hR (lv_sub hl [2, 3, 0] rfl)
def w_X11_begin_J293 (Q : MS → Prop) (U293 : MS) : Prop := (wfC U293 → ((qR U293 25 7 = some (qO U293 25 7)) ∧ (qT U293 28 = 40 → (∃ Q70, wX0_put2 U293 28 (qI U293 (qO U293 25 7) 8) Q70 ∧ ∀ S71, Q70 S71 → wfC S71 → shx U293 S71 → Q S71))))
def w_X11_begin_J267 (Q : MS → Prop) (k155 : MS → Int32 → Int32 → Prop) (U267 : MS) (t267_0 : Int32) (t267_1 : Int32) (v267_4 : Int32) (v267_5 : Int32) : Prop := (wfC U267 → (((0 : Int) ≤ t267_1.toInt ∧ t267_1.toInt < 24) ∧ (∀ S84, S84 = wI U267 35 t267_1.toInt.toNat t267_0 → qT U267 35 = 241 → wfC S84 → (((0 : Int) ≤ v267_5.toInt ∧ v267_5.toInt < 24) ∧ (((0 : Int) ≤ v267_5.toInt ∧ v267_5.toInt < 24) ∧ (∃ Q89, wX11_putMember S84 (qI S84 34 v267_5.toInt.toNat) (qI S84 35 v267_5.toInt.toNat) (0 : Int32) Q89 ∧ ∀ S90, Q89 S90 → wfC S90 → shx S84 S90 → (∀ a93 : Int32, a93 = (v267_5 + Int32.ofInt 1) → k155 S90 v267_4 a93)))))))
def w_X11_begin_J232 (Q : MS → Prop) (k155 : MS → Int32 → Int32 → Prop) (U232 : MS) (t232_0 : Int32) (t232_1 : Int32) (v232_4 : Int32) (v232_5 : Int32) (v232_6 : Int32) : Prop := (wfC U232 → (v232_6 = 0 ∨ v232_6 = 1) → (((0 : Int) ≤ t232_1.toInt ∧ t232_1.toInt < 24) ∧ (∀ S82, S82 = wI U232 34 t232_1.toInt.toNat t232_0 → qT U232 34 = 240 → wfC S82 → ((v232_6.toInt = 0 → (qT S82 10000010 = 12 → (∃ Q96, wX11_textEntry S82 10000010 Q96 ∧ ∀ r97 S98, Q96 r97 S98 → wfC S98 → shx S82 S98 → w_X11_begin_J267 Q k155 S98 r97 v232_5 v232_4 v232_5))) ∧ (¬ v232_6.toInt = 0 → ((qR S82 25 7 = some (qO S82 25 7)) ∧ ((qR S82 (qO S82 25 7) 6 = some (qO S82 (qO S82 25 7) 6)) ∧ (((0 : Int) ≤ v232_5.toInt ∧ v232_5.toInt < (qN S82 (qO S82 (qO S82 25 7) 6) : Int)) ∧ (∃ Q107, wX11_nameEntry S82 (qI S82 (qO S82 (qO S82 25 7) 6) v232_5.toInt.toNat) Q107 ∧ ∀ r108 S109, Q107 r108 S109 → wfC S109 → shx S82 S109 → w_X11_begin_J267 Q k155 S109 r108 v232_5 v232_4 v232_5)))))))))
def w_X11_begin_J187 (Q : MS → Prop) (k155 : MS → Int32 → Int32 → Prop) (U187 : MS) (t187_0 : Int32) (v187_4 : Int32) (v187_5 : Int32) : Prop := (wfC U187 → (t187_0 = 0 ∨ t187_0 = 1) → ((t187_0.toInt = 0 → ((qR U187 25 7 = some (qO U187 25 7)) ∧ ((qR U187 (qO U187 25 7) 5 = some (qO U187 (qO U187 25 7) 5)) ∧ (∃ Q119, wX11_counterEntry U187 (v187_5 - (Int32.ofNat (qN U187 (qO U187 (qO U187 25 7) 5)))) Q119 ∧ ∀ r120 S121, Q119 r120 S121 → wfC S121 → shx U187 S121 → w_X11_begin_J232 Q k155 S121 r120 v187_5 v187_4 v187_5 t187_0)))) ∧ (¬ t187_0.toInt = 0 → ((qR U187 25 7 = some (qO U187 25 7)) ∧ ((qR U187 (qO U187 25 7) 5 = some (qO U187 (qO U187 25 7) 5)) ∧ (((0 : Int) ≤ v187_5.toInt ∧ v187_5.toInt < (qN U187 (qO U187 (qO U187 25 7) 5) : Int)) ∧ (∃ Q130, wX11_nameEntry U187 (qI U187 (qO U187 (qO U187 25 7) 5) v187_5.toInt.toNat) Q130 ∧ ∀ r131 S132, Q130 r131 S132 → wfC S132 → shx U187 S132 → w_X11_begin_J232 Q k155 S132 r131 v187_5 v187_4 v187_5 t187_0)))))))
def w_X11_begin_L155 (Q : MS → Prop) : Nat → MS → Int32 → Int32 → Prop
  | 0, _, _, _ => False
  | n155 + 1, U155, v155_4, v155_5 => (wfC U155 → ((v155_4.toInt ≤ v155_5.toInt → w_X11_begin_J293 Q U155) ∧ (¬ v155_4.toInt ≤ v155_5.toInt → ((24 ≤ v155_5.toInt → w_X11_begin_J293 Q U155) ∧ (¬ 24 ≤ v155_5.toInt → ((qR U155 25 7 = some (qO U155 25 7)) ∧ ((qR U155 (qO U155 25 7) 5 = some (qO U155 (qO U155 25 7) 5)) ∧ (((qN U155 (qO U155 (qO U155 25 7) 5) : Int) ≤ v155_5.toInt → w_X11_begin_J187 Q (w_X11_begin_L155 Q n155) U155 0 v155_4 v155_5) ∧ (¬ (qN U155 (qO U155 (qO U155 25 7) 5) : Int) ≤ v155_5.toInt → w_X11_begin_J187 Q (w_X11_begin_L155 Q n155) U155 1 v155_4 v155_5)))))))))
def wX11_begin (S : MS) (p1 : Nat) (x2 : Int32) (Q : MS → Prop) : Prop := (∀ S1, S1 = wR S 25 7 (some p1) → qT S 25 = 50 → wfC S1 → (∀ S2, S2 = wI S1 26 1 (0 : Int32) → qT S1 26 = 40 → wfC S2 → (∀ S3, S3 = wI S2 28 1 (0 : Int32) → qT S2 28 = 40 → wfC S3 → (∀ S4, S4 = wI S3 25 5 (1 : Int32) → qT S3 25 = 50 → wfC S4 → (∀ S5, S5 = wI S4 25 6 (0 : Int32) → qT S4 25 = 50 → wfC S5 → (qT S5 36 = 242 → (∃ Q6, wJ7_fill_53178 S5 36 (0 : Int32) Q6 ∧ ∀ S7, Q6 S7 → wfC S7 → shy S5 S7 → (qT S7 37 = 243 → (∃ Q9, wJ7_fill_53178 S7 37 (0 : Int32) Q9 ∧ ∀ S10, Q9 S10 → wfC S10 → shy S7 S10 → (qT S10 10000012 = 12 → (∃ Q13, wX11_textEntry S10 10000012 Q13 ∧ ∀ r14 S15, Q13 r14 S15 → wfC S15 → shx S10 S15 → (∀ S18, S18 = wI S15 25 8 r14 → qT S15 25 = 50 → wfC S18 → ((qR S18 25 7 = some (qO S18 25 7)) ∧ (∃ Q21, wX11_nameEntry S18 (qI S18 (qO S18 25 7) 2) Q21 ∧ ∀ r22 S23, Q21 r22 S23 → wfC S23 → shx S18 S23 → (∃ Q26, wX11_pointerEntry S23 (7 : Int32) r22 Q26 ∧ ∀ r27 S28, Q26 r27 S28 → wfC S28 → shx S23 S28 → (∀ S31, S31 = wI S28 25 9 r27 → qT S28 25 = 50 → wfC S31 → ((qR S31 25 7 = some (qO S31 25 7)) ∧ (∃ Q34, wX11_nameEntry S31 (qI S31 (qO S31 25 7) 3) Q34 ∧ ∀ r35 S36, Q34 r35 S36 → wfC S36 → shx S31 S36 → (∃ Q39, wX11_pointerEntry S36 (7 : Int32) r35 Q39 ∧ ∀ r40 S41, Q39 r40 S41 → wfC S41 → shx S36 S41 → (qT S41 28 = 40 → (∃ Q44, wX0_put2 S41 28 (33 : Int32) Q44 ∧ ∀ S45, Q44 S45 → wfC S45 → shx S41 S45 → (qT S45 28 = 40 → (∃ Q48, wX0_put2 S45 28 (qI S45 25 9) Q48 ∧ ∀ S49, Q48 S49 → wfC S49 → shx S45 S49 → (qT S49 28 = 40 → (∃ Q52, wX0_put2 S49 28 r40 Q52 ∧ ∀ S53, Q52 S53 → wfC S53 → shx S49 S53 → (qT S53 28 = 40 → (∃ Q56, wX0_put2 S53 28 (0 : Int32) Q56 ∧ ∀ S57, Q56 S57 → wfC S57 → shx S53 S57 → ((qR S57 25 7 = some (qO S57 25 7)) ∧ (∀ a63 : Int32, a63 = ((qI S57 (qO S57 25 7) 4) + x2) → (qT S57 28 = 40 → (∃ Q64, wX0_put2 S57 28 a63 Q64 ∧ ∀ S65, Q64 S65 → wfC S65 → shx S57 S65 → (∃ n, w_X11_begin_L155 Q n S65 a63 0))))))))))))))))))))))))))))))))
set_option maxHeartbeats 2000000 in
set_option maxRecDepth 100000 in
theorem rX11_begin (l : Launch) (g : Gr) (ad : Nat → Nat) (H0 : Heap) (S : MS) (p1 : Nat) (x2 : Int32) (hw : wfC S) (hT_p1 : qT S p1 = 49) (Q : MS → Prop) (h : wX11_begin S p1 x2 Q) : Met l yX11_begin (wt yX11_begin cX11_begin 7 none) ({ frames := 5, cells := KCC - qn S, slots := KSC - qu S, locals := 129 }) (va_Pc [.ref (ad 25), .ref (ad p1), .int x2] (st_CH g ad H0 S)) (va_Qv (fun (u : MS × (Nat → Nat)) => Q u.1 ∧ wfC u.1 ∧ shx S u.1 ∧ adk ad u.2 S) (fun (u : MS × (Nat → Nat)) (t : State) => qEHC g (va_A (WdC g ad S) H0.size) S H0 u t) (va_A (WdC g ad S) H0.size)) (KCC - qn S) (KSC - qu S) (va_A (WdC g ad S) H0.size) := by
  refine Met.ofW (cc := cX11_begin) (maxL := 7) (ret := none) (by decide) rfl ?_
  intro p e s m args below meth c s₁ B hml hv
  obtain ⟨rfl, hH0, hsz, hP, hK, hD0, hex, hE⟩ := hv
  have hx := B.exec
  have hb := B.bytes
  have hr := B.returns
  have hts0 := atoms_spec (ws := wt yX11_begin cX11_begin 7 none) B.pre
  have hts : ∀ w ∈ tb, w.before _ s = true := fun w h => hts0 w (List.mem_cons_of_mem _ h)
  have hown : s.vm.findClass RX11 = some m.cls := findClass_of_methodNamed B.named
  subst hH0
  have hD := hD0.self (sz := s.heap.size)
  generalize hAe : va_A (WdC g ad S) s.heap.size = A at hD hE ⊢
  have hA : ∀ q : Nat, s.heap.size ≤ q → A q := fun q h => by rw [← hAe]; exact Or.inr h
  have hR : RepC g ad A s S s.heap [] := ⟨hK, hP, hD, va_S.rf, hw⟩
  clear hK hP hD hD0
  have hl := lv_entry ([.ref (ad 25), .ref (ad p1), .int x2]) (n := 7) (Nat.le_of_ble_eq_true rfl)
  rw [lg_entry_eq]
  generalize (lg_sl ([.ref (ad 25), .ref (ad p1), .int x2]) ++ List.replicate (7 - (lg_sl ([.ref (ad 25), .ref (ad p1), .int x2])).length) Slot.unset).toArray = ls at hl ⊢
  have hlg : lgC S S 0 0 := lgC.rf
  have hak : adk ad ad S := adk.rf
  have hl : lv_has ls 7 [(0, .ref (ad 25)), (1, .ref (ad p1)), (2, .int x2)] := hl
  have hsh : shx S S := shx.rf
  unfold wX11_begin at h
  refine lv_aload_n hx hb dX11_begin_0 rfl (lv_at hl 0 rfl) ?_
  refine lv_aload_n hx hb dX11_begin_1 rfl (lv_at hl 1 rfl) ?_
  refine va_put (D := rD g) (ci := 10) (v := .ref (ad p1)) (ty := (.object "CodeFoundry$Unit")) (C := RX11) (T := TX11) (N := 18) hx hb hts inX11 tyX11 tyX11_ok nmX11 hown hR.K hR.P hR.D hR.sS 25 (hR.at50 (hR.w.2.1 _ finC_28).2.1) rfl 7 (by decide) (hts _ kw_86) (fun _ h9 => h9) rfl (by decide +kernel) rfl rfl (Nat.le_of_ble_eq_true rfl) dX11_begin_2 (fun H locs hP hD hS => ?_)
  have hw9 : wfC (wR S 25 7 (some p1)) := hR.w.put (fun b q9 => by cases q9; exact (hT_p1).trans (by rw [(hR.w.2.1 _ finC_28).2.1]; rfl)) (nofC_25_7) (by rw [(hR.w.2.1 _ finC_28).2.1]; decide) (fun b _ q9 => absurd (show otgC (qT S 25) 7 = 0 by rw [(hR.w.2.1 _ finC_28).2.1]; decide) q9) (fun _ => Option.some_ne_none _)
  have hTk9 : qT S 25 = 50 := (hR.w.2.1 _ finC_28).2.1
  have hR : RepC g ad A s (wR S 25 7 (some p1)) H locs := hR.pR50 (hR.w.2.1 _ finC_28).2.1 FX11_s7 hw9 hP hD hS
  obtain ⟨S1, eS1⟩ : ∃ z, z = wR S 25 7 (some p1) := ⟨_, rfl⟩
  rw [← eS1] at hR
  replace h := h S1 eS1 hTk9 hR.w
  have hT_p1 : qT S1 p1 = 49 := (congrArg (fun z => qT z p1) eS1).trans hT_p1
  have hsh : shx S S1 := by rw [eS1]; exact hsh
  have hlg : lgC S S1 (0) (0) := by rw [eS1]; exact hlg
  refine lv_aload_n hx hb dX11_begin_5 rfl (lv_at hl 0 rfl) ?_
  refine va_get (D := rD g) (ci := 10) (v := .ref (ad 26)) (C := RX11) (T := TX11) (N := 18) hx hb hts inX11 hown hR.K hR.P 25 (hR.at50 (hR.w.2.1 _ finC_28).2.1) rfl 0 (by decide) (hts _ kw_113) (fun _ h9 => h9) (congrArg (fun z => some (vf ad z)) (hR.w.2.1 _ finC_12).1) dX11_begin_6 ?_
  refine lv_iconst (v := 0) hx hb dX11_begin_9 (by decide) ?_
  refine va_put (D := rD g) (ci := 0) (v := .int 0) (ty := .int) (C := RX0) (T := TX0) (N := 2) hx hb hts inX0 tyX0 tyX0_ok nmX0 hown hR.K hR.P hR.D hR.sS 26 (hR.at40 (hR.w.2.1 _ finC_12).2.1) rfl 1 (by decide) (hts _ kw_101) (fun _ h9 => h9) rfl (by decide +kernel) rfl rfl (Nat.le_of_ble_eq_true rfl) dX11_begin_10 (fun H locs hP hD hS => ?_)
  have hTk9 : qT S1 26 = 40 := (hR.w.2.1 _ finC_12).2.1
  have hR : RepC g ad A s (wI S1 26 1 (0 : Int32)) H locs := hR.pI40 (hR.w.2.1 _ finC_12).2.1 FX0_s1 (fun q9 => absurd q9 (by decide)) hP hD hS
  obtain ⟨S2, eS2⟩ : ∃ z, z = wI S1 26 1 (0 : Int32) := ⟨_, rfl⟩
  rw [← eS2] at hR
  replace h := h S2 eS2 hTk9 hR.w
  have hT_p1 : qT S2 p1 = 49 := (congrArg (fun z => qT z p1) eS2).trans hT_p1
  have hsh : shx S S2 := by rw [eS2]; exact hsh
  have hlg : lgC S S2 (0) (0) := by rw [eS2]; exact hlg
  refine lv_aload_n hx hb dX11_begin_13 rfl (lv_at hl 0 rfl) ?_
  refine va_get (D := rD g) (ci := 10) (v := .ref (ad 28)) (C := RX11) (T := TX11) (N := 18) hx hb hts inX11 hown hR.K hR.P 25 (hR.at50 (hR.w.2.1 _ finC_28).2.1) rfl 1 (by decide) (hts _ kw_94) (fun _ h9 => h9) (congrArg (fun z => some (vf ad z)) (hR.w.2.1 _ finC_13).1) dX11_begin_14 ?_
  refine lv_iconst (v := 0) hx hb dX11_begin_17 (by decide) ?_
  refine va_put (D := rD g) (ci := 0) (v := .int 0) (ty := .int) (C := RX0) (T := TX0) (N := 2) hx hb hts inX0 tyX0 tyX0_ok nmX0 hown hR.K hR.P hR.D hR.sS 28 (hR.at40 (hR.w.2.1 _ finC_13).2.1) rfl 1 (by decide) (hts _ kw_101) (fun _ h9 => h9) rfl (by decide +kernel) rfl rfl (Nat.le_of_ble_eq_true rfl) dX11_begin_18 (fun H locs hP hD hS => ?_)
  have hTk9 : qT S2 28 = 40 := (hR.w.2.1 _ finC_13).2.1
  have hR : RepC g ad A s (wI S2 28 1 (0 : Int32)) H locs := hR.pI40 (hR.w.2.1 _ finC_13).2.1 FX0_s1 (fun q9 => absurd q9 (by decide)) hP hD hS
  obtain ⟨S3, eS3⟩ : ∃ z, z = wI S2 28 1 (0 : Int32) := ⟨_, rfl⟩
  rw [← eS3] at hR
  replace h := h S3 eS3 hTk9 hR.w
  have hT_p1 : qT S3 p1 = 49 := (congrArg (fun z => qT z p1) eS3).trans hT_p1
  have hsh : shx S S3 := by rw [eS3]; exact hsh
  have hlg : lgC S S3 (0) (0) := by rw [eS3]; exact hlg
  refine lv_aload_n hx hb dX11_begin_21 rfl (lv_at hl 0 rfl) ?_
  refine lv_iconst (v := 1) hx hb dX11_begin_22 (by decide) ?_
  refine va_put (D := rD g) (ci := 10) (v := .int 1) (ty := .int) (C := RX11) (T := TX11) (N := 18) hx hb hts inX11 tyX11 tyX11_ok nmX11 hown hR.K hR.P hR.D hR.sS 25 (hR.at50 (hR.w.2.1 _ finC_28).2.1) rfl 5 (by decide) (hts _ kw_114) (fun _ h9 => h9) rfl (by decide +kernel) rfl rfl (Nat.le_of_ble_eq_true rfl) dX11_begin_23 (fun H locs hP hD hS => ?_)
  have hTk9 : qT S3 25 = 50 := (hR.w.2.1 _ finC_28).2.1
  have hR : RepC g ad A s (wI S3 25 5 (1 : Int32)) H locs := hR.pI50 (hR.w.2.1 _ finC_28).2.1 FX11_s5 (fun q9 => absurd q9 (by decide)) hP hD hS
  obtain ⟨S4, eS4⟩ : ∃ z, z = wI S3 25 5 (1 : Int32) := ⟨_, rfl⟩
  rw [← eS4] at hR
  replace h := h S4 eS4 hTk9 hR.w
  have hT_p1 : qT S4 p1 = 49 := (congrArg (fun z => qT z p1) eS4).trans hT_p1
  have hsh : shx S S4 := by rw [eS4]; exact hsh
  have hlg : lgC S S4 (0) (0) := by rw [eS4]; exact hlg
  refine lv_aload_n hx hb dX11_begin_26 rfl (lv_at hl 0 rfl) ?_
  refine lv_iconst (v := 0) hx hb dX11_begin_27 (by decide) ?_
  refine va_put (D := rD g) (ci := 10) (v := .int 0) (ty := .boolean) (C := RX11) (T := TX11) (N := 18) hx hb hts inX11 tyX11 tyX11_ok nmX11 hown hR.K hR.P hR.D hR.sS 25 (hR.at50 (hR.w.2.1 _ finC_28).2.1) rfl 6 (by decide) (hts _ kw_115) (fun _ h9 => h9) rfl (by decide +kernel) rfl rfl (Nat.le_of_ble_eq_true rfl) dX11_begin_28 (fun H locs hP hD hS => ?_)
  have hTk9 : qT S4 25 = 50 := (hR.w.2.1 _ finC_28).2.1
  have hR : RepC g ad A s (wI S4 25 6 (0 : Int32)) H locs := hR.pI50 (hR.w.2.1 _ finC_28).2.1 FX11_s6 (fun _ => (Or.inl rfl)) hP hD hS
  obtain ⟨S5, eS5⟩ : ∃ z, z = wI S4 25 6 (0 : Int32) := ⟨_, rfl⟩
  rw [← eS5] at hR
  replace h := h S5 eS5 hTk9 hR.w
  have hT_p1 : qT S5 p1 = 49 := (congrArg (fun z => qT z p1) eS5).trans hT_p1
  have hsh : shx S S5 := by rw [eS5]; exact hsh
  have hlg : lgC S S5 (0) (0) := by rw [eS5]; exact hlg
  refine lv_aload_n hx hb dX11_begin_31 rfl (lv_at hl 0 rfl) ?_
  refine va_get (D := rD g) (ci := 10) (v := .ref (ad 36)) (C := RX11) (T := TX11) (N := 18) hx hb hts inX11 hown hR.K hR.P 25 (hR.at50 (hR.w.2.1 _ finC_28).2.1) rfl 12 (by decide) (hts _ kw_116) (fun _ h9 => h9) (congrArg (fun z => some (vf ad z)) (hR.w.2.1 _ finC_19).1) dX11_begin_32 ?_
  refine lv_iconst (v := 0) hx hb dX11_begin_35 (by decide) ?_
  replace h := h ((hR.w.2.1 _ finC_19).2.1)
  obtain ⟨Q6, h0, h⟩ := h
  have hFc := cfree hR hA
  refine va_callv (va_runS (As := [.ref (ad 36), .int 0]) (rest := []) ⟨hx, hb, hml, hown, hts⟩ (rJ7_fill_53178 l g ad H.size S5 36 (0 : Int32) hR.w (by decide) (hR.w.2.1 _ finC_19).2.1 Q6 h0) (va_cwS 2 hts (gd_S kw_117 kw_1722 kw_1723 kw_1721) rfl rfl rfl (by decide +kernel) ⟨Nat.le_of_ble_eq_true rfl, Nat.le_of_ble_eq_true rfl⟩) ⟨cblind, fun U hU hW9 => cmk hU hW9 hR hex hE hFc⟩ rfl rfl hl.1 rfl (lv_room (Nat.le_of_ble_eq_true rfl)) dX11_begin_36 ⟨(show 0 + 0 ≤ KCC - qn S from hlg.c), (show 0 + 0 ≤ KSC - qu S from hlg.s)⟩) hR.sS (fun q _ h => hFc q h) hFc (fun  S7 t9 H1 locs ht9 hvm9 hw9 hB9 hz9 hk9 hS => ?_)
  obtain ⟨hq8, hw9, hs9⟩ := hw9
  have hR : RepC g ad A s S7 H1 locs := hR.call ht9 hB9 hw9 hS hFc
  have hsh := hsh.tr hs9.1
  have hlg : lgC S S7 (0) (0) := hlg.same hs9
  replace h := h  S7 hq8 hw9 hs9
  have hT_p1 := hs9.T hT_p1 (by decide)
  clear hB9 hz9 hk9 hvm9 ht9 hw9 hs9 hS
  generalize H1 = H at hR ⊢
  refine lv_aload_n hx hb dX11_begin_39 rfl (lv_at hl 0 rfl) ?_
  refine va_get (D := rD g) (ci := 10) (v := .ref (ad 37)) (C := RX11) (T := TX11) (N := 18) hx hb hts inX11 hown hR.K hR.P 25 (hR.at50 (hR.w.2.1 _ finC_28).2.1) rfl 13 (by decide) (hts _ kw_118) (fun _ h9 => h9) (congrArg (fun z => some (vf ad z)) (hR.w.2.1 _ finC_20).1) dX11_begin_40 ?_
  refine lv_iconst (v := 0) hx hb dX11_begin_43 (by decide) ?_
  replace h := h ((hR.w.2.1 _ finC_20).2.1)
  obtain ⟨Q9, h0, h⟩ := h
  have hFc := cfree hR hA
  refine va_callv (va_runS (As := [.ref (ad 37), .int 0]) (rest := []) ⟨hx, hb, hml, hown, hts⟩ (rJ7_fill_53178 l g ad H.size S7 37 (0 : Int32) hR.w (by decide) (hR.w.2.1 _ finC_20).2.1 Q9 h0) (va_cwS 2 hts (gd_S kw_117 kw_1722 kw_1723 kw_1721) rfl rfl rfl (by decide +kernel) ⟨Nat.le_of_ble_eq_true rfl, Nat.le_of_ble_eq_true rfl⟩) ⟨cblind, fun U hU hW9 => cmk hU hW9 hR hex hE hFc⟩ rfl rfl hl.1 rfl (lv_room (Nat.le_of_ble_eq_true rfl)) dX11_begin_44 ⟨(show 0 + 0 ≤ KCC - qn S from hlg.c), (show 0 + 0 ≤ KSC - qu S from hlg.s)⟩) hR.sS (fun q _ h => hFc q h) hFc (fun  S10 t9 H1 locs ht9 hvm9 hw9 hB9 hz9 hk9 hS => ?_)
  obtain ⟨hq11, hw9, hs9⟩ := hw9
  have hR : RepC g ad A s S10 H1 locs := hR.call ht9 hB9 hw9 hS hFc
  have hsh := hsh.tr hs9.1
  have hlg : lgC S S10 (0) (0) := hlg.same hs9
  replace h := h  S10 hq11 hw9 hs9
  have hT_p1 := hs9.T hT_p1 (by decide)
  clear hB9 hz9 hk9 hvm9 ht9 hw9 hs9 hS
  generalize H1 = H at hR ⊢
  refine lv_aload_n hx hb dX11_begin_47 rfl (lv_at hl 0 rfl) ?_
  refine lv_aload_n hx hb dX11_begin_48 rfl (lv_at hl 0 rfl) ?_
  have hT_t12 : qT S10 10000012 = 12 := hR.w.txt (i := 6) (by decide)
  refine va_ldcS (tx := "Code") (q := ad 10000012) hx hb hown (hE.2.2 _ ldcC_5) dX11_begin_49 ?_
  replace h := h (hT_t12)
  obtain ⟨Q13, h0, h⟩ := h
  have hFc := cfree hR hA
  refine W_led2 (fun hL0 => ?_)
  refine va_calli (va_runV (As := [.ref (ad 10000012)]) (rest := [.ref (ad 25)]) ⟨hx, hb, hml, hown, hts⟩ (rX11_textEntry l g ad H S10 10000012 hR.w hT_t12 Q13 h0) (cwV 1 hts (gd_V kw_119 kw_266 kw_267 kw_83 kw_265) rfl rfl rfl (by decide +kernel) ⟨Nat.le_of_ble_eq_true rfl, Nat.le_of_ble_eq_true rfl⟩) ⟨cblindH, va_recv hR.K hR.P (ci := 10) (q0 := 25) rfl (hR.at50 (hR.w.2.1 _ finC_28).2.1), fun U hU hW9 => cmkH hU hW9 hR hex hE hFc⟩ rfl rfl hl.1 rfl (lv_room (Nat.le_of_ble_eq_true rfl)) dX11_begin_51 ⟨(show 0 + (KCC - qn S10) ≤ KCC - qn S from hlg.cm), (show 0 + (KSC - qu S10) ≤ KSC - qu S from hlg.sm)⟩) hR.sS (fun q _ h => hFc q h) hFc (fun r14 S15 t9 H1 locs ht9 hvm9 hw9 hB9 hz9 hk9 hS => ?_)
  rcases S15 with ⟨S15, ak17⟩
  obtain ⟨hB9, dc9, ds9, hL9, hl9⟩ := hB9
  dsimp only at hw9 hB9 hl9
  rw [ht9] at hL9
  obtain ⟨hq16, hw9, hs9, hk8⟩ := hw9
  have hw8 := hR.w
  have hak := hak.tr hk8 hlg.2.2.1
  have hE := hE.ad hk8
  have hR : RepC g ak17 A s S15 H1 locs := hR.callH ht9 hB9 hw9 hS hFc
  have hsh := hsh.tr hs9
  refine W_tight2 (hL0.tr hL9).1 (hL0.tr hL9).2.1 ?_
  have hlg := hlg.call hl9
  replace h := h r14 S15 hq16 hw9 hs9
  have ea_0 : ak17 25 = ad 25 := hk8 _ (hw8.hd (hw8.2.1 _ finC_28).2.1 (by decide) (by decide))
  have ea_1 : ak17 p1 = ad p1 := hk8 _ (hw8.hd hT_p1 (by decide) (by decide))
  have hl : lv_has ls 7 [(0, .ref (ak17 25)), (1, .ref (ak17 p1)), (2, .int x2)] := by simp only [ea_0, ea_1]; exact hl
  refine W.eq (g2 := F0 m 54 ls (.int r14 :: [.ref (ak17 25)])) (by first | (simp only [ea_0, ea_1]; rfl) | simp only [ea_0, ea_1]) ?_
  have hT_p1 := hs9.T hT_p1 (by decide)
  clear hB9 hz9 hk9 hvm9 ht9 hw9 hs9 hS hL0 hL9
  generalize H1 = H at hR ⊢
  generalize dc9 = dc_ak17, ds9 = ds_ak17 at hlg ⊢
  refine va_put (D := rD g) (ci := 10) (v := .int r14) (ty := .int) (C := RX11) (T := TX11) (N := 18) hx hb hts inX11 tyX11 tyX11_ok nmX11 hown hR.K hR.P hR.D hR.sS 25 (hR.at50 (hR.w.2.1 _ finC_28).2.1) rfl 8 (by decide) (hts _ kw_95) (fun _ h9 => h9) rfl (by decide +kernel) rfl rfl (Nat.le_of_ble_eq_true rfl) dX11_begin_54 (fun H locs hP hD hS => ?_)
  have hTk9 : qT S15 25 = 50 := (hR.w.2.1 _ finC_28).2.1
  have hR : RepC g ak17 A s (wI S15 25 8 r14) H locs := hR.pI50 (hR.w.2.1 _ finC_28).2.1 FX11_s8 (fun q9 => absurd q9 (by decide)) hP hD hS
  obtain ⟨S18, eS18⟩ : ∃ z, z = wI S15 25 8 r14 := ⟨_, rfl⟩
  rw [← eS18] at hR
  replace h := h S18 eS18 hTk9 hR.w
  have hT_p1 : qT S18 p1 = 49 := (congrArg (fun z => qT z p1) eS18).trans hT_p1
  have hsh : shx S S18 := by rw [eS18]; exact hsh
  have hlg : lgC S S18 (0 + dc_ak17) (0 + ds_ak17) := by rw [eS18]; exact hlg
  refine lv_aload_n hx hb dX11_begin_57 rfl (lv_at hl 0 rfl) ?_
  refine lv_aload_n hx hb dX11_begin_58 rfl (lv_at hl 0 rfl) ?_
  refine lv_bipush (v := 7) hx hb dX11_begin_59 (by decide) ?_
  refine lv_aload_n hx hb dX11_begin_61 rfl (lv_at hl 0 rfl) ?_
  refine lv_aload_n hx hb dX11_begin_62 rfl (lv_at hl 0 rfl) ?_
  obtain ⟨hv20, h⟩ := h
  have hT_b19 : qT S18 (qO S18 25 7) = 49 := hR.w.ref hv20 (hR.w.2.1 _ finC_28).2.1
  refine va_get (D := rD g) (ci := 10) (v := .ref (ak17 (qO S18 25 7))) (C := RX11) (T := TX11) (N := 18) hx hb hts inX11 hown hR.K hR.P 25 (hR.at50 (hR.w.2.1 _ finC_28).2.1) rfl 7 (by decide) (hts _ kw_86) (fun _ h9 => h9) (congrArg (fun z => some (vf ak17 z)) hv20) dX11_begin_63 ?_
  refine va_get (D := rD g) (ci := 9) (v := .int (qI S18 (qO S18 25 7) 2)) (C := RX10) (T := TX10) (N := 18) hx hb hts inX10 hown hR.K hR.P (qO S18 25 7) (hR.at49 hT_b19) rfl 2 (by decide) (hts _ kw_120) (fun _ h9 => h9) rfl dX11_begin_66 ?_
  obtain ⟨Q21, h0, h⟩ := h
  have hFc := cfree hR hA
  refine W_led2 (fun hL0 => ?_)
  refine va_calli (va_runV (As := [.int (qI S18 (qO S18 25 7) 2)]) (rest := [.int 7, .ref (ak17 25), .ref (ak17 25)]) ⟨hx, hb, hml, hown, hts⟩ (rX11_nameEntry l g ak17 H S18 (qI S18 (qO S18 25 7) 2) hR.w  Q21 h0) (cwV 1 hts (gd_V kw_88 kw_217 kw_218 kw_83 kw_216) rfl rfl rfl (by decide +kernel) ⟨Nat.le_of_ble_eq_true rfl, Nat.le_of_ble_eq_true rfl⟩) ⟨cblindH, va_recv hR.K hR.P (ci := 10) (q0 := 25) rfl (hR.at50 (hR.w.2.1 _ finC_28).2.1), fun U hU hW9 => cmkH hU hW9 hR hex hE hFc⟩ rfl rfl hl.1 rfl (lv_room (Nat.le_of_ble_eq_true rfl)) dX11_begin_69 ⟨(show 0 + dc_ak17 + (KCC - qn S18) ≤ KCC - qn S from hlg.cm), (show 0 + ds_ak17 + (KSC - qu S18) ≤ KSC - qu S from hlg.sm)⟩) hR.sS (fun q _ h => hFc q h) hFc (fun r22 S23 t9 H1 locs ht9 hvm9 hw9 hB9 hz9 hk9 hS => ?_)
  rcases S23 with ⟨S23, ak25⟩
  obtain ⟨hB9, dc9, ds9, hL9, hl9⟩ := hB9
  dsimp only at hw9 hB9 hl9
  rw [ht9] at hL9
  obtain ⟨hq24, hw9, hs9, hk8⟩ := hw9
  have hw8 := hR.w
  have hak := hak.tr hk8 hlg.2.2.1
  have hE := hE.ad hk8
  have hR : RepC g ak25 A s S23 H1 locs := hR.callH ht9 hB9 hw9 hS hFc
  have hsh := hsh.tr hs9
  refine W_tight2 (hL0.tr hL9).1 (hL0.tr hL9).2.1 ?_
  have hlg := hlg.call hl9
  replace h := h r22 S23 hq24 hw9 hs9
  have ea_0 : ak25 25 = ak17 25 := hk8 _ (hw8.hd (hw8.2.1 _ finC_28).2.1 (by decide) (by decide))
  have ea_1 : ak25 p1 = ak17 p1 := hk8 _ (hw8.hd hT_p1 (by decide) (by decide))
  have hl : lv_has ls 7 [(0, .ref (ak25 25)), (1, .ref (ak25 p1)), (2, .int x2)] := by simp only [ea_0, ea_1]; exact hl
  refine W.eq (g2 := F0 m 72 ls (.int r22 :: [.int 7, .ref (ak25 25), .ref (ak25 25)])) (by first | (simp only [ea_0, ea_1]; rfl) | simp only [ea_0, ea_1]) ?_
  have hT_p1 := hs9.T hT_p1 (by decide)
  clear hB9 hz9 hk9 hvm9 ht9 hw9 hs9 hS hL0 hL9
  generalize H1 = H at hR ⊢
  generalize dc9 = dc_ak25, ds9 = ds_ak25 at hlg ⊢
  obtain ⟨Q26, h0, h⟩ := h
  have hFc := cfree hR hA
  refine W_led2 (fun hL0 => ?_)
  refine va_calli (va_runV (As := [.int 7, .int r22]) (rest := [.ref (ak25 25)]) ⟨hx, hb, hml, hown, hts⟩ (rX11_pointerEntry l g ak25 H S23 (7 : Int32) r22 hR.w  Q26 h0) (cwV 2 hts (gd_V kw_121 kw_231 kw_232 kw_83 kw_230) rfl rfl rfl (by decide +kernel) ⟨Nat.le_of_ble_eq_true rfl, Nat.le_of_ble_eq_true rfl⟩) ⟨cblindH, va_recv hR.K hR.P (ci := 10) (q0 := 25) rfl (hR.at50 (hR.w.2.1 _ finC_28).2.1), fun U hU hW9 => cmkH hU hW9 hR hex hE hFc⟩ rfl rfl hl.1 rfl (lv_room (Nat.le_of_ble_eq_true rfl)) dX11_begin_72 ⟨(show 0 + dc_ak17 + dc_ak25 + (KCC - qn S23) ≤ KCC - qn S from hlg.cm), (show 0 + ds_ak17 + ds_ak25 + (KSC - qu S23) ≤ KSC - qu S from hlg.sm)⟩) hR.sS (fun q _ h => hFc q h) hFc (fun r27 S28 t9 H1 locs ht9 hvm9 hw9 hB9 hz9 hk9 hS => ?_)
  rcases S28 with ⟨S28, ak30⟩
  obtain ⟨hB9, dc9, ds9, hL9, hl9⟩ := hB9
  dsimp only at hw9 hB9 hl9
  rw [ht9] at hL9
  obtain ⟨hq29, hw9, hs9, hk8⟩ := hw9
  have hw8 := hR.w
  have hak := hak.tr hk8 hlg.2.2.1
  have hE := hE.ad hk8
  have hR : RepC g ak30 A s S28 H1 locs := hR.callH ht9 hB9 hw9 hS hFc
  have hsh := hsh.tr hs9
  refine W_tight2 (hL0.tr hL9).1 (hL0.tr hL9).2.1 ?_
  have hlg := hlg.call hl9
  replace h := h r27 S28 hq29 hw9 hs9
  have ea_0 : ak30 25 = ak25 25 := hk8 _ (hw8.hd (hw8.2.1 _ finC_28).2.1 (by decide) (by decide))
  have ea_1 : ak30 p1 = ak25 p1 := hk8 _ (hw8.hd hT_p1 (by decide) (by decide))
  have hl : lv_has ls 7 [(0, .ref (ak30 25)), (1, .ref (ak30 p1)), (2, .int x2)] := by simp only [ea_0, ea_1]; exact hl
  refine W.eq (g2 := F0 m 75 ls (.int r27 :: [.ref (ak30 25)])) (by first | (simp only [ea_0, ea_1]; rfl) | simp only [ea_0, ea_1]) ?_
  have hT_p1 := hs9.T hT_p1 (by decide)
  clear hB9 hz9 hk9 hvm9 ht9 hw9 hs9 hS hL0 hL9
  generalize H1 = H at hR ⊢
  generalize dc9 = dc_ak30, ds9 = ds_ak30 at hlg ⊢
  refine va_put (D := rD g) (ci := 10) (v := .int r27) (ty := .int) (C := RX11) (T := TX11) (N := 18) hx hb hts inX11 tyX11 tyX11_ok nmX11 hown hR.K hR.P hR.D hR.sS 25 (hR.at50 (hR.w.2.1 _ finC_28).2.1) rfl 9 (by decide) (hts _ kw_122) (fun _ h9 => h9) rfl (by decide +kernel) rfl rfl (Nat.le_of_ble_eq_true rfl) dX11_begin_75 (fun H locs hP hD hS => ?_)
  have hTk9 : qT S28 25 = 50 := (hR.w.2.1 _ finC_28).2.1
  have hR : RepC g ak30 A s (wI S28 25 9 r27) H locs := hR.pI50 (hR.w.2.1 _ finC_28).2.1 FX11_s9 (fun q9 => absurd q9 (by decide)) hP hD hS
  obtain ⟨S31, eS31⟩ : ∃ z, z = wI S28 25 9 r27 := ⟨_, rfl⟩
  rw [← eS31] at hR
  replace h := h S31 eS31 hTk9 hR.w
  have hT_p1 : qT S31 p1 = 49 := (congrArg (fun z => qT z p1) eS31).trans hT_p1
  have hsh : shx S S31 := by rw [eS31]; exact hsh
  have hlg : lgC S S31 (0 + dc_ak17 + dc_ak25 + dc_ak30) (0 + ds_ak17 + ds_ak25 + ds_ak30) := by rw [eS31]; exact hlg
  refine lv_aload_n hx hb dX11_begin_78 rfl (lv_at hl 0 rfl) ?_
  refine lv_bipush (v := 7) hx hb dX11_begin_79 (by decide) ?_
  refine lv_aload_n hx hb dX11_begin_81 rfl (lv_at hl 0 rfl) ?_
  refine lv_aload_n hx hb dX11_begin_82 rfl (lv_at hl 0 rfl) ?_
  obtain ⟨hv33, h⟩ := h
  have hT_b32 : qT S31 (qO S31 25 7) = 49 := hR.w.ref hv33 (hR.w.2.1 _ finC_28).2.1
  refine va_get (D := rD g) (ci := 10) (v := .ref (ak30 (qO S31 25 7))) (C := RX11) (T := TX11) (N := 18) hx hb hts inX11 hown hR.K hR.P 25 (hR.at50 (hR.w.2.1 _ finC_28).2.1) rfl 7 (by decide) (hts _ kw_86) (fun _ h9 => h9) (congrArg (fun z => some (vf ak30 z)) hv33) dX11_begin_83 ?_
  refine va_get (D := rD g) (ci := 9) (v := .int (qI S31 (qO S31 25 7) 3)) (C := RX10) (T := TX10) (N := 18) hx hb hts inX10 hown hR.K hR.P (qO S31 25 7) (hR.at49 hT_b32) rfl 3 (by decide) (hts _ kw_123) (fun _ h9 => h9) rfl dX11_begin_86 ?_
  obtain ⟨Q34, h0, h⟩ := h
  have hFc := cfree hR hA
  refine W_led2 (fun hL0 => ?_)
  refine va_calli (va_runV (As := [.int (qI S31 (qO S31 25 7) 3)]) (rest := [.int 7, .ref (ak30 25)]) ⟨hx, hb, hml, hown, hts⟩ (rX11_nameEntry l g ak30 H S31 (qI S31 (qO S31 25 7) 3) hR.w  Q34 h0) (cwV 1 hts (gd_V kw_88 kw_217 kw_218 kw_83 kw_216) rfl rfl rfl (by decide +kernel) ⟨Nat.le_of_ble_eq_true rfl, Nat.le_of_ble_eq_true rfl⟩) ⟨cblindH, va_recv hR.K hR.P (ci := 10) (q0 := 25) rfl (hR.at50 (hR.w.2.1 _ finC_28).2.1), fun U hU hW9 => cmkH hU hW9 hR hex hE hFc⟩ rfl rfl hl.1 rfl (lv_room (Nat.le_of_ble_eq_true rfl)) dX11_begin_89 ⟨(show 0 + dc_ak17 + dc_ak25 + dc_ak30 + (KCC - qn S31) ≤ KCC - qn S from hlg.cm), (show 0 + ds_ak17 + ds_ak25 + ds_ak30 + (KSC - qu S31) ≤ KSC - qu S from hlg.sm)⟩) hR.sS (fun q _ h => hFc q h) hFc (fun r35 S36 t9 H1 locs ht9 hvm9 hw9 hB9 hz9 hk9 hS => ?_)
  rcases S36 with ⟨S36, ak38⟩
  obtain ⟨hB9, dc9, ds9, hL9, hl9⟩ := hB9
  dsimp only at hw9 hB9 hl9
  rw [ht9] at hL9
  obtain ⟨hq37, hw9, hs9, hk8⟩ := hw9
  have hw8 := hR.w
  have hak := hak.tr hk8 hlg.2.2.1
  have hE := hE.ad hk8
  have hR : RepC g ak38 A s S36 H1 locs := hR.callH ht9 hB9 hw9 hS hFc
  have hsh := hsh.tr hs9
  refine W_tight2 (hL0.tr hL9).1 (hL0.tr hL9).2.1 ?_
  have hlg := hlg.call hl9
  replace h := h r35 S36 hq37 hw9 hs9
  have ea_0 : ak38 25 = ak30 25 := hk8 _ (hw8.hd (hw8.2.1 _ finC_28).2.1 (by decide) (by decide))
  have ea_1 : ak38 p1 = ak30 p1 := hk8 _ (hw8.hd hT_p1 (by decide) (by decide))
  have hl : lv_has ls 7 [(0, .ref (ak38 25)), (1, .ref (ak38 p1)), (2, .int x2)] := by simp only [ea_0, ea_1]; exact hl
  refine W.eq (g2 := F0 m 92 ls (.int r35 :: [.int 7, .ref (ak38 25)])) (by first | (simp only [ea_0, ea_1]; rfl) | simp only [ea_0, ea_1]) ?_
  have hT_p1 := hs9.T hT_p1 (by decide)
  clear hB9 hz9 hk9 hvm9 ht9 hw9 hs9 hS hL0 hL9
  generalize H1 = H at hR ⊢
  generalize dc9 = dc_ak38, ds9 = ds_ak38 at hlg ⊢
  obtain ⟨Q39, h0, h⟩ := h
  have hFc := cfree hR hA
  refine W_led2 (fun hL0 => ?_)
  refine va_calli (va_runV (As := [.int 7, .int r35]) (rest := []) ⟨hx, hb, hml, hown, hts⟩ (rX11_pointerEntry l g ak38 H S36 (7 : Int32) r35 hR.w  Q39 h0) (cwV 2 hts (gd_V kw_121 kw_231 kw_232 kw_83 kw_230) rfl rfl rfl (by decide +kernel) ⟨Nat.le_of_ble_eq_true rfl, Nat.le_of_ble_eq_true rfl⟩) ⟨cblindH, va_recv hR.K hR.P (ci := 10) (q0 := 25) rfl (hR.at50 (hR.w.2.1 _ finC_28).2.1), fun U hU hW9 => cmkH hU hW9 hR hex hE hFc⟩ rfl rfl hl.1 rfl (lv_room (Nat.le_of_ble_eq_true rfl)) dX11_begin_92 ⟨(show 0 + dc_ak17 + dc_ak25 + dc_ak30 + dc_ak38 + (KCC - qn S36) ≤ KCC - qn S from hlg.cm), (show 0 + ds_ak17 + ds_ak25 + ds_ak30 + ds_ak38 + (KSC - qu S36) ≤ KSC - qu S from hlg.sm)⟩) hR.sS (fun q _ h => hFc q h) hFc (fun r40 S41 t9 H1 locs ht9 hvm9 hw9 hB9 hz9 hk9 hS => ?_)
  rcases S41 with ⟨S41, ak43⟩
  obtain ⟨hB9, dc9, ds9, hL9, hl9⟩ := hB9
  dsimp only at hw9 hB9 hl9
  rw [ht9] at hL9
  obtain ⟨hq42, hw9, hs9, hk8⟩ := hw9
  have hw8 := hR.w
  have hak := hak.tr hk8 hlg.2.2.1
  have hE := hE.ad hk8
  have hR : RepC g ak43 A s S41 H1 locs := hR.callH ht9 hB9 hw9 hS hFc
  have hsh := hsh.tr hs9
  refine W_tight2 (hL0.tr hL9).1 (hL0.tr hL9).2.1 ?_
  have hlg := hlg.call hl9
  replace h := h r40 S41 hq42 hw9 hs9
  have ea_0 : ak43 25 = ak38 25 := hk8 _ (hw8.hd (hw8.2.1 _ finC_28).2.1 (by decide) (by decide))
  have ea_1 : ak43 p1 = ak38 p1 := hk8 _ (hw8.hd hT_p1 (by decide) (by decide))
  have hl : lv_has ls 7 [(0, .ref (ak43 25)), (1, .ref (ak43 p1)), (2, .int x2)] := by simp only [ea_0, ea_1]; exact hl
  have hT_p1 := hs9.T hT_p1 (by decide)
  clear hB9 hz9 hk9 hvm9 ht9 hw9 hs9 hS hL0 hL9
  generalize H1 = H at hR ⊢
  generalize dc9 = dc_ak43, ds9 = ds_ak43 at hlg ⊢
  refine lv_istore_n (lv' := [(3, .int r40), (0, .ref (ak43 25)), (1, .ref (ak43 p1)), (2, .int x2)]) hx hb dX11_begin_95 rfl hl (by decide) rfl (fun ls hl => ?_)
  refine lv_aload_n hx hb dX11_begin_96 rfl (lv_at hl 1 rfl) ?_
  refine va_get (D := rD g) (ci := 10) (v := .ref (ak43 28)) (C := RX11) (T := TX11) (N := 18) hx hb hts inX11 hown hR.K hR.P 25 (hR.at50 (hR.w.2.1 _ finC_28).2.1) rfl 1 (by decide) (hts _ kw_94) (fun _ h9 => h9) (congrArg (fun z => some (vf ak43 z)) (hR.w.2.1 _ finC_13).1) dX11_begin_97 ?_
  refine lv_bipush (v := 33) hx hb dX11_begin_100 (by decide) ?_
  replace h := h ((hR.w.2.1 _ finC_13).2.1)
  obtain ⟨Q44, h0, h⟩ := h
  have hFc := cfree hR hA
  refine W_led2 (fun hL0 => ?_)
  refine va_callv (va_runV (As := [.int 33]) (rest := []) ⟨hx, hb, hml, hown, hts⟩ (rX0_put2 l g ak43 H S41 28 (33 : Int32) hR.w (hR.w.2.1 _ finC_13).2.1 Q44 h0) (cwV 1 hts (gd_V kw_96 kw_17 kw_18 kw_3 kw_16) rfl rfl rfl (by decide +kernel) ⟨Nat.le_of_ble_eq_true rfl, Nat.le_of_ble_eq_true rfl⟩) ⟨cblindH, va_recv hR.K hR.P (ci := 0) (q0 := 28) rfl (hR.at40 (hR.w.2.1 _ finC_13).2.1), fun U hU hW9 => cmkH hU hW9 hR hex hE hFc⟩ rfl rfl hl.1 rfl (lv_room (Nat.le_of_ble_eq_true rfl)) dX11_begin_102 ⟨(show 0 + dc_ak17 + dc_ak25 + dc_ak30 + dc_ak38 + dc_ak43 + (KCC - qn S41) ≤ KCC - qn S from hlg.cm), (show 0 + ds_ak17 + ds_ak25 + ds_ak30 + ds_ak38 + ds_ak43 + (KSC - qu S41) ≤ KSC - qu S from hlg.sm)⟩) hR.sS (fun q _ h => hFc q h) hFc (fun  S45 t9 H1 locs ht9 hvm9 hw9 hB9 hz9 hk9 hS => ?_)
  rcases S45 with ⟨S45, ak47⟩
  obtain ⟨hB9, dc9, ds9, hL9, hl9⟩ := hB9
  dsimp only at hw9 hB9 hl9
  rw [ht9] at hL9
  obtain ⟨hq46, hw9, hs9, hk8⟩ := hw9
  have hw8 := hR.w
  have hak := hak.tr hk8 hlg.2.2.1
  have hE := hE.ad hk8
  have hR : RepC g ak47 A s S45 H1 locs := hR.callH ht9 hB9 hw9 hS hFc
  have hsh := hsh.tr hs9
  refine W_tight2 (hL0.tr hL9).1 (hL0.tr hL9).2.1 ?_
  have hlg := hlg.call hl9
  replace h := h  S45 hq46 hw9 hs9
  have ea_0 : ak47 25 = ak43 25 := hk8 _ (hw8.hd (hw8.2.1 _ finC_28).2.1 (by decide) (by decide))
  have ea_1 : ak47 p1 = ak43 p1 := hk8 _ (hw8.hd hT_p1 (by decide) (by decide))
  have hl : lv_has ls 7 [(3, .int r40), (0, .ref (ak47 25)), (1, .ref (ak47 p1)), (2, .int x2)] := by simp only [ea_0, ea_1]; exact hl
  have hT_p1 := hs9.T hT_p1 (by decide)
  clear hB9 hz9 hk9 hvm9 ht9 hw9 hs9 hS hL0 hL9
  generalize H1 = H at hR ⊢
  generalize dc9 = dc_ak47, ds9 = ds_ak47 at hlg ⊢
  refine lv_aload_n hx hb dX11_begin_105 rfl (lv_at hl 1 rfl) ?_
  refine va_get (D := rD g) (ci := 10) (v := .ref (ak47 28)) (C := RX11) (T := TX11) (N := 18) hx hb hts inX11 hown hR.K hR.P 25 (hR.at50 (hR.w.2.1 _ finC_28).2.1) rfl 1 (by decide) (hts _ kw_94) (fun _ h9 => h9) (congrArg (fun z => some (vf ak47 z)) (hR.w.2.1 _ finC_13).1) dX11_begin_106 ?_
  refine lv_aload_n hx hb dX11_begin_109 rfl (lv_at hl 1 rfl) ?_
  refine va_get (D := rD g) (ci := 10) (v := .int (qI S45 25 9)) (C := RX11) (T := TX11) (N := 18) hx hb hts inX11 hown hR.K hR.P 25 (hR.at50 (hR.w.2.1 _ finC_28).2.1) rfl 9 (by decide) (hts _ kw_122) (fun _ h9 => h9) rfl dX11_begin_110 ?_
  replace h := h ((hR.w.2.1 _ finC_13).2.1)
  obtain ⟨Q48, h0, h⟩ := h
  have hFc := cfree hR hA
  refine W_led2 (fun hL0 => ?_)
  refine va_callv (va_runV (As := [.int (qI S45 25 9)]) (rest := []) ⟨hx, hb, hml, hown, hts⟩ (rX0_put2 l g ak47 H S45 28 (qI S45 25 9) hR.w (hR.w.2.1 _ finC_13).2.1 Q48 h0) (cwV 1 hts (gd_V kw_96 kw_17 kw_18 kw_3 kw_16) rfl rfl rfl (by decide +kernel) ⟨Nat.le_of_ble_eq_true rfl, Nat.le_of_ble_eq_true rfl⟩) ⟨cblindH, va_recv hR.K hR.P (ci := 0) (q0 := 28) rfl (hR.at40 (hR.w.2.1 _ finC_13).2.1), fun U hU hW9 => cmkH hU hW9 hR hex hE hFc⟩ rfl rfl hl.1 rfl (lv_room (Nat.le_of_ble_eq_true rfl)) dX11_begin_113 ⟨(show 0 + dc_ak17 + dc_ak25 + dc_ak30 + dc_ak38 + dc_ak43 + dc_ak47 + (KCC - qn S45) ≤ KCC - qn S from hlg.cm), (show 0 + ds_ak17 + ds_ak25 + ds_ak30 + ds_ak38 + ds_ak43 + ds_ak47 + (KSC - qu S45) ≤ KSC - qu S from hlg.sm)⟩) hR.sS (fun q _ h => hFc q h) hFc (fun  S49 t9 H1 locs ht9 hvm9 hw9 hB9 hz9 hk9 hS => ?_)
  rcases S49 with ⟨S49, ak51⟩
  obtain ⟨hB9, dc9, ds9, hL9, hl9⟩ := hB9
  dsimp only at hw9 hB9 hl9
  rw [ht9] at hL9
  obtain ⟨hq50, hw9, hs9, hk8⟩ := hw9
  have hw8 := hR.w
  have hak := hak.tr hk8 hlg.2.2.1
  have hE := hE.ad hk8
  have hR : RepC g ak51 A s S49 H1 locs := hR.callH ht9 hB9 hw9 hS hFc
  have hsh := hsh.tr hs9
  refine W_tight2 (hL0.tr hL9).1 (hL0.tr hL9).2.1 ?_
  have hlg := hlg.call hl9
  replace h := h  S49 hq50 hw9 hs9
  have ea_0 : ak51 25 = ak47 25 := hk8 _ (hw8.hd (hw8.2.1 _ finC_28).2.1 (by decide) (by decide))
  have ea_1 : ak51 p1 = ak47 p1 := hk8 _ (hw8.hd hT_p1 (by decide) (by decide))
  have hl : lv_has ls 7 [(3, .int r40), (0, .ref (ak51 25)), (1, .ref (ak51 p1)), (2, .int x2)] := by simp only [ea_0, ea_1]; exact hl
  have hT_p1 := hs9.T hT_p1 (by decide)
  clear hB9 hz9 hk9 hvm9 ht9 hw9 hs9 hS hL0 hL9
  generalize H1 = H at hR ⊢
  generalize dc9 = dc_ak51, ds9 = ds_ak51 at hlg ⊢
  refine lv_aload_n hx hb dX11_begin_116 rfl (lv_at hl 1 rfl) ?_
  refine va_get (D := rD g) (ci := 10) (v := .ref (ak51 28)) (C := RX11) (T := TX11) (N := 18) hx hb hts inX11 hown hR.K hR.P 25 (hR.at50 (hR.w.2.1 _ finC_28).2.1) rfl 1 (by decide) (hts _ kw_94) (fun _ h9 => h9) (congrArg (fun z => some (vf ak51 z)) (hR.w.2.1 _ finC_13).1) dX11_begin_117 ?_
  refine lv_iload_n hx hb dX11_begin_120 rfl (lv_at hl 0 rfl) ?_
  replace h := h ((hR.w.2.1 _ finC_13).2.1)
  obtain ⟨Q52, h0, h⟩ := h
  have hFc := cfree hR hA
  refine W_led2 (fun hL0 => ?_)
  refine va_callv (va_runV (As := [.int r40]) (rest := []) ⟨hx, hb, hml, hown, hts⟩ (rX0_put2 l g ak51 H S49 28 r40 hR.w (hR.w.2.1 _ finC_13).2.1 Q52 h0) (cwV 1 hts (gd_V kw_96 kw_17 kw_18 kw_3 kw_16) rfl rfl rfl (by decide +kernel) ⟨Nat.le_of_ble_eq_true rfl, Nat.le_of_ble_eq_true rfl⟩) ⟨cblindH, va_recv hR.K hR.P (ci := 0) (q0 := 28) rfl (hR.at40 (hR.w.2.1 _ finC_13).2.1), fun U hU hW9 => cmkH hU hW9 hR hex hE hFc⟩ rfl rfl hl.1 rfl (lv_room (Nat.le_of_ble_eq_true rfl)) dX11_begin_121 ⟨(show 0 + dc_ak17 + dc_ak25 + dc_ak30 + dc_ak38 + dc_ak43 + dc_ak47 + dc_ak51 + (KCC - qn S49) ≤ KCC - qn S from hlg.cm), (show 0 + ds_ak17 + ds_ak25 + ds_ak30 + ds_ak38 + ds_ak43 + ds_ak47 + ds_ak51 + (KSC - qu S49) ≤ KSC - qu S from hlg.sm)⟩) hR.sS (fun q _ h => hFc q h) hFc (fun  S53 t9 H1 locs ht9 hvm9 hw9 hB9 hz9 hk9 hS => ?_)
  rcases S53 with ⟨S53, ak55⟩
  obtain ⟨hB9, dc9, ds9, hL9, hl9⟩ := hB9
  dsimp only at hw9 hB9 hl9
  rw [ht9] at hL9
  obtain ⟨hq54, hw9, hs9, hk8⟩ := hw9
  have hw8 := hR.w
  have hak := hak.tr hk8 hlg.2.2.1
  have hE := hE.ad hk8
  have hR : RepC g ak55 A s S53 H1 locs := hR.callH ht9 hB9 hw9 hS hFc
  have hsh := hsh.tr hs9
  refine W_tight2 (hL0.tr hL9).1 (hL0.tr hL9).2.1 ?_
  have hlg := hlg.call hl9
  replace h := h  S53 hq54 hw9 hs9
  have ea_0 : ak55 25 = ak51 25 := hk8 _ (hw8.hd (hw8.2.1 _ finC_28).2.1 (by decide) (by decide))
  have ea_1 : ak55 p1 = ak51 p1 := hk8 _ (hw8.hd hT_p1 (by decide) (by decide))
  have hl : lv_has ls 7 [(3, .int r40), (0, .ref (ak55 25)), (1, .ref (ak55 p1)), (2, .int x2)] := by simp only [ea_0, ea_1]; exact hl
  have hT_p1 := hs9.T hT_p1 (by decide)
  clear hB9 hz9 hk9 hvm9 ht9 hw9 hs9 hS hL0 hL9
  generalize H1 = H at hR ⊢
  generalize dc9 = dc_ak55, ds9 = ds_ak55 at hlg ⊢
  refine lv_aload_n hx hb dX11_begin_124 rfl (lv_at hl 1 rfl) ?_
  refine va_get (D := rD g) (ci := 10) (v := .ref (ak55 28)) (C := RX11) (T := TX11) (N := 18) hx hb hts inX11 hown hR.K hR.P 25 (hR.at50 (hR.w.2.1 _ finC_28).2.1) rfl 1 (by decide) (hts _ kw_94) (fun _ h9 => h9) (congrArg (fun z => some (vf ak55 z)) (hR.w.2.1 _ finC_13).1) dX11_begin_125 ?_
  refine lv_iconst (v := 0) hx hb dX11_begin_128 (by decide) ?_
  replace h := h ((hR.w.2.1 _ finC_13).2.1)
  obtain ⟨Q56, h0, h⟩ := h
  have hFc := cfree hR hA
  refine W_led2 (fun hL0 => ?_)
  refine va_callv (va_runV (As := [.int 0]) (rest := []) ⟨hx, hb, hml, hown, hts⟩ (rX0_put2 l g ak55 H S53 28 (0 : Int32) hR.w (hR.w.2.1 _ finC_13).2.1 Q56 h0) (cwV 1 hts (gd_V kw_96 kw_17 kw_18 kw_3 kw_16) rfl rfl rfl (by decide +kernel) ⟨Nat.le_of_ble_eq_true rfl, Nat.le_of_ble_eq_true rfl⟩) ⟨cblindH, va_recv hR.K hR.P (ci := 0) (q0 := 28) rfl (hR.at40 (hR.w.2.1 _ finC_13).2.1), fun U hU hW9 => cmkH hU hW9 hR hex hE hFc⟩ rfl rfl hl.1 rfl (lv_room (Nat.le_of_ble_eq_true rfl)) dX11_begin_129 ⟨(show 0 + dc_ak17 + dc_ak25 + dc_ak30 + dc_ak38 + dc_ak43 + dc_ak47 + dc_ak51 + dc_ak55 + (KCC - qn S53) ≤ KCC - qn S from hlg.cm), (show 0 + ds_ak17 + ds_ak25 + ds_ak30 + ds_ak38 + ds_ak43 + ds_ak47 + ds_ak51 + ds_ak55 + (KSC - qu S53) ≤ KSC - qu S from hlg.sm)⟩) hR.sS (fun q _ h => hFc q h) hFc (fun  S57 t9 H1 locs ht9 hvm9 hw9 hB9 hz9 hk9 hS => ?_)
  rcases S57 with ⟨S57, ak59⟩
  obtain ⟨hB9, dc9, ds9, hL9, hl9⟩ := hB9
  dsimp only at hw9 hB9 hl9
  rw [ht9] at hL9
  obtain ⟨hq58, hw9, hs9, hk8⟩ := hw9
  have hw8 := hR.w
  have hak := hak.tr hk8 hlg.2.2.1
  have hE := hE.ad hk8
  have hR : RepC g ak59 A s S57 H1 locs := hR.callH ht9 hB9 hw9 hS hFc
  have hsh := hsh.tr hs9
  refine W_tight2 (hL0.tr hL9).1 (hL0.tr hL9).2.1 ?_
  have hlg := hlg.call hl9
  replace h := h  S57 hq58 hw9 hs9
  have ea_0 : ak59 25 = ak55 25 := hk8 _ (hw8.hd (hw8.2.1 _ finC_28).2.1 (by decide) (by decide))
  have ea_1 : ak59 p1 = ak55 p1 := hk8 _ (hw8.hd hT_p1 (by decide) (by decide))
  have hl : lv_has ls 7 [(3, .int r40), (0, .ref (ak59 25)), (1, .ref (ak59 p1)), (2, .int x2)] := by simp only [ea_0, ea_1]; exact hl
  have hT_p1 := hs9.T hT_p1 (by decide)
  clear hB9 hz9 hk9 hvm9 ht9 hw9 hs9 hS hL0 hL9
  generalize H1 = H at hR ⊢
  generalize dc9 = dc_ak59, ds9 = ds_ak59 at hlg ⊢
  refine lv_aload_n hx hb dX11_begin_132 rfl (lv_at hl 1 rfl) ?_
  obtain ⟨hv61, h⟩ := h
  have hT_b60 : qT S57 (qO S57 25 7) = 49 := hR.w.ref hv61 (hR.w.2.1 _ finC_28).2.1
  refine va_get (D := rD g) (ci := 10) (v := .ref (ak59 (qO S57 25 7))) (C := RX11) (T := TX11) (N := 18) hx hb hts inX11 hown hR.K hR.P 25 (hR.at50 (hR.w.2.1 _ finC_28).2.1) rfl 7 (by decide) (hts _ kw_86) (fun _ h9 => h9) (congrArg (fun z => some (vf ak59 z)) hv61) dX11_begin_133 ?_
  refine va_get (D := rD g) (ci := 9) (v := .int (qI S57 (qO S57 25 7) 4)) (C := RX10) (T := TX10) (N := 18) hx hb hts inX10 hown hR.K hR.P (qO S57 25 7) (hR.at49 hT_b60) rfl 4 (by decide) (hts _ kw_124) (fun _ h9 => h9) rfl dX11_begin_136 ?_
  refine lv_iload_n hx hb dX11_begin_139 rfl (lv_at hl 3 rfl) ?_
  refine lv_iadd hx hb dX11_begin_140 ?_
  refine lv_topi (fun z62 ez62 => ?_)
  obtain rfl : z62 = ((qI S57 (qO S57 25 7) 4) + x2) := ez62
  obtain ⟨a63, ea63⟩ : ∃ z, z = ((qI S57 (qO S57 25 7) 4) + x2) := ⟨_, rfl⟩
  rw [← ea63]
  replace h := h a63 ea63
  refine lv_istore (lv' := [(4, .int a63), (3, .int r40), (0, .ref (ak59 25)), (1, .ref (ak59 p1)), (2, .int x2)]) hx hb dX11_begin_141 hl (by decide) rfl (fun ls hl => ?_)
  refine lv_aload_n hx hb dX11_begin_143 rfl (lv_at hl 2 rfl) ?_
  refine va_get (D := rD g) (ci := 10) (v := .ref (ak59 28)) (C := RX11) (T := TX11) (N := 18) hx hb hts inX11 hown hR.K hR.P 25 (hR.at50 (hR.w.2.1 _ finC_28).2.1) rfl 1 (by decide) (hts _ kw_94) (fun _ h9 => h9) (congrArg (fun z => some (vf ak59 z)) (hR.w.2.1 _ finC_13).1) dX11_begin_144 ?_
  refine lv_iload hx hb dX11_begin_147 (lv_at hl 0 rfl) ?_
  replace h := h ((hR.w.2.1 _ finC_13).2.1)
  obtain ⟨Q64, h0, h⟩ := h
  have hFc := cfree hR hA
  refine W_led2 (fun hL0 => ?_)
  refine va_callv (va_runV (As := [.int a63]) (rest := []) ⟨hx, hb, hml, hown, hts⟩ (rX0_put2 l g ak59 H S57 28 a63 hR.w (hR.w.2.1 _ finC_13).2.1 Q64 h0) (cwV 1 hts (gd_V kw_96 kw_17 kw_18 kw_3 kw_16) rfl rfl rfl (by decide +kernel) ⟨Nat.le_of_ble_eq_true rfl, Nat.le_of_ble_eq_true rfl⟩) ⟨cblindH, va_recv hR.K hR.P (ci := 0) (q0 := 28) rfl (hR.at40 (hR.w.2.1 _ finC_13).2.1), fun U hU hW9 => cmkH hU hW9 hR hex hE hFc⟩ rfl rfl hl.1 rfl (lv_room (Nat.le_of_ble_eq_true rfl)) dX11_begin_149 ⟨(show 0 + dc_ak17 + dc_ak25 + dc_ak30 + dc_ak38 + dc_ak43 + dc_ak47 + dc_ak51 + dc_ak55 + dc_ak59 + (KCC - qn S57) ≤ KCC - qn S from hlg.cm), (show 0 + ds_ak17 + ds_ak25 + ds_ak30 + ds_ak38 + ds_ak43 + ds_ak47 + ds_ak51 + ds_ak55 + ds_ak59 + (KSC - qu S57) ≤ KSC - qu S from hlg.sm)⟩) hR.sS (fun q _ h => hFc q h) hFc (fun  S65 t9 H1 locs ht9 hvm9 hw9 hB9 hz9 hk9 hS => ?_)
  rcases S65 with ⟨S65, ak67⟩
  obtain ⟨hB9, dc9, ds9, hL9, hl9⟩ := hB9
  dsimp only at hw9 hB9 hl9
  rw [ht9] at hL9
  obtain ⟨hq66, hw9, hs9, hk8⟩ := hw9
  have hw8 := hR.w
  have hak := hak.tr hk8 hlg.2.2.1
  have hE := hE.ad hk8
  have hR : RepC g ak67 A s S65 H1 locs := hR.callH ht9 hB9 hw9 hS hFc
  have hsh := hsh.tr hs9
  refine W_tight2 (hL0.tr hL9).1 (hL0.tr hL9).2.1 ?_
  have hlg := hlg.call hl9
  replace h := h  S65 hq66 hw9 hs9
  have ea_0 : ak67 25 = ak59 25 := hk8 _ (hw8.hd (hw8.2.1 _ finC_28).2.1 (by decide) (by decide))
  have ea_1 : ak67 p1 = ak59 p1 := hk8 _ (hw8.hd hT_p1 (by decide) (by decide))
  have hl : lv_has ls 7 [(4, .int a63), (3, .int r40), (0, .ref (ak67 25)), (1, .ref (ak67 p1)), (2, .int x2)] := by simp only [ea_0, ea_1]; exact hl
  have hT_p1 := hs9.T hT_p1 (by decide)
  clear hB9 hz9 hk9 hvm9 ht9 hw9 hs9 hS hL0 hL9
  generalize H1 = H at hR ⊢
  generalize dc9 = dc_ak67, ds9 = ds_ak67 at hlg ⊢
  refine lv_iconst (v := 0) hx hb dX11_begin_152 (by decide) ?_
  refine lv_istore (lv' := [(5, .int 0), (4, .int a63), (3, .int r40), (0, .ref (ak67 25)), (1, .ref (ak67 p1)), (2, .int x2)]) hx hb dX11_begin_153 hl (by decide) rfl (fun ls hl => ?_)
  have J_155 : ∀ (n155 : Nat) (ad155 : Nat → Nat) (dc155 ds155 : Nat) (U155 : MS) (v155_4 : Int32) (v155_5 : Int32) (H : Heap) (locs : List Loc) (ls : Array Slot), w_X11_begin_L155 Q n155 U155 v155_4 v155_5 → shx S U155 → lgC S U155 dc155 ds155 → adk ad ad155 S → ogC ad155 A s s.heap → RepC g ad155 A s U155 H locs → lv_has ls 7 [(0, .ref (ad155 25)), (4, .int v155_4), (5, .int v155_5)] → W p l e (headSpec (wt yX11_begin cX11_begin 7 none) ({ frames := 5, cells := KCC - qn S, slots := KSC - qu S, locals := 129 })).room s m ([.ref (ad 25), .ref (ad p1), .int x2] : List Value).toArray below meth c H locs dc155 ds155 (MQ below (va_Qv (fun (u : MS × (Nat → Nat)) => Q u.1 ∧ wfC u.1 ∧ shx S u.1 ∧ adk ad u.2 S) (fun (u : MS × (Nat → Nat)) (t : State) => qEHC g A S s.heap u t) A) ([.ref (ad 25), .ref (ad p1), .int x2] : List Value).toArray s (KCC - qn S) (KSC - qu S) A) (F0 m 155 ls []) := by
    intro n155
    induction n155 with
    | zero => intro ad155 dc155 ds155 U155 v155_4 v155_5 H locs ls h hsh hlg hak hE hR hl; unfold w_X11_begin_L155 at h; exact h.elim
    | succ n155 ih_155 =>
      intro ad155 dc155 ds155 U155 v155_4 v155_5 H locs ls h hsh hlg hak hE hR hl
      unfold w_X11_begin_L155 at h
      replace h := h hR.w
      refine lv_iload hx hb dX11_begin_155 (lv_at hl 2 rfl) ?_
      refine lv_iload hx hb dX11_begin_157 (lv_at hl 1 rfl) ?_
      have J_293 : ∀ (ad293 : Nat → Nat) (dc293 ds293 : Nat) (U293 : MS) (H : Heap) (locs : List Loc) (ls : Array Slot), w_X11_begin_J293 Q U293 → shx S U293 → lgC S U293 dc293 ds293 → adk ad ad293 S → ogC ad293 A s s.heap → RepC g ad293 A s U293 H locs → lv_has ls 7 [(0, .ref (ad293 25))] → W p l e (headSpec (wt yX11_begin cX11_begin 7 none) ({ frames := 5, cells := KCC - qn S, slots := KSC - qu S, locals := 129 })).room s m ([.ref (ad 25), .ref (ad p1), .int x2] : List Value).toArray below meth c H locs dc293 ds293 (MQ below (va_Qv (fun (u : MS × (Nat → Nat)) => Q u.1 ∧ wfC u.1 ∧ shx S u.1 ∧ adk ad u.2 S) (fun (u : MS × (Nat → Nat)) (t : State) => qEHC g A S s.heap u t) A) ([.ref (ad 25), .ref (ad p1), .int x2] : List Value).toArray s (KCC - qn S) (KSC - qu S) A) (F0 m 293 ls []) := by
        intro ad293 dc293 ds293 U293 H locs ls h hsh hlg hak hE hR hl
        unfold w_X11_begin_J293 at h
        replace h := h hR.w
        refine lv_aload_n hx hb dX11_begin_293 rfl (lv_at hl 0 rfl) ?_
        refine va_get (D := rD g) (ci := 10) (v := .ref (ad293 28)) (C := RX11) (T := TX11) (N := 18) hx hb hts inX11 hown hR.K hR.P 25 (hR.at50 (hR.w.2.1 _ finC_28).2.1) rfl 1 (by decide) (hts _ kw_94) (fun _ h9 => h9) (congrArg (fun z => some (vf ad293 z)) (hR.w.2.1 _ finC_13).1) dX11_begin_294 ?_
        refine lv_aload_n hx hb dX11_begin_297 rfl (lv_at hl 0 rfl) ?_
        obtain ⟨hv69, h⟩ := h
        have hT_b68 : qT U293 (qO U293 25 7) = 49 := hR.w.ref hv69 (hR.w.2.1 _ finC_28).2.1
        refine va_get (D := rD g) (ci := 10) (v := .ref (ad293 (qO U293 25 7))) (C := RX11) (T := TX11) (N := 18) hx hb hts inX11 hown hR.K hR.P 25 (hR.at50 (hR.w.2.1 _ finC_28).2.1) rfl 7 (by decide) (hts _ kw_86) (fun _ h9 => h9) (congrArg (fun z => some (vf ad293 z)) hv69) dX11_begin_298 ?_
        refine va_get (D := rD g) (ci := 9) (v := .int (qI U293 (qO U293 25 7) 8)) (C := RX10) (T := TX10) (N := 18) hx hb hts inX10 hown hR.K hR.P (qO U293 25 7) (hR.at49 hT_b68) rfl 8 (by decide) (hts _ kw_130) (fun _ h9 => h9) rfl dX11_begin_301 ?_
        replace h := h ((hR.w.2.1 _ finC_13).2.1)
        obtain ⟨Q70, h0, h⟩ := h
        have hFc := cfree hR hA
        refine W_led2 (fun hL0 => ?_)
        refine va_callv (va_runV (As := [.int (qI U293 (qO U293 25 7) 8)]) (rest := []) ⟨hx, hb, hml, hown, hts⟩ (rX0_put2 l g ad293 H U293 28 (qI U293 (qO U293 25 7) 8) hR.w (hR.w.2.1 _ finC_13).2.1 Q70 h0) (cwV 1 hts (gd_V kw_96 kw_17 kw_18 kw_3 kw_16) rfl rfl rfl (by decide +kernel) ⟨Nat.le_of_ble_eq_true rfl, Nat.le_of_ble_eq_true rfl⟩) ⟨cblindH, va_recv hR.K hR.P (ci := 0) (q0 := 28) rfl (hR.at40 (hR.w.2.1 _ finC_13).2.1), fun U hU hW9 => cmkH hU hW9 hR hex hE hFc⟩ rfl rfl hl.1 rfl (lv_room (Nat.le_of_ble_eq_true rfl)) dX11_begin_304 ⟨(show dc293 + (KCC - qn U293) ≤ KCC - qn S from hlg.cm), (show ds293 + (KSC - qu U293) ≤ KSC - qu S from hlg.sm)⟩) hR.sS (fun q _ h => hFc q h) hFc (fun  S71 t9 H1 locs ht9 hvm9 hw9 hB9 hz9 hk9 hS => ?_)
        rcases S71 with ⟨S71, ak73⟩
        obtain ⟨hB9, dc9, ds9, hL9, hl9⟩ := hB9
        dsimp only at hw9 hB9 hl9
        rw [ht9] at hL9
        obtain ⟨hq72, hw9, hs9, hk8⟩ := hw9
        have hw8 := hR.w
        have hak := hak.tr hk8 hlg.2.2.1
        have hE := hE.ad hk8
        have hR : RepC g ak73 A s S71 H1 locs := hR.callH ht9 hB9 hw9 hS hFc
        have hsh := hsh.tr hs9
        refine W_tight2 (hL0.tr hL9).1 (hL0.tr hL9).2.1 ?_
        have hlg := hlg.call hl9
        replace h := h  S71 hq72 hw9 hs9
        have ea_0 : ak73 25 = ad293 25 := hk8 _ (hw8.hd (hw8.2.1 _ finC_28).2.1 (by decide) (by decide))
        have hl : lv_has ls 7 [(0, .ref (ak73 25))] := by simp only [ea_0]; exact hl
        clear hB9 hz9 hk9 hvm9 ht9 hw9 hs9 hS hL0 hL9
        generalize H1 = H at hR ⊢
        generalize dc9 = dc_ak73, ds9 = ds_ak73 at hlg ⊢
        refine W_led2 (fun hLd => ?_)
        refine W.widen (k := KCC - qn S) (n := KSC - qu S) hlg.c hlg.s ?_
        exact W.vret hx hb hr (fun t9 ht9 hW9 => ⟨⟨(S71, ak73), rfl, ⟨h, hR.w, hsh, hak⟩, ⟨⟨by rw [ht9]; exact hR.P, hR.D⟩, _, _, by rw [ht9]; exact hLd, hlg⟩⟩, hR.sS.F ht9⟩) hR.sS.2.2 dX11_begin_307
      refine lv_icmp_ge (tgt := 293) hx hb dX11_begin_159 (by decide) (fun c74 => ?_) (fun c74 => ?_)
      · replace h := h.1 (k_le rfl rfl c74)
        exact J_293 ad155 (dc155) (ds155) U155 _ _ ls h  hsh hlg hak hE hR (lv_sub hl [0] rfl)
      · replace h := h.2 (k_nle rfl rfl c74)
        refine lv_iload hx hb dX11_begin_162 (lv_at hl 2 rfl) ?_
        refine lv_bipush (v := 24) hx hb dX11_begin_164 (by decide) ?_
        refine lv_icmp_ge (tgt := 293) hx hb dX11_begin_166 (by decide) (fun c75 => ?_) (fun c75 => ?_)
        · replace h := h.1 (k_le (by decide) rfl c75)
          exact J_293 ad155 (dc155) (ds155) U155 _ _ ls h  hsh hlg hak hE hR (lv_sub hl [0] rfl)
        · replace h := h.2 (k_nle (by decide) rfl c75)
          refine lv_iload hx hb dX11_begin_169 (lv_at hl 2 rfl) ?_
          refine lv_aload_n hx hb dX11_begin_171 rfl (lv_at hl 0 rfl) ?_
          obtain ⟨hv77, h⟩ := h
          have hT_b76 : qT U155 (qO U155 25 7) = 49 := hR.w.ref hv77 (hR.w.2.1 _ finC_28).2.1
          refine va_get (D := rD g) (ci := 10) (v := .ref (ad155 (qO U155 25 7))) (C := RX11) (T := TX11) (N := 18) hx hb hts inX11 hown hR.K hR.P 25 (hR.at50 (hR.w.2.1 _ finC_28).2.1) rfl 7 (by decide) (hts _ kw_86) (fun _ h9 => h9) (congrArg (fun z => some (vf ad155 z)) hv77) dX11_begin_172 ?_
          obtain ⟨hv79, h⟩ := h
          have hT_b78 : qT U155 (qO U155 (qO U155 25 7) 5) = 231 := hR.w.ref hv79 hT_b76
          refine va_get (D := rD g) (ci := 9) (v := .ref (ad155 (qO U155 (qO U155 25 7) 5))) (C := RX10) (T := TX10) (N := 18) hx hb hts inX10 hown hR.K hR.P (qO U155 25 7) (hR.at49 hT_b76) rfl 5 (by decide) (hts _ kw_125) (fun _ h9 => h9) (congrArg (fun z => some (vf ad155 z)) hv79) dX11_begin_175 ?_
          refine va_alen (v := (Int32.ofNat (qN U155 (qO U155 (qO U155 25 7) 5)))) hx hb hR.K hR.P (qO U155 (qO U155 25 7) 5) 1 (hR.atI hT_b78 (by decide)) rfl rfl dX11_begin_178 ?_
          have hln80 : (Int32.ofNat (qN U155 (qO U155 (qO U155 25 7) 5))).toInt = (qN U155 (qO U155 (qO U155 25 7) 5) : Int) := toI_len (hR.w.len9 (hT_b78) (by decide))
          have J_187 : ∀ (ad187 : Nat → Nat) (dc187 ds187 : Nat) (U187 : MS) (t187_0 : Int32) (v187_4 : Int32) (v187_5 : Int32) (H : Heap) (locs : List Loc) (ls : Array Slot), w_X11_begin_J187 Q (w_X11_begin_L155 Q n155) U187 t187_0 v187_4 v187_5 → (t187_0 = 0 ∨ t187_0 = 1) → shx S U187 → lgC S U187 dc187 ds187 → adk ad ad187 S → ogC ad187 A s s.heap → RepC g ad187 A s U187 H locs → lv_has ls 7 [(0, .ref (ad187 25)), (4, .int v187_4), (5, .int v187_5)] → W p l e (headSpec (wt yX11_begin cX11_begin 7 none) ({ frames := 5, cells := KCC - qn S, slots := KSC - qu S, locals := 129 })).room s m ([.ref (ad 25), .ref (ad p1), .int x2] : List Value).toArray below meth c H locs dc187 ds187 (MQ below (va_Qv (fun (u : MS × (Nat → Nat)) => Q u.1 ∧ wfC u.1 ∧ shx S u.1 ∧ adk ad u.2 S) (fun (u : MS × (Nat → Nat)) (t : State) => qEHC g A S s.heap u t) A) ([.ref (ad 25), .ref (ad p1), .int x2] : List Value).toArray s (KCC - qn S) (KSC - qu S) A) (F0 m 187 ls [.int t187_0]) := by
            intro ad187 dc187 ds187 U187 t187_0 v187_4 v187_5 H locs ls h hz_t187_0 hsh hlg hak hE hR hl
            unfold w_X11_begin_J187 at h
            replace h := h hR.w hz_t187_0
            refine lv_istore (lv' := [(6, .int t187_0), (0, .ref (ad187 25)), (4, .int v187_4), (5, .int v187_5)]) hx hb dX11_begin_187 hl (by decide) rfl (fun ls hl => ?_)
            refine lv_aload_n hx hb dX11_begin_189 rfl (lv_at hl 1 rfl) ?_
            refine va_get (D := rD g) (ci := 10) (v := .ref (ad187 34)) (C := RX11) (T := TX11) (N := 18) hx hb hts inX11 hown hR.K hR.P 25 (hR.at50 (hR.w.2.1 _ finC_28).2.1) rfl 10 (by decide) (hts _ kw_126) (fun _ h9 => h9) (congrArg (fun z => some (vf ad187 z)) (hR.w.2.1 _ finC_17).1) dX11_begin_190 ?_
            refine lv_iload hx hb dX11_begin_193 (lv_at hl 3 rfl) ?_
            refine lv_iload hx hb dX11_begin_195 (lv_at hl 0 rfl) ?_
            have J_232 : ∀ (ad232 : Nat → Nat) (dc232 ds232 : Nat) (U232 : MS) (t232_0 : Int32) (t232_1 : Int32) (v232_4 : Int32) (v232_5 : Int32) (v232_6 : Int32) (H : Heap) (locs : List Loc) (ls : Array Slot), w_X11_begin_J232 Q (w_X11_begin_L155 Q n155) U232 t232_0 t232_1 v232_4 v232_5 v232_6 → (v232_6 = 0 ∨ v232_6 = 1) → shx S U232 → lgC S U232 dc232 ds232 → adk ad ad232 S → ogC ad232 A s s.heap → RepC g ad232 A s U232 H locs → lv_has ls 7 [(0, .ref (ad232 25)), (4, .int v232_4), (5, .int v232_5), (6, .int v232_6)] → W p l e (headSpec (wt yX11_begin cX11_begin 7 none) ({ frames := 5, cells := KCC - qn S, slots := KSC - qu S, locals := 129 })).room s m ([.ref (ad 25), .ref (ad p1), .int x2] : List Value).toArray below meth c H locs dc232 ds232 (MQ below (va_Qv (fun (u : MS × (Nat → Nat)) => Q u.1 ∧ wfC u.1 ∧ shx S u.1 ∧ adk ad u.2 S) (fun (u : MS × (Nat → Nat)) (t : State) => qEHC g A S s.heap u t) A) ([.ref (ad 25), .ref (ad p1), .int x2] : List Value).toArray s (KCC - qn S) (KSC - qu S) A) (F0 m 232 ls [.int t232_0, .int t232_1, .ref (ad232 34)]) := by
              intro ad232 dc232 ds232 U232 t232_0 t232_1 v232_4 v232_5 v232_6 H locs ls h hz_v232_6 hsh hlg hak hE hR hl
              unfold w_X11_begin_J232 at h
              replace h := h hR.w hz_v232_6
              obtain ⟨hv81, h⟩ := h
              refine va_iast hx hb hR.K hR.P hR.D hR.sS 34 1 (hR.atI (hR.w.2.1 _ finC_17).2.1 (by decide)) rfl (k_ixN (k_ix (n := 24) (x := t232_1) (a := t232_1.toInt) rfl hv81) (hR.w.2.1 _ finC_17).2.2) dX11_begin_232 (fun H locs hP hD hS => ?_)
              have hTk9 : qT U232 34 = 240 := (hR.w.2.1 _ finC_17).2.1
              have hR : RepC g ad232 A s (wI U232 34 t232_1.toInt.toNat t232_0) H locs := hR.aI (hR.w.2.1 _ finC_17).2.1 (by decide) hP hD hS
              obtain ⟨S82, eS82⟩ : ∃ z, z = wI U232 34 t232_1.toInt.toNat t232_0 := ⟨_, rfl⟩
              rw [← eS82] at hR
              replace h := h S82 eS82 hTk9 hR.w
              have hsh : shx S S82 := by rw [eS82]; exact hsh
              have hlg : lgC S S82 (dc232) (ds232) := by rw [eS82]; exact hlg
              refine lv_aload_n hx hb dX11_begin_233 rfl (lv_at hl 0 rfl) ?_
              refine va_get (D := rD g) (ci := 10) (v := .ref (ad232 35)) (C := RX11) (T := TX11) (N := 18) hx hb hts inX11 hown hR.K hR.P 25 (hR.at50 (hR.w.2.1 _ finC_28).2.1) rfl 11 (by decide) (hts _ kw_128) (fun _ h9 => h9) (congrArg (fun z => some (vf ad232 z)) (hR.w.2.1 _ finC_18).1) dX11_begin_234 ?_
              refine lv_iload hx hb dX11_begin_237 (lv_at hl 2 rfl) ?_
              refine lv_iload hx hb dX11_begin_239 (lv_at hl 3 rfl) ?_
              have J_267 : ∀ (ad267 : Nat → Nat) (dc267 ds267 : Nat) (U267 : MS) (t267_0 : Int32) (t267_1 : Int32) (v267_4 : Int32) (v267_5 : Int32) (H : Heap) (locs : List Loc) (ls : Array Slot), w_X11_begin_J267 Q (w_X11_begin_L155 Q n155) U267 t267_0 t267_1 v267_4 v267_5 → shx S U267 → lgC S U267 dc267 ds267 → adk ad ad267 S → ogC ad267 A s s.heap → RepC g ad267 A s U267 H locs → lv_has ls 7 [(0, .ref (ad267 25)), (4, .int v267_4), (5, .int v267_5)] → W p l e (headSpec (wt yX11_begin cX11_begin 7 none) ({ frames := 5, cells := KCC - qn S, slots := KSC - qu S, locals := 129 })).room s m ([.ref (ad 25), .ref (ad p1), .int x2] : List Value).toArray below meth c H locs dc267 ds267 (MQ below (va_Qv (fun (u : MS × (Nat → Nat)) => Q u.1 ∧ wfC u.1 ∧ shx S u.1 ∧ adk ad u.2 S) (fun (u : MS × (Nat → Nat)) (t : State) => qEHC g A S s.heap u t) A) ([.ref (ad 25), .ref (ad p1), .int x2] : List Value).toArray s (KCC - qn S) (KSC - qu S) A) (F0 m 267 ls [.int t267_0, .int t267_1, .ref (ad267 35)]) := by
                intro ad267 dc267 ds267 U267 t267_0 t267_1 v267_4 v267_5 H locs ls h hsh hlg hak hE hR hl
                unfold w_X11_begin_J267 at h
                replace h := h hR.w
                obtain ⟨hv83, h⟩ := h
                refine va_iast hx hb hR.K hR.P hR.D hR.sS 35 1 (hR.atI (hR.w.2.1 _ finC_18).2.1 (by decide)) rfl (k_ixN (k_ix (n := 24) (x := t267_1) (a := t267_1.toInt) rfl hv83) (hR.w.2.1 _ finC_18).2.2) dX11_begin_267 (fun H locs hP hD hS => ?_)
                have hTk9 : qT U267 35 = 241 := (hR.w.2.1 _ finC_18).2.1
                have hR : RepC g ad267 A s (wI U267 35 t267_1.toInt.toNat t267_0) H locs := hR.aI (hR.w.2.1 _ finC_18).2.1 (by decide) hP hD hS
                obtain ⟨S84, eS84⟩ : ∃ z, z = wI U267 35 t267_1.toInt.toNat t267_0 := ⟨_, rfl⟩
                rw [← eS84] at hR
                replace h := h S84 eS84 hTk9 hR.w
                have hsh : shx S S84 := by rw [eS84]; exact hsh
                have hlg : lgC S S84 (dc267) (ds267) := by rw [eS84]; exact hlg
                refine lv_aload_n hx hb dX11_begin_268 rfl (lv_at hl 0 rfl) ?_
                refine lv_aload_n hx hb dX11_begin_269 rfl (lv_at hl 0 rfl) ?_
                refine va_get (D := rD g) (ci := 10) (v := .ref (ad267 34)) (C := RX11) (T := TX11) (N := 18) hx hb hts inX11 hown hR.K hR.P 25 (hR.at50 (hR.w.2.1 _ finC_28).2.1) rfl 10 (by decide) (hts _ kw_126) (fun _ h9 => h9) (congrArg (fun z => some (vf ad267 z)) (hR.w.2.1 _ finC_17).1) dX11_begin_270 ?_
                refine lv_iload hx hb dX11_begin_273 (lv_at hl 2 rfl) ?_
                obtain ⟨hv85, h⟩ := h
                refine va_iald hx hb hR.K hR.P 34 1 (hR.atI (hR.w.2.1 _ finC_17).2.1 (by decide)) rfl (k_ixN (k_ix (n := 24) (x := v267_5) (a := v267_5.toInt) rfl hv85) (hR.w.2.1 _ finC_17).2.2) dX11_begin_275 ?_
                refine lv_topi (fun z86 ez86 => ?_)
                obtain rfl : z86 = (qI S84 34 v267_5.toInt.toNat) := ez86
                refine lv_aload_n hx hb dX11_begin_276 rfl (lv_at hl 0 rfl) ?_
                refine va_get (D := rD g) (ci := 10) (v := .ref (ad267 35)) (C := RX11) (T := TX11) (N := 18) hx hb hts inX11 hown hR.K hR.P 25 (hR.at50 (hR.w.2.1 _ finC_28).2.1) rfl 11 (by decide) (hts _ kw_128) (fun _ h9 => h9) (congrArg (fun z => some (vf ad267 z)) (hR.w.2.1 _ finC_18).1) dX11_begin_277 ?_
                refine lv_iload hx hb dX11_begin_280 (lv_at hl 2 rfl) ?_
                obtain ⟨hv87, h⟩ := h
                refine va_iald hx hb hR.K hR.P 35 1 (hR.atI (hR.w.2.1 _ finC_18).2.1 (by decide)) rfl (k_ixN (k_ix (n := 24) (x := v267_5) (a := v267_5.toInt) rfl hv87) (hR.w.2.1 _ finC_18).2.2) dX11_begin_282 ?_
                refine lv_topi (fun z88 ez88 => ?_)
                obtain rfl : z88 = (qI S84 35 v267_5.toInt.toNat) := ez88
                refine lv_iconst (v := 0) hx hb dX11_begin_283 (by decide) ?_
                obtain ⟨Q89, h0, h⟩ := h
                have hFc := cfree hR hA
                refine W_led2 (fun hL0 => ?_)
                refine va_callv (va_runV (As := [.int (qI S84 34 v267_5.toInt.toNat), .int (qI S84 35 v267_5.toInt.toNat), .int 0]) (rest := []) ⟨hx, hb, hml, hown, hts⟩ (rX11_putMember l g ad267 H S84 (qI S84 34 v267_5.toInt.toNat) (qI S84 35 v267_5.toInt.toNat) (0 : Int32) hR.w  Q89 h0) (cwV 3 hts (gd_V kw_90 kw_258 kw_259 kw_83 kw_257) rfl rfl rfl (by decide +kernel) ⟨Nat.le_of_ble_eq_true rfl, Nat.le_of_ble_eq_true rfl⟩) ⟨cblindH, va_recv hR.K hR.P (ci := 10) (q0 := 25) rfl (hR.at50 (hR.w.2.1 _ finC_28).2.1), fun U hU hW9 => cmkH hU hW9 hR hex hE hFc⟩ rfl rfl hl.1 rfl (lv_room (Nat.le_of_ble_eq_true rfl)) dX11_begin_284 ⟨(show dc267 + (KCC - qn S84) ≤ KCC - qn S from hlg.cm), (show ds267 + (KSC - qu S84) ≤ KSC - qu S from hlg.sm)⟩) hR.sS (fun q _ h => hFc q h) hFc (fun  S90 t9 H1 locs ht9 hvm9 hw9 hB9 hz9 hk9 hS => ?_)
                rcases S90 with ⟨S90, ak92⟩
                obtain ⟨hB9, dc9, ds9, hL9, hl9⟩ := hB9
                dsimp only at hw9 hB9 hl9
                rw [ht9] at hL9
                obtain ⟨hq91, hw9, hs9, hk8⟩ := hw9
                have hw8 := hR.w
                have hak := hak.tr hk8 hlg.2.2.1
                have hE := hE.ad hk8
                have hR : RepC g ak92 A s S90 H1 locs := hR.callH ht9 hB9 hw9 hS hFc
                have hsh := hsh.tr hs9
                refine W_tight2 (hL0.tr hL9).1 (hL0.tr hL9).2.1 ?_
                have hlg := hlg.call hl9
                replace h := h  S90 hq91 hw9 hs9
                have ea_0 : ak92 25 = ad267 25 := hk8 _ (hw8.hd (hw8.2.1 _ finC_28).2.1 (by decide) (by decide))
                have hl : lv_has ls 7 [(0, .ref (ak92 25)), (4, .int v267_4), (5, .int v267_5)] := by simp only [ea_0]; exact hl
                clear hB9 hz9 hk9 hvm9 ht9 hw9 hs9 hS hL0 hL9
                generalize H1 = H at hR ⊢
                generalize dc9 = dc_ak92, ds9 = ds_ak92 at hlg ⊢
                obtain ⟨a93, ea93⟩ : ∃ z, z = (v267_5 + Int32.ofInt 1) := ⟨_, rfl⟩
                replace h := h a93 ea93
                refine lv_iinc (v := a93) (lv' := [(5, .int a93), (0, .ref (ak92 25)), (4, .int v267_4)]) hx hb dX11_begin_287 hl (k := 2) rfl ea93.symm (by decide) rfl (fun ls hl => ?_)
                refine lv_goto (tgt := 155) hx hb dX11_begin_290 (by decide) ?_
                exact ih_155 ak92 (dc267 + dc_ak92) (ds267 + ds_ak92) S90 v267_4 a93 _ _ ls h  hsh hlg hak hE hR (lv_sub hl [1, 2, 0] rfl)
              refine lv_if_eq (tgt := 261) hx hb dX11_begin_241 (by decide) (fun c94 => ?_) (fun c94 => ?_)
              · replace h := h.1 (k_eq rfl (by decide) c94)
                refine lv_aload_n hx hb dX11_begin_261 rfl (lv_at hl 0 rfl) ?_
                have hT_t95 : qT S82 10000010 = 12 := hR.w.txt (i := 5) (by decide)
                refine va_ldcS (tx := "J") (q := ad232 10000010) hx hb hown (hE.2.2 _ ldcC_6) dX11_begin_262 ?_
                replace h := h (hT_t95)
                obtain ⟨Q96, h0, h⟩ := h
                have hFc := cfree hR hA
                refine W_led2 (fun hL0 => ?_)
                refine va_calli (va_runV (As := [.ref (ad232 10000010)]) (rest := [.int v232_5, .ref (ad232 35)]) ⟨hx, hb, hml, hown, hts⟩ (rX11_textEntry l g ad232 H S82 10000010 hR.w hT_t95 Q96 h0) (cwV 1 hts (gd_V kw_119 kw_266 kw_267 kw_83 kw_265) rfl rfl rfl (by decide +kernel) ⟨Nat.le_of_ble_eq_true rfl, Nat.le_of_ble_eq_true rfl⟩) ⟨cblindH, va_recv hR.K hR.P (ci := 10) (q0 := 25) rfl (hR.at50 (hR.w.2.1 _ finC_28).2.1), fun U hU hW9 => cmkH hU hW9 hR hex hE hFc⟩ rfl rfl hl.1 rfl (lv_room (Nat.le_of_ble_eq_true rfl)) dX11_begin_264 ⟨(show dc232 + (KCC - qn S82) ≤ KCC - qn S from hlg.cm), (show ds232 + (KSC - qu S82) ≤ KSC - qu S from hlg.sm)⟩) hR.sS (fun q _ h => hFc q h) hFc (fun r97 S98 t9 H1 locs ht9 hvm9 hw9 hB9 hz9 hk9 hS => ?_)
                rcases S98 with ⟨S98, ak100⟩
                obtain ⟨hB9, dc9, ds9, hL9, hl9⟩ := hB9
                dsimp only at hw9 hB9 hl9
                rw [ht9] at hL9
                obtain ⟨hq99, hw9, hs9, hk8⟩ := hw9
                have hw8 := hR.w
                have hak := hak.tr hk8 hlg.2.2.1
                have hE := hE.ad hk8
                have hR : RepC g ak100 A s S98 H1 locs := hR.callH ht9 hB9 hw9 hS hFc
                have hsh := hsh.tr hs9
                refine W_tight2 (hL0.tr hL9).1 (hL0.tr hL9).2.1 ?_
                have hlg := hlg.call hl9
                replace h := h r97 S98 hq99 hw9 hs9
                have ea_0 : ak100 25 = ad232 25 := hk8 _ (hw8.hd (hw8.2.1 _ finC_28).2.1 (by decide) (by decide))
                have ea_1 : ak100 35 = ad232 35 := hk8 _ (hw8.hd (hw8.2.1 _ finC_18).2.1 (by decide) (by decide))
                have hl : lv_has ls 7 [(0, .ref (ak100 25)), (4, .int v232_4), (5, .int v232_5), (6, .int v232_6)] := by simp only [ea_0, ea_1]; exact hl
                refine W.eq (g2 := F0 m 267 ls (.int r97 :: [.int v232_5, .ref (ak100 35)])) (by first | (simp only [ea_0, ea_1]; rfl) | simp only [ea_0, ea_1]) ?_
                clear hB9 hz9 hk9 hvm9 ht9 hw9 hs9 hS hL0 hL9
                generalize H1 = H at hR ⊢
                generalize dc9 = dc_ak100, ds9 = ds_ak100 at hlg ⊢
                exact J_267 ak100 (dc232 + dc_ak100) (ds232 + ds_ak100) S98 r97 v232_5 v232_4 v232_5 _ _ ls h  hsh hlg hak hE hR (lv_sub hl [0, 1, 2] rfl)
              · replace h := h.2 (k_ne rfl (by decide) c94)
                refine lv_aload_n hx hb dX11_begin_244 rfl (lv_at hl 0 rfl) ?_
                refine lv_aload_n hx hb dX11_begin_245 rfl (lv_at hl 0 rfl) ?_
                obtain ⟨hv102, h⟩ := h
                have hT_b101 : qT S82 (qO S82 25 7) = 49 := hR.w.ref hv102 (hR.w.2.1 _ finC_28).2.1
                refine va_get (D := rD g) (ci := 10) (v := .ref (ad232 (qO S82 25 7))) (C := RX11) (T := TX11) (N := 18) hx hb hts inX11 hown hR.K hR.P 25 (hR.at50 (hR.w.2.1 _ finC_28).2.1) rfl 7 (by decide) (hts _ kw_86) (fun _ h9 => h9) (congrArg (fun z => some (vf ad232 z)) hv102) dX11_begin_246 ?_
                obtain ⟨hv104, h⟩ := h
                have hT_b103 : qT S82 (qO S82 (qO S82 25 7) 6) = 232 := hR.w.ref hv104 hT_b101
                refine va_get (D := rD g) (ci := 9) (v := .ref (ad232 (qO S82 (qO S82 25 7) 6))) (C := RX10) (T := TX10) (N := 18) hx hb hts inX10 hown hR.K hR.P (qO S82 25 7) (hR.at49 hT_b101) rfl 6 (by decide) (hts _ kw_129) (fun _ h9 => h9) (congrArg (fun z => some (vf ad232 z)) hv104) dX11_begin_249 ?_
                refine lv_iload hx hb dX11_begin_252 (lv_at hl 2 rfl) ?_
                obtain ⟨hv105, h⟩ := h
                refine va_iald hx hb hR.K hR.P (qO S82 (qO S82 25 7) 6) 1 (hR.atI hT_b103 (by decide)) rfl (k_ix (x := v232_5) (a := v232_5.toInt) rfl hv105) dX11_begin_254 ?_
                refine lv_topi (fun z106 ez106 => ?_)
                obtain rfl : z106 = (qI S82 (qO S82 (qO S82 25 7) 6) v232_5.toInt.toNat) := ez106
                obtain ⟨Q107, h0, h⟩ := h
                have hFc := cfree hR hA
                refine W_led2 (fun hL0 => ?_)
                refine va_calli (va_runV (As := [.int (qI S82 (qO S82 (qO S82 25 7) 6) v232_5.toInt.toNat)]) (rest := [.int v232_5, .ref (ad232 35)]) ⟨hx, hb, hml, hown, hts⟩ (rX11_nameEntry l g ad232 H S82 (qI S82 (qO S82 (qO S82 25 7) 6) v232_5.toInt.toNat) hR.w  Q107 h0) (cwV 1 hts (gd_V kw_88 kw_217 kw_218 kw_83 kw_216) rfl rfl rfl (by decide +kernel) ⟨Nat.le_of_ble_eq_true rfl, Nat.le_of_ble_eq_true rfl⟩) ⟨cblindH, va_recv hR.K hR.P (ci := 10) (q0 := 25) rfl (hR.at50 (hR.w.2.1 _ finC_28).2.1), fun U hU hW9 => cmkH hU hW9 hR hex hE hFc⟩ rfl rfl hl.1 rfl (lv_room (Nat.le_of_ble_eq_true rfl)) dX11_begin_255 ⟨(show dc232 + (KCC - qn S82) ≤ KCC - qn S from hlg.cm), (show ds232 + (KSC - qu S82) ≤ KSC - qu S from hlg.sm)⟩) hR.sS (fun q _ h => hFc q h) hFc (fun r108 S109 t9 H1 locs ht9 hvm9 hw9 hB9 hz9 hk9 hS => ?_)
                rcases S109 with ⟨S109, ak111⟩
                obtain ⟨hB9, dc9, ds9, hL9, hl9⟩ := hB9
                dsimp only at hw9 hB9 hl9
                rw [ht9] at hL9
                obtain ⟨hq110, hw9, hs9, hk8⟩ := hw9
                have hw8 := hR.w
                have hak := hak.tr hk8 hlg.2.2.1
                have hE := hE.ad hk8
                have hR : RepC g ak111 A s S109 H1 locs := hR.callH ht9 hB9 hw9 hS hFc
                have hsh := hsh.tr hs9
                refine W_tight2 (hL0.tr hL9).1 (hL0.tr hL9).2.1 ?_
                have hlg := hlg.call hl9
                replace h := h r108 S109 hq110 hw9 hs9
                have ea_0 : ak111 25 = ad232 25 := hk8 _ (hw8.hd (hw8.2.1 _ finC_28).2.1 (by decide) (by decide))
                have ea_1 : ak111 35 = ad232 35 := hk8 _ (hw8.hd (hw8.2.1 _ finC_18).2.1 (by decide) (by decide))
                have hl : lv_has ls 7 [(0, .ref (ak111 25)), (4, .int v232_4), (5, .int v232_5), (6, .int v232_6)] := by simp only [ea_0, ea_1]; exact hl
                refine W.eq (g2 := F0 m 258 ls (.int r108 :: [.int v232_5, .ref (ak111 35)])) (by first | (simp only [ea_0, ea_1]; rfl) | simp only [ea_0, ea_1]) ?_
                clear hB9 hz9 hk9 hvm9 ht9 hw9 hs9 hS hL0 hL9
                generalize H1 = H at hR ⊢
                generalize dc9 = dc_ak111, ds9 = ds_ak111 at hlg ⊢
                refine lv_goto (tgt := 267) hx hb dX11_begin_258 (by decide) ?_
                exact J_267 ak111 (dc232 + dc_ak111) (ds232 + ds_ak111) S109 r108 v232_5 v232_4 v232_5 _ _ ls h  hsh hlg hak hE hR (lv_sub hl [0, 1, 2] rfl)
            refine lv_if_eq (tgt := 217) hx hb dX11_begin_197 (by decide) (fun c112 => ?_) (fun c112 => ?_)
            · replace h := h.1 (k_eq rfl (by decide) c112)
              refine lv_aload_n hx hb dX11_begin_217 rfl (lv_at hl 1 rfl) ?_
              refine lv_iload hx hb dX11_begin_218 (lv_at hl 3 rfl) ?_
              refine lv_aload_n hx hb dX11_begin_220 rfl (lv_at hl 1 rfl) ?_
              obtain ⟨hv114, h⟩ := h
              have hT_b113 : qT U187 (qO U187 25 7) = 49 := hR.w.ref hv114 (hR.w.2.1 _ finC_28).2.1
              refine va_get (D := rD g) (ci := 10) (v := .ref (ad187 (qO U187 25 7))) (C := RX11) (T := TX11) (N := 18) hx hb hts inX11 hown hR.K hR.P 25 (hR.at50 (hR.w.2.1 _ finC_28).2.1) rfl 7 (by decide) (hts _ kw_86) (fun _ h9 => h9) (congrArg (fun z => some (vf ad187 z)) hv114) dX11_begin_221 ?_
              obtain ⟨hv116, h⟩ := h
              have hT_b115 : qT U187 (qO U187 (qO U187 25 7) 5) = 231 := hR.w.ref hv116 hT_b113
              refine va_get (D := rD g) (ci := 9) (v := .ref (ad187 (qO U187 (qO U187 25 7) 5))) (C := RX10) (T := TX10) (N := 18) hx hb hts inX10 hown hR.K hR.P (qO U187 25 7) (hR.at49 hT_b113) rfl 5 (by decide) (hts _ kw_125) (fun _ h9 => h9) (congrArg (fun z => some (vf ad187 z)) hv116) dX11_begin_224 ?_
              refine va_alen (v := (Int32.ofNat (qN U187 (qO U187 (qO U187 25 7) 5)))) hx hb hR.K hR.P (qO U187 (qO U187 25 7) 5) 1 (hR.atI hT_b115 (by decide)) rfl rfl dX11_begin_227 ?_
              have hln117 : (Int32.ofNat (qN U187 (qO U187 (qO U187 25 7) 5))).toInt = (qN U187 (qO U187 (qO U187 25 7) 5) : Int) := toI_len (hR.w.len9 (hT_b115) (by decide))
              refine lv_isub hx hb dX11_begin_228 ?_
              refine lv_topi (fun z118 ez118 => ?_)
              obtain rfl : z118 = (v187_5 - (Int32.ofNat (qN U187 (qO U187 (qO U187 25 7) 5)))) := ez118
              obtain ⟨Q119, h0, h⟩ := h
              have hFc := cfree hR hA
              refine W_led2 (fun hL0 => ?_)
              refine va_calli (va_runV (As := [.int (v187_5 - (Int32.ofNat (qN U187 (qO U187 (qO U187 25 7) 5))))]) (rest := [.int v187_5, .ref (ad187 34)]) ⟨hx, hb, hml, hown, hts⟩ (rX11_counterEntry l g ad187 H U187 (v187_5 - (Int32.ofNat (qN U187 (qO U187 (qO U187 25 7) 5)))) hR.w  Q119 h0) (cwV 1 hts (gd_V kw_127 kw_136 kw_137 kw_83 kw_135) rfl rfl rfl (by decide +kernel) ⟨Nat.le_of_ble_eq_true rfl, Nat.le_of_ble_eq_true rfl⟩) ⟨cblindH, va_recv hR.K hR.P (ci := 10) (q0 := 25) rfl (hR.at50 (hR.w.2.1 _ finC_28).2.1), fun U hU hW9 => cmkH hU hW9 hR hex hE hFc⟩ rfl rfl hl.1 rfl (lv_room (Nat.le_of_ble_eq_true rfl)) dX11_begin_229 ⟨(show dc187 + (KCC - qn U187) ≤ KCC - qn S from hlg.cm), (show ds187 + (KSC - qu U187) ≤ KSC - qu S from hlg.sm)⟩) hR.sS (fun q _ h => hFc q h) hFc (fun r120 S121 t9 H1 locs ht9 hvm9 hw9 hB9 hz9 hk9 hS => ?_)
              rcases S121 with ⟨S121, ak123⟩
              obtain ⟨hB9, dc9, ds9, hL9, hl9⟩ := hB9
              dsimp only at hw9 hB9 hl9
              rw [ht9] at hL9
              obtain ⟨hq122, hw9, hs9, hk8⟩ := hw9
              have hw8 := hR.w
              have hak := hak.tr hk8 hlg.2.2.1
              have hE := hE.ad hk8
              have hR : RepC g ak123 A s S121 H1 locs := hR.callH ht9 hB9 hw9 hS hFc
              have hsh := hsh.tr hs9
              refine W_tight2 (hL0.tr hL9).1 (hL0.tr hL9).2.1 ?_
              have hlg := hlg.call hl9
              replace h := h r120 S121 hq122 hw9 hs9
              have ea_0 : ak123 25 = ad187 25 := hk8 _ (hw8.hd (hw8.2.1 _ finC_28).2.1 (by decide) (by decide))
              have ea_1 : ak123 34 = ad187 34 := hk8 _ (hw8.hd (hw8.2.1 _ finC_17).2.1 (by decide) (by decide))
              have hl : lv_has ls 7 [(6, .int t187_0), (0, .ref (ak123 25)), (4, .int v187_4), (5, .int v187_5)] := by simp only [ea_0, ea_1]; exact hl
              refine W.eq (g2 := F0 m 232 ls (.int r120 :: [.int v187_5, .ref (ak123 34)])) (by first | (simp only [ea_0, ea_1]; rfl) | simp only [ea_0, ea_1]) ?_
              clear hB9 hz9 hk9 hvm9 ht9 hw9 hs9 hS hL0 hL9
              generalize H1 = H at hR ⊢
              generalize dc9 = dc_ak123, ds9 = ds_ak123 at hlg ⊢
              exact J_232 ak123 (dc187 + dc_ak123) (ds187 + ds_ak123) S121 r120 v187_5 v187_4 v187_5 t187_0 _ _ ls h hz_t187_0 hsh hlg hak hE hR (lv_sub hl [1, 2, 3, 0] rfl)
            · replace h := h.2 (k_ne rfl (by decide) c112)
              refine lv_aload_n hx hb dX11_begin_200 rfl (lv_at hl 1 rfl) ?_
              refine lv_aload_n hx hb dX11_begin_201 rfl (lv_at hl 1 rfl) ?_
              obtain ⟨hv125, h⟩ := h
              have hT_b124 : qT U187 (qO U187 25 7) = 49 := hR.w.ref hv125 (hR.w.2.1 _ finC_28).2.1
              refine va_get (D := rD g) (ci := 10) (v := .ref (ad187 (qO U187 25 7))) (C := RX11) (T := TX11) (N := 18) hx hb hts inX11 hown hR.K hR.P 25 (hR.at50 (hR.w.2.1 _ finC_28).2.1) rfl 7 (by decide) (hts _ kw_86) (fun _ h9 => h9) (congrArg (fun z => some (vf ad187 z)) hv125) dX11_begin_202 ?_
              obtain ⟨hv127, h⟩ := h
              have hT_b126 : qT U187 (qO U187 (qO U187 25 7) 5) = 231 := hR.w.ref hv127 hT_b124
              refine va_get (D := rD g) (ci := 9) (v := .ref (ad187 (qO U187 (qO U187 25 7) 5))) (C := RX10) (T := TX10) (N := 18) hx hb hts inX10 hown hR.K hR.P (qO U187 25 7) (hR.at49 hT_b124) rfl 5 (by decide) (hts _ kw_125) (fun _ h9 => h9) (congrArg (fun z => some (vf ad187 z)) hv127) dX11_begin_205 ?_
              refine lv_iload hx hb dX11_begin_208 (lv_at hl 3 rfl) ?_
              obtain ⟨hv128, h⟩ := h
              refine va_iald hx hb hR.K hR.P (qO U187 (qO U187 25 7) 5) 1 (hR.atI hT_b126 (by decide)) rfl (k_ix (x := v187_5) (a := v187_5.toInt) rfl hv128) dX11_begin_210 ?_
              refine lv_topi (fun z129 ez129 => ?_)
              obtain rfl : z129 = (qI U187 (qO U187 (qO U187 25 7) 5) v187_5.toInt.toNat) := ez129
              obtain ⟨Q130, h0, h⟩ := h
              have hFc := cfree hR hA
              refine W_led2 (fun hL0 => ?_)
              refine va_calli (va_runV (As := [.int (qI U187 (qO U187 (qO U187 25 7) 5) v187_5.toInt.toNat)]) (rest := [.int v187_5, .ref (ad187 34)]) ⟨hx, hb, hml, hown, hts⟩ (rX11_nameEntry l g ad187 H U187 (qI U187 (qO U187 (qO U187 25 7) 5) v187_5.toInt.toNat) hR.w  Q130 h0) (cwV 1 hts (gd_V kw_88 kw_217 kw_218 kw_83 kw_216) rfl rfl rfl (by decide +kernel) ⟨Nat.le_of_ble_eq_true rfl, Nat.le_of_ble_eq_true rfl⟩) ⟨cblindH, va_recv hR.K hR.P (ci := 10) (q0 := 25) rfl (hR.at50 (hR.w.2.1 _ finC_28).2.1), fun U hU hW9 => cmkH hU hW9 hR hex hE hFc⟩ rfl rfl hl.1 rfl (lv_room (Nat.le_of_ble_eq_true rfl)) dX11_begin_211 ⟨(show dc187 + (KCC - qn U187) ≤ KCC - qn S from hlg.cm), (show ds187 + (KSC - qu U187) ≤ KSC - qu S from hlg.sm)⟩) hR.sS (fun q _ h => hFc q h) hFc (fun r131 S132 t9 H1 locs ht9 hvm9 hw9 hB9 hz9 hk9 hS => ?_)
              rcases S132 with ⟨S132, ak134⟩
              obtain ⟨hB9, dc9, ds9, hL9, hl9⟩ := hB9
              dsimp only at hw9 hB9 hl9
              rw [ht9] at hL9
              obtain ⟨hq133, hw9, hs9, hk8⟩ := hw9
              have hw8 := hR.w
              have hak := hak.tr hk8 hlg.2.2.1
              have hE := hE.ad hk8
              have hR : RepC g ak134 A s S132 H1 locs := hR.callH ht9 hB9 hw9 hS hFc
              have hsh := hsh.tr hs9
              refine W_tight2 (hL0.tr hL9).1 (hL0.tr hL9).2.1 ?_
              have hlg := hlg.call hl9
              replace h := h r131 S132 hq133 hw9 hs9
              have ea_0 : ak134 25 = ad187 25 := hk8 _ (hw8.hd (hw8.2.1 _ finC_28).2.1 (by decide) (by decide))
              have ea_1 : ak134 34 = ad187 34 := hk8 _ (hw8.hd (hw8.2.1 _ finC_17).2.1 (by decide) (by decide))
              have hl : lv_has ls 7 [(6, .int t187_0), (0, .ref (ak134 25)), (4, .int v187_4), (5, .int v187_5)] := by simp only [ea_0, ea_1]; exact hl
              refine W.eq (g2 := F0 m 214 ls (.int r131 :: [.int v187_5, .ref (ak134 34)])) (by first | (simp only [ea_0, ea_1]; rfl) | simp only [ea_0, ea_1]) ?_
              clear hB9 hz9 hk9 hvm9 ht9 hw9 hs9 hS hL0 hL9
              generalize H1 = H at hR ⊢
              generalize dc9 = dc_ak134, ds9 = ds_ak134 at hlg ⊢
              refine lv_goto (tgt := 232) hx hb dX11_begin_214 (by decide) ?_
              exact J_232 ak134 (dc187 + dc_ak134) (ds187 + ds_ak134) S132 r131 v187_5 v187_4 v187_5 t187_0 _ _ ls h hz_t187_0 hsh hlg hak hE hR (lv_sub hl [1, 2, 3, 0] rfl)
          refine lv_icmp_ge (tgt := 186) hx hb dX11_begin_179 (by decide) (fun c135 => ?_) (fun c135 => ?_)
          · replace h := h.1 (k_le hln80 rfl c135)
            refine lv_iconst (v := 0) hx hb dX11_begin_186 (by decide) ?_
            exact J_187 ad155 (dc155) (ds155) U155 0 v155_4 v155_5 _ _ ls h (Or.inl rfl) hsh hlg hak hE hR (lv_sub hl [0, 1, 2] rfl)
          · replace h := h.2 (k_nle hln80 rfl c135)
            refine lv_iconst (v := 1) hx hb dX11_begin_182 (by decide) ?_
            refine lv_goto (tgt := 187) hx hb dX11_begin_183 (by decide) ?_
            exact J_187 ad155 (dc155) (ds155) U155 1 v155_4 v155_5 _ _ ls h (Or.inr rfl) hsh hlg hak hE hR (lv_sub hl [0, 1, 2] rfl)
  obtain ⟨n9, h⟩ := h
  exact J_155 n9 ak67 (0 + dc_ak17 + dc_ak25 + dc_ak30 + dc_ak38 + dc_ak43 + dc_ak47 + dc_ak51 + dc_ak55 + dc_ak59 + dc_ak67) (0 + ds_ak17 + ds_ak25 + ds_ak30 + ds_ak38 + ds_ak43 + ds_ak47 + ds_ak51 + ds_ak55 + ds_ak59 + ds_ak67) S65 a63 0 _ _ ls h  hsh hlg hak hE hR (lv_sub hl [3, 1, 0] rfl)
def w_X11_layOut_L53 (Q : Int32 → MS → Prop) : Nat → MS → Int32 → Int32 → Prop
  | 0, _, _, _ => False
  | n53 + 1, U53, v53_1, v53_2 => (wfC U53 → ((qR U53 25 15 = some (qO U53 25 15)) ∧ (((qI U53 (qO U53 25 15) 2).toInt ≤ v53_2.toInt → ((qR U53 25 15 = some (qO U53 25 15)) ∧ (((0 : Int) ≤ (qI U53 (qO U53 25 15) 2).toInt ∧ (qI U53 (qO U53 25 15) 2).toInt < (qN U53 (qO U53 25 17) : Int)) ∧ (∀ S12, S12 = wI U53 (qO U53 25 17) (((qI U53 (qO U53 25 15) 2).toInt).toNat) v53_1 → qT U53 (qO U53 25 17) = 245 → wfC S12 → Q v53_1 S12)))) ∧ (¬ (qI U53 (qO U53 25 15) 2).toInt ≤ v53_2.toInt → (((0 : Int) ≤ v53_2.toInt ∧ v53_2.toInt < (qN U53 (qO U53 25 17) : Int)) ∧ (∀ S15, S15 = wI U53 (qO U53 25 17) v53_2.toInt.toNat v53_1 → qT U53 (qO U53 25 17) = 245 → wfC S15 → (∃ Q17, wX11_needOf S15 v53_2 Q17 ∧ ∀ r18 S19, Q17 r18 S19 → wfC S19 → shx S15 S19 → (((0 : Int) ≤ v53_2.toInt ∧ v53_2.toInt < (qN S19 (qO S15 25 16) : Int)) ∧ (∀ S23, S23 = wI S19 (qO S15 25 16) v53_2.toInt.toNat r18 → qT S19 (qO S15 25 16) = 244 → wfC S23 → (d_X11_lengthOf S23 v53_2 v53_1 ∧ (∀ a28 : Int32, a28 = (v53_1 + (fX11_lengthOf S23 v53_2 v53_1)) → (∀ a29 : Int32, a29 = (v53_2 + Int32.ofInt 1) → (w_X11_layOut_L53 Q n53) S23 a28 a29))))))))))))
def w_X11_layOut_J49 (Q : Int32 → MS → Prop) (U49 : MS) : Prop := (wfC U49 → (∃ n, w_X11_layOut_L53 Q n U49 0 0))
def wX11_layOut (S : MS) (Q : Int32 → MS → Prop) : Prop := ((qR S 25 15 = some (qO S 25 15)) ∧ (((qI S (qO S 25 15) 2).toInt < (qN S (qO S 25 17) : Int) → w_X11_layOut_J49 Q S) ∧ (¬ (qI S (qO S 25 15) 2).toInt < (qN S (qO S 25 17) : Int) → ((qR S 25 15 = some (qO S 25 15)) ∧ (((0 : Int) ≤ (((2 : Int32) * (qI S (qO S 25 15) 2)) + (2 : Int32)).toInt ∧ (qn S + 1 ≤ KCC ∧ qu S + (((2 : Int32) * (qI S (qO S 25 15) 2)) + (2 : Int32)).toInt.toNat ≤ KSC)) ∧ (∀ S38, S38 = wN S 245 ((((2 : Int32) * (qI S (qO S 25 15) 2)) + (2 : Int32)).toInt.toNat) ((((2 : Int32) * (qI S (qO S 25 15) 2)) + (2 : Int32)).toInt.toNat) → wfC S38 → (∀ S40, S40 = wR S38 25 17 (some (qn S)) → qT S38 25 = 50 → wfC S40 → ((qR S40 25 15 = some (qO S40 25 15)) ∧ (((0 : Int) ≤ (((2 : Int32) * (qI S40 (qO S40 25 15) 2)) + (2 : Int32)).toInt ∧ (qn S40 + 1 ≤ KCC ∧ qu S40 + (((2 : Int32) * (qI S40 (qO S40 25 15) 2)) + (2 : Int32)).toInt.toNat ≤ KSC)) ∧ (∀ S48, S48 = wN S40 244 ((((2 : Int32) * (qI S40 (qO S40 25 15) 2)) + (2 : Int32)).toInt.toNat) ((((2 : Int32) * (qI S40 (qO S40 25 15) 2)) + (2 : Int32)).toInt.toNat) → wfC S48 → (∀ S50, S50 = wR S48 25 16 (some (qn S40)) → qT S48 25 = 50 → wfC S50 → w_X11_layOut_J49 Q S50)))))))))))
set_option maxHeartbeats 2000000 in
set_option maxRecDepth 100000 in
theorem rX11_layOut (l : Launch) (g : Gr) (ad : Nat → Nat) (H0 : Heap) (S : MS) (hw : wfC S) (Q : Int32 → MS → Prop) (h : wX11_layOut S Q) : Met l yX11_layOut (wt yX11_layOut cX11_layOut 3 (some .int)) ({ frames := 7, cells := KCC - qn S, slots := KSC - qu S, locals := 175 }) (va_Pc [.ref (ad 25)] (st_CH g ad H0 S)) (va_Qi (fun (r : Int32) (u : MS × (Nat → Nat)) => Q r u.1 ∧ wfC u.1 ∧ shx S u.1 ∧ adk ad u.2 S) (fun (u : MS × (Nat → Nat)) (t : State) => qEHC g (va_A (WdC g ad S) H0.size) S H0 u t) (va_A (WdC g ad S) H0.size)) (KCC - qn S) (KSC - qu S) (va_A (WdC g ad S) H0.size) := by
  refine Met.ofW (cc := cX11_layOut) (maxL := 3) (ret := (some .int)) (by decide) rfl ?_
  intro p e s m args below meth c s₁ B hml hv
  obtain ⟨rfl, hH0, hsz, hP, hK, hD0, hex, hE⟩ := hv
  have hx := B.exec
  have hb := B.bytes
  have hr := B.returns
  have hts0 := atoms_spec (ws := wt yX11_layOut cX11_layOut 3 (some .int)) B.pre
  have hts : ∀ w ∈ tb, w.before _ s = true := fun w h => hts0 w (List.mem_cons_of_mem _ h)
  have hown : s.vm.findClass RX11 = some m.cls := findClass_of_methodNamed B.named
  subst hH0
  have hD := hD0.self (sz := s.heap.size)
  generalize hAe : va_A (WdC g ad S) s.heap.size = A at hD hE ⊢
  have hA : ∀ q : Nat, s.heap.size ≤ q → A q := fun q h => by rw [← hAe]; exact Or.inr h
  have hR : RepC g ad A s S s.heap [] := ⟨hK, hP, hD, va_S.rf, hw⟩
  clear hK hP hD hD0
  have hl := lv_entry ([.ref (ad 25)]) (n := 3) (Nat.le_of_ble_eq_true rfl)
  rw [lg_entry_eq]
  generalize (lg_sl ([.ref (ad 25)]) ++ List.replicate (3 - (lg_sl ([.ref (ad 25)])).length) Slot.unset).toArray = ls at hl ⊢
  have hlg : lgC S S 0 0 := lgC.rf
  have hak : adk ad ad S := adk.rf
  have hl : lv_has ls 3 [(0, .ref (ad 25))] := hl
  have hsh : shx S S := shx.rf
  unfold wX11_layOut at h
  refine lv_aload_n hx hb dX11_layOut_0 rfl (lv_at hl 0 rfl) ?_
  have hT_b1 : qT S (qO S 25 17) = 245 := hR.w.ref (hR.w.ptr ptrC_11) (hR.w.2.1 _ finC_28).2.1
  refine va_get (D := rD g) (ci := 10) (v := .ref (ad (qO S 25 17))) (C := RX11) (T := TX11) (N := 18) hx hb hts inX11 hown hR.K hR.P 25 (hR.at50 (hR.w.2.1 _ finC_28).2.1) rfl 17 (by decide) (hts _ kw_169) (fun _ h9 => h9) (congrArg (fun z => some (vf ad z)) (hR.w.ptr ptrC_11)) dX11_layOut_1 ?_
  refine va_alen (v := (Int32.ofNat (qN S (qO S 25 17)))) hx hb hR.K hR.P (qO S 25 17) 1 (hR.atI hT_b1 (by decide)) rfl rfl dX11_layOut_4 ?_
  have hln2 : (Int32.ofNat (qN S (qO S 25 17))).toInt = (qN S (qO S 25 17) : Int) := toI_len (hR.w.len9 (hT_b1) (by decide))
  refine lv_aload_n hx hb dX11_layOut_5 rfl (lv_at hl 0 rfl) ?_
  obtain ⟨hv4, h⟩ := h
  have hT_b3 : qT S (qO S 25 15) = 47 := hR.w.ref hv4 (hR.w.2.1 _ finC_28).2.1
  refine va_get (D := rD g) (ci := 10) (v := .ref (ad (qO S 25 15))) (C := RX11) (T := TX11) (N := 18) hx hb hts inX11 hown hR.K hR.P 25 (hR.at50 (hR.w.2.1 _ finC_28).2.1) rfl 15 (by decide) (hts _ kw_84) (fun _ h9 => h9) (congrArg (fun z => some (vf ad z)) hv4) dX11_layOut_6 ?_
  refine va_get (D := rD g) (ci := 7) (v := .int (qI S (qO S 25 15) 2)) (C := RX8) (T := TX8) (N := 15) hx hb hts inX8 hown hR.K hR.P (qO S 25 15) (hR.at47 hT_b3) rfl 2 (by decide) (hts _ kw_102) (fun _ h9 => h9) rfl dX11_layOut_9 ?_
  have J_49 : ∀ (ad49 : Nat → Nat) (dc49 ds49 : Nat) (U49 : MS) (H : Heap) (locs : List Loc) (ls : Array Slot), w_X11_layOut_J49 Q U49 → shx S U49 → lgC S U49 dc49 ds49 → adk ad ad49 S → ogC ad49 A s s.heap → RepC g ad49 A s U49 H locs → lv_has ls 3 [(0, .ref (ad49 25))] → W p l e (headSpec (wt yX11_layOut cX11_layOut 3 (some .int)) ({ frames := 7, cells := KCC - qn S, slots := KSC - qu S, locals := 175 })).room s m ([.ref (ad 25)] : List Value).toArray below meth c H locs dc49 ds49 (MQ below (va_Qi (fun (r : Int32) (u : MS × (Nat → Nat)) => Q r u.1 ∧ wfC u.1 ∧ shx S u.1 ∧ adk ad u.2 S) (fun (u : MS × (Nat → Nat)) (t : State) => qEHC g A S s.heap u t) A) ([.ref (ad 25)] : List Value).toArray s (KCC - qn S) (KSC - qu S) A) (F0 m 49 ls []) := by
    intro ad49 dc49 ds49 U49 H locs ls h hsh hlg hak hE hR hl
    unfold w_X11_layOut_J49 at h
    replace h := h hR.w
    refine lv_iconst (v := 0) hx hb dX11_layOut_49 (by decide) ?_
    refine lv_istore_n (lv' := [(1, .int 0), (0, .ref (ad49 25))]) hx hb dX11_layOut_50 rfl hl (by decide) rfl (fun ls hl => ?_)
    refine lv_iconst (v := 0) hx hb dX11_layOut_51 (by decide) ?_
    refine lv_istore_n (lv' := [(2, .int 0), (1, .int 0), (0, .ref (ad49 25))]) hx hb dX11_layOut_52 rfl hl (by decide) rfl (fun ls hl => ?_)
    have J_53 : ∀ (n53 : Nat) (ad53 : Nat → Nat) (dc53 ds53 : Nat) (U53 : MS) (v53_1 : Int32) (v53_2 : Int32) (H : Heap) (locs : List Loc) (ls : Array Slot), w_X11_layOut_L53 Q n53 U53 v53_1 v53_2 → shx S U53 → lgC S U53 dc53 ds53 → adk ad ad53 S → ogC ad53 A s s.heap → RepC g ad53 A s U53 H locs → lv_has ls 3 [(0, .ref (ad53 25)), (1, .int v53_1), (2, .int v53_2)] → W p l e (headSpec (wt yX11_layOut cX11_layOut 3 (some .int)) ({ frames := 7, cells := KCC - qn S, slots := KSC - qu S, locals := 175 })).room s m ([.ref (ad 25)] : List Value).toArray below meth c H locs dc53 ds53 (MQ below (va_Qi (fun (r : Int32) (u : MS × (Nat → Nat)) => Q r u.1 ∧ wfC u.1 ∧ shx S u.1 ∧ adk ad u.2 S) (fun (u : MS × (Nat → Nat)) (t : State) => qEHC g A S s.heap u t) A) ([.ref (ad 25)] : List Value).toArray s (KCC - qn S) (KSC - qu S) A) (F0 m 53 ls []) := by
      intro n53
      induction n53 with
      | zero => intro ad53 dc53 ds53 U53 v53_1 v53_2 H locs ls h hsh hlg hak hE hR hl; unfold w_X11_layOut_L53 at h; exact h.elim
      | succ n53 ih_53 =>
        intro ad53 dc53 ds53 U53 v53_1 v53_2 H locs ls h hsh hlg hak hE hR hl
        unfold w_X11_layOut_L53 at h
        replace h := h hR.w
        refine lv_iload_n hx hb dX11_layOut_53 rfl (lv_at hl 2 rfl) ?_
        refine lv_aload_n hx hb dX11_layOut_54 rfl (lv_at hl 0 rfl) ?_
        obtain ⟨hv6, h⟩ := h
        have hT_b5 : qT U53 (qO U53 25 15) = 47 := hR.w.ref hv6 (hR.w.2.1 _ finC_28).2.1
        refine va_get (D := rD g) (ci := 10) (v := .ref (ad53 (qO U53 25 15))) (C := RX11) (T := TX11) (N := 18) hx hb hts inX11 hown hR.K hR.P 25 (hR.at50 (hR.w.2.1 _ finC_28).2.1) rfl 15 (by decide) (hts _ kw_84) (fun _ h9 => h9) (congrArg (fun z => some (vf ad53 z)) hv6) dX11_layOut_55 ?_
        refine va_get (D := rD g) (ci := 7) (v := .int (qI U53 (qO U53 25 15) 2)) (C := RX8) (T := TX8) (N := 15) hx hb hts inX8 hown hR.K hR.P (qO U53 25 15) (hR.at47 hT_b5) rfl 2 (by decide) (hts _ kw_102) (fun _ h9 => h9) rfl dX11_layOut_58 ?_
        refine lv_icmp_ge (tgt := 97) hx hb dX11_layOut_61 (by decide) (fun c7 => ?_) (fun c7 => ?_)
        · replace h := h.1 (k_le rfl rfl c7)
          refine lv_aload_n hx hb dX11_layOut_97 rfl (lv_at hl 0 rfl) ?_
          have hT_b8 : qT U53 (qO U53 25 17) = 245 := hR.w.ref (hR.w.ptr ptrC_11) (hR.w.2.1 _ finC_28).2.1
          refine va_get (D := rD g) (ci := 10) (v := .ref (ad53 (qO U53 25 17))) (C := RX11) (T := TX11) (N := 18) hx hb hts inX11 hown hR.K hR.P 25 (hR.at50 (hR.w.2.1 _ finC_28).2.1) rfl 17 (by decide) (hts _ kw_169) (fun _ h9 => h9) (congrArg (fun z => some (vf ad53 z)) (hR.w.ptr ptrC_11)) dX11_layOut_98 ?_
          refine lv_aload_n hx hb dX11_layOut_101 rfl (lv_at hl 0 rfl) ?_
          obtain ⟨hv10, h⟩ := h
          have hT_b9 : qT U53 (qO U53 25 15) = 47 := hR.w.ref hv10 (hR.w.2.1 _ finC_28).2.1
          refine va_get (D := rD g) (ci := 10) (v := .ref (ad53 (qO U53 25 15))) (C := RX11) (T := TX11) (N := 18) hx hb hts inX11 hown hR.K hR.P 25 (hR.at50 (hR.w.2.1 _ finC_28).2.1) rfl 15 (by decide) (hts _ kw_84) (fun _ h9 => h9) (congrArg (fun z => some (vf ad53 z)) hv10) dX11_layOut_102 ?_
          refine va_get (D := rD g) (ci := 7) (v := .int (qI U53 (qO U53 25 15) 2)) (C := RX8) (T := TX8) (N := 15) hx hb hts inX8 hown hR.K hR.P (qO U53 25 15) (hR.at47 hT_b9) rfl 2 (by decide) (hts _ kw_102) (fun _ h9 => h9) rfl dX11_layOut_105 ?_
          refine lv_iload_n hx hb dX11_layOut_108 rfl (lv_at hl 1 rfl) ?_
          obtain ⟨hv11, h⟩ := h
          refine va_iast hx hb hR.K hR.P hR.D hR.sS (qO U53 25 17) 1 (hR.atI hT_b8 (by decide)) rfl (k_ix (x := (qI U53 (qO U53 25 15) 2)) (a := (qI U53 (qO U53 25 15) 2).toInt) rfl hv11) dX11_layOut_109 (fun H locs hP hD hS => ?_)
          have hTk9 : qT U53 (qO U53 25 17) = 245 := hT_b8
          have hR : RepC g ad53 A s (wI U53 (qO U53 25 17) (((qI U53 (qO U53 25 15) 2).toInt).toNat) v53_1) H locs := hR.aI hT_b8 (by decide) hP hD hS
          obtain ⟨S12, eS12⟩ : ∃ z, z = wI U53 (qO U53 25 17) (((qI U53 (qO U53 25 15) 2).toInt).toNat) v53_1 := ⟨_, rfl⟩
          rw [← eS12] at hR
          replace h := h S12 eS12 hTk9 hR.w
          have hsh : shx S S12 := by rw [eS12]; exact hsh
          have hlg : lgC S S12 (dc53) (ds53) := by rw [eS12]; exact hlg
          refine lv_iload_n hx hb dX11_layOut_110 rfl (lv_at hl 1 rfl) ?_
          refine W_led2 (fun hLd => ?_)
          refine W.widen (k := KCC - qn S) (n := KSC - qu S) hlg.c hlg.s ?_
          exact W.iret (v := v53_1) hx hb hr (fun t9 ht9 hW9 => ⟨⟨_, (S12, ad53), rfl, ⟨h, hR.w, hsh, hak⟩, ⟨⟨by rw [ht9]; exact hR.P, hR.D⟩, _, _, by rw [ht9]; exact hLd, hlg⟩⟩, hR.sS.F ht9⟩) hR.sS.2.2 dX11_layOut_111
        · replace h := h.2 (k_nle rfl rfl c7)
          refine lv_aload_n hx hb dX11_layOut_64 rfl (lv_at hl 0 rfl) ?_
          have hT_b13 : qT U53 (qO U53 25 17) = 245 := hR.w.ref (hR.w.ptr ptrC_11) (hR.w.2.1 _ finC_28).2.1
          refine va_get (D := rD g) (ci := 10) (v := .ref (ad53 (qO U53 25 17))) (C := RX11) (T := TX11) (N := 18) hx hb hts inX11 hown hR.K hR.P 25 (hR.at50 (hR.w.2.1 _ finC_28).2.1) rfl 17 (by decide) (hts _ kw_169) (fun _ h9 => h9) (congrArg (fun z => some (vf ad53 z)) (hR.w.ptr ptrC_11)) dX11_layOut_65 ?_
          refine lv_iload_n hx hb dX11_layOut_68 rfl (lv_at hl 2 rfl) ?_
          refine lv_iload_n hx hb dX11_layOut_69 rfl (lv_at hl 1 rfl) ?_
          obtain ⟨hv14, h⟩ := h
          refine va_iast hx hb hR.K hR.P hR.D hR.sS (qO U53 25 17) 1 (hR.atI hT_b13 (by decide)) rfl (k_ix (x := v53_2) (a := v53_2.toInt) rfl hv14) dX11_layOut_70 (fun H locs hP hD hS => ?_)
          have hTk9 : qT U53 (qO U53 25 17) = 245 := hT_b13
          have hR : RepC g ad53 A s (wI U53 (qO U53 25 17) v53_2.toInt.toNat v53_1) H locs := hR.aI hT_b13 (by decide) hP hD hS
          obtain ⟨S15, eS15⟩ : ∃ z, z = wI U53 (qO U53 25 17) v53_2.toInt.toNat v53_1 := ⟨_, rfl⟩
          rw [← eS15] at hR
          replace h := h S15 eS15 hTk9 hR.w
          have hsh : shx S S15 := by rw [eS15]; exact hsh
          have hlg : lgC S S15 (dc53) (ds53) := by rw [eS15]; exact hlg
          refine lv_aload_n hx hb dX11_layOut_71 rfl (lv_at hl 0 rfl) ?_
          have hT_b16 : qT S15 (qO S15 25 16) = 244 := hR.w.ref (hR.w.ptr ptrC_10) (hR.w.2.1 _ finC_28).2.1
          refine va_get (D := rD g) (ci := 10) (v := .ref (ad53 (qO S15 25 16))) (C := RX11) (T := TX11) (N := 18) hx hb hts inX11 hown hR.K hR.P 25 (hR.at50 (hR.w.2.1 _ finC_28).2.1) rfl 16 (by decide) (hts _ kw_168) (fun _ h9 => h9) (congrArg (fun z => some (vf ad53 z)) (hR.w.ptr ptrC_10)) dX11_layOut_72 ?_
          refine lv_iload_n hx hb dX11_layOut_75 rfl (lv_at hl 2 rfl) ?_
          refine lv_aload_n hx hb dX11_layOut_76 rfl (lv_at hl 0 rfl) ?_
          refine lv_iload_n hx hb dX11_layOut_77 rfl (lv_at hl 2 rfl) ?_
          obtain ⟨Q17, h0, h⟩ := h
          have hFc := cfree hR hA
          refine W_led2 (fun hL0 => ?_)
          refine va_calli (va_runV (As := [.int v53_2]) (rest := [.int v53_2, .ref (ad53 (qO S15 25 16))]) ⟨hx, hb, hml, hown, hts⟩ (rX11_needOf l g ad53 H S15 v53_2 hR.w  Q17 h0) (cwV 1 hts (gd_V kw_182 kw_221 kw_222 kw_83 kw_220) rfl rfl rfl (by decide +kernel) ⟨Nat.le_of_ble_eq_true rfl, Nat.le_of_ble_eq_true rfl⟩) ⟨cblindH, va_recv hR.K hR.P (ci := 10) (q0 := 25) rfl (hR.at50 (hR.w.2.1 _ finC_28).2.1), fun U hU hW9 => cmkH hU hW9 hR hex hE hFc⟩ rfl rfl hl.1 rfl (lv_room (Nat.le_of_ble_eq_true rfl)) dX11_layOut_78 ⟨(show dc53 + (KCC - qn S15) ≤ KCC - qn S from hlg.cm), (show ds53 + (KSC - qu S15) ≤ KSC - qu S from hlg.sm)⟩) hR.sS (fun q _ h => hFc q h) hFc (fun r18 S19 t9 H1 locs ht9 hvm9 hw9 hB9 hz9 hk9 hS => ?_)
          rcases S19 with ⟨S19, ak21⟩
          obtain ⟨hB9, dc9, ds9, hL9, hl9⟩ := hB9
          dsimp only at hw9 hB9 hl9
          rw [ht9] at hL9
          obtain ⟨hq20, hw9, hs9, hk8⟩ := hw9
          have hw8 := hR.w
          have hak := hak.tr hk8 hlg.2.2.1
          have hE := hE.ad hk8
          have hR : RepC g ak21 A s S19 H1 locs := hR.callH ht9 hB9 hw9 hS hFc
          have hsh := hsh.tr hs9
          refine W_tight2 (hL0.tr hL9).1 (hL0.tr hL9).2.1 ?_
          have hlg := hlg.call hl9
          replace h := h r18 S19 hq20 hw9 hs9
          have ea_0 : ak21 25 = ad53 25 := hk8 _ (hw8.hd (hw8.2.1 _ finC_28).2.1 (by decide) (by decide))
          have ea_1 : ak21 (qO S15 25 16) = ad53 (qO S15 25 16) := hk8 _ (hw8.hd hT_b16 (by decide) (by decide))
          have hl : lv_has ls 3 [(0, .ref (ak21 25)), (1, .int v53_1), (2, .int v53_2)] := by simp only [ea_0, ea_1]; exact hl
          refine W.eq (g2 := F0 m 81 ls (.int r18 :: [.int v53_2, .ref (ak21 (qO S15 25 16))])) (by first | (simp only [ea_0, ea_1]; rfl) | simp only [ea_0, ea_1]) ?_
          have hT_b16 := hs9.T hT_b16 (by decide)
          clear hB9 hz9 hk9 hvm9 ht9 hw9 hs9 hS hL0 hL9
          generalize H1 = H at hR ⊢
          generalize dc9 = dc_ak21, ds9 = ds_ak21 at hlg ⊢
          obtain ⟨hv22, h⟩ := h
          refine va_iast hx hb hR.K hR.P hR.D hR.sS (qO S15 25 16) 1 (hR.atI hT_b16 (by decide)) rfl (k_ix (x := v53_2) (a := v53_2.toInt) rfl hv22) dX11_layOut_81 (fun H locs hP hD hS => ?_)
          have hTk9 : qT S19 (qO S15 25 16) = 244 := hT_b16
          have hR : RepC g ak21 A s (wI S19 (qO S15 25 16) v53_2.toInt.toNat r18) H locs := hR.aI hT_b16 (by decide) hP hD hS
          obtain ⟨S23, eS23⟩ : ∃ z, z = wI S19 (qO S15 25 16) v53_2.toInt.toNat r18 := ⟨_, rfl⟩
          rw [← eS23] at hR
          replace h := h S23 eS23 hTk9 hR.w
          have hsh : shx S S23 := by rw [eS23]; exact hsh
          have hlg : lgC S S23 (dc53 + dc_ak21) (ds53 + ds_ak21) := by rw [eS23]; exact hlg
          refine lv_iload_n hx hb dX11_layOut_82 rfl (lv_at hl 1 rfl) ?_
          refine lv_aload_n hx hb dX11_layOut_83 rfl (lv_at hl 0 rfl) ?_
          refine lv_iload_n hx hb dX11_layOut_84 rfl (lv_at hl 2 rfl) ?_
          refine lv_iload_n hx hb dX11_layOut_85 rfl (lv_at hl 1 rfl) ?_
          obtain ⟨hv24, h⟩ := h
          have hFc := cfree hR hA
          refine va_calli (va_runV (As := [.int v53_2, .int v53_1]) (rest := [.int v53_1]) ⟨hx, hb, hml, hown, hts⟩ (rX11_lengthOf l g ak21 H.size S23 v53_2 v53_1 hR.w  hv24) (cwV 2 hts (gd_V kw_183 kw_195 kw_196 kw_83 kw_194) rfl rfl rfl (by decide +kernel) ⟨Nat.le_of_ble_eq_true rfl, Nat.le_of_ble_eq_true rfl⟩) ⟨cblind, va_recv hR.K hR.P (ci := 10) (q0 := 25) rfl (hR.at50 (hR.w.2.1 _ finC_28).2.1), fun U hU hW9 => cmk hU hW9 hR hex hE hFc⟩ rfl rfl hl.1 rfl (lv_room (Nat.le_of_ble_eq_true rfl)) dX11_layOut_86 ⟨(show dc53 + dc_ak21 + 0 ≤ KCC - qn S from hlg.c), (show ds53 + ds_ak21 + 0 ≤ KSC - qu S from hlg.s)⟩) hR.sS (fun q _ h => hFc q h) hFc (fun r25 u9 t9 H1 locs ht9 hvm9 hw9 hB9 hz9 hk9 hS => ?_)
          have hR : RepC g ak21 A s S23 H1 locs := hR.call ht9 hB9 hR.w hS hFc
          obtain rfl : r25 = (fX11_lengthOf S23 v53_2 v53_1) := hw9
          clear hB9 hz9 hk9 hvm9 ht9 hS
          generalize H1 = H at hR ⊢
          refine lv_iadd hx hb dX11_layOut_89 ?_
          refine lv_topi (fun z27 ez27 => ?_)
          obtain rfl : z27 = (v53_1 + (fX11_lengthOf S23 v53_2 v53_1)) := ez27
          obtain ⟨a28, ea28⟩ : ∃ z, z = (v53_1 + (fX11_lengthOf S23 v53_2 v53_1)) := ⟨_, rfl⟩
          rw [← ea28]
          replace h := h a28 ea28
          refine lv_istore_n (lv' := [(1, .int a28), (0, .ref (ak21 25)), (2, .int v53_2)]) hx hb dX11_layOut_90 rfl hl (by decide) rfl (fun ls hl => ?_)
          obtain ⟨a29, ea29⟩ : ∃ z, z = (v53_2 + Int32.ofInt 1) := ⟨_, rfl⟩
          replace h := h a29 ea29
          refine lv_iinc (v := a29) (lv' := [(2, .int a29), (1, .int a28), (0, .ref (ak21 25))]) hx hb dX11_layOut_91 hl (k := 2) rfl ea29.symm (by decide) rfl (fun ls hl => ?_)
          refine lv_goto (tgt := 53) hx hb dX11_layOut_94 (by decide) ?_
          exact ih_53 ak21 (dc53 + dc_ak21) (ds53 + ds_ak21) S23 a28 a29 _ _ ls h  hsh hlg hak hE hR (lv_sub hl [2, 1, 0] rfl)
    obtain ⟨n9, h⟩ := h
    exact J_53 n9 ad49 (dc49) (ds49) U49 0 0 _ _ ls h  hsh hlg hak hE hR (lv_sub hl [2, 1, 0] rfl)
  refine lv_icmp_gt (tgt := 49) hx hb dX11_layOut_12 (by decide) (fun c30 => ?_) (fun c30 => ?_)
  · replace h := h.1 (k_lt rfl hln2 c30)
    exact J_49 ad (0) (0) S _ _ ls h  hsh hlg hak hE hR (lv_sub hl [0] rfl)
  · replace h := h.2 (k_nlt rfl hln2 c30)
    refine lv_aload_n hx hb dX11_layOut_15 rfl (lv_at hl 0 rfl) ?_
    refine lv_iconst (v := 2) hx hb dX11_layOut_16 (by decide) ?_
    refine lv_aload_n hx hb dX11_layOut_17 rfl (lv_at hl 0 rfl) ?_
    obtain ⟨hv32, h⟩ := h
    have hT_b31 : qT S (qO S 25 15) = 47 := hR.w.ref hv32 (hR.w.2.1 _ finC_28).2.1
    refine va_get (D := rD g) (ci := 10) (v := .ref (ad (qO S 25 15))) (C := RX11) (T := TX11) (N := 18) hx hb hts inX11 hown hR.K hR.P 25 (hR.at50 (hR.w.2.1 _ finC_28).2.1) rfl 15 (by decide) (hts _ kw_84) (fun _ h9 => h9) (congrArg (fun z => some (vf ad z)) hv32) dX11_layOut_18 ?_
    refine va_get (D := rD g) (ci := 7) (v := .int (qI S (qO S 25 15) 2)) (C := RX8) (T := TX8) (N := 15) hx hb hts inX8 hown hR.K hR.P (qO S 25 15) (hR.at47 hT_b31) rfl 2 (by decide) (hts _ kw_102) (fun _ h9 => h9) rfl dX11_layOut_21 ?_
    refine lv_imul hx hb dX11_layOut_24 ?_
    refine lv_topi (fun z33 ez33 => ?_)
    obtain rfl : z33 = ((2 : Int32) * (qI S (qO S 25 15) 2)) := ez33
    refine lv_iconst (v := 2) hx hb dX11_layOut_25 (by decide) ?_
    refine lv_iadd hx hb dX11_layOut_26 ?_
    refine lv_topi (fun z34 ez34 => ?_)
    obtain rfl : z34 = (((2 : Int32) * (qI S (qO S 25 15) 2)) + (2 : Int32)) := ez34
    obtain ⟨hv35, h⟩ := h
    have e9 : KCC = 300000 := rfl
    have e8 : KSC = 3553400 := rfl
    have e7 : TXB = 10000000 := rfl
    have hTX : qn S < TXB := by have := hv35.2.1; omega
    refine va_newa (atype := .int) (ty := .int) (a0 := ((((2 : Int32) * (qI S (qO S 25 15) 2)) + (2 : Int32)).toInt.toNat, .inl (fun _ => 0))) (N' := (((2 : Int32) * (qI S (qO S 25 15) 2)) + (2 : Int32)).toInt.toNat) hx hb (hts (.arrayClass .int) kw_51) rfl hR.K hR.P hR.D hR.sS hA (fun _ => rfl) (fun q9 => absurd (k_lt (b := 0) rfl (by decide) q9) (Int.not_lt.mpr hv35.1)) rfl (by show ((((2 : Int32) * (qI S (qO S 25 15) 2)) + (2 : Int32)).toInt.toNat) * 4 ≤ 536870912; have := hv35.2.2; omega) (show 0 + 1 ≤ KCC - qn S from hlg.c1 hv35.2.1) (show 0 + ((((2 : Int32) * (qI S (qO S 25 15) 2)) + (2 : Int32)).toInt.toNat) ≤ KSC - qu S from hlg.s1 hv35.2.2) dX11_layOut_27 (fun q36 cA9 H hK9 hP hD hS => ?_)
    obtain rfl := cls_new3 hR.K hK9 (k := 1) rfl (fun _ h => by cases h)
    have hw8 := hR.w
    have hR := hR.new (t := 245) (n := (((2 : Int32) * (qI S (qO S 25 15) 2)) + (2 : Int32)).toInt.toNat) (k := (((2 : Int32) * (qI S (qO S 25 15) 2)) + (2 : Int32)).toInt.toNat) hTX (by decide) (by have := hv35.2.2; omega) (wN_CI (by decide)) hP hD hS
    have hk8 : adk ad (adx ad (qn S) q36) S := adk.rf.new (Nat.le_refl _) hTX
    have hak := hak.new (q := q36) hlg.2.2.1 hTX
    have hE := hE.ad hk8
    have hlg : lgC S (wN S 245 ((((2 : Int32) * (qI S (qO S 25 15) 2)) + (2 : Int32)).toInt.toNat) ((((2 : Int32) * (qI S (qO S 25 15) 2)) + (2 : Int32)).toInt.toNat)) (0 + 1) (0 + ((((2 : Int32) * (qI S (qO S 25 15) 2)) + (2 : Int32)).toInt.toNat)) := hlg.new (t := 245) (n := (((2 : Int32) * (qI S (qO S 25 15) 2)) + (2 : Int32)).toInt.toNat) ⟨hv35.2.1, hv35.2.2⟩
    have hs8 : shx S (wN S 245 ((((2 : Int32) * (qI S (qO S 25 15) 2)) + (2 : Int32)).toInt.toNat) ((((2 : Int32) * (qI S (qO S 25 15) 2)) + (2 : Int32)).toInt.toNat)) := shx.newC (t := 245) (n := (((2 : Int32) * (qI S (qO S 25 15) 2)) + (2 : Int32)).toInt.toNat) (k := (((2 : Int32) * (qI S (qO S 25 15) 2)) + (2 : Int32)).toInt.toNat) shx.rf hw8 hTX
    obtain ⟨am37, eam37⟩ : ∃ z, z = adx ad (qn S) q36 := ⟨_, rfl⟩
    have eq_q36 : am37 (qn S) = q36 := by rw [eam37]; exact if_pos rfl
    rw [← eam37] at hR hk8 hak hE
    obtain ⟨S38, eS38⟩ : ∃ z, z = wN S 245 ((((2 : Int32) * (qI S (qO S 25 15) 2)) + (2 : Int32)).toInt.toNat) ((((2 : Int32) * (qI S (qO S 25 15) 2)) + (2 : Int32)).toInt.toNat) := ⟨_, rfl⟩
    rw [← eS38] at hR hlg hs8
    replace h := h S38 eS38 hR.w
    have hsh := hsh.tr hs8
    have hT_b39 : qT S38 (qn S) = 245 := by rw [eS38]; exact if_pos rfl
    have ea_0 : am37 25 = ad 25 := hk8 _ (hw8.hd (hw8.2.1 _ finC_28).2.1 (by decide) (by decide))
    have hl : lv_has ls 3 [(0, .ref (am37 25))] := by simp only [ea_0]; exact hl
    refine W.eq (g2 := F0 m 29 ls [.ref (am37 (qn S)), .ref (am37 25)]) (by simp only [ea_0, eq_q36]) ?_
    clear hw8 hk8 hs8 hP hD hS e9 e8 e7 hTX
    refine va_put (D := rD g) (ci := 10) (v := .ref (am37 (qn S))) (ty := (.array .int)) (C := RX11) (T := TX11) (N := 18) hx hb hts inX11 tyX11 tyX11_ok nmX11 hown hR.K hR.P hR.D hR.sS 25 (hR.at50 (hR.w.2.1 _ finC_28).2.1) rfl 17 (by decide) (hts _ kw_169) (fun _ h9 => h9) rfl (by decide +kernel) rfl rfl (Nat.le_of_ble_eq_true rfl) dX11_layOut_29 (fun H locs hP hD hS => ?_)
    have hw9 : wfC (wR S38 25 17 (some (qn S))) := hR.w.put (fun b q9 => by cases q9; exact (hT_b39).trans (by rw [(hR.w.2.1 _ finC_28).2.1]; rfl)) (nofC_25_17) (by rw [(hR.w.2.1 _ finC_28).2.1]; decide) (fun b _ q9 => absurd (show otgC (qT S38 25) 17 = 0 by rw [(hR.w.2.1 _ finC_28).2.1]; decide) q9) (fun _ => Option.some_ne_none _)
    have hTk9 : qT S38 25 = 50 := (hR.w.2.1 _ finC_28).2.1
    have hR : RepC g am37 A s (wR S38 25 17 (some (qn S))) H locs := hR.pR50 (hR.w.2.1 _ finC_28).2.1 FX11_s17 hw9 hP hD hS
    obtain ⟨S40, eS40⟩ : ∃ z, z = wR S38 25 17 (some (qn S)) := ⟨_, rfl⟩
    rw [← eS40] at hR
    replace h := h S40 eS40 hTk9 hR.w
    have hsh : shx S S40 := by rw [eS40]; exact hsh
    have hlg : lgC S S40 (0 + 1) (0 + ((((2 : Int32) * (qI S (qO S 25 15) 2)) + (2 : Int32)).toInt.toNat)) := by rw [eS40]; exact hlg
    refine lv_aload_n hx hb dX11_layOut_32 rfl (lv_at hl 0 rfl) ?_
    refine lv_iconst (v := 2) hx hb dX11_layOut_33 (by decide) ?_
    refine lv_aload_n hx hb dX11_layOut_34 rfl (lv_at hl 0 rfl) ?_
    obtain ⟨hv42, h⟩ := h
    have hT_b41 : qT S40 (qO S40 25 15) = 47 := hR.w.ref hv42 (hR.w.2.1 _ finC_28).2.1
    refine va_get (D := rD g) (ci := 10) (v := .ref (am37 (qO S40 25 15))) (C := RX11) (T := TX11) (N := 18) hx hb hts inX11 hown hR.K hR.P 25 (hR.at50 (hR.w.2.1 _ finC_28).2.1) rfl 15 (by decide) (hts _ kw_84) (fun _ h9 => h9) (congrArg (fun z => some (vf am37 z)) hv42) dX11_layOut_35 ?_
    refine va_get (D := rD g) (ci := 7) (v := .int (qI S40 (qO S40 25 15) 2)) (C := RX8) (T := TX8) (N := 15) hx hb hts inX8 hown hR.K hR.P (qO S40 25 15) (hR.at47 hT_b41) rfl 2 (by decide) (hts _ kw_102) (fun _ h9 => h9) rfl dX11_layOut_38 ?_
    refine lv_imul hx hb dX11_layOut_41 ?_
    refine lv_topi (fun z43 ez43 => ?_)
    obtain rfl : z43 = ((2 : Int32) * (qI S40 (qO S40 25 15) 2)) := ez43
    refine lv_iconst (v := 2) hx hb dX11_layOut_42 (by decide) ?_
    refine lv_iadd hx hb dX11_layOut_43 ?_
    refine lv_topi (fun z44 ez44 => ?_)
    obtain rfl : z44 = (((2 : Int32) * (qI S40 (qO S40 25 15) 2)) + (2 : Int32)) := ez44
    obtain ⟨hv45, h⟩ := h
    have e9 : KCC = 300000 := rfl
    have e8 : KSC = 3553400 := rfl
    have e7 : TXB = 10000000 := rfl
    have hTX : qn S40 < TXB := by have := hv45.2.1; omega
    refine va_newa (atype := .int) (ty := .int) (a0 := ((((2 : Int32) * (qI S40 (qO S40 25 15) 2)) + (2 : Int32)).toInt.toNat, .inl (fun _ => 0))) (N' := (((2 : Int32) * (qI S40 (qO S40 25 15) 2)) + (2 : Int32)).toInt.toNat) hx hb (hts (.arrayClass .int) kw_51) rfl hR.K hR.P hR.D hR.sS hA (fun _ => rfl) (fun q9 => absurd (k_lt (b := 0) rfl (by decide) q9) (Int.not_lt.mpr hv45.1)) rfl (by show ((((2 : Int32) * (qI S40 (qO S40 25 15) 2)) + (2 : Int32)).toInt.toNat) * 4 ≤ 536870912; have := hv45.2.2; omega) (show 0 + 1 + 1 ≤ KCC - qn S from hlg.c1 hv45.2.1) (show 0 + ((((2 : Int32) * (qI S (qO S 25 15) 2)) + (2 : Int32)).toInt.toNat) + ((((2 : Int32) * (qI S40 (qO S40 25 15) 2)) + (2 : Int32)).toInt.toNat) ≤ KSC - qu S from hlg.s1 hv45.2.2) dX11_layOut_44 (fun q46 cA9 H hK9 hP hD hS => ?_)
    obtain rfl := cls_new3 hR.K hK9 (k := 1) rfl (fun _ h => by cases h)
    have hw8 := hR.w
    have hR := hR.new (t := 244) (n := (((2 : Int32) * (qI S40 (qO S40 25 15) 2)) + (2 : Int32)).toInt.toNat) (k := (((2 : Int32) * (qI S40 (qO S40 25 15) 2)) + (2 : Int32)).toInt.toNat) hTX (by decide) (by have := hv45.2.2; omega) (wN_CI (by decide)) hP hD hS
    have hk8 : adk am37 (adx am37 (qn S40) q46) S40 := adk.rf.new (Nat.le_refl _) hTX
    have hak := hak.new (q := q46) hlg.2.2.1 hTX
    have hE := hE.ad hk8
    have hlg : lgC S (wN S40 244 ((((2 : Int32) * (qI S40 (qO S40 25 15) 2)) + (2 : Int32)).toInt.toNat) ((((2 : Int32) * (qI S40 (qO S40 25 15) 2)) + (2 : Int32)).toInt.toNat)) (0 + 1 + 1) (0 + ((((2 : Int32) * (qI S (qO S 25 15) 2)) + (2 : Int32)).toInt.toNat) + ((((2 : Int32) * (qI S40 (qO S40 25 15) 2)) + (2 : Int32)).toInt.toNat)) := hlg.new (t := 244) (n := (((2 : Int32) * (qI S40 (qO S40 25 15) 2)) + (2 : Int32)).toInt.toNat) ⟨hv45.2.1, hv45.2.2⟩
    have hs8 : shx S40 (wN S40 244 ((((2 : Int32) * (qI S40 (qO S40 25 15) 2)) + (2 : Int32)).toInt.toNat) ((((2 : Int32) * (qI S40 (qO S40 25 15) 2)) + (2 : Int32)).toInt.toNat)) := shx.newC (t := 244) (n := (((2 : Int32) * (qI S40 (qO S40 25 15) 2)) + (2 : Int32)).toInt.toNat) (k := (((2 : Int32) * (qI S40 (qO S40 25 15) 2)) + (2 : Int32)).toInt.toNat) shx.rf hw8 hTX
    obtain ⟨am47, eam47⟩ : ∃ z, z = adx am37 (qn S40) q46 := ⟨_, rfl⟩
    have eq_q46 : am47 (qn S40) = q46 := by rw [eam47]; exact if_pos rfl
    rw [← eam47] at hR hk8 hak hE
    obtain ⟨S48, eS48⟩ : ∃ z, z = wN S40 244 ((((2 : Int32) * (qI S40 (qO S40 25 15) 2)) + (2 : Int32)).toInt.toNat) ((((2 : Int32) * (qI S40 (qO S40 25 15) 2)) + (2 : Int32)).toInt.toNat) := ⟨_, rfl⟩
    rw [← eS48] at hR hlg hs8
    replace h := h S48 eS48 hR.w
    have hsh := hsh.tr hs8
    have hT_b49 : qT S48 (qn S40) = 244 := by rw [eS48]; exact if_pos rfl
    have ea_0 : am47 25 = am37 25 := hk8 _ (hw8.hd (hw8.2.1 _ finC_28).2.1 (by decide) (by decide))
    have hl : lv_has ls 3 [(0, .ref (am47 25))] := by simp only [ea_0]; exact hl
    refine W.eq (g2 := F0 m 46 ls [.ref (am47 (qn S40)), .ref (am47 25)]) (by simp only [ea_0, eq_q46]) ?_
    clear hw8 hk8 hs8 hP hD hS e9 e8 e7 hTX
    refine va_put (D := rD g) (ci := 10) (v := .ref (am47 (qn S40))) (ty := (.array .int)) (C := RX11) (T := TX11) (N := 18) hx hb hts inX11 tyX11 tyX11_ok nmX11 hown hR.K hR.P hR.D hR.sS 25 (hR.at50 (hR.w.2.1 _ finC_28).2.1) rfl 16 (by decide) (hts _ kw_168) (fun _ h9 => h9) rfl (by decide +kernel) rfl rfl (Nat.le_of_ble_eq_true rfl) dX11_layOut_46 (fun H locs hP hD hS => ?_)
    have hw9 : wfC (wR S48 25 16 (some (qn S40))) := hR.w.put (fun b q9 => by cases q9; exact (hT_b49).trans (by rw [(hR.w.2.1 _ finC_28).2.1]; rfl)) (nofC_25_16) (by rw [(hR.w.2.1 _ finC_28).2.1]; decide) (fun b _ q9 => absurd (show otgC (qT S48 25) 16 = 0 by rw [(hR.w.2.1 _ finC_28).2.1]; decide) q9) (fun _ => Option.some_ne_none _)
    have hTk9 : qT S48 25 = 50 := (hR.w.2.1 _ finC_28).2.1
    have hR : RepC g am47 A s (wR S48 25 16 (some (qn S40))) H locs := hR.pR50 (hR.w.2.1 _ finC_28).2.1 FX11_s16 hw9 hP hD hS
    obtain ⟨S50, eS50⟩ : ∃ z, z = wR S48 25 16 (some (qn S40)) := ⟨_, rfl⟩
    rw [← eS50] at hR
    replace h := h S50 eS50 hTk9 hR.w
    have hsh : shx S S50 := by rw [eS50]; exact hsh
    have hlg : lgC S S50 (0 + 1 + 1) (0 + ((((2 : Int32) * (qI S (qO S 25 15) 2)) + (2 : Int32)).toInt.toNat) + ((((2 : Int32) * (qI S40 (qO S40 25 15) 2)) + (2 : Int32)).toInt.toNat)) := by rw [eS50]; exact hlg
    exact J_49 am47 (0 + 1 + 1) (0 + ((((2 : Int32) * (qI S (qO S 25 15) 2)) + (2 : Int32)).toInt.toNat) + ((((2 : Int32) * (qI S40 (qO S40 25 15) 2)) + (2 : Int32)).toInt.toNat)) S50 _ _ ls h  hsh hlg hak hE hR (lv_sub hl [0] rfl)
