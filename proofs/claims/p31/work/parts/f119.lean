def w_X9_findMarked_L80 (Q : MS → Prop) : Nat → MS → Int32 → Prop
  | 0, _, _ => False
  | n80 + 1, U80, v80_1 => (wfC U80 → (((qI U80 (qO U80 66 0) 9).toInt ≤ v80_1.toInt → Q U80) ∧ (¬ (qI U80 (qO U80 66 0) 9).toInt ≤ v80_1.toInt → ((qR U80 (qO U80 66 0) 5 = some (qO U80 (qO U80 66 0) 5)) ∧ (((0 : Int) ≤ v80_1.toInt ∧ v80_1.toInt < (qN U80 (qO U80 (qO U80 66 0) 5) : Int)) ∧ (∃ Q13, wX9_mark U80 (qI U80 (qO U80 (qO U80 66 0) 5) v80_1.toInt.toNat) Q13 ∧ ∀ S14, Q13 S14 → wfC S14 → shy U80 S14 → ((qR S14 (qO S14 66 0) 6 = some (qO S14 (qO S14 66 0) 6)) ∧ (((0 : Int) ≤ v80_1.toInt ∧ v80_1.toInt < (qN S14 (qO S14 (qO S14 66 0) 6) : Int)) ∧ (∃ Q21, wX9_mark S14 (qI S14 (qO S14 (qO S14 66 0) 6) v80_1.toInt.toNat) Q21 ∧ ∀ S22, Q21 S22 → wfC S22 → shy S14 S22 → ((qR S22 (qO S22 66 0) 7 = some (qO S22 (qO S22 66 0) 7)) ∧ (((0 : Int) ≤ v80_1.toInt ∧ v80_1.toInt < (qN S22 (qO S22 (qO S22 66 0) 7) : Int)) ∧ (∃ Q29, wX9_mark S22 (qI S22 (qO S22 (qO S22 66 0) 7) v80_1.toInt.toNat) Q29 ∧ ∀ S30, Q29 S30 → wfC S30 → shy S22 S30 → (∀ a32 : Int32, a32 = (v80_1 + Int32.ofInt 1) → (w_X9_findMarked_L80 Q n80) S30 a32)))))))))))))
def w_X9_findMarked_L48 (Q : MS → Prop) (k26 : MS → Int32 → Prop) : Nat → MS → Int32 → Int32 → Int32 → Prop
  | 0, _, _, _, _ => False
  | n48 + 1, U48, v48_1, v48_2, v48_3 => (wfC U48 → ((v48_2.toInt ≤ v48_3.toInt → (∀ a39 : Int32, a39 = (v48_1 + Int32.ofInt 1) → k26 U48 a39)) ∧ (¬ v48_2.toInt ≤ v48_3.toInt → (d_X8_targetAt U48 (qO U48 66 0) v48_1 v48_3 ∧ (∀ a44 : Int32, a44 = (fX8_targetAt U48 (qO U48 66 0) v48_1 v48_3) → (∃ Q45, wX9_mark U48 a44 Q45 ∧ ∀ S46, Q45 S46 → wfC S46 → shy U48 S46 → (∀ a48 : Int32, a48 = (v48_3 + Int32.ofInt 1) → (w_X9_findMarked_L48 Q k26 n48) S46 v48_1 v48_2 a48)))))))
def w_X9_findMarked_L26 (Q : MS → Prop) : Nat → MS → Int32 → Prop
  | 0, _, _ => False
  | n26 + 1, U26, v26_1 => (wfC U26 → (((qI U26 (qO U26 66 0) 2).toInt ≤ v26_1.toInt → (∃ n, w_X9_findMarked_L80 Q n U26 0)) ∧ (¬ (qI U26 (qO U26 66 0) 2).toInt ≤ v26_1.toInt → (d_X8_targetCount U26 (qO U26 66 0) v26_1 ∧ (∀ a37 : Int32, a37 = (fX8_targetCount U26 (qO U26 66 0) v26_1) → (∃ n, w_X9_findMarked_L48 Q (w_X9_findMarked_L26 Q n26) n U26 v26_1 a37 0))))))
def w_X9_findMarked_L2 (Q : MS → Prop) : Nat → MS → Int32 → Prop
  | 0, _, _ => False
  | n2 + 1, U2, v2_1 => (wfC U2 → (((qN U2 (qO U2 66 2) : Int) ≤ v2_1.toInt → (∃ n, w_X9_findMarked_L26 Q n U2 0)) ∧ (¬ (qN U2 (qO U2 66 2) : Int) ≤ v2_1.toInt → (((0 : Int) ≤ v2_1.toInt ∧ v2_1.toInt < (qN U2 (qO U2 66 2) : Int)) ∧ (∀ S51, S51 = wI U2 (qO U2 66 2) v2_1.toInt.toNat (vp_nar .boolean (0 : Int32)) → qT U2 (qO U2 66 2) = 305 → wfC S51 → (∀ a52 : Int32, a52 = (v2_1 + Int32.ofInt 1) → (w_X9_findMarked_L2 Q n2) S51 a52))))))
def wX9_findMarked (S : MS) (Q : MS → Prop) : Prop := (∃ n, w_X9_findMarked_L2 Q n S 0)
set_option maxHeartbeats 2000000 in
set_option maxRecDepth 100000 in
theorem rX9_findMarked (l : Launch) (g : Gr) (ad : Nat → Nat) (sz : Nat) (S : MS) (hw : wfC S) (Q : MS → Prop) (h : wX9_findMarked S Q) : Met l yX9_findMarked (wt yX9_findMarked cX9_findMarked 4 none) ({ frames := 2, cells := 0, slots := 0, locals := 43 }) (va_Pc [.ref (ad 66)] (st_C g ad sz S)) (va_Qv (fun (u : MS) => Q u ∧ wfC u ∧ shy S u) (fun (u : MS) (t : State) => qEC g ad (va_A (WdC g ad S) sz) u t) (va_A (WdC g ad S) sz)) 0 0 (va_A (WdC g ad S) sz) := by
  refine Met.ofW (cc := cX9_findMarked) (maxL := 4) (ret := none) (by decide) rfl ?_
  intro p e s m args below meth c s₁ B hml hv
  obtain ⟨rfl, hsz, hP, hK, hD0, hex, hE⟩ := hv
  have hx := B.exec
  have hb := B.bytes
  have hr := B.returns
  have hts0 := atoms_spec (ws := wt yX9_findMarked cX9_findMarked 4 none) B.pre
  have hts : ∀ w ∈ tb, w.before _ s = true := fun w h => hts0 w (List.mem_cons_of_mem _ h)
  have hown : s.vm.findClass RX9 = some m.cls := findClass_of_methodNamed B.named
  subst hsz
  have hD := hD0.self (sz := s.heap.size)
  generalize hAe : va_A (WdC g ad S) s.heap.size = A at hD hE ⊢
  have hA : ∀ q : Nat, s.heap.size ≤ q → A q := fun q h => by rw [← hAe]; exact Or.inr h
  have hR : RepC g ad A s S s.heap [] := ⟨hK, hP, hD, va_S.rf, hw⟩
  clear hK hP hD hD0
  have hl := lv_entry ([.ref (ad 66)]) (n := 4) (Nat.le_of_ble_eq_true rfl)
  rw [lg_entry_eq]
  generalize (lg_sl ([.ref (ad 66)]) ++ List.replicate (4 - (lg_sl ([.ref (ad 66)])).length) Slot.unset).toArray = ls at hl ⊢
  have hl : lv_has ls 4 [(0, .ref (ad 66))] := hl
  have hsh : shy S S := shy.rf
  unfold wX9_findMarked at h
  refine lv_iconst (v := 0) hx hb dX9_findMarked_0 (by decide) ?_
  refine lv_istore_n (lv' := [(1, .int 0), (0, .ref (ad 66))]) hx hb dX9_findMarked_1 rfl hl (by decide) rfl (fun ls hl => ?_)
  have J_2 : ∀ (n2 : Nat) (U2 : MS) (v2_1 : Int32) (H : Heap) (locs : List Loc) (ls : Array Slot), w_X9_findMarked_L2 Q n2 U2 v2_1 → shy S U2 → RepC g ad A s U2 H locs → lv_has ls 4 [(0, .ref (ad 66)), (1, .int v2_1)] → W p l e (headSpec (wt yX9_findMarked cX9_findMarked 4 none) ({ frames := 2, cells := 0, slots := 0, locals := 43 })).room s m ([.ref (ad 66)] : List Value).toArray below meth c H locs 0 0 (MQ below (va_Qv (fun (u : MS) => Q u ∧ wfC u ∧ shy S u) (fun (u : MS) (t : State) => qEC g ad A u t) A) ([.ref (ad 66)] : List Value).toArray s 0 0 A) (F0 m 2 ls []) := by
    intro n2
    induction n2 with
    | zero => intro U2 v2_1 H locs ls h hsh hR hl; unfold w_X9_findMarked_L2 at h; exact h.elim
    | succ n2 ih_2 =>
      intro U2 v2_1 H locs ls h hsh hR hl
      unfold w_X9_findMarked_L2 at h
      replace h := h hR.w
      refine lv_iload_n hx hb dX9_findMarked_2 rfl (lv_at hl 1 rfl) ?_
      refine lv_aload_n hx hb dX9_findMarked_3 rfl (lv_at hl 0 rfl) ?_
      have hT_b1 : qT U2 (qO U2 66 2) = 305 := hR.w.ref (hR.w.ptr ptrC_35) (hR.w.2.1 _ finC_31).2.1
      refine va_get (D := rD g) (ci := 8) (v := .ref (ad (qO U2 66 2))) (C := RX9) (T := TX9) (N := 6) hx hb hts inX9 hown hR.K hR.P 66 (hR.at48 (hR.w.2.1 _ finC_31).2.1) rfl 2 (by decide) (hts _ kw_1566) (fun _ h9 => h9) (congrArg (fun z => some (vf ad z)) (hR.w.ptr ptrC_35)) dX9_findMarked_4 ?_
      refine va_alen (v := (Int32.ofNat (qN U2 (qO U2 66 2)))) hx hb hR.K hR.P (qO U2 66 2) 2 (hR.atZ hT_b1 (by decide)) rfl rfl dX9_findMarked_7 ?_
      have hln2 : (Int32.ofNat (qN U2 (qO U2 66 2))).toInt = (qN U2 (qO U2 66 2) : Int) := toI_len (hR.w.len9 (hT_b1) (by decide))
      refine lv_icmp_ge (tgt := 24) hx hb dX9_findMarked_8 (by decide) (fun c3 => ?_) (fun c3 => ?_)
      · replace h := h.1 (k_le hln2 rfl c3)
        refine lv_iconst (v := 0) hx hb dX9_findMarked_24 (by decide) ?_
        refine lv_istore_n (lv' := [(1, .int 0), (0, .ref (ad 66))]) hx hb dX9_findMarked_25 rfl hl (by decide) rfl (fun ls hl => ?_)
        have J_26 : ∀ (n26 : Nat) (U26 : MS) (v26_1 : Int32) (H : Heap) (locs : List Loc) (ls : Array Slot), w_X9_findMarked_L26 Q n26 U26 v26_1 → shy S U26 → RepC g ad A s U26 H locs → lv_has ls 4 [(0, .ref (ad 66)), (1, .int v26_1)] → W p l e (headSpec (wt yX9_findMarked cX9_findMarked 4 none) ({ frames := 2, cells := 0, slots := 0, locals := 43 })).room s m ([.ref (ad 66)] : List Value).toArray below meth c H locs 0 0 (MQ below (va_Qv (fun (u : MS) => Q u ∧ wfC u ∧ shy S u) (fun (u : MS) (t : State) => qEC g ad A u t) A) ([.ref (ad 66)] : List Value).toArray s 0 0 A) (F0 m 26 ls []) := by
          intro n26
          induction n26 with
          | zero => intro U26 v26_1 H locs ls h hsh hR hl; unfold w_X9_findMarked_L26 at h; exact h.elim
          | succ n26 ih_26 =>
            intro U26 v26_1 H locs ls h hsh hR hl
            unfold w_X9_findMarked_L26 at h
            replace h := h hR.w
            refine lv_iload_n hx hb dX9_findMarked_26 rfl (lv_at hl 1 rfl) ?_
            refine lv_aload_n hx hb dX9_findMarked_27 rfl (lv_at hl 0 rfl) ?_
            have hT_b4 : qT U26 (qO U26 66 0) = 47 := hR.w.ref (hR.w.ptr ptrC_39) (hR.w.2.1 _ finC_31).2.1
            refine va_get (D := rD g) (ci := 8) (v := .ref (ad (qO U26 66 0))) (C := RX9) (T := TX9) (N := 6) hx hb hts inX9 hown hR.K hR.P 66 (hR.at48 (hR.w.2.1 _ finC_31).2.1) rfl 0 (by decide) (hts _ kw_1552) (fun _ h9 => h9) (congrArg (fun z => some (vf ad z)) (hR.w.ptr ptrC_39)) dX9_findMarked_28 ?_
            refine va_get (D := rD g) (ci := 7) (v := .int (qI U26 (qO U26 66 0) 2)) (C := RX8) (T := TX8) (N := 15) hx hb hts inX8 hown hR.K hR.P (qO U26 66 0) (hR.at47 hT_b4) rfl 2 (by decide) (hts _ kw_1553) (fun _ h9 => h9) rfl dX9_findMarked_31 ?_
            refine lv_icmp_ge (tgt := 78) hx hb dX9_findMarked_34 (by decide) (fun c5 => ?_) (fun c5 => ?_)
            · replace h := h.1 (k_le rfl rfl c5)
              refine lv_iconst (v := 0) hx hb dX9_findMarked_78 (by decide) ?_
              refine lv_istore_n (lv' := [(1, .int 0), (0, .ref (ad 66))]) hx hb dX9_findMarked_79 rfl hl (by decide) rfl (fun ls hl => ?_)
              have J_80 : ∀ (n80 : Nat) (U80 : MS) (v80_1 : Int32) (H : Heap) (locs : List Loc) (ls : Array Slot), w_X9_findMarked_L80 Q n80 U80 v80_1 → shy S U80 → RepC g ad A s U80 H locs → lv_has ls 4 [(0, .ref (ad 66)), (1, .int v80_1)] → W p l e (headSpec (wt yX9_findMarked cX9_findMarked 4 none) ({ frames := 2, cells := 0, slots := 0, locals := 43 })).room s m ([.ref (ad 66)] : List Value).toArray below meth c H locs 0 0 (MQ below (va_Qv (fun (u : MS) => Q u ∧ wfC u ∧ shy S u) (fun (u : MS) (t : State) => qEC g ad A u t) A) ([.ref (ad 66)] : List Value).toArray s 0 0 A) (F0 m 80 ls []) := by
                intro n80
                induction n80 with
                | zero => intro U80 v80_1 H locs ls h hsh hR hl; unfold w_X9_findMarked_L80 at h; exact h.elim
                | succ n80 ih_80 =>
                  intro U80 v80_1 H locs ls h hsh hR hl
                  unfold w_X9_findMarked_L80 at h
                  replace h := h hR.w
                  refine lv_iload_n hx hb dX9_findMarked_80 rfl (lv_at hl 1 rfl) ?_
                  refine lv_aload_n hx hb dX9_findMarked_81 rfl (lv_at hl 0 rfl) ?_
                  have hT_b6 : qT U80 (qO U80 66 0) = 47 := hR.w.ref (hR.w.ptr ptrC_39) (hR.w.2.1 _ finC_31).2.1
                  refine va_get (D := rD g) (ci := 8) (v := .ref (ad (qO U80 66 0))) (C := RX9) (T := TX9) (N := 6) hx hb hts inX9 hown hR.K hR.P 66 (hR.at48 (hR.w.2.1 _ finC_31).2.1) rfl 0 (by decide) (hts _ kw_1552) (fun _ h9 => h9) (congrArg (fun z => some (vf ad z)) (hR.w.ptr ptrC_39)) dX9_findMarked_82 ?_
                  refine va_get (D := rD g) (ci := 7) (v := .int (qI U80 (qO U80 66 0) 9)) (C := RX8) (T := TX8) (N := 15) hx hb hts inX8 hown hR.K hR.P (qO U80 66 0) (hR.at47 hT_b6) rfl 9 (by decide) (hts _ kw_1570) (fun _ h9 => h9) rfl dX9_findMarked_85 ?_
                  refine lv_icmp_ge (tgt := 136) hx hb dX9_findMarked_88 (by decide) (fun c7 => ?_) (fun c7 => ?_)
                  · replace h := h.1 (k_le rfl rfl c7)
                    exact W.vret hx hb hr (fun t9 ht9 hW9 => ⟨⟨U80, rfl, ⟨h, hR.w, hsh⟩, ⟨by rw [ht9]; exact hR.P, hR.D⟩⟩, hR.sS.F ht9⟩) hR.sS.2.2 dX9_findMarked_136
                  · replace h := h.2 (k_nle rfl rfl c7)
                    refine lv_aload_n hx hb dX9_findMarked_91 rfl (lv_at hl 0 rfl) ?_
                    refine lv_aload_n hx hb dX9_findMarked_92 rfl (lv_at hl 0 rfl) ?_
                    have hT_b8 : qT U80 (qO U80 66 0) = 47 := hR.w.ref (hR.w.ptr ptrC_39) (hR.w.2.1 _ finC_31).2.1
                    refine va_get (D := rD g) (ci := 8) (v := .ref (ad (qO U80 66 0))) (C := RX9) (T := TX9) (N := 6) hx hb hts inX9 hown hR.K hR.P 66 (hR.at48 (hR.w.2.1 _ finC_31).2.1) rfl 0 (by decide) (hts _ kw_1552) (fun _ h9 => h9) (congrArg (fun z => some (vf ad z)) (hR.w.ptr ptrC_39)) dX9_findMarked_93 ?_
                    obtain ⟨hv10, h⟩ := h
                    have hT_b9 : qT U80 (qO U80 (qO U80 66 0) 5) = 224 := hR.w.ref hv10 hT_b8
                    refine va_get (D := rD g) (ci := 7) (v := .ref (ad (qO U80 (qO U80 66 0) 5))) (C := RX8) (T := TX8) (N := 15) hx hb hts inX8 hown hR.K hR.P (qO U80 66 0) (hR.at47 hT_b8) rfl 5 (by decide) (hts _ kw_1571) (fun _ h9 => h9) (congrArg (fun z => some (vf ad z)) hv10) dX9_findMarked_96 ?_
                    refine lv_iload_n hx hb dX9_findMarked_99 rfl (lv_at hl 1 rfl) ?_
                    obtain ⟨hv11, h⟩ := h
                    refine va_iald hx hb hR.K hR.P (qO U80 (qO U80 66 0) 5) 1 (hR.atI hT_b9 (by decide)) rfl (k_ix (x := v80_1) (a := v80_1.toInt) rfl hv11) dX9_findMarked_100 ?_
                    refine lv_topi (fun z12 ez12 => ?_)
                    obtain rfl : z12 = (qI U80 (qO U80 (qO U80 66 0) 5) v80_1.toInt.toNat) := ez12
                    obtain ⟨Q13, h0, h⟩ := h
                    have hFc := cfree hR hA
                    refine va_callv (va_runV (As := [.int (qI U80 (qO U80 (qO U80 66 0) 5) v80_1.toInt.toNat)]) (rest := []) ⟨hx, hb, hml, hown, hts⟩ (rX9_mark l g ad H.size U80 (qI U80 (qO U80 (qO U80 66 0) 5) v80_1.toInt.toNat) hR.w  Q13 h0) (cwV 1 hts (gd_V kw_1569 kw_1690 kw_1691 kw_404 kw_1689) rfl rfl rfl (by decide +kernel) ⟨Nat.le_of_ble_eq_true rfl, Nat.le_of_ble_eq_true rfl⟩) ⟨cblind, va_recv hR.K hR.P (ci := 8) (q0 := 66) rfl (hR.at48 (hR.w.2.1 _ finC_31).2.1), fun U hU hW9 => cmk hU hW9 hR hex hE hFc⟩ rfl rfl hl.1 rfl (lv_room (Nat.le_of_ble_eq_true rfl)) dX9_findMarked_101 ⟨Nat.le_of_ble_eq_true rfl, Nat.le_of_ble_eq_true rfl⟩) hR.sS (fun q _ h => hFc q h) hFc (fun  S14 t9 H1 locs ht9 hvm9 hw9 hB9 hz9 hk9 hS => ?_)
                    obtain ⟨hq15, hw9, hs9⟩ := hw9
                    have hR : RepC g ad A s S14 H1 locs := hR.call ht9 hB9 hw9 hS hFc
                    have hsh := hsh.tr hs9
                    replace h := h  S14 hq15 hw9 hs9
                    clear hB9 hz9 hk9 hvm9 ht9 hw9 hs9 hS
                    generalize H1 = H at hR ⊢
                    refine lv_aload_n hx hb dX9_findMarked_104 rfl (lv_at hl 0 rfl) ?_
                    refine lv_aload_n hx hb dX9_findMarked_105 rfl (lv_at hl 0 rfl) ?_
                    have hT_b16 : qT S14 (qO S14 66 0) = 47 := hR.w.ref (hR.w.ptr ptrC_39) (hR.w.2.1 _ finC_31).2.1
                    refine va_get (D := rD g) (ci := 8) (v := .ref (ad (qO S14 66 0))) (C := RX9) (T := TX9) (N := 6) hx hb hts inX9 hown hR.K hR.P 66 (hR.at48 (hR.w.2.1 _ finC_31).2.1) rfl 0 (by decide) (hts _ kw_1552) (fun _ h9 => h9) (congrArg (fun z => some (vf ad z)) (hR.w.ptr ptrC_39)) dX9_findMarked_106 ?_
                    obtain ⟨hv18, h⟩ := h
                    have hT_b17 : qT S14 (qO S14 (qO S14 66 0) 6) = 225 := hR.w.ref hv18 hT_b16
                    refine va_get (D := rD g) (ci := 7) (v := .ref (ad (qO S14 (qO S14 66 0) 6))) (C := RX8) (T := TX8) (N := 15) hx hb hts inX8 hown hR.K hR.P (qO S14 66 0) (hR.at47 hT_b16) rfl 6 (by decide) (hts _ kw_1572) (fun _ h9 => h9) (congrArg (fun z => some (vf ad z)) hv18) dX9_findMarked_109 ?_
                    refine lv_iload_n hx hb dX9_findMarked_112 rfl (lv_at hl 1 rfl) ?_
                    obtain ⟨hv19, h⟩ := h
                    refine va_iald hx hb hR.K hR.P (qO S14 (qO S14 66 0) 6) 1 (hR.atI hT_b17 (by decide)) rfl (k_ix (x := v80_1) (a := v80_1.toInt) rfl hv19) dX9_findMarked_113 ?_
                    refine lv_topi (fun z20 ez20 => ?_)
                    obtain rfl : z20 = (qI S14 (qO S14 (qO S14 66 0) 6) v80_1.toInt.toNat) := ez20
                    obtain ⟨Q21, h0, h⟩ := h
                    have hFc := cfree hR hA
                    refine va_callv (va_runV (As := [.int (qI S14 (qO S14 (qO S14 66 0) 6) v80_1.toInt.toNat)]) (rest := []) ⟨hx, hb, hml, hown, hts⟩ (rX9_mark l g ad H.size S14 (qI S14 (qO S14 (qO S14 66 0) 6) v80_1.toInt.toNat) hR.w  Q21 h0) (cwV 1 hts (gd_V kw_1569 kw_1690 kw_1691 kw_404 kw_1689) rfl rfl rfl (by decide +kernel) ⟨Nat.le_of_ble_eq_true rfl, Nat.le_of_ble_eq_true rfl⟩) ⟨cblind, va_recv hR.K hR.P (ci := 8) (q0 := 66) rfl (hR.at48 (hR.w.2.1 _ finC_31).2.1), fun U hU hW9 => cmk hU hW9 hR hex hE hFc⟩ rfl rfl hl.1 rfl (lv_room (Nat.le_of_ble_eq_true rfl)) dX9_findMarked_114 ⟨Nat.le_of_ble_eq_true rfl, Nat.le_of_ble_eq_true rfl⟩) hR.sS (fun q _ h => hFc q h) hFc (fun  S22 t9 H1 locs ht9 hvm9 hw9 hB9 hz9 hk9 hS => ?_)
                    obtain ⟨hq23, hw9, hs9⟩ := hw9
                    have hR : RepC g ad A s S22 H1 locs := hR.call ht9 hB9 hw9 hS hFc
                    have hsh := hsh.tr hs9
                    replace h := h  S22 hq23 hw9 hs9
                    clear hB9 hz9 hk9 hvm9 ht9 hw9 hs9 hS
                    generalize H1 = H at hR ⊢
                    refine lv_aload_n hx hb dX9_findMarked_117 rfl (lv_at hl 0 rfl) ?_
                    refine lv_aload_n hx hb dX9_findMarked_118 rfl (lv_at hl 0 rfl) ?_
                    have hT_b24 : qT S22 (qO S22 66 0) = 47 := hR.w.ref (hR.w.ptr ptrC_39) (hR.w.2.1 _ finC_31).2.1
                    refine va_get (D := rD g) (ci := 8) (v := .ref (ad (qO S22 66 0))) (C := RX9) (T := TX9) (N := 6) hx hb hts inX9 hown hR.K hR.P 66 (hR.at48 (hR.w.2.1 _ finC_31).2.1) rfl 0 (by decide) (hts _ kw_1552) (fun _ h9 => h9) (congrArg (fun z => some (vf ad z)) (hR.w.ptr ptrC_39)) dX9_findMarked_119 ?_
                    obtain ⟨hv26, h⟩ := h
                    have hT_b25 : qT S22 (qO S22 (qO S22 66 0) 7) = 226 := hR.w.ref hv26 hT_b24
                    refine va_get (D := rD g) (ci := 7) (v := .ref (ad (qO S22 (qO S22 66 0) 7))) (C := RX8) (T := TX8) (N := 15) hx hb hts inX8 hown hR.K hR.P (qO S22 66 0) (hR.at47 hT_b24) rfl 7 (by decide) (hts _ kw_1573) (fun _ h9 => h9) (congrArg (fun z => some (vf ad z)) hv26) dX9_findMarked_122 ?_
                    refine lv_iload_n hx hb dX9_findMarked_125 rfl (lv_at hl 1 rfl) ?_
                    obtain ⟨hv27, h⟩ := h
                    refine va_iald hx hb hR.K hR.P (qO S22 (qO S22 66 0) 7) 1 (hR.atI hT_b25 (by decide)) rfl (k_ix (x := v80_1) (a := v80_1.toInt) rfl hv27) dX9_findMarked_126 ?_
                    refine lv_topi (fun z28 ez28 => ?_)
                    obtain rfl : z28 = (qI S22 (qO S22 (qO S22 66 0) 7) v80_1.toInt.toNat) := ez28
                    obtain ⟨Q29, h0, h⟩ := h
                    have hFc := cfree hR hA
                    refine va_callv (va_runV (As := [.int (qI S22 (qO S22 (qO S22 66 0) 7) v80_1.toInt.toNat)]) (rest := []) ⟨hx, hb, hml, hown, hts⟩ (rX9_mark l g ad H.size S22 (qI S22 (qO S22 (qO S22 66 0) 7) v80_1.toInt.toNat) hR.w  Q29 h0) (cwV 1 hts (gd_V kw_1569 kw_1690 kw_1691 kw_404 kw_1689) rfl rfl rfl (by decide +kernel) ⟨Nat.le_of_ble_eq_true rfl, Nat.le_of_ble_eq_true rfl⟩) ⟨cblind, va_recv hR.K hR.P (ci := 8) (q0 := 66) rfl (hR.at48 (hR.w.2.1 _ finC_31).2.1), fun U hU hW9 => cmk hU hW9 hR hex hE hFc⟩ rfl rfl hl.1 rfl (lv_room (Nat.le_of_ble_eq_true rfl)) dX9_findMarked_127 ⟨Nat.le_of_ble_eq_true rfl, Nat.le_of_ble_eq_true rfl⟩) hR.sS (fun q _ h => hFc q h) hFc (fun  S30 t9 H1 locs ht9 hvm9 hw9 hB9 hz9 hk9 hS => ?_)
                    obtain ⟨hq31, hw9, hs9⟩ := hw9
                    have hR : RepC g ad A s S30 H1 locs := hR.call ht9 hB9 hw9 hS hFc
                    have hsh := hsh.tr hs9
                    replace h := h  S30 hq31 hw9 hs9
                    clear hB9 hz9 hk9 hvm9 ht9 hw9 hs9 hS
                    generalize H1 = H at hR ⊢
                    obtain ⟨a32, ea32⟩ : ∃ z, z = (v80_1 + Int32.ofInt 1) := ⟨_, rfl⟩
                    replace h := h a32 ea32
                    refine lv_iinc (v := a32) (lv' := [(1, .int a32), (0, .ref (ad 66))]) hx hb dX9_findMarked_130 hl (k := 1) rfl ea32.symm (by decide) rfl (fun ls hl => ?_)
                    refine lv_goto (tgt := 80) hx hb dX9_findMarked_133 (by decide) ?_
                    exact ih_80 S30 a32 _ _ ls h  hsh hR (lv_sub hl [1, 0] rfl)
              obtain ⟨n9, h⟩ := h
              exact J_80 n9 U26 0 _ _ ls h  hsh hR (lv_sub hl [1, 0] rfl)
            · replace h := h.2 (k_nle rfl rfl c5)
              refine lv_aload_n hx hb dX9_findMarked_37 rfl (lv_at hl 0 rfl) ?_
              have hT_b33 : qT U26 (qO U26 66 0) = 47 := hR.w.ref (hR.w.ptr ptrC_39) (hR.w.2.1 _ finC_31).2.1
              refine va_get (D := rD g) (ci := 8) (v := .ref (ad (qO U26 66 0))) (C := RX9) (T := TX9) (N := 6) hx hb hts inX9 hown hR.K hR.P 66 (hR.at48 (hR.w.2.1 _ finC_31).2.1) rfl 0 (by decide) (hts _ kw_1552) (fun _ h9 => h9) (congrArg (fun z => some (vf ad z)) (hR.w.ptr ptrC_39)) dX9_findMarked_38 ?_
              refine lv_iload_n hx hb dX9_findMarked_41 rfl (lv_at hl 1 rfl) ?_
              obtain ⟨hv34, h⟩ := h
              have hFc := cfree hR hA
              refine va_calli (va_runV (As := [.int v26_1]) (rest := []) ⟨hx, hb, hml, hown, hts⟩ (rX8_targetCount l g ad H.size U26 (qO U26 66 0) v26_1 hR.w hT_b33 hv34) (cwV 1 hts (gd_V kw_1567 kw_1541 kw_1542 kw_782 kw_1540) rfl rfl rfl (by decide +kernel) ⟨Nat.le_of_ble_eq_true rfl, Nat.le_of_ble_eq_true rfl⟩) ⟨cblind, va_recv hR.K hR.P (ci := 7) (q0 := (qO U26 66 0)) rfl (hR.at47 hT_b33), fun U hU hW9 => cmk hU hW9 hR hex hE hFc⟩ rfl rfl hl.1 rfl (lv_room (Nat.le_of_ble_eq_true rfl)) dX9_findMarked_42 ⟨Nat.le_of_ble_eq_true rfl, Nat.le_of_ble_eq_true rfl⟩) hR.sS (fun q _ h => hFc q h) hFc (fun r35 u9 t9 H1 locs ht9 hvm9 hw9 hB9 hz9 hk9 hS => ?_)
              have hR : RepC g ad A s U26 H1 locs := hR.call ht9 hB9 hR.w hS hFc
              obtain rfl : r35 = (fX8_targetCount U26 (qO U26 66 0) v26_1) := hw9
              clear hB9 hz9 hk9 hvm9 ht9 hS
              generalize H1 = H at hR ⊢
              obtain ⟨a37, ea37⟩ : ∃ z, z = (fX8_targetCount U26 (qO U26 66 0) v26_1) := ⟨_, rfl⟩
              rw [← ea37]
              replace h := h a37 ea37
              refine lv_istore_n (lv' := [(2, .int a37), (0, .ref (ad 66)), (1, .int v26_1)]) hx hb dX9_findMarked_45 rfl hl (by decide) rfl (fun ls hl => ?_)
              refine lv_iconst (v := 0) hx hb dX9_findMarked_46 (by decide) ?_
              refine lv_istore_n (lv' := [(3, .int 0), (2, .int a37), (0, .ref (ad 66)), (1, .int v26_1)]) hx hb dX9_findMarked_47 rfl hl (by decide) rfl (fun ls hl => ?_)
              have J_48 : ∀ (n48 : Nat) (U48 : MS) (v48_1 : Int32) (v48_2 : Int32) (v48_3 : Int32) (H : Heap) (locs : List Loc) (ls : Array Slot), w_X9_findMarked_L48 Q (w_X9_findMarked_L26 Q n26) n48 U48 v48_1 v48_2 v48_3 → shy S U48 → RepC g ad A s U48 H locs → lv_has ls 4 [(0, .ref (ad 66)), (1, .int v48_1), (2, .int v48_2), (3, .int v48_3)] → W p l e (headSpec (wt yX9_findMarked cX9_findMarked 4 none) ({ frames := 2, cells := 0, slots := 0, locals := 43 })).room s m ([.ref (ad 66)] : List Value).toArray below meth c H locs 0 0 (MQ below (va_Qv (fun (u : MS) => Q u ∧ wfC u ∧ shy S u) (fun (u : MS) (t : State) => qEC g ad A u t) A) ([.ref (ad 66)] : List Value).toArray s 0 0 A) (F0 m 48 ls []) := by
                intro n48
                induction n48 with
                | zero => intro U48 v48_1 v48_2 v48_3 H locs ls h hsh hR hl; unfold w_X9_findMarked_L48 at h; exact h.elim
                | succ n48 ih_48 =>
                  intro U48 v48_1 v48_2 v48_3 H locs ls h hsh hR hl
                  unfold w_X9_findMarked_L48 at h
                  replace h := h hR.w
                  refine lv_iload_n hx hb dX9_findMarked_48 rfl (lv_at hl 3 rfl) ?_
                  refine lv_iload_n hx hb dX9_findMarked_49 rfl (lv_at hl 2 rfl) ?_
                  refine lv_icmp_ge (tgt := 72) hx hb dX9_findMarked_50 (by decide) (fun c38 => ?_) (fun c38 => ?_)
                  · replace h := h.1 (k_le rfl rfl c38)
                    obtain ⟨a39, ea39⟩ : ∃ z, z = (v48_1 + Int32.ofInt 1) := ⟨_, rfl⟩
                    replace h := h a39 ea39
                    refine lv_iinc (v := a39) (lv' := [(1, .int a39), (0, .ref (ad 66)), (2, .int v48_2), (3, .int v48_3)]) hx hb dX9_findMarked_72 hl (k := 1) rfl ea39.symm (by decide) rfl (fun ls hl => ?_)
                    refine lv_goto (tgt := 26) hx hb dX9_findMarked_75 (by decide) ?_
                    exact ih_26 U48 a39 _ _ ls h  hsh hR (lv_sub hl [1, 0] rfl)
                  · replace h := h.2 (k_nle rfl rfl c38)
                    refine lv_aload_n hx hb dX9_findMarked_53 rfl (lv_at hl 0 rfl) ?_
                    refine lv_aload_n hx hb dX9_findMarked_54 rfl (lv_at hl 0 rfl) ?_
                    have hT_b40 : qT U48 (qO U48 66 0) = 47 := hR.w.ref (hR.w.ptr ptrC_39) (hR.w.2.1 _ finC_31).2.1
                    refine va_get (D := rD g) (ci := 8) (v := .ref (ad (qO U48 66 0))) (C := RX9) (T := TX9) (N := 6) hx hb hts inX9 hown hR.K hR.P 66 (hR.at48 (hR.w.2.1 _ finC_31).2.1) rfl 0 (by decide) (hts _ kw_1552) (fun _ h9 => h9) (congrArg (fun z => some (vf ad z)) (hR.w.ptr ptrC_39)) dX9_findMarked_55 ?_
                    refine lv_iload_n hx hb dX9_findMarked_58 rfl (lv_at hl 1 rfl) ?_
                    refine lv_iload_n hx hb dX9_findMarked_59 rfl (lv_at hl 3 rfl) ?_
                    obtain ⟨hv41, h⟩ := h
                    have hFc := cfree hR hA
                    refine va_calli (va_runV (As := [.int v48_1, .int v48_3]) (rest := [.ref (ad 66)]) ⟨hx, hb, hml, hown, hts⟩ (rX8_targetAt l g ad H.size U48 (qO U48 66 0) v48_1 v48_3 hR.w hT_b40 hv41) (cwV 2 hts (gd_V kw_1568 kw_1537 kw_1538 kw_782 kw_1536) rfl rfl rfl (by decide +kernel) ⟨Nat.le_of_ble_eq_true rfl, Nat.le_of_ble_eq_true rfl⟩) ⟨cblind, va_recv hR.K hR.P (ci := 7) (q0 := (qO U48 66 0)) rfl (hR.at47 hT_b40), fun U hU hW9 => cmk hU hW9 hR hex hE hFc⟩ rfl rfl hl.1 rfl (lv_room (Nat.le_of_ble_eq_true rfl)) dX9_findMarked_60 ⟨Nat.le_of_ble_eq_true rfl, Nat.le_of_ble_eq_true rfl⟩) hR.sS (fun q _ h => hFc q h) hFc (fun r42 u9 t9 H1 locs ht9 hvm9 hw9 hB9 hz9 hk9 hS => ?_)
                    have hR : RepC g ad A s U48 H1 locs := hR.call ht9 hB9 hR.w hS hFc
                    obtain rfl : r42 = (fX8_targetAt U48 (qO U48 66 0) v48_1 v48_3) := hw9
                    clear hB9 hz9 hk9 hvm9 ht9 hS
                    generalize H1 = H at hR ⊢
                    obtain ⟨a44, ea44⟩ : ∃ z, z = (fX8_targetAt U48 (qO U48 66 0) v48_1 v48_3) := ⟨_, rfl⟩
                    rw [← ea44]
                    replace h := h a44 ea44
                    obtain ⟨Q45, h0, h⟩ := h
                    have hFc := cfree hR hA
                    refine va_callv (va_runV (As := [.int a44]) (rest := []) ⟨hx, hb, hml, hown, hts⟩ (rX9_mark l g ad H.size U48 a44 hR.w  Q45 h0) (cwV 1 hts (gd_V kw_1569 kw_1690 kw_1691 kw_404 kw_1689) rfl rfl rfl (by decide +kernel) ⟨Nat.le_of_ble_eq_true rfl, Nat.le_of_ble_eq_true rfl⟩) ⟨cblind, va_recv hR.K hR.P (ci := 8) (q0 := 66) rfl (hR.at48 (hR.w.2.1 _ finC_31).2.1), fun U hU hW9 => cmk hU hW9 hR hex hE hFc⟩ rfl rfl hl.1 rfl (lv_room (Nat.le_of_ble_eq_true rfl)) dX9_findMarked_63 ⟨Nat.le_of_ble_eq_true rfl, Nat.le_of_ble_eq_true rfl⟩) hR.sS (fun q _ h => hFc q h) hFc (fun  S46 t9 H1 locs ht9 hvm9 hw9 hB9 hz9 hk9 hS => ?_)
                    obtain ⟨hq47, hw9, hs9⟩ := hw9
                    have hR : RepC g ad A s S46 H1 locs := hR.call ht9 hB9 hw9 hS hFc
                    have hsh := hsh.tr hs9
                    replace h := h  S46 hq47 hw9 hs9
                    clear hB9 hz9 hk9 hvm9 ht9 hw9 hs9 hS
                    generalize H1 = H at hR ⊢
                    obtain ⟨a48, ea48⟩ : ∃ z, z = (v48_3 + Int32.ofInt 1) := ⟨_, rfl⟩
                    replace h := h a48 ea48
                    refine lv_iinc (v := a48) (lv' := [(3, .int a48), (0, .ref (ad 66)), (1, .int v48_1), (2, .int v48_2)]) hx hb dX9_findMarked_66 hl (k := 3) rfl ea48.symm (by decide) rfl (fun ls hl => ?_)
                    refine lv_goto (tgt := 48) hx hb dX9_findMarked_69 (by decide) ?_
                    exact ih_48 S46 v48_1 v48_2 a48 _ _ ls h  hsh hR (lv_sub hl [1, 2, 3, 0] rfl)
              obtain ⟨n9, h⟩ := h
              exact J_48 n9 U26 v26_1 a37 0 _ _ ls h  hsh hR (lv_sub hl [2, 3, 1, 0] rfl)
        obtain ⟨n9, h⟩ := h
        exact J_26 n9 U2 0 _ _ ls h  hsh hR (lv_sub hl [1, 0] rfl)
      · replace h := h.2 (k_nle hln2 rfl c3)
        refine lv_aload_n hx hb dX9_findMarked_11 rfl (lv_at hl 0 rfl) ?_
        have hT_b49 : qT U2 (qO U2 66 2) = 305 := hR.w.ref (hR.w.ptr ptrC_35) (hR.w.2.1 _ finC_31).2.1
        refine va_get (D := rD g) (ci := 8) (v := .ref (ad (qO U2 66 2))) (C := RX9) (T := TX9) (N := 6) hx hb hts inX9 hown hR.K hR.P 66 (hR.at48 (hR.w.2.1 _ finC_31).2.1) rfl 2 (by decide) (hts _ kw_1566) (fun _ h9 => h9) (congrArg (fun z => some (vf ad z)) (hR.w.ptr ptrC_35)) dX9_findMarked_12 ?_
        refine lv_iload_n hx hb dX9_findMarked_15 rfl (lv_at hl 1 rfl) ?_
        refine lv_iconst (v := 0) hx hb dX9_findMarked_16 (by decide) ?_
        obtain ⟨hv50, h⟩ := h
        refine va_zast hx hb hR.K hR.P hR.D hR.sS (qO U2 66 2) 2 (hR.atZ hT_b49 (by decide)) rfl (k_ix (x := v2_1) (a := v2_1.toInt) rfl hv50) dX9_findMarked_17 (fun H locs hP hD hS => ?_)
        have hTk9 : qT U2 (qO U2 66 2) = 305 := hT_b49
        have hR : RepC g ad A s (wI U2 (qO U2 66 2) v2_1.toInt.toNat (vp_nar .boolean (0 : Int32))) H locs := hR.aZ hT_b49 (by decide) (bit_nz2 (Or.inl rfl)) hP hD hS
        obtain ⟨S51, eS51⟩ : ∃ z, z = wI U2 (qO U2 66 2) v2_1.toInt.toNat (vp_nar .boolean (0 : Int32)) := ⟨_, rfl⟩
        rw [← eS51] at hR
        replace h := h S51 eS51 hTk9 hR.w
        have hsh : shy S S51 := by rw [eS51]; exact hsh
        obtain ⟨a52, ea52⟩ : ∃ z, z = (v2_1 + Int32.ofInt 1) := ⟨_, rfl⟩
        replace h := h a52 ea52
        refine lv_iinc (v := a52) (lv' := [(1, .int a52), (0, .ref (ad 66))]) hx hb dX9_findMarked_18 hl (k := 1) rfl ea52.symm (by decide) rfl (fun ls hl => ?_)
        refine lv_goto (tgt := 2) hx hb dX9_findMarked_21 (by decide) ?_
        exact ih_2 S51 a52 _ _ ls h  hsh hR (lv_sub hl [1, 0] rfl)
  obtain ⟨n9, h⟩ := h
  exact J_2 n9 S 0 _ _ ls h  hsh hR (lv_sub hl [1, 0] rfl)
def w_X9_isFolded_J91 (Q : Int32 → MS → Prop) (U91 : MS) (v91_1 : Int32) (v91_2 : Int32) : Prop := (wfC U91 → (d_X6_gives U91 v91_2 ∧ (∀ a51 : Int32, a51 = (fX6_gives U91 v91_2) → (d_X8_argAt U91 (qO U91 66 0) v91_1 ∧ (∀ a56 : Int64, a56 = (fX8_argAt U91 (qO U91 66 0) v91_1) → (d_X8_argAt U91 (qO U91 66 0) (v91_1 + (1 : Int32)) ∧ (∀ a62 : Int64, a62 = (fX8_argAt U91 (qO U91 66 0) (v91_1 + (1 : Int32))) → (d_X6_binary U91 v91_2 a56 a62 ∧ (∀ a66 : Int64, a66 = (fX6_binary U91 v91_2 a56 a62) → (∃ Q67, wX9_putPush U91 v91_1 a51 a66 Q67 ∧ ∀ S68, Q67 S68 → wfC S68 → shy U91 S68 → (qT S68 (qO S68 66 0) = 47 → (∃ Q72, wX8_remove S68 (qO S68 66 0) (v91_1 + (1 : Int32)) (2 : Int32) Q72 ∧ ∀ S73, Q72 S73 → wfC S73 → shy S68 S73 → Q (1 : Int32) S73))))))))))))
def wX9_isFolded (S : MS) (x1 : Int32) (Q : Int32 → MS → Prop) : Prop := (d_X8_opAt S (qO S 66 0) (x1 + (2 : Int32)) ∧ (∀ a6 : Int32, a6 = (fX8_opAt S (qO S 66 0) (x1 + (2 : Int32))) → (d_X6_isBinary S a6 ∧ (∀ a10 : Int32, a10 = (fX6_isBinary S a6) → ((a10.toInt = 0 → Q (0 : Int32) S) ∧ (¬ a10.toInt = 0 → (d_X9_pushKind S x1 ∧ (∀ a15 : Int32, a15 = (fX9_pushKind S x1) → ((a15.toInt = 0 → Q (0 : Int32) S) ∧ (¬ a15.toInt = 0 → (d_X9_pushKind S (x1 + (1 : Int32)) ∧ (∀ a21 : Int32, a21 = (fX9_pushKind S (x1 + (1 : Int32))) → ((a21.toInt = 0 → Q (0 : Int32) S) ∧ (¬ a21.toInt = 0 → (d_X9_isWindow S x1 (3 : Int32) ∧ (∀ a26 : Int32, a26 = (fX9_isWindow S x1 (3 : Int32)) → ((a26.toInt = 0 → Q (0 : Int32) S) ∧ (¬ a26.toInt = 0 → (d_X6_takes S a6 ∧ (∀ a31 : Int32, a31 = (fX6_takes S a6) → (d_X9_pushKind S x1 ∧ (∀ a35 : Int32, a35 = (fX9_pushKind S x1) → (d_X9_pushKind S (x1 + (1 : Int32)) ∧ (∀ a41 : Int32, a41 = (fX9_pushKind S (x1 + (1 : Int32))) → ((a31.toInt = ((a35 <<< ((4 : Int32) &&& 31)) ||| a41).toInt → (d_X6_isDivision S a6 ∧ (∀ a47 : Int32, a47 = (fX6_isDivision S a6) → ((a47.toInt = 0 → w_X9_isFolded_J91 Q S x1 a6) ∧ (¬ a47.toInt = 0 → (d_X8_argAt S (qO S 66 0) (x1 + (1 : Int32)) ∧ (∀ a81 : Int64, a81 = (fX8_argAt S (qO S 66 0) (x1 + (1 : Int32))) → (((lg_cmp a81 0).toInt = 0 → Q (0 : Int32) S) ∧ (¬ (lg_cmp a81 0).toInt = 0 → w_X9_isFolded_J91 Q S x1 a6))))))))) ∧ (¬ a31.toInt = ((a35 <<< ((4 : Int32) &&& 31)) ||| a41).toInt → Q (0 : Int32) S))))))))))))))))))))))))))
set_option maxHeartbeats 2000000 in
set_option maxRecDepth 100000 in
theorem rX9_isFolded (l : Launch) (g : Gr) (ad : Nat → Nat) (sz : Nat) (S : MS) (x1 : Int32) (hw : wfC S) (Q : Int32 → MS → Prop) (h : wX9_isFolded S x1 Q) : Met l yX9_isFolded (wt yX9_isFolded cX9_isFolded 3 (some .boolean)) ({ frames := 3, cells := 0, slots := 0, locals := 74 }) (va_Pc [.ref (ad 66), .int x1] (st_C g ad sz S)) (va_Qi (fun (r : Int32) (u : MS) => Q r u ∧ wfC u ∧ shy S u ∧ (r = 0 ∨ r = 1)) (fun (u : MS) (t : State) => qEC g ad (va_A (WdC g ad S) sz) u t) (va_A (WdC g ad S) sz)) 0 0 (va_A (WdC g ad S) sz) := by
  refine Met.ofW (cc := cX9_isFolded) (maxL := 3) (ret := (some .boolean)) (by decide) rfl ?_
  intro p e s m args below meth c s₁ B hml hv
  obtain ⟨rfl, hsz, hP, hK, hD0, hex, hE⟩ := hv
  have hx := B.exec
  have hb := B.bytes
  have hr := B.returns
  have hts0 := atoms_spec (ws := wt yX9_isFolded cX9_isFolded 3 (some .boolean)) B.pre
  have hts : ∀ w ∈ tb, w.before _ s = true := fun w h => hts0 w (List.mem_cons_of_mem _ h)
  have hown : s.vm.findClass RX9 = some m.cls := findClass_of_methodNamed B.named
  subst hsz
  have hD := hD0.self (sz := s.heap.size)
  generalize hAe : va_A (WdC g ad S) s.heap.size = A at hD hE ⊢
  have hA : ∀ q : Nat, s.heap.size ≤ q → A q := fun q h => by rw [← hAe]; exact Or.inr h
  have hR : RepC g ad A s S s.heap [] := ⟨hK, hP, hD, va_S.rf, hw⟩
  clear hK hP hD hD0
  have hl := lv_entry ([.ref (ad 66), .int x1]) (n := 3) (Nat.le_of_ble_eq_true rfl)
  rw [lg_entry_eq]
  generalize (lg_sl ([.ref (ad 66), .int x1]) ++ List.replicate (3 - (lg_sl ([.ref (ad 66), .int x1])).length) Slot.unset).toArray = ls at hl ⊢
  have hl : lv_has ls 3 [(0, .ref (ad 66)), (1, .int x1)] := hl
  have hsh : shy S S := shy.rf
  unfold wX9_isFolded at h
  refine lv_aload_n hx hb dX9_isFolded_0 rfl (lv_at hl 0 rfl) ?_
  have hT_b1 : qT S (qO S 66 0) = 47 := hR.w.ref (hR.w.ptr ptrC_39) (hR.w.2.1 _ finC_31).2.1
  refine va_get (D := rD g) (ci := 8) (v := .ref (ad (qO S 66 0))) (C := RX9) (T := TX9) (N := 6) hx hb hts inX9 hown hR.K hR.P 66 (hR.at48 (hR.w.2.1 _ finC_31).2.1) rfl 0 (by decide) (hts _ kw_1552) (fun _ h9 => h9) (congrArg (fun z => some (vf ad z)) (hR.w.ptr ptrC_39)) dX9_isFolded_1 ?_
  refine lv_iload_n hx hb dX9_isFolded_4 rfl (lv_at hl 1 rfl) ?_
  refine lv_iconst (v := 2) hx hb dX9_isFolded_5 (by decide) ?_
  refine lv_iadd hx hb dX9_isFolded_6 ?_
  refine lv_topi (fun z2 ez2 => ?_)
  obtain rfl : z2 = (x1 + (2 : Int32)) := ez2
  obtain ⟨hv3, h⟩ := h
  have hFc := cfree hR hA
  refine va_calli (va_runV (As := [.int (x1 + (2 : Int32))]) (rest := []) ⟨hx, hb, hml, hown, hts⟩ (rX8_opAt l g ad s.heap.size S (qO S 66 0) (x1 + (2 : Int32)) hR.w hT_b1 hv3) (cwV 1 hts (gd_V kw_1596 kw_1513 kw_1514 kw_782 kw_1512) rfl rfl rfl (by decide +kernel) ⟨Nat.le_of_ble_eq_true rfl, Nat.le_of_ble_eq_true rfl⟩) ⟨cblind, va_recv hR.K hR.P (ci := 7) (q0 := (qO S 66 0)) rfl (hR.at47 hT_b1), fun U hU hW9 => cmk hU hW9 hR hex hE hFc⟩ rfl rfl hl.1 rfl (lv_room (Nat.le_of_ble_eq_true rfl)) dX9_isFolded_7 ⟨Nat.le_of_ble_eq_true rfl, Nat.le_of_ble_eq_true rfl⟩) hR.sS (fun q _ h => hFc q h) hFc (fun r4 u9 t9 H1 locs ht9 hvm9 hw9 hB9 hz9 hk9 hS => ?_)
  have hR : RepC g ad A s S H1 locs := hR.call ht9 hB9 hR.w hS hFc
  obtain rfl : r4 = (fX8_opAt S (qO S 66 0) (x1 + (2 : Int32))) := hw9
  clear hB9 hz9 hk9 hvm9 ht9 hS
  generalize H1 = H at hR ⊢
  obtain ⟨a6, ea6⟩ : ∃ z, z = (fX8_opAt S (qO S 66 0) (x1 + (2 : Int32))) := ⟨_, rfl⟩
  rw [← ea6]
  replace h := h a6 ea6
  refine lv_istore_n (lv' := [(2, .int a6), (0, .ref (ad 66)), (1, .int x1)]) hx hb dX9_isFolded_10 rfl hl (by decide) rfl (fun ls hl => ?_)
  refine lv_iload_n hx hb dX9_isFolded_11 rfl (lv_at hl 0 rfl) ?_
  obtain ⟨hv7, h⟩ := h
  have hFc := cfree hR hA
  refine va_calli (va_runS (As := [.int a6]) (rest := []) ⟨hx, hb, hml, hown, hts⟩ (rX6_isBinary l g ad H.size S a6 hR.w  hv7) (va_cwS 1 hts (gd_S kw_1621 kw_1221 kw_1207 kw_1220) rfl rfl rfl (by decide +kernel) ⟨Nat.le_of_ble_eq_true rfl, Nat.le_of_ble_eq_true rfl⟩) ⟨cblind, fun U hU hW9 => cmk hU hW9 hR hex hE hFc⟩ rfl rfl hl.1 rfl (lv_room (Nat.le_of_ble_eq_true rfl)) dX9_isFolded_12 ⟨Nat.le_of_ble_eq_true rfl, Nat.le_of_ble_eq_true rfl⟩) hR.sS (fun q _ h => hFc q h) hFc (fun r8 u9 t9 H1 locs ht9 hvm9 hw9 hB9 hz9 hk9 hS => ?_)
  have hR : RepC g ad A s S H1 locs := hR.call ht9 hB9 hR.w hS hFc
  obtain ⟨rfl, hz_r8⟩ := hw9
  clear hB9 hz9 hk9 hvm9 ht9 hS
  generalize H1 = H at hR ⊢
  obtain ⟨a10, ea10⟩ : ∃ z, z = (fX6_isBinary S a6) := ⟨_, rfl⟩
  rw [← ea10]
  replace h := h a10 ea10
  rw [← ea10] at hz_r8
  refine lv_if_eq (tgt := 89) hx hb dX9_isFolded_15 (by decide) (fun c11 => ?_) (fun c11 => ?_)
  · replace h := h.1 (k_eq rfl (by decide) c11)
    refine lv_iconst (v := 0) hx hb dX9_isFolded_89 (by decide) ?_
    exact W.zret (v := 0) hx hb hr (nz (Or.inl rfl)) (fun t9 ht9 hW9 => ⟨⟨_, S, rfl, ⟨h, hR.w, hsh, (Or.inl rfl)⟩, ⟨by rw [ht9]; exact hR.P, hR.D⟩⟩, hR.sS.F ht9⟩) hR.sS.2.2 dX9_isFolded_90
  · replace h := h.2 (k_ne rfl (by decide) c11)
    refine lv_aload_n hx hb dX9_isFolded_18 rfl (lv_at hl 1 rfl) ?_
    refine lv_iload_n hx hb dX9_isFolded_19 rfl (lv_at hl 2 rfl) ?_
    obtain ⟨hv12, h⟩ := h
    have hFc := cfree hR hA
    refine va_calli (va_runV (As := [.int x1]) (rest := []) ⟨hx, hb, hml, hown, hts⟩ (rX9_pushKind l g ad H.size S x1 hR.w  hv12) (cwV 1 hts (gd_V kw_1622 kw_1696 kw_1697 kw_404 kw_1695) rfl rfl rfl (by decide +kernel) ⟨Nat.le_of_ble_eq_true rfl, Nat.le_of_ble_eq_true rfl⟩) ⟨cblind, va_recv hR.K hR.P (ci := 8) (q0 := 66) rfl (hR.at48 (hR.w.2.1 _ finC_31).2.1), fun U hU hW9 => cmk hU hW9 hR hex hE hFc⟩ rfl rfl hl.1 rfl (lv_room (Nat.le_of_ble_eq_true rfl)) dX9_isFolded_20 ⟨Nat.le_of_ble_eq_true rfl, Nat.le_of_ble_eq_true rfl⟩) hR.sS (fun q _ h => hFc q h) hFc (fun r13 u9 t9 H1 locs ht9 hvm9 hw9 hB9 hz9 hk9 hS => ?_)
    have hR : RepC g ad A s S H1 locs := hR.call ht9 hB9 hR.w hS hFc
    obtain rfl : r13 = (fX9_pushKind S x1) := hw9
    clear hB9 hz9 hk9 hvm9 ht9 hS
    generalize H1 = H at hR ⊢
    obtain ⟨a15, ea15⟩ : ∃ z, z = (fX9_pushKind S x1) := ⟨_, rfl⟩
    rw [← ea15]
    replace h := h a15 ea15
    refine lv_if_eq (tgt := 89) hx hb dX9_isFolded_23 (by decide) (fun c16 => ?_) (fun c16 => ?_)
    · replace h := h.1 (k_eq rfl (by decide) c16)
      refine lv_iconst (v := 0) hx hb dX9_isFolded_89 (by decide) ?_
      exact W.zret (v := 0) hx hb hr (nz (Or.inl rfl)) (fun t9 ht9 hW9 => ⟨⟨_, S, rfl, ⟨h, hR.w, hsh, (Or.inl rfl)⟩, ⟨by rw [ht9]; exact hR.P, hR.D⟩⟩, hR.sS.F ht9⟩) hR.sS.2.2 dX9_isFolded_90
    · replace h := h.2 (k_ne rfl (by decide) c16)
      refine lv_aload_n hx hb dX9_isFolded_26 rfl (lv_at hl 1 rfl) ?_
      refine lv_iload_n hx hb dX9_isFolded_27 rfl (lv_at hl 2 rfl) ?_
      refine lv_iconst (v := 1) hx hb dX9_isFolded_28 (by decide) ?_
      refine lv_iadd hx hb dX9_isFolded_29 ?_
      refine lv_topi (fun z17 ez17 => ?_)
      obtain rfl : z17 = (x1 + (1 : Int32)) := ez17
      obtain ⟨hv18, h⟩ := h
      have hFc := cfree hR hA
      refine va_calli (va_runV (As := [.int (x1 + (1 : Int32))]) (rest := []) ⟨hx, hb, hml, hown, hts⟩ (rX9_pushKind l g ad H.size S (x1 + (1 : Int32)) hR.w  hv18) (cwV 1 hts (gd_V kw_1622 kw_1696 kw_1697 kw_404 kw_1695) rfl rfl rfl (by decide +kernel) ⟨Nat.le_of_ble_eq_true rfl, Nat.le_of_ble_eq_true rfl⟩) ⟨cblind, va_recv hR.K hR.P (ci := 8) (q0 := 66) rfl (hR.at48 (hR.w.2.1 _ finC_31).2.1), fun U hU hW9 => cmk hU hW9 hR hex hE hFc⟩ rfl rfl hl.1 rfl (lv_room (Nat.le_of_ble_eq_true rfl)) dX9_isFolded_30 ⟨Nat.le_of_ble_eq_true rfl, Nat.le_of_ble_eq_true rfl⟩) hR.sS (fun q _ h => hFc q h) hFc (fun r19 u9 t9 H1 locs ht9 hvm9 hw9 hB9 hz9 hk9 hS => ?_)
      have hR : RepC g ad A s S H1 locs := hR.call ht9 hB9 hR.w hS hFc
      obtain rfl : r19 = (fX9_pushKind S (x1 + (1 : Int32))) := hw9
      clear hB9 hz9 hk9 hvm9 ht9 hS
      generalize H1 = H at hR ⊢
      obtain ⟨a21, ea21⟩ : ∃ z, z = (fX9_pushKind S (x1 + (1 : Int32))) := ⟨_, rfl⟩
      rw [← ea21]
      replace h := h a21 ea21
      refine lv_if_eq (tgt := 89) hx hb dX9_isFolded_33 (by decide) (fun c22 => ?_) (fun c22 => ?_)
      · replace h := h.1 (k_eq rfl (by decide) c22)
        refine lv_iconst (v := 0) hx hb dX9_isFolded_89 (by decide) ?_
        exact W.zret (v := 0) hx hb hr (nz (Or.inl rfl)) (fun t9 ht9 hW9 => ⟨⟨_, S, rfl, ⟨h, hR.w, hsh, (Or.inl rfl)⟩, ⟨by rw [ht9]; exact hR.P, hR.D⟩⟩, hR.sS.F ht9⟩) hR.sS.2.2 dX9_isFolded_90
      · replace h := h.2 (k_ne rfl (by decide) c22)
        refine lv_aload_n hx hb dX9_isFolded_36 rfl (lv_at hl 1 rfl) ?_
        refine lv_iload_n hx hb dX9_isFolded_37 rfl (lv_at hl 2 rfl) ?_
        refine lv_iconst (v := 3) hx hb dX9_isFolded_38 (by decide) ?_
        obtain ⟨hv23, h⟩ := h
        have hFc := cfree hR hA
        refine va_calli (va_runV (As := [.int x1, .int 3]) (rest := []) ⟨hx, hb, hml, hown, hts⟩ (rX9_isWindow l g ad H.size S x1 (3 : Int32) hR.w  hv23) (cwV 2 hts (gd_V kw_1610 kw_1658 kw_1659 kw_404 kw_1657) rfl rfl rfl (by decide +kernel) ⟨Nat.le_of_ble_eq_true rfl, Nat.le_of_ble_eq_true rfl⟩) ⟨cblind, va_recv hR.K hR.P (ci := 8) (q0 := 66) rfl (hR.at48 (hR.w.2.1 _ finC_31).2.1), fun U hU hW9 => cmk hU hW9 hR hex hE hFc⟩ rfl rfl hl.1 rfl (lv_room (Nat.le_of_ble_eq_true rfl)) dX9_isFolded_39 ⟨Nat.le_of_ble_eq_true rfl, Nat.le_of_ble_eq_true rfl⟩) hR.sS (fun q _ h => hFc q h) hFc (fun r24 u9 t9 H1 locs ht9 hvm9 hw9 hB9 hz9 hk9 hS => ?_)
        have hR : RepC g ad A s S H1 locs := hR.call ht9 hB9 hR.w hS hFc
        obtain ⟨rfl, hz_r24⟩ := hw9
        clear hB9 hz9 hk9 hvm9 ht9 hS
        generalize H1 = H at hR ⊢
        obtain ⟨a26, ea26⟩ : ∃ z, z = (fX9_isWindow S x1 (3 : Int32)) := ⟨_, rfl⟩
        rw [← ea26]
        replace h := h a26 ea26
        rw [← ea26] at hz_r24
        refine lv_if_eq (tgt := 89) hx hb dX9_isFolded_42 (by decide) (fun c27 => ?_) (fun c27 => ?_)
        · replace h := h.1 (k_eq rfl (by decide) c27)
          refine lv_iconst (v := 0) hx hb dX9_isFolded_89 (by decide) ?_
          exact W.zret (v := 0) hx hb hr (nz (Or.inl rfl)) (fun t9 ht9 hW9 => ⟨⟨_, S, rfl, ⟨h, hR.w, hsh, (Or.inl rfl)⟩, ⟨by rw [ht9]; exact hR.P, hR.D⟩⟩, hR.sS.F ht9⟩) hR.sS.2.2 dX9_isFolded_90
        · replace h := h.2 (k_ne rfl (by decide) c27)
          refine lv_iload_n hx hb dX9_isFolded_45 rfl (lv_at hl 0 rfl) ?_
          obtain ⟨hv28, h⟩ := h
          have hFc := cfree hR hA
          refine va_calli (va_runS (As := [.int a6]) (rest := []) ⟨hx, hb, hml, hown, hts⟩ (rX6_takes l g ad H.size S a6 hR.w  hv28) (va_cwS 1 hts (gd_S kw_1623 kw_1255 kw_1207 kw_1254) rfl rfl rfl (by decide +kernel) ⟨Nat.le_of_ble_eq_true rfl, Nat.le_of_ble_eq_true rfl⟩) ⟨cblind, fun U hU hW9 => cmk hU hW9 hR hex hE hFc⟩ rfl rfl hl.1 rfl (lv_room (Nat.le_of_ble_eq_true rfl)) dX9_isFolded_46 ⟨Nat.le_of_ble_eq_true rfl, Nat.le_of_ble_eq_true rfl⟩) hR.sS (fun q _ h => hFc q h) hFc (fun r29 u9 t9 H1 locs ht9 hvm9 hw9 hB9 hz9 hk9 hS => ?_)
          have hR : RepC g ad A s S H1 locs := hR.call ht9 hB9 hR.w hS hFc
          obtain rfl : r29 = (fX6_takes S a6) := hw9
          clear hB9 hz9 hk9 hvm9 ht9 hS
          generalize H1 = H at hR ⊢
          obtain ⟨a31, ea31⟩ : ∃ z, z = (fX6_takes S a6) := ⟨_, rfl⟩
          rw [← ea31]
          replace h := h a31 ea31
          refine lv_aload_n hx hb dX9_isFolded_49 rfl (lv_at hl 1 rfl) ?_
          refine lv_iload_n hx hb dX9_isFolded_50 rfl (lv_at hl 2 rfl) ?_
          obtain ⟨hv32, h⟩ := h
          have hFc := cfree hR hA
          refine va_calli (va_runV (As := [.int x1]) (rest := [.int a31]) ⟨hx, hb, hml, hown, hts⟩ (rX9_pushKind l g ad H.size S x1 hR.w  hv32) (cwV 1 hts (gd_V kw_1622 kw_1696 kw_1697 kw_404 kw_1695) rfl rfl rfl (by decide +kernel) ⟨Nat.le_of_ble_eq_true rfl, Nat.le_of_ble_eq_true rfl⟩) ⟨cblind, va_recv hR.K hR.P (ci := 8) (q0 := 66) rfl (hR.at48 (hR.w.2.1 _ finC_31).2.1), fun U hU hW9 => cmk hU hW9 hR hex hE hFc⟩ rfl rfl hl.1 rfl (lv_room (Nat.le_of_ble_eq_true rfl)) dX9_isFolded_51 ⟨Nat.le_of_ble_eq_true rfl, Nat.le_of_ble_eq_true rfl⟩) hR.sS (fun q _ h => hFc q h) hFc (fun r33 u9 t9 H1 locs ht9 hvm9 hw9 hB9 hz9 hk9 hS => ?_)
          have hR : RepC g ad A s S H1 locs := hR.call ht9 hB9 hR.w hS hFc
          obtain rfl : r33 = (fX9_pushKind S x1) := hw9
          clear hB9 hz9 hk9 hvm9 ht9 hS
          generalize H1 = H at hR ⊢
          obtain ⟨a35, ea35⟩ : ∃ z, z = (fX9_pushKind S x1) := ⟨_, rfl⟩
          rw [← ea35]
          replace h := h a35 ea35
          refine lv_iconst (v := 4) hx hb dX9_isFolded_54 (by decide) ?_
          refine lv_ishl hx hb dX9_isFolded_55 ?_
          refine lv_topi (fun z36 ez36 => ?_)
          obtain rfl : z36 = (a35 <<< ((4 : Int32) &&& 31)) := ez36
          refine lv_aload_n hx hb dX9_isFolded_56 rfl (lv_at hl 1 rfl) ?_
          refine lv_iload_n hx hb dX9_isFolded_57 rfl (lv_at hl 2 rfl) ?_
          refine lv_iconst (v := 1) hx hb dX9_isFolded_58 (by decide) ?_
          refine lv_iadd hx hb dX9_isFolded_59 ?_
          refine lv_topi (fun z37 ez37 => ?_)
          obtain rfl : z37 = (x1 + (1 : Int32)) := ez37
          obtain ⟨hv38, h⟩ := h
          have hFc := cfree hR hA
          refine va_calli (va_runV (As := [.int (x1 + (1 : Int32))]) (rest := [.int (a35 <<< ((4 : Int32) &&& 31)), .int a31]) ⟨hx, hb, hml, hown, hts⟩ (rX9_pushKind l g ad H.size S (x1 + (1 : Int32)) hR.w  hv38) (cwV 1 hts (gd_V kw_1622 kw_1696 kw_1697 kw_404 kw_1695) rfl rfl rfl (by decide +kernel) ⟨Nat.le_of_ble_eq_true rfl, Nat.le_of_ble_eq_true rfl⟩) ⟨cblind, va_recv hR.K hR.P (ci := 8) (q0 := 66) rfl (hR.at48 (hR.w.2.1 _ finC_31).2.1), fun U hU hW9 => cmk hU hW9 hR hex hE hFc⟩ rfl rfl hl.1 rfl (lv_room (Nat.le_of_ble_eq_true rfl)) dX9_isFolded_60 ⟨Nat.le_of_ble_eq_true rfl, Nat.le_of_ble_eq_true rfl⟩) hR.sS (fun q _ h => hFc q h) hFc (fun r39 u9 t9 H1 locs ht9 hvm9 hw9 hB9 hz9 hk9 hS => ?_)
          have hR : RepC g ad A s S H1 locs := hR.call ht9 hB9 hR.w hS hFc
          obtain rfl : r39 = (fX9_pushKind S (x1 + (1 : Int32))) := hw9
          clear hB9 hz9 hk9 hvm9 ht9 hS
          generalize H1 = H at hR ⊢
          obtain ⟨a41, ea41⟩ : ∃ z, z = (fX9_pushKind S (x1 + (1 : Int32))) := ⟨_, rfl⟩
          rw [← ea41]
          replace h := h a41 ea41
          refine lv_ior hx hb dX9_isFolded_63 ?_
          refine lv_topi (fun z42 ez42 => ?_)
          obtain rfl : z42 = ((a35 <<< ((4 : Int32) &&& 31)) ||| a41) := ez42
          refine lv_icmp_ne (tgt := 89) hx hb dX9_isFolded_64 (by decide) (fun c43 => ?_) (fun c43 => ?_)
          · replace h := h.2 (k_ne rfl rfl c43)
            refine lv_iconst (v := 0) hx hb dX9_isFolded_89 (by decide) ?_
            exact W.zret (v := 0) hx hb hr (nz (Or.inl rfl)) (fun t9 ht9 hW9 => ⟨⟨_, S, rfl, ⟨h, hR.w, hsh, (Or.inl rfl)⟩, ⟨by rw [ht9]; exact hR.P, hR.D⟩⟩, hR.sS.F ht9⟩) hR.sS.2.2 dX9_isFolded_90
          · replace h := h.1 (k_eq rfl rfl c43)
            refine lv_iload_n hx hb dX9_isFolded_67 rfl (lv_at hl 0 rfl) ?_
            obtain ⟨hv44, h⟩ := h
            have hFc := cfree hR hA
            refine va_calli (va_runS (As := [.int a6]) (rest := []) ⟨hx, hb, hml, hown, hts⟩ (rX6_isDivision l g ad H.size S a6 hR.w  hv44) (va_cwS 1 hts (gd_S kw_1624 kw_1223 kw_1207 kw_1222) rfl rfl rfl (by decide +kernel) ⟨Nat.le_of_ble_eq_true rfl, Nat.le_of_ble_eq_true rfl⟩) ⟨cblind, fun U hU hW9 => cmk hU hW9 hR hex hE hFc⟩ rfl rfl hl.1 rfl (lv_room (Nat.le_of_ble_eq_true rfl)) dX9_isFolded_68 ⟨Nat.le_of_ble_eq_true rfl, Nat.le_of_ble_eq_true rfl⟩) hR.sS (fun q _ h => hFc q h) hFc (fun r45 u9 t9 H1 locs ht9 hvm9 hw9 hB9 hz9 hk9 hS => ?_)
            have hR : RepC g ad A s S H1 locs := hR.call ht9 hB9 hR.w hS hFc
            obtain ⟨rfl, hz_r45⟩ := hw9
            clear hB9 hz9 hk9 hvm9 ht9 hS
            generalize H1 = H at hR ⊢
            obtain ⟨a47, ea47⟩ : ∃ z, z = (fX6_isDivision S a6) := ⟨_, rfl⟩
            rw [← ea47]
            replace h := h a47 ea47
            rw [← ea47] at hz_r45
            have J_91 : ∀ (U91 : MS) (v91_1 : Int32) (v91_2 : Int32) (H : Heap) (locs : List Loc) (ls : Array Slot), w_X9_isFolded_J91 Q U91 v91_1 v91_2 → shy S U91 → RepC g ad A s U91 H locs → lv_has ls 3 [(0, .ref (ad 66)), (1, .int v91_1), (2, .int v91_2)] → W p l e (headSpec (wt yX9_isFolded cX9_isFolded 3 (some .boolean)) ({ frames := 3, cells := 0, slots := 0, locals := 74 })).room s m ([.ref (ad 66), .int x1] : List Value).toArray below meth c H locs 0 0 (MQ below (va_Qi (fun (r : Int32) (u : MS) => Q r u ∧ wfC u ∧ shy S u ∧ (r = 0 ∨ r = 1)) (fun (u : MS) (t : State) => qEC g ad A u t) A) ([.ref (ad 66), .int x1] : List Value).toArray s 0 0 A) (F0 m 91 ls []) := by
              intro U91 v91_1 v91_2 H locs ls h hsh hR hl
              unfold w_X9_isFolded_J91 at h
              replace h := h hR.w
              refine lv_aload_n hx hb dX9_isFolded_91 rfl (lv_at hl 0 rfl) ?_
              refine lv_iload_n hx hb dX9_isFolded_92 rfl (lv_at hl 1 rfl) ?_
              refine lv_iload_n hx hb dX9_isFolded_93 rfl (lv_at hl 2 rfl) ?_
              obtain ⟨hv48, h⟩ := h
              have hFc := cfree hR hA
              refine va_calli (va_runS (As := [.int v91_2]) (rest := [.int v91_1, .ref (ad 66)]) ⟨hx, hb, hml, hown, hts⟩ (rX6_gives l g ad H.size U91 v91_2 hR.w  hv48) (va_cwS 1 hts (gd_S kw_1625 kw_1216 kw_1207 kw_1215) rfl rfl rfl (by decide +kernel) ⟨Nat.le_of_ble_eq_true rfl, Nat.le_of_ble_eq_true rfl⟩) ⟨cblind, fun U hU hW9 => cmk hU hW9 hR hex hE hFc⟩ rfl rfl hl.1 rfl (lv_room (Nat.le_of_ble_eq_true rfl)) dX9_isFolded_94 ⟨Nat.le_of_ble_eq_true rfl, Nat.le_of_ble_eq_true rfl⟩) hR.sS (fun q _ h => hFc q h) hFc (fun r49 u9 t9 H1 locs ht9 hvm9 hw9 hB9 hz9 hk9 hS => ?_)
              have hR : RepC g ad A s U91 H1 locs := hR.call ht9 hB9 hR.w hS hFc
              obtain rfl : r49 = (fX6_gives U91 v91_2) := hw9
              clear hB9 hz9 hk9 hvm9 ht9 hS
              generalize H1 = H at hR ⊢
              obtain ⟨a51, ea51⟩ : ∃ z, z = (fX6_gives U91 v91_2) := ⟨_, rfl⟩
              rw [← ea51]
              replace h := h a51 ea51
              refine lv_iload_n hx hb dX9_isFolded_97 rfl (lv_at hl 2 rfl) ?_
              refine lv_aload_n hx hb dX9_isFolded_98 rfl (lv_at hl 0 rfl) ?_
              have hT_b52 : qT U91 (qO U91 66 0) = 47 := hR.w.ref (hR.w.ptr ptrC_39) (hR.w.2.1 _ finC_31).2.1
              refine va_get (D := rD g) (ci := 8) (v := .ref (ad (qO U91 66 0))) (C := RX9) (T := TX9) (N := 6) hx hb hts inX9 hown hR.K hR.P 66 (hR.at48 (hR.w.2.1 _ finC_31).2.1) rfl 0 (by decide) (hts _ kw_1552) (fun _ h9 => h9) (congrArg (fun z => some (vf ad z)) (hR.w.ptr ptrC_39)) dX9_isFolded_99 ?_
              refine lv_iload_n hx hb dX9_isFolded_102 rfl (lv_at hl 1 rfl) ?_
              obtain ⟨hv53, h⟩ := h
              have hFc := cfree hR hA
              refine va_calll (va_runV (As := [.int v91_1]) (rest := [.int v91_2, .int a51, .int v91_1, .ref (ad 66)]) ⟨hx, hb, hml, hown, hts⟩ (rX8_argAt l g ad H.size U91 (qO U91 66 0) v91_1 hR.w hT_b52 hv53) (cwV 1 hts (gd_V kw_1605 kw_1476 kw_1477 kw_782 kw_1475) rfl rfl rfl (by decide +kernel) ⟨Nat.le_of_ble_eq_true rfl, Nat.le_of_ble_eq_true rfl⟩) ⟨cblind, va_recv hR.K hR.P (ci := 7) (q0 := (qO U91 66 0)) rfl (hR.at47 hT_b52), fun U hU hW9 => cmk hU hW9 hR hex hE hFc⟩ rfl rfl hl.1 rfl (lv_room (Nat.le_of_ble_eq_true rfl)) dX9_isFolded_103 ⟨Nat.le_of_ble_eq_true rfl, Nat.le_of_ble_eq_true rfl⟩) hR.sS (fun q _ h => hFc q h) hFc (fun r54 u9 t9 H1 locs ht9 hvm9 hw9 hB9 hz9 hk9 hS => ?_)
              have hR : RepC g ad A s U91 H1 locs := hR.call ht9 hB9 hR.w hS hFc
              obtain rfl : r54 = (fX8_argAt U91 (qO U91 66 0) v91_1) := hw9
              clear hB9 hz9 hk9 hvm9 ht9 hS
              generalize H1 = H at hR ⊢
              obtain ⟨a56, ea56⟩ : ∃ z, z = (fX8_argAt U91 (qO U91 66 0) v91_1) := ⟨_, rfl⟩
              rw [← ea56]
              replace h := h a56 ea56
              refine lv_aload_n hx hb dX9_isFolded_106 rfl (lv_at hl 0 rfl) ?_
              have hT_b57 : qT U91 (qO U91 66 0) = 47 := hR.w.ref (hR.w.ptr ptrC_39) (hR.w.2.1 _ finC_31).2.1
              refine va_get (D := rD g) (ci := 8) (v := .ref (ad (qO U91 66 0))) (C := RX9) (T := TX9) (N := 6) hx hb hts inX9 hown hR.K hR.P 66 (hR.at48 (hR.w.2.1 _ finC_31).2.1) rfl 0 (by decide) (hts _ kw_1552) (fun _ h9 => h9) (congrArg (fun z => some (vf ad z)) (hR.w.ptr ptrC_39)) dX9_isFolded_107 ?_
              refine lv_iload_n hx hb dX9_isFolded_110 rfl (lv_at hl 1 rfl) ?_
              refine lv_iconst (v := 1) hx hb dX9_isFolded_111 (by decide) ?_
              refine lv_iadd hx hb dX9_isFolded_112 ?_
              refine lv_topi (fun z58 ez58 => ?_)
              obtain rfl : z58 = (v91_1 + (1 : Int32)) := ez58
              obtain ⟨hv59, h⟩ := h
              have hFc := cfree hR hA
              refine va_calll (va_runV (As := [.int (v91_1 + (1 : Int32))]) (rest := [.long a56, .int v91_2, .int a51, .int v91_1, .ref (ad 66)]) ⟨hx, hb, hml, hown, hts⟩ (rX8_argAt l g ad H.size U91 (qO U91 66 0) (v91_1 + (1 : Int32)) hR.w hT_b57 hv59) (cwV 1 hts (gd_V kw_1605 kw_1476 kw_1477 kw_782 kw_1475) rfl rfl rfl (by decide +kernel) ⟨Nat.le_of_ble_eq_true rfl, Nat.le_of_ble_eq_true rfl⟩) ⟨cblind, va_recv hR.K hR.P (ci := 7) (q0 := (qO U91 66 0)) rfl (hR.at47 hT_b57), fun U hU hW9 => cmk hU hW9 hR hex hE hFc⟩ rfl rfl hl.1 rfl (lv_room (Nat.le_of_ble_eq_true rfl)) dX9_isFolded_113 ⟨Nat.le_of_ble_eq_true rfl, Nat.le_of_ble_eq_true rfl⟩) hR.sS (fun q _ h => hFc q h) hFc (fun r60 u9 t9 H1 locs ht9 hvm9 hw9 hB9 hz9 hk9 hS => ?_)
              have hR : RepC g ad A s U91 H1 locs := hR.call ht9 hB9 hR.w hS hFc
              obtain rfl : r60 = (fX8_argAt U91 (qO U91 66 0) (v91_1 + (1 : Int32))) := hw9
              clear hB9 hz9 hk9 hvm9 ht9 hS
              generalize H1 = H at hR ⊢
              obtain ⟨a62, ea62⟩ : ∃ z, z = (fX8_argAt U91 (qO U91 66 0) (v91_1 + (1 : Int32))) := ⟨_, rfl⟩
              rw [← ea62]
              replace h := h a62 ea62
              obtain ⟨hv63, h⟩ := h
              have hFc := cfree hR hA
              refine va_calll (va_runS (As := [.int v91_2, .long a56, .long a62]) (rest := [.int a51, .int v91_1, .ref (ad 66)]) ⟨hx, hb, hml, hown, hts⟩ (rX6_binary l g ad H.size U91 v91_2 a56 a62 hR.w  hv63) (va_cwS 3 hts (gd_S kw_1626 kw_1206 kw_1207 kw_1205) rfl rfl rfl (by decide +kernel) ⟨Nat.le_of_ble_eq_true rfl, Nat.le_of_ble_eq_true rfl⟩) ⟨cblind, fun U hU hW9 => cmk hU hW9 hR hex hE hFc⟩ rfl rfl hl.1 rfl (lv_room (Nat.le_of_ble_eq_true rfl)) dX9_isFolded_116 ⟨Nat.le_of_ble_eq_true rfl, Nat.le_of_ble_eq_true rfl⟩) hR.sS (fun q _ h => hFc q h) hFc (fun r64 u9 t9 H1 locs ht9 hvm9 hw9 hB9 hz9 hk9 hS => ?_)
              have hR : RepC g ad A s U91 H1 locs := hR.call ht9 hB9 hR.w hS hFc
              obtain rfl : r64 = (fX6_binary U91 v91_2 a56 a62) := hw9
              clear hB9 hz9 hk9 hvm9 ht9 hS
              generalize H1 = H at hR ⊢
              obtain ⟨a66, ea66⟩ : ∃ z, z = (fX6_binary U91 v91_2 a56 a62) := ⟨_, rfl⟩
              rw [← ea66]
              replace h := h a66 ea66
              obtain ⟨Q67, h0, h⟩ := h
              have hFc := cfree hR hA
              refine va_callv (va_runV (As := [.int v91_1, .int a51, .long a66]) (rest := []) ⟨hx, hb, hml, hown, hts⟩ (rX9_putPush l g ad H.size U91 v91_1 a51 a66 hR.w  Q67 h0) (cwV 3 hts (gd_V kw_1627 kw_1712 kw_1713 kw_404 kw_1711) rfl rfl rfl (by decide +kernel) ⟨Nat.le_of_ble_eq_true rfl, Nat.le_of_ble_eq_true rfl⟩) ⟨cblind, va_recv hR.K hR.P (ci := 8) (q0 := 66) rfl (hR.at48 (hR.w.2.1 _ finC_31).2.1), fun U hU hW9 => cmk hU hW9 hR hex hE hFc⟩ rfl rfl hl.1 rfl (lv_room (Nat.le_of_ble_eq_true rfl)) dX9_isFolded_119 ⟨Nat.le_of_ble_eq_true rfl, Nat.le_of_ble_eq_true rfl⟩) hR.sS (fun q _ h => hFc q h) hFc (fun  S68 t9 H1 locs ht9 hvm9 hw9 hB9 hz9 hk9 hS => ?_)
              obtain ⟨hq69, hw9, hs9⟩ := hw9
              have hR : RepC g ad A s S68 H1 locs := hR.call ht9 hB9 hw9 hS hFc
              have hsh := hsh.tr hs9
              replace h := h  S68 hq69 hw9 hs9
              clear hB9 hz9 hk9 hvm9 ht9 hw9 hs9 hS
              generalize H1 = H at hR ⊢
              refine lv_aload_n hx hb dX9_isFolded_122 rfl (lv_at hl 0 rfl) ?_
              have hT_b70 : qT S68 (qO S68 66 0) = 47 := hR.w.ref (hR.w.ptr ptrC_39) (hR.w.2.1 _ finC_31).2.1
              refine va_get (D := rD g) (ci := 8) (v := .ref (ad (qO S68 66 0))) (C := RX9) (T := TX9) (N := 6) hx hb hts inX9 hown hR.K hR.P 66 (hR.at48 (hR.w.2.1 _ finC_31).2.1) rfl 0 (by decide) (hts _ kw_1552) (fun _ h9 => h9) (congrArg (fun z => some (vf ad z)) (hR.w.ptr ptrC_39)) dX9_isFolded_123 ?_
              refine lv_iload_n hx hb dX9_isFolded_126 rfl (lv_at hl 1 rfl) ?_
              refine lv_iconst (v := 1) hx hb dX9_isFolded_127 (by decide) ?_
              refine lv_iadd hx hb dX9_isFolded_128 ?_
              refine lv_topi (fun z71 ez71 => ?_)
              obtain rfl : z71 = (v91_1 + (1 : Int32)) := ez71
              refine lv_iconst (v := 2) hx hb dX9_isFolded_129 (by decide) ?_
              replace h := h (hT_b70)
              obtain ⟨Q72, h0, h⟩ := h
              have hFc := cfree hR hA
              refine va_callv (va_runV (As := [.int (v91_1 + (1 : Int32)), .int 2]) (rest := []) ⟨hx, hb, hml, hown, hts⟩ (rX8_remove l g ad H.size S68 (qO S68 66 0) (v91_1 + (1 : Int32)) (2 : Int32) hR.w hT_b70 Q72 h0) (cwV 2 hts (gd_V kw_1555 kw_1516 kw_1517 kw_782 kw_1515) rfl rfl rfl (by decide +kernel) ⟨Nat.le_of_ble_eq_true rfl, Nat.le_of_ble_eq_true rfl⟩) ⟨cblind, va_recv hR.K hR.P (ci := 7) (q0 := (qO S68 66 0)) rfl (hR.at47 hT_b70), fun U hU hW9 => cmk hU hW9 hR hex hE hFc⟩ rfl rfl hl.1 rfl (lv_room (Nat.le_of_ble_eq_true rfl)) dX9_isFolded_130 ⟨Nat.le_of_ble_eq_true rfl, Nat.le_of_ble_eq_true rfl⟩) hR.sS (fun q _ h => hFc q h) hFc (fun  S73 t9 H1 locs ht9 hvm9 hw9 hB9 hz9 hk9 hS => ?_)
              obtain ⟨hq74, hw9, hs9⟩ := hw9
              have hR : RepC g ad A s S73 H1 locs := hR.call ht9 hB9 hw9 hS hFc
              have hsh := hsh.tr hs9
              replace h := h  S73 hq74 hw9 hs9
              clear hB9 hz9 hk9 hvm9 ht9 hw9 hs9 hS
              generalize H1 = H at hR ⊢
              refine lv_iconst (v := 1) hx hb dX9_isFolded_133 (by decide) ?_
              exact W.zret (v := 1) hx hb hr (nz (Or.inr rfl)) (fun t9 ht9 hW9 => ⟨⟨_, S73, rfl, ⟨h, hR.w, hsh, (Or.inr rfl)⟩, ⟨by rw [ht9]; exact hR.P, hR.D⟩⟩, hR.sS.F ht9⟩) hR.sS.2.2 dX9_isFolded_134
            refine lv_if_eq (tgt := 91) hx hb dX9_isFolded_71 (by decide) (fun c75 => ?_) (fun c75 => ?_)
            · replace h := h.1 (k_eq rfl (by decide) c75)
              exact J_91 S x1 a6 _ _ ls h  hsh hR (lv_sub hl [1, 2, 0] rfl)
            · replace h := h.2 (k_ne rfl (by decide) c75)
              refine lv_aload_n hx hb dX9_isFolded_74 rfl (lv_at hl 1 rfl) ?_
              have hT_b76 : qT S (qO S 66 0) = 47 := hR.w.ref (hR.w.ptr ptrC_39) (hR.w.2.1 _ finC_31).2.1
              refine va_get (D := rD g) (ci := 8) (v := .ref (ad (qO S 66 0))) (C := RX9) (T := TX9) (N := 6) hx hb hts inX9 hown hR.K hR.P 66 (hR.at48 (hR.w.2.1 _ finC_31).2.1) rfl 0 (by decide) (hts _ kw_1552) (fun _ h9 => h9) (congrArg (fun z => some (vf ad z)) (hR.w.ptr ptrC_39)) dX9_isFolded_75 ?_
              refine lv_iload_n hx hb dX9_isFolded_78 rfl (lv_at hl 2 rfl) ?_
              refine lv_iconst (v := 1) hx hb dX9_isFolded_79 (by decide) ?_
              refine lv_iadd hx hb dX9_isFolded_80 ?_
              refine lv_topi (fun z77 ez77 => ?_)
              obtain rfl : z77 = (x1 + (1 : Int32)) := ez77
              obtain ⟨hv78, h⟩ := h
              have hFc := cfree hR hA
              refine va_calll (va_runV (As := [.int (x1 + (1 : Int32))]) (rest := []) ⟨hx, hb, hml, hown, hts⟩ (rX8_argAt l g ad H.size S (qO S 66 0) (x1 + (1 : Int32)) hR.w hT_b76 hv78) (cwV 1 hts (gd_V kw_1605 kw_1476 kw_1477 kw_782 kw_1475) rfl rfl rfl (by decide +kernel) ⟨Nat.le_of_ble_eq_true rfl, Nat.le_of_ble_eq_true rfl⟩) ⟨cblind, va_recv hR.K hR.P (ci := 7) (q0 := (qO S 66 0)) rfl (hR.at47 hT_b76), fun U hU hW9 => cmk hU hW9 hR hex hE hFc⟩ rfl rfl hl.1 rfl (lv_room (Nat.le_of_ble_eq_true rfl)) dX9_isFolded_81 ⟨Nat.le_of_ble_eq_true rfl, Nat.le_of_ble_eq_true rfl⟩) hR.sS (fun q _ h => hFc q h) hFc (fun r79 u9 t9 H1 locs ht9 hvm9 hw9 hB9 hz9 hk9 hS => ?_)
              have hR : RepC g ad A s S H1 locs := hR.call ht9 hB9 hR.w hS hFc
              obtain rfl : r79 = (fX8_argAt S (qO S 66 0) (x1 + (1 : Int32))) := hw9
              clear hB9 hz9 hk9 hvm9 ht9 hS
              generalize H1 = H at hR ⊢
              obtain ⟨a81, ea81⟩ : ∃ z, z = (fX8_argAt S (qO S 66 0) (x1 + (1 : Int32))) := ⟨_, rfl⟩
              rw [← ea81]
              replace h := h a81 ea81
              refine lv_lconst (v := 0) hx hb dX9_isFolded_84 (by decide) ?_
              refine W.lcmp hx hb dX9_isFolded_85 ?_
              refine lv_topi (fun z82 ez82 => ?_)
              obtain rfl : z82 = (lg_cmp a81 0) := ez82
              refine lv_if_ne (tgt := 91) hx hb dX9_isFolded_86 (by decide) (fun c83 => ?_) (fun c83 => ?_)
              · replace h := h.2 (k_ne rfl (by decide) c83)
                exact J_91 S x1 a6 _ _ ls h  hsh hR (lv_sub hl [1, 2, 0] rfl)
              · replace h := h.1 (k_eq rfl (by decide) c83)
                refine lv_iconst (v := 0) hx hb dX9_isFolded_89 (by decide) ?_
                exact W.zret (v := 0) hx hb hr (nz (Or.inl rfl)) (fun t9 ht9 hW9 => ⟨⟨_, S, rfl, ⟨h, hR.w, hsh, (Or.inl rfl)⟩, ⟨by rw [ht9]; exact hR.P, hR.D⟩⟩, hR.sS.F ht9⟩) hR.sS.2.2 dX9_isFolded_90
def wX9_isUnaryFolded (S : MS) (x1 : Int32) (Q : Int32 → MS → Prop) : Prop := (d_X8_opAt S (qO S 66 0) (x1 + (1 : Int32)) ∧ (∀ a6 : Int32, a6 = (fX8_opAt S (qO S 66 0) (x1 + (1 : Int32))) → (d_X6_isUnary S a6 ∧ (∀ a10 : Int32, a10 = (fX6_isUnary S a6) → ((a10.toInt = 0 → Q (0 : Int32) S) ∧ (¬ a10.toInt = 0 → (d_X9_pushKind S x1 ∧ (∀ a15 : Int32, a15 = (fX9_pushKind S x1) → (d_X6_takes S a6 ∧ (∀ a19 : Int32, a19 = (fX6_takes S a6) → ((a15.toInt = a19.toInt → (d_X9_isWindow S x1 (2 : Int32) ∧ (∀ a24 : Int32, a24 = (fX9_isWindow S x1 (2 : Int32)) → ((a24.toInt = 0 → Q (0 : Int32) S) ∧ (¬ a24.toInt = 0 → (d_X6_gives S a6 ∧ (∀ a29 : Int32, a29 = (fX6_gives S a6) → (d_X8_argAt S (qO S 66 0) x1 ∧ (∀ a34 : Int64, a34 = (fX8_argAt S (qO S 66 0) x1) → (d_X6_unary S a6 a34 ∧ (∀ a38 : Int64, a38 = (fX6_unary S a6 a34) → (∃ Q39, wX9_putPush S x1 a29 a38 Q39 ∧ ∀ S40, Q39 S40 → wfC S40 → shy S S40 → (qT S40 (qO S40 66 0) = 47 → (∃ Q44, wX8_remove S40 (qO S40 66 0) (x1 + (1 : Int32)) (1 : Int32) Q44 ∧ ∀ S45, Q44 S45 → wfC S45 → shy S40 S45 → Q (1 : Int32) S45)))))))))))))) ∧ (¬ a15.toInt = a19.toInt → Q (0 : Int32) S))))))))))))
set_option maxHeartbeats 2000000 in
set_option maxRecDepth 100000 in
theorem rX9_isUnaryFolded (l : Launch) (g : Gr) (ad : Nat → Nat) (sz : Nat) (S : MS) (x1 : Int32) (hw : wfC S) (Q : Int32 → MS → Prop) (h : wX9_isUnaryFolded S x1 Q) : Met l yX9_isUnaryFolded (wt yX9_isUnaryFolded cX9_isUnaryFolded 3 (some .boolean)) ({ frames := 3, cells := 0, slots := 0, locals := 74 }) (va_Pc [.ref (ad 66), .int x1] (st_C g ad sz S)) (va_Qi (fun (r : Int32) (u : MS) => Q r u ∧ wfC u ∧ shy S u ∧ (r = 0 ∨ r = 1)) (fun (u : MS) (t : State) => qEC g ad (va_A (WdC g ad S) sz) u t) (va_A (WdC g ad S) sz)) 0 0 (va_A (WdC g ad S) sz) := by
  refine Met.ofW (cc := cX9_isUnaryFolded) (maxL := 3) (ret := (some .boolean)) (by decide) rfl ?_
  intro p e s m args below meth c s₁ B hml hv
  obtain ⟨rfl, hsz, hP, hK, hD0, hex, hE⟩ := hv
  have hx := B.exec
  have hb := B.bytes
  have hr := B.returns
  have hts0 := atoms_spec (ws := wt yX9_isUnaryFolded cX9_isUnaryFolded 3 (some .boolean)) B.pre
  have hts : ∀ w ∈ tb, w.before _ s = true := fun w h => hts0 w (List.mem_cons_of_mem _ h)
  have hown : s.vm.findClass RX9 = some m.cls := findClass_of_methodNamed B.named
  subst hsz
  have hD := hD0.self (sz := s.heap.size)
  generalize hAe : va_A (WdC g ad S) s.heap.size = A at hD hE ⊢
  have hA : ∀ q : Nat, s.heap.size ≤ q → A q := fun q h => by rw [← hAe]; exact Or.inr h
  have hR : RepC g ad A s S s.heap [] := ⟨hK, hP, hD, va_S.rf, hw⟩
  clear hK hP hD hD0
  have hl := lv_entry ([.ref (ad 66), .int x1]) (n := 3) (Nat.le_of_ble_eq_true rfl)
  rw [lg_entry_eq]
  generalize (lg_sl ([.ref (ad 66), .int x1]) ++ List.replicate (3 - (lg_sl ([.ref (ad 66), .int x1])).length) Slot.unset).toArray = ls at hl ⊢
  have hl : lv_has ls 3 [(0, .ref (ad 66)), (1, .int x1)] := hl
  have hsh : shy S S := shy.rf
  unfold wX9_isUnaryFolded at h
  refine lv_aload_n hx hb dX9_isUnaryFolded_0 rfl (lv_at hl 0 rfl) ?_
  have hT_b1 : qT S (qO S 66 0) = 47 := hR.w.ref (hR.w.ptr ptrC_39) (hR.w.2.1 _ finC_31).2.1
  refine va_get (D := rD g) (ci := 8) (v := .ref (ad (qO S 66 0))) (C := RX9) (T := TX9) (N := 6) hx hb hts inX9 hown hR.K hR.P 66 (hR.at48 (hR.w.2.1 _ finC_31).2.1) rfl 0 (by decide) (hts _ kw_1552) (fun _ h9 => h9) (congrArg (fun z => some (vf ad z)) (hR.w.ptr ptrC_39)) dX9_isUnaryFolded_1 ?_
  refine lv_iload_n hx hb dX9_isUnaryFolded_4 rfl (lv_at hl 1 rfl) ?_
  refine lv_iconst (v := 1) hx hb dX9_isUnaryFolded_5 (by decide) ?_
  refine lv_iadd hx hb dX9_isUnaryFolded_6 ?_
  refine lv_topi (fun z2 ez2 => ?_)
  obtain rfl : z2 = (x1 + (1 : Int32)) := ez2
  obtain ⟨hv3, h⟩ := h
  have hFc := cfree hR hA
  refine va_calli (va_runV (As := [.int (x1 + (1 : Int32))]) (rest := []) ⟨hx, hb, hml, hown, hts⟩ (rX8_opAt l g ad s.heap.size S (qO S 66 0) (x1 + (1 : Int32)) hR.w hT_b1 hv3) (cwV 1 hts (gd_V kw_1596 kw_1513 kw_1514 kw_782 kw_1512) rfl rfl rfl (by decide +kernel) ⟨Nat.le_of_ble_eq_true rfl, Nat.le_of_ble_eq_true rfl⟩) ⟨cblind, va_recv hR.K hR.P (ci := 7) (q0 := (qO S 66 0)) rfl (hR.at47 hT_b1), fun U hU hW9 => cmk hU hW9 hR hex hE hFc⟩ rfl rfl hl.1 rfl (lv_room (Nat.le_of_ble_eq_true rfl)) dX9_isUnaryFolded_7 ⟨Nat.le_of_ble_eq_true rfl, Nat.le_of_ble_eq_true rfl⟩) hR.sS (fun q _ h => hFc q h) hFc (fun r4 u9 t9 H1 locs ht9 hvm9 hw9 hB9 hz9 hk9 hS => ?_)
  have hR : RepC g ad A s S H1 locs := hR.call ht9 hB9 hR.w hS hFc
  obtain rfl : r4 = (fX8_opAt S (qO S 66 0) (x1 + (1 : Int32))) := hw9
  clear hB9 hz9 hk9 hvm9 ht9 hS
  generalize H1 = H at hR ⊢
  obtain ⟨a6, ea6⟩ : ∃ z, z = (fX8_opAt S (qO S 66 0) (x1 + (1 : Int32))) := ⟨_, rfl⟩
  rw [← ea6]
  replace h := h a6 ea6
  refine lv_istore_n (lv' := [(2, .int a6), (0, .ref (ad 66)), (1, .int x1)]) hx hb dX9_isUnaryFolded_10 rfl hl (by decide) rfl (fun ls hl => ?_)
  refine lv_iload_n hx hb dX9_isUnaryFolded_11 rfl (lv_at hl 0 rfl) ?_
  obtain ⟨hv7, h⟩ := h
  have hFc := cfree hR hA
  refine va_calli (va_runS (As := [.int a6]) (rest := []) ⟨hx, hb, hml, hown, hts⟩ (rX6_isUnary l g ad H.size S a6 hR.w  hv7) (va_cwS 1 hts (gd_S kw_1655 kw_1237 kw_1207 kw_1236) rfl rfl rfl (by decide +kernel) ⟨Nat.le_of_ble_eq_true rfl, Nat.le_of_ble_eq_true rfl⟩) ⟨cblind, fun U hU hW9 => cmk hU hW9 hR hex hE hFc⟩ rfl rfl hl.1 rfl (lv_room (Nat.le_of_ble_eq_true rfl)) dX9_isUnaryFolded_12 ⟨Nat.le_of_ble_eq_true rfl, Nat.le_of_ble_eq_true rfl⟩) hR.sS (fun q _ h => hFc q h) hFc (fun r8 u9 t9 H1 locs ht9 hvm9 hw9 hB9 hz9 hk9 hS => ?_)
  have hR : RepC g ad A s S H1 locs := hR.call ht9 hB9 hR.w hS hFc
  obtain ⟨rfl, hz_r8⟩ := hw9
  clear hB9 hz9 hk9 hvm9 ht9 hS
  generalize H1 = H at hR ⊢
  obtain ⟨a10, ea10⟩ : ∃ z, z = (fX6_isUnary S a6) := ⟨_, rfl⟩
  rw [← ea10]
  replace h := h a10 ea10
  rw [← ea10] at hz_r8
  refine lv_if_eq (tgt := 39) hx hb dX9_isUnaryFolded_15 (by decide) (fun c11 => ?_) (fun c11 => ?_)
  · replace h := h.1 (k_eq rfl (by decide) c11)
    refine lv_iconst (v := 0) hx hb dX9_isUnaryFolded_39 (by decide) ?_
    exact W.zret (v := 0) hx hb hr (nz (Or.inl rfl)) (fun t9 ht9 hW9 => ⟨⟨_, S, rfl, ⟨h, hR.w, hsh, (Or.inl rfl)⟩, ⟨by rw [ht9]; exact hR.P, hR.D⟩⟩, hR.sS.F ht9⟩) hR.sS.2.2 dX9_isUnaryFolded_40
  · replace h := h.2 (k_ne rfl (by decide) c11)
    refine lv_aload_n hx hb dX9_isUnaryFolded_18 rfl (lv_at hl 1 rfl) ?_
    refine lv_iload_n hx hb dX9_isUnaryFolded_19 rfl (lv_at hl 2 rfl) ?_
    obtain ⟨hv12, h⟩ := h
    have hFc := cfree hR hA
    refine va_calli (va_runV (As := [.int x1]) (rest := []) ⟨hx, hb, hml, hown, hts⟩ (rX9_pushKind l g ad H.size S x1 hR.w  hv12) (cwV 1 hts (gd_V kw_1622 kw_1696 kw_1697 kw_404 kw_1695) rfl rfl rfl (by decide +kernel) ⟨Nat.le_of_ble_eq_true rfl, Nat.le_of_ble_eq_true rfl⟩) ⟨cblind, va_recv hR.K hR.P (ci := 8) (q0 := 66) rfl (hR.at48 (hR.w.2.1 _ finC_31).2.1), fun U hU hW9 => cmk hU hW9 hR hex hE hFc⟩ rfl rfl hl.1 rfl (lv_room (Nat.le_of_ble_eq_true rfl)) dX9_isUnaryFolded_20 ⟨Nat.le_of_ble_eq_true rfl, Nat.le_of_ble_eq_true rfl⟩) hR.sS (fun q _ h => hFc q h) hFc (fun r13 u9 t9 H1 locs ht9 hvm9 hw9 hB9 hz9 hk9 hS => ?_)
    have hR : RepC g ad A s S H1 locs := hR.call ht9 hB9 hR.w hS hFc
    obtain rfl : r13 = (fX9_pushKind S x1) := hw9
    clear hB9 hz9 hk9 hvm9 ht9 hS
    generalize H1 = H at hR ⊢
    obtain ⟨a15, ea15⟩ : ∃ z, z = (fX9_pushKind S x1) := ⟨_, rfl⟩
    rw [← ea15]
    replace h := h a15 ea15
    refine lv_iload_n hx hb dX9_isUnaryFolded_23 rfl (lv_at hl 0 rfl) ?_
    obtain ⟨hv16, h⟩ := h
    have hFc := cfree hR hA
    refine va_calli (va_runS (As := [.int a6]) (rest := [.int a15]) ⟨hx, hb, hml, hown, hts⟩ (rX6_takes l g ad H.size S a6 hR.w  hv16) (va_cwS 1 hts (gd_S kw_1623 kw_1255 kw_1207 kw_1254) rfl rfl rfl (by decide +kernel) ⟨Nat.le_of_ble_eq_true rfl, Nat.le_of_ble_eq_true rfl⟩) ⟨cblind, fun U hU hW9 => cmk hU hW9 hR hex hE hFc⟩ rfl rfl hl.1 rfl (lv_room (Nat.le_of_ble_eq_true rfl)) dX9_isUnaryFolded_24 ⟨Nat.le_of_ble_eq_true rfl, Nat.le_of_ble_eq_true rfl⟩) hR.sS (fun q _ h => hFc q h) hFc (fun r17 u9 t9 H1 locs ht9 hvm9 hw9 hB9 hz9 hk9 hS => ?_)
    have hR : RepC g ad A s S H1 locs := hR.call ht9 hB9 hR.w hS hFc
    obtain rfl : r17 = (fX6_takes S a6) := hw9
    clear hB9 hz9 hk9 hvm9 ht9 hS
    generalize H1 = H at hR ⊢
    obtain ⟨a19, ea19⟩ : ∃ z, z = (fX6_takes S a6) := ⟨_, rfl⟩
    rw [← ea19]
    replace h := h a19 ea19
    refine lv_icmp_ne (tgt := 39) hx hb dX9_isUnaryFolded_27 (by decide) (fun c20 => ?_) (fun c20 => ?_)
    · replace h := h.2 (k_ne rfl rfl c20)
      refine lv_iconst (v := 0) hx hb dX9_isUnaryFolded_39 (by decide) ?_
      exact W.zret (v := 0) hx hb hr (nz (Or.inl rfl)) (fun t9 ht9 hW9 => ⟨⟨_, S, rfl, ⟨h, hR.w, hsh, (Or.inl rfl)⟩, ⟨by rw [ht9]; exact hR.P, hR.D⟩⟩, hR.sS.F ht9⟩) hR.sS.2.2 dX9_isUnaryFolded_40
    · replace h := h.1 (k_eq rfl rfl c20)
      refine lv_aload_n hx hb dX9_isUnaryFolded_30 rfl (lv_at hl 1 rfl) ?_
      refine lv_iload_n hx hb dX9_isUnaryFolded_31 rfl (lv_at hl 2 rfl) ?_
      refine lv_iconst (v := 2) hx hb dX9_isUnaryFolded_32 (by decide) ?_
      obtain ⟨hv21, h⟩ := h
      have hFc := cfree hR hA
      refine va_calli (va_runV (As := [.int x1, .int 2]) (rest := []) ⟨hx, hb, hml, hown, hts⟩ (rX9_isWindow l g ad H.size S x1 (2 : Int32) hR.w  hv21) (cwV 2 hts (gd_V kw_1610 kw_1658 kw_1659 kw_404 kw_1657) rfl rfl rfl (by decide +kernel) ⟨Nat.le_of_ble_eq_true rfl, Nat.le_of_ble_eq_true rfl⟩) ⟨cblind, va_recv hR.K hR.P (ci := 8) (q0 := 66) rfl (hR.at48 (hR.w.2.1 _ finC_31).2.1), fun U hU hW9 => cmk hU hW9 hR hex hE hFc⟩ rfl rfl hl.1 rfl (lv_room (Nat.le_of_ble_eq_true rfl)) dX9_isUnaryFolded_33 ⟨Nat.le_of_ble_eq_true rfl, Nat.le_of_ble_eq_true rfl⟩) hR.sS (fun q _ h => hFc q h) hFc (fun r22 u9 t9 H1 locs ht9 hvm9 hw9 hB9 hz9 hk9 hS => ?_)
      have hR : RepC g ad A s S H1 locs := hR.call ht9 hB9 hR.w hS hFc
      obtain ⟨rfl, hz_r22⟩ := hw9
      clear hB9 hz9 hk9 hvm9 ht9 hS
      generalize H1 = H at hR ⊢
      obtain ⟨a24, ea24⟩ : ∃ z, z = (fX9_isWindow S x1 (2 : Int32)) := ⟨_, rfl⟩
      rw [← ea24]
      replace h := h a24 ea24
      rw [← ea24] at hz_r22
      refine lv_if_ne (tgt := 41) hx hb dX9_isUnaryFolded_36 (by decide) (fun c25 => ?_) (fun c25 => ?_)
      · replace h := h.2 (k_ne rfl (by decide) c25)
        refine lv_aload_n hx hb dX9_isUnaryFolded_41 rfl (lv_at hl 1 rfl) ?_
        refine lv_iload_n hx hb dX9_isUnaryFolded_42 rfl (lv_at hl 2 rfl) ?_
        refine lv_iload_n hx hb dX9_isUnaryFolded_43 rfl (lv_at hl 0 rfl) ?_
        obtain ⟨hv26, h⟩ := h
        have hFc := cfree hR hA
        refine va_calli (va_runS (As := [.int a6]) (rest := [.int x1, .ref (ad 66)]) ⟨hx, hb, hml, hown, hts⟩ (rX6_gives l g ad H.size S a6 hR.w  hv26) (va_cwS 1 hts (gd_S kw_1625 kw_1216 kw_1207 kw_1215) rfl rfl rfl (by decide +kernel) ⟨Nat.le_of_ble_eq_true rfl, Nat.le_of_ble_eq_true rfl⟩) ⟨cblind, fun U hU hW9 => cmk hU hW9 hR hex hE hFc⟩ rfl rfl hl.1 rfl (lv_room (Nat.le_of_ble_eq_true rfl)) dX9_isUnaryFolded_44 ⟨Nat.le_of_ble_eq_true rfl, Nat.le_of_ble_eq_true rfl⟩) hR.sS (fun q _ h => hFc q h) hFc (fun r27 u9 t9 H1 locs ht9 hvm9 hw9 hB9 hz9 hk9 hS => ?_)
        have hR : RepC g ad A s S H1 locs := hR.call ht9 hB9 hR.w hS hFc
        obtain rfl : r27 = (fX6_gives S a6) := hw9
        clear hB9 hz9 hk9 hvm9 ht9 hS
        generalize H1 = H at hR ⊢
        obtain ⟨a29, ea29⟩ : ∃ z, z = (fX6_gives S a6) := ⟨_, rfl⟩
        rw [← ea29]
        replace h := h a29 ea29
        refine lv_iload_n hx hb dX9_isUnaryFolded_47 rfl (lv_at hl 0 rfl) ?_
        refine lv_aload_n hx hb dX9_isUnaryFolded_48 rfl (lv_at hl 1 rfl) ?_
        have hT_b30 : qT S (qO S 66 0) = 47 := hR.w.ref (hR.w.ptr ptrC_39) (hR.w.2.1 _ finC_31).2.1
        refine va_get (D := rD g) (ci := 8) (v := .ref (ad (qO S 66 0))) (C := RX9) (T := TX9) (N := 6) hx hb hts inX9 hown hR.K hR.P 66 (hR.at48 (hR.w.2.1 _ finC_31).2.1) rfl 0 (by decide) (hts _ kw_1552) (fun _ h9 => h9) (congrArg (fun z => some (vf ad z)) (hR.w.ptr ptrC_39)) dX9_isUnaryFolded_49 ?_
        refine lv_iload_n hx hb dX9_isUnaryFolded_52 rfl (lv_at hl 2 rfl) ?_
        obtain ⟨hv31, h⟩ := h
        have hFc := cfree hR hA
        refine va_calll (va_runV (As := [.int x1]) (rest := [.int a6, .int a29, .int x1, .ref (ad 66)]) ⟨hx, hb, hml, hown, hts⟩ (rX8_argAt l g ad H.size S (qO S 66 0) x1 hR.w hT_b30 hv31) (cwV 1 hts (gd_V kw_1605 kw_1476 kw_1477 kw_782 kw_1475) rfl rfl rfl (by decide +kernel) ⟨Nat.le_of_ble_eq_true rfl, Nat.le_of_ble_eq_true rfl⟩) ⟨cblind, va_recv hR.K hR.P (ci := 7) (q0 := (qO S 66 0)) rfl (hR.at47 hT_b30), fun U hU hW9 => cmk hU hW9 hR hex hE hFc⟩ rfl rfl hl.1 rfl (lv_room (Nat.le_of_ble_eq_true rfl)) dX9_isUnaryFolded_53 ⟨Nat.le_of_ble_eq_true rfl, Nat.le_of_ble_eq_true rfl⟩) hR.sS (fun q _ h => hFc q h) hFc (fun r32 u9 t9 H1 locs ht9 hvm9 hw9 hB9 hz9 hk9 hS => ?_)
        have hR : RepC g ad A s S H1 locs := hR.call ht9 hB9 hR.w hS hFc
        obtain rfl : r32 = (fX8_argAt S (qO S 66 0) x1) := hw9
        clear hB9 hz9 hk9 hvm9 ht9 hS
        generalize H1 = H at hR ⊢
        obtain ⟨a34, ea34⟩ : ∃ z, z = (fX8_argAt S (qO S 66 0) x1) := ⟨_, rfl⟩
        rw [← ea34]
        replace h := h a34 ea34
        obtain ⟨hv35, h⟩ := h
        have hFc := cfree hR hA
        refine va_calll (va_runS (As := [.int a6, .long a34]) (rest := [.int a29, .int x1, .ref (ad 66)]) ⟨hx, hb, hml, hown, hts⟩ (rX6_unary l g ad H.size S a6 a34 hR.w  hv35) (va_cwS 2 hts (gd_S kw_1656 kw_1258 kw_1207 kw_1257) rfl rfl rfl (by decide +kernel) ⟨Nat.le_of_ble_eq_true rfl, Nat.le_of_ble_eq_true rfl⟩) ⟨cblind, fun U hU hW9 => cmk hU hW9 hR hex hE hFc⟩ rfl rfl hl.1 rfl (lv_room (Nat.le_of_ble_eq_true rfl)) dX9_isUnaryFolded_56 ⟨Nat.le_of_ble_eq_true rfl, Nat.le_of_ble_eq_true rfl⟩) hR.sS (fun q _ h => hFc q h) hFc (fun r36 u9 t9 H1 locs ht9 hvm9 hw9 hB9 hz9 hk9 hS => ?_)
        have hR : RepC g ad A s S H1 locs := hR.call ht9 hB9 hR.w hS hFc
        obtain rfl : r36 = (fX6_unary S a6 a34) := hw9
        clear hB9 hz9 hk9 hvm9 ht9 hS
        generalize H1 = H at hR ⊢
        obtain ⟨a38, ea38⟩ : ∃ z, z = (fX6_unary S a6 a34) := ⟨_, rfl⟩
        rw [← ea38]
        replace h := h a38 ea38
        obtain ⟨Q39, h0, h⟩ := h
        have hFc := cfree hR hA
        refine va_callv (va_runV (As := [.int x1, .int a29, .long a38]) (rest := []) ⟨hx, hb, hml, hown, hts⟩ (rX9_putPush l g ad H.size S x1 a29 a38 hR.w  Q39 h0) (cwV 3 hts (gd_V kw_1627 kw_1712 kw_1713 kw_404 kw_1711) rfl rfl rfl (by decide +kernel) ⟨Nat.le_of_ble_eq_true rfl, Nat.le_of_ble_eq_true rfl⟩) ⟨cblind, va_recv hR.K hR.P (ci := 8) (q0 := 66) rfl (hR.at48 (hR.w.2.1 _ finC_31).2.1), fun U hU hW9 => cmk hU hW9 hR hex hE hFc⟩ rfl rfl hl.1 rfl (lv_room (Nat.le_of_ble_eq_true rfl)) dX9_isUnaryFolded_59 ⟨Nat.le_of_ble_eq_true rfl, Nat.le_of_ble_eq_true rfl⟩) hR.sS (fun q _ h => hFc q h) hFc (fun  S40 t9 H1 locs ht9 hvm9 hw9 hB9 hz9 hk9 hS => ?_)
        obtain ⟨hq41, hw9, hs9⟩ := hw9
        have hR : RepC g ad A s S40 H1 locs := hR.call ht9 hB9 hw9 hS hFc
        have hsh := hsh.tr hs9
        replace h := h  S40 hq41 hw9 hs9
        clear hB9 hz9 hk9 hvm9 ht9 hw9 hs9 hS
        generalize H1 = H at hR ⊢
        refine lv_aload_n hx hb dX9_isUnaryFolded_62 rfl (lv_at hl 1 rfl) ?_
        have hT_b42 : qT S40 (qO S40 66 0) = 47 := hR.w.ref (hR.w.ptr ptrC_39) (hR.w.2.1 _ finC_31).2.1
        refine va_get (D := rD g) (ci := 8) (v := .ref (ad (qO S40 66 0))) (C := RX9) (T := TX9) (N := 6) hx hb hts inX9 hown hR.K hR.P 66 (hR.at48 (hR.w.2.1 _ finC_31).2.1) rfl 0 (by decide) (hts _ kw_1552) (fun _ h9 => h9) (congrArg (fun z => some (vf ad z)) (hR.w.ptr ptrC_39)) dX9_isUnaryFolded_63 ?_
        refine lv_iload_n hx hb dX9_isUnaryFolded_66 rfl (lv_at hl 2 rfl) ?_
        refine lv_iconst (v := 1) hx hb dX9_isUnaryFolded_67 (by decide) ?_
        refine lv_iadd hx hb dX9_isUnaryFolded_68 ?_
        refine lv_topi (fun z43 ez43 => ?_)
        obtain rfl : z43 = (x1 + (1 : Int32)) := ez43
        refine lv_iconst (v := 1) hx hb dX9_isUnaryFolded_69 (by decide) ?_
        replace h := h (hT_b42)
        obtain ⟨Q44, h0, h⟩ := h
        have hFc := cfree hR hA
        refine va_callv (va_runV (As := [.int (x1 + (1 : Int32)), .int 1]) (rest := []) ⟨hx, hb, hml, hown, hts⟩ (rX8_remove l g ad H.size S40 (qO S40 66 0) (x1 + (1 : Int32)) (1 : Int32) hR.w hT_b42 Q44 h0) (cwV 2 hts (gd_V kw_1555 kw_1516 kw_1517 kw_782 kw_1515) rfl rfl rfl (by decide +kernel) ⟨Nat.le_of_ble_eq_true rfl, Nat.le_of_ble_eq_true rfl⟩) ⟨cblind, va_recv hR.K hR.P (ci := 7) (q0 := (qO S40 66 0)) rfl (hR.at47 hT_b42), fun U hU hW9 => cmk hU hW9 hR hex hE hFc⟩ rfl rfl hl.1 rfl (lv_room (Nat.le_of_ble_eq_true rfl)) dX9_isUnaryFolded_70 ⟨Nat.le_of_ble_eq_true rfl, Nat.le_of_ble_eq_true rfl⟩) hR.sS (fun q _ h => hFc q h) hFc (fun  S45 t9 H1 locs ht9 hvm9 hw9 hB9 hz9 hk9 hS => ?_)
        obtain ⟨hq46, hw9, hs9⟩ := hw9
        have hR : RepC g ad A s S45 H1 locs := hR.call ht9 hB9 hw9 hS hFc
        have hsh := hsh.tr hs9
        replace h := h  S45 hq46 hw9 hs9
        clear hB9 hz9 hk9 hvm9 ht9 hw9 hs9 hS
        generalize H1 = H at hR ⊢
        refine lv_iconst (v := 1) hx hb dX9_isUnaryFolded_73 (by decide) ?_
        exact W.zret (v := 1) hx hb hr (nz (Or.inr rfl)) (fun t9 ht9 hW9 => ⟨⟨_, S45, rfl, ⟨h, hR.w, hsh, (Or.inr rfl)⟩, ⟨by rw [ht9]; exact hR.P, hR.D⟩⟩, hR.sS.F ht9⟩) hR.sS.2.2 dX9_isUnaryFolded_74
      · replace h := h.1 (k_eq rfl (by decide) c25)
        refine lv_iconst (v := 0) hx hb dX9_isUnaryFolded_39 (by decide) ?_
        exact W.zret (v := 0) hx hb hr (nz (Or.inl rfl)) (fun t9 ht9 hW9 => ⟨⟨_, S, rfl, ⟨h, hR.w, hsh, (Or.inl rfl)⟩, ⟨by rw [ht9]; exact hR.P, hR.D⟩⟩, hR.sS.F ht9⟩) hR.sS.2.2 dX9_isUnaryFolded_40
def w_X9_isJumpDecided_J113 (Q : Int32 → MS → Prop) (U113 : MS) (t113_0 : Int32) (t113_1 : Int32) (t113_2 : Int32) (v113_1 : Int32) (v113_2 : Int32) : Prop := (wfC U113 → (d_X6_isTaken U113 t113_2 t113_1 t113_0 ∧ (((fX6_isTaken U113 t113_2 t113_1 t113_0).toInt = 0 → (qT U113 (qO U113 66 0) = 47 → (∃ Q32, wX8_remove U113 (qO U113 66 0) v113_1 v113_2 Q32 ∧ ∀ S33, Q32 S33 → wfC S33 → shy U113 S33 → Q (1 : Int32) S33))) ∧ (¬ (fX6_isTaken U113 t113_2 t113_1 t113_0).toInt = 0 → (d_X8_argAt U113 (qO U113 66 0) ((v113_1 + v113_2) - (1 : Int32)) ∧ (qT U113 (qO U113 66 0) = 47 → (∃ Q42, wX8_set U113 (qO U113 66 0) v113_1 (167 : Int32) (fX8_argAt U113 (qO U113 66 0) ((v113_1 + v113_2) - (1 : Int32))) Q42 ∧ ∀ S43, Q42 S43 → wfC S43 → shy U113 S43 → (qT S43 (qO S43 66 0) = 47 → (∃ Q48, wX8_remove S43 (qO S43 66 0) (v113_1 + (1 : Int32)) (v113_2 - (1 : Int32)) Q48 ∧ ∀ S49, Q48 S49 → wfC S49 → shy S43 S49 → Q (1 : Int32) S49)))))))))
def w_X9_isJumpDecided_J55 (Q : Int32 → MS → Prop) (U55 : MS) (t55_0 : Int32) (v55_1 : Int32) (v55_2 : Int32) (v55_3 : Int32) : Prop := (wfC U55 → ((v55_3.toInt < t55_0.toInt → Q (0 : Int32) U55) ∧ (¬ v55_3.toInt < t55_0.toInt → (((t55_0 + (6 : Int32)).toInt ≤ v55_3.toInt → Q (0 : Int32) U55) ∧ (¬ (t55_0 + (6 : Int32)).toInt ≤ v55_3.toInt → (d_X9_isWindow U55 v55_1 v55_2 ∧ (((fX9_isWindow U55 v55_1 v55_2).toInt = 0 → Q (0 : Int32) U55) ∧ (¬ (fX9_isWindow U55 v55_1 v55_2).toInt = 0 → (d_X8_argAt U55 (qO U55 66 0) v55_1 ∧ ((v55_2.toInt = 3 → (d_X8_argAt U55 (qO U55 66 0) (v55_1 + (1 : Int32)) ∧ w_X9_isJumpDecided_J113 Q U55 ((fX8_argAt U55 (qO U55 66 0) (v55_1 + (1 : Int32))).toInt32) ((fX8_argAt U55 (qO U55 66 0) v55_1).toInt32) v55_3 v55_1 v55_2)) ∧ (¬ v55_2.toInt = 3 → w_X9_isJumpDecided_J113 Q U55 0 ((fX8_argAt U55 (qO U55 66 0) v55_1).toInt32) v55_3 v55_1 v55_2)))))))))))
def w_X9_isJumpDecided_J27 (Q : Int32 → MS → Prop) (U27 : MS) (t27_0 : Int32) (v27_1 : Int32) : Prop := (wfC U27 → (d_X8_opAt U27 (qO U27 66 0) ((v27_1 + t27_0) - (1 : Int32)) ∧ (∀ a15 : Int32, a15 = (fX8_opAt U27 (qO U27 66 0) ((v27_1 + t27_0) - (1 : Int32))) → ((t27_0.toInt = 3 → w_X9_isJumpDecided_J55 Q U27 159 v27_1 t27_0 a15) ∧ (¬ t27_0.toInt = 3 → w_X9_isJumpDecided_J55 Q U27 153 v27_1 t27_0 a15)))))
def wX9_isJumpDecided (S : MS) (x1 : Int32) (Q : Int32 → MS → Prop) : Prop := (d_X9_pushKind S x1 ∧ (((fX9_pushKind S x1).toInt = 1 → (d_X9_pushKind S (x1 + (1 : Int32)) ∧ (((fX9_pushKind S (x1 + (1 : Int32))).toInt = 1 → w_X9_isJumpDecided_J27 Q S 3 x1) ∧ (¬ (fX9_pushKind S (x1 + (1 : Int32))).toInt = 1 → w_X9_isJumpDecided_J27 Q S 2 x1)))) ∧ (¬ (fX9_pushKind S x1).toInt = 1 → Q (0 : Int32) S)))
set_option maxHeartbeats 2000000 in
set_option maxRecDepth 100000 in
theorem rX9_isJumpDecided (l : Launch) (g : Gr) (ad : Nat → Nat) (sz : Nat) (S : MS) (x1 : Int32) (hw : wfC S) (Q : Int32 → MS → Prop) (h : wX9_isJumpDecided S x1 Q) : Met l yX9_isJumpDecided (wt yX9_isJumpDecided cX9_isJumpDecided 5 (some .boolean)) ({ frames := 3, cells := 0, slots := 0, locals := 74 }) (va_Pc [.ref (ad 66), .int x1] (st_C g ad sz S)) (va_Qi (fun (r : Int32) (u : MS) => Q r u ∧ wfC u ∧ shy S u ∧ (r = 0 ∨ r = 1)) (fun (u : MS) (t : State) => qEC g ad (va_A (WdC g ad S) sz) u t) (va_A (WdC g ad S) sz)) 0 0 (va_A (WdC g ad S) sz) := by
  refine Met.ofW (cc := cX9_isJumpDecided) (maxL := 5) (ret := (some .boolean)) (by decide) rfl ?_
  intro p e s m args below meth c s₁ B hml hv
  obtain ⟨rfl, hsz, hP, hK, hD0, hex, hE⟩ := hv
  have hx := B.exec
  have hb := B.bytes
  have hr := B.returns
  have hts0 := atoms_spec (ws := wt yX9_isJumpDecided cX9_isJumpDecided 5 (some .boolean)) B.pre
  have hts : ∀ w ∈ tb, w.before _ s = true := fun w h => hts0 w (List.mem_cons_of_mem _ h)
  have hown : s.vm.findClass RX9 = some m.cls := findClass_of_methodNamed B.named
  subst hsz
  have hD := hD0.self (sz := s.heap.size)
  generalize hAe : va_A (WdC g ad S) s.heap.size = A at hD hE ⊢
  have hA : ∀ q : Nat, s.heap.size ≤ q → A q := fun q h => by rw [← hAe]; exact Or.inr h
  have hR : RepC g ad A s S s.heap [] := ⟨hK, hP, hD, va_S.rf, hw⟩
  clear hK hP hD hD0
  have hl := lv_entry ([.ref (ad 66), .int x1]) (n := 5) (Nat.le_of_ble_eq_true rfl)
  rw [lg_entry_eq]
  generalize (lg_sl ([.ref (ad 66), .int x1]) ++ List.replicate (5 - (lg_sl ([.ref (ad 66), .int x1])).length) Slot.unset).toArray = ls at hl ⊢
  have hl : lv_has ls 5 [(0, .ref (ad 66)), (1, .int x1)] := hl
  have hsh : shy S S := shy.rf
  unfold wX9_isJumpDecided at h
  refine lv_aload_n hx hb dX9_isJumpDecided_0 rfl (lv_at hl 0 rfl) ?_
  refine lv_iload_n hx hb dX9_isJumpDecided_1 rfl (lv_at hl 1 rfl) ?_
  obtain ⟨hv1, h⟩ := h
  have hFc := cfree hR hA
  refine va_calli (va_runV (As := [.int x1]) (rest := []) ⟨hx, hb, hml, hown, hts⟩ (rX9_pushKind l g ad s.heap.size S x1 hR.w  hv1) (cwV 1 hts (gd_V kw_1622 kw_1696 kw_1697 kw_404 kw_1695) rfl rfl rfl (by decide +kernel) ⟨Nat.le_of_ble_eq_true rfl, Nat.le_of_ble_eq_true rfl⟩) ⟨cblind, va_recv hR.K hR.P (ci := 8) (q0 := 66) rfl (hR.at48 (hR.w.2.1 _ finC_31).2.1), fun U hU hW9 => cmk hU hW9 hR hex hE hFc⟩ rfl rfl hl.1 rfl (lv_room (Nat.le_of_ble_eq_true rfl)) dX9_isJumpDecided_2 ⟨Nat.le_of_ble_eq_true rfl, Nat.le_of_ble_eq_true rfl⟩) hR.sS (fun q _ h => hFc q h) hFc (fun r2 u9 t9 H1 locs ht9 hvm9 hw9 hB9 hz9 hk9 hS => ?_)
  have hR : RepC g ad A s S H1 locs := hR.call ht9 hB9 hR.w hS hFc
  obtain rfl : r2 = (fX9_pushKind S x1) := hw9
  clear hB9 hz9 hk9 hvm9 ht9 hS
  generalize H1 = H at hR ⊢
  refine lv_iconst (v := 1) hx hb dX9_isJumpDecided_5 (by decide) ?_
  refine lv_icmp_eq (tgt := 11) hx hb dX9_isJumpDecided_6 (by decide) (fun c4 => ?_) (fun c4 => ?_)
  · replace h := h.1 (k_eq rfl (by decide) c4)
    refine lv_aload_n hx hb dX9_isJumpDecided_11 rfl (lv_at hl 0 rfl) ?_
    refine lv_iload_n hx hb dX9_isJumpDecided_12 rfl (lv_at hl 1 rfl) ?_
    refine lv_iconst (v := 1) hx hb dX9_isJumpDecided_13 (by decide) ?_
    refine lv_iadd hx hb dX9_isJumpDecided_14 ?_
    refine lv_topi (fun z5 ez5 => ?_)
    obtain rfl : z5 = (x1 + (1 : Int32)) := ez5
    obtain ⟨hv6, h⟩ := h
    have hFc := cfree hR hA
    refine va_calli (va_runV (As := [.int (x1 + (1 : Int32))]) (rest := []) ⟨hx, hb, hml, hown, hts⟩ (rX9_pushKind l g ad H.size S (x1 + (1 : Int32)) hR.w  hv6) (cwV 1 hts (gd_V kw_1622 kw_1696 kw_1697 kw_404 kw_1695) rfl rfl rfl (by decide +kernel) ⟨Nat.le_of_ble_eq_true rfl, Nat.le_of_ble_eq_true rfl⟩) ⟨cblind, va_recv hR.K hR.P (ci := 8) (q0 := 66) rfl (hR.at48 (hR.w.2.1 _ finC_31).2.1), fun U hU hW9 => cmk hU hW9 hR hex hE hFc⟩ rfl rfl hl.1 rfl (lv_room (Nat.le_of_ble_eq_true rfl)) dX9_isJumpDecided_15 ⟨Nat.le_of_ble_eq_true rfl, Nat.le_of_ble_eq_true rfl⟩) hR.sS (fun q _ h => hFc q h) hFc (fun r7 u9 t9 H1 locs ht9 hvm9 hw9 hB9 hz9 hk9 hS => ?_)
    have hR : RepC g ad A s S H1 locs := hR.call ht9 hB9 hR.w hS hFc
    obtain rfl : r7 = (fX9_pushKind S (x1 + (1 : Int32))) := hw9
    clear hB9 hz9 hk9 hvm9 ht9 hS
    generalize H1 = H at hR ⊢
    refine lv_iconst (v := 1) hx hb dX9_isJumpDecided_18 (by decide) ?_
    have J_27 : ∀ (U27 : MS) (t27_0 : Int32) (v27_1 : Int32) (H : Heap) (locs : List Loc) (ls : Array Slot), w_X9_isJumpDecided_J27 Q U27 t27_0 v27_1 → shy S U27 → RepC g ad A s U27 H locs → lv_has ls 5 [(0, .ref (ad 66)), (1, .int v27_1)] → W p l e (headSpec (wt yX9_isJumpDecided cX9_isJumpDecided 5 (some .boolean)) ({ frames := 3, cells := 0, slots := 0, locals := 74 })).room s m ([.ref (ad 66), .int x1] : List Value).toArray below meth c H locs 0 0 (MQ below (va_Qi (fun (r : Int32) (u : MS) => Q r u ∧ wfC u ∧ shy S u ∧ (r = 0 ∨ r = 1)) (fun (u : MS) (t : State) => qEC g ad A u t) A) ([.ref (ad 66), .int x1] : List Value).toArray s 0 0 A) (F0 m 27 ls [.int t27_0]) := by
      intro U27 t27_0 v27_1 H locs ls h hsh hR hl
      unfold w_X9_isJumpDecided_J27 at h
      replace h := h hR.w
      refine lv_istore_n (lv' := [(2, .int t27_0), (0, .ref (ad 66)), (1, .int v27_1)]) hx hb dX9_isJumpDecided_27 rfl hl (by decide) rfl (fun ls hl => ?_)
      refine lv_aload_n hx hb dX9_isJumpDecided_28 rfl (lv_at hl 1 rfl) ?_
      have hT_b9 : qT U27 (qO U27 66 0) = 47 := hR.w.ref (hR.w.ptr ptrC_39) (hR.w.2.1 _ finC_31).2.1
      refine va_get (D := rD g) (ci := 8) (v := .ref (ad (qO U27 66 0))) (C := RX9) (T := TX9) (N := 6) hx hb hts inX9 hown hR.K hR.P 66 (hR.at48 (hR.w.2.1 _ finC_31).2.1) rfl 0 (by decide) (hts _ kw_1552) (fun _ h9 => h9) (congrArg (fun z => some (vf ad z)) (hR.w.ptr ptrC_39)) dX9_isJumpDecided_29 ?_
      refine lv_iload_n hx hb dX9_isJumpDecided_32 rfl (lv_at hl 2 rfl) ?_
      refine lv_iload_n hx hb dX9_isJumpDecided_33 rfl (lv_at hl 0 rfl) ?_
      refine lv_iadd hx hb dX9_isJumpDecided_34 ?_
      refine lv_topi (fun z10 ez10 => ?_)
      obtain rfl : z10 = (v27_1 + t27_0) := ez10
      refine lv_iconst (v := 1) hx hb dX9_isJumpDecided_35 (by decide) ?_
      refine lv_isub hx hb dX9_isJumpDecided_36 ?_
      refine lv_topi (fun z11 ez11 => ?_)
      obtain rfl : z11 = ((v27_1 + t27_0) - (1 : Int32)) := ez11
      obtain ⟨hv12, h⟩ := h
      have hFc := cfree hR hA
      refine va_calli (va_runV (As := [.int ((v27_1 + t27_0) - (1 : Int32))]) (rest := []) ⟨hx, hb, hml, hown, hts⟩ (rX8_opAt l g ad H.size U27 (qO U27 66 0) ((v27_1 + t27_0) - (1 : Int32)) hR.w hT_b9 hv12) (cwV 1 hts (gd_V kw_1596 kw_1513 kw_1514 kw_782 kw_1512) rfl rfl rfl (by decide +kernel) ⟨Nat.le_of_ble_eq_true rfl, Nat.le_of_ble_eq_true rfl⟩) ⟨cblind, va_recv hR.K hR.P (ci := 7) (q0 := (qO U27 66 0)) rfl (hR.at47 hT_b9), fun U hU hW9 => cmk hU hW9 hR hex hE hFc⟩ rfl rfl hl.1 rfl (lv_room (Nat.le_of_ble_eq_true rfl)) dX9_isJumpDecided_37 ⟨Nat.le_of_ble_eq_true rfl, Nat.le_of_ble_eq_true rfl⟩) hR.sS (fun q _ h => hFc q h) hFc (fun r13 u9 t9 H1 locs ht9 hvm9 hw9 hB9 hz9 hk9 hS => ?_)
      have hR : RepC g ad A s U27 H1 locs := hR.call ht9 hB9 hR.w hS hFc
      obtain rfl : r13 = (fX8_opAt U27 (qO U27 66 0) ((v27_1 + t27_0) - (1 : Int32))) := hw9
      clear hB9 hz9 hk9 hvm9 ht9 hS
      generalize H1 = H at hR ⊢
      obtain ⟨a15, ea15⟩ : ∃ z, z = (fX8_opAt U27 (qO U27 66 0) ((v27_1 + t27_0) - (1 : Int32))) := ⟨_, rfl⟩
      rw [← ea15]
      replace h := h a15 ea15
      refine lv_istore_n (lv' := [(3, .int a15), (2, .int t27_0), (0, .ref (ad 66)), (1, .int v27_1)]) hx hb dX9_isJumpDecided_40 rfl hl (by decide) rfl (fun ls hl => ?_)
      refine lv_iload_n hx hb dX9_isJumpDecided_41 rfl (lv_at hl 1 rfl) ?_
      refine lv_iconst (v := 3) hx hb dX9_isJumpDecided_42 (by decide) ?_
      have J_55 : ∀ (U55 : MS) (t55_0 : Int32) (v55_1 : Int32) (v55_2 : Int32) (v55_3 : Int32) (H : Heap) (locs : List Loc) (ls : Array Slot), w_X9_isJumpDecided_J55 Q U55 t55_0 v55_1 v55_2 v55_3 → shy S U55 → RepC g ad A s U55 H locs → lv_has ls 5 [(0, .ref (ad 66)), (1, .int v55_1), (2, .int v55_2), (3, .int v55_3)] → W p l e (headSpec (wt yX9_isJumpDecided cX9_isJumpDecided 5 (some .boolean)) ({ frames := 3, cells := 0, slots := 0, locals := 74 })).room s m ([.ref (ad 66), .int x1] : List Value).toArray below meth c H locs 0 0 (MQ below (va_Qi (fun (r : Int32) (u : MS) => Q r u ∧ wfC u ∧ shy S u ∧ (r = 0 ∨ r = 1)) (fun (u : MS) (t : State) => qEC g ad A u t) A) ([.ref (ad 66), .int x1] : List Value).toArray s 0 0 A) (F0 m 55 ls [.int t55_0]) := by
        intro U55 t55_0 v55_1 v55_2 v55_3 H locs ls h hsh hR hl
        unfold w_X9_isJumpDecided_J55 at h
        replace h := h hR.w
        refine lv_istore (lv' := [(4, .int t55_0), (0, .ref (ad 66)), (1, .int v55_1), (2, .int v55_2), (3, .int v55_3)]) hx hb dX9_isJumpDecided_55 hl (by decide) rfl (fun ls hl => ?_)
        refine lv_iload_n hx hb dX9_isJumpDecided_57 rfl (lv_at hl 4 rfl) ?_
        refine lv_iload hx hb dX9_isJumpDecided_58 (lv_at hl 0 rfl) ?_
        refine lv_icmp_lt (tgt := 81) hx hb dX9_isJumpDecided_60 (by decide) (fun c16 => ?_) (fun c16 => ?_)
        · replace h := h.1 (k_lt rfl rfl c16)
          refine lv_iconst (v := 0) hx hb dX9_isJumpDecided_81 (by decide) ?_
          exact W.zret (v := 0) hx hb hr (nz (Or.inl rfl)) (fun t9 ht9 hW9 => ⟨⟨_, U55, rfl, ⟨h, hR.w, hsh, (Or.inl rfl)⟩, ⟨by rw [ht9]; exact hR.P, hR.D⟩⟩, hR.sS.F ht9⟩) hR.sS.2.2 dX9_isJumpDecided_82
        · replace h := h.2 (k_nlt rfl rfl c16)
          refine lv_iload_n hx hb dX9_isJumpDecided_63 rfl (lv_at hl 4 rfl) ?_
          refine lv_iload hx hb dX9_isJumpDecided_64 (lv_at hl 0 rfl) ?_
          refine lv_bipush (v := 6) hx hb dX9_isJumpDecided_66 (by decide) ?_
          refine lv_iadd hx hb dX9_isJumpDecided_68 ?_
          refine lv_topi (fun z17 ez17 => ?_)
          obtain rfl : z17 = (t55_0 + (6 : Int32)) := ez17
          refine lv_icmp_ge (tgt := 81) hx hb dX9_isJumpDecided_69 (by decide) (fun c18 => ?_) (fun c18 => ?_)
          · replace h := h.1 (k_le rfl rfl c18)
            refine lv_iconst (v := 0) hx hb dX9_isJumpDecided_81 (by decide) ?_
            exact W.zret (v := 0) hx hb hr (nz (Or.inl rfl)) (fun t9 ht9 hW9 => ⟨⟨_, U55, rfl, ⟨h, hR.w, hsh, (Or.inl rfl)⟩, ⟨by rw [ht9]; exact hR.P, hR.D⟩⟩, hR.sS.F ht9⟩) hR.sS.2.2 dX9_isJumpDecided_82
          · replace h := h.2 (k_nle rfl rfl c18)
            refine lv_aload_n hx hb dX9_isJumpDecided_72 rfl (lv_at hl 1 rfl) ?_
            refine lv_iload_n hx hb dX9_isJumpDecided_73 rfl (lv_at hl 2 rfl) ?_
            refine lv_iload_n hx hb dX9_isJumpDecided_74 rfl (lv_at hl 3 rfl) ?_
            obtain ⟨hv19, h⟩ := h
            have hFc := cfree hR hA
            refine va_calli (va_runV (As := [.int v55_1, .int v55_2]) (rest := []) ⟨hx, hb, hml, hown, hts⟩ (rX9_isWindow l g ad H.size U55 v55_1 v55_2 hR.w  hv19) (cwV 2 hts (gd_V kw_1610 kw_1658 kw_1659 kw_404 kw_1657) rfl rfl rfl (by decide +kernel) ⟨Nat.le_of_ble_eq_true rfl, Nat.le_of_ble_eq_true rfl⟩) ⟨cblind, va_recv hR.K hR.P (ci := 8) (q0 := 66) rfl (hR.at48 (hR.w.2.1 _ finC_31).2.1), fun U hU hW9 => cmk hU hW9 hR hex hE hFc⟩ rfl rfl hl.1 rfl (lv_room (Nat.le_of_ble_eq_true rfl)) dX9_isJumpDecided_75 ⟨Nat.le_of_ble_eq_true rfl, Nat.le_of_ble_eq_true rfl⟩) hR.sS (fun q _ h => hFc q h) hFc (fun r20 u9 t9 H1 locs ht9 hvm9 hw9 hB9 hz9 hk9 hS => ?_)
            have hR : RepC g ad A s U55 H1 locs := hR.call ht9 hB9 hR.w hS hFc
            obtain ⟨rfl, hz_r20⟩ := hw9
            clear hB9 hz9 hk9 hvm9 ht9 hS
            generalize H1 = H at hR ⊢
            refine lv_if_ne (tgt := 83) hx hb dX9_isJumpDecided_78 (by decide) (fun c22 => ?_) (fun c22 => ?_)
            · replace h := h.2 (k_ne rfl (by decide) c22)
              refine lv_iload_n hx hb dX9_isJumpDecided_83 rfl (lv_at hl 4 rfl) ?_
              refine lv_aload_n hx hb dX9_isJumpDecided_84 rfl (lv_at hl 1 rfl) ?_
              have hT_b23 : qT U55 (qO U55 66 0) = 47 := hR.w.ref (hR.w.ptr ptrC_39) (hR.w.2.1 _ finC_31).2.1
              refine va_get (D := rD g) (ci := 8) (v := .ref (ad (qO U55 66 0))) (C := RX9) (T := TX9) (N := 6) hx hb hts inX9 hown hR.K hR.P 66 (hR.at48 (hR.w.2.1 _ finC_31).2.1) rfl 0 (by decide) (hts _ kw_1552) (fun _ h9 => h9) (congrArg (fun z => some (vf ad z)) (hR.w.ptr ptrC_39)) dX9_isJumpDecided_85 ?_
              refine lv_iload_n hx hb dX9_isJumpDecided_88 rfl (lv_at hl 2 rfl) ?_
              obtain ⟨hv24, h⟩ := h
              have hFc := cfree hR hA
              refine va_calll (va_runV (As := [.int v55_1]) (rest := [.int v55_3]) ⟨hx, hb, hml, hown, hts⟩ (rX8_argAt l g ad H.size U55 (qO U55 66 0) v55_1 hR.w hT_b23 hv24) (cwV 1 hts (gd_V kw_1605 kw_1476 kw_1477 kw_782 kw_1475) rfl rfl rfl (by decide +kernel) ⟨Nat.le_of_ble_eq_true rfl, Nat.le_of_ble_eq_true rfl⟩) ⟨cblind, va_recv hR.K hR.P (ci := 7) (q0 := (qO U55 66 0)) rfl (hR.at47 hT_b23), fun U hU hW9 => cmk hU hW9 hR hex hE hFc⟩ rfl rfl hl.1 rfl (lv_room (Nat.le_of_ble_eq_true rfl)) dX9_isJumpDecided_89 ⟨Nat.le_of_ble_eq_true rfl, Nat.le_of_ble_eq_true rfl⟩) hR.sS (fun q _ h => hFc q h) hFc (fun r25 u9 t9 H1 locs ht9 hvm9 hw9 hB9 hz9 hk9 hS => ?_)
              have hR : RepC g ad A s U55 H1 locs := hR.call ht9 hB9 hR.w hS hFc
              obtain rfl : r25 = (fX8_argAt U55 (qO U55 66 0) v55_1) := hw9
              clear hB9 hz9 hk9 hvm9 ht9 hS
              generalize H1 = H at hR ⊢
              refine lv_l2i (v := ((fX8_argAt U55 (qO U55 66 0) v55_1).toInt32)) hx hb dX9_isJumpDecided_92 rfl ?_
              refine lv_iload_n hx hb dX9_isJumpDecided_93 rfl (lv_at hl 3 rfl) ?_
              refine lv_iconst (v := 3) hx hb dX9_isJumpDecided_94 (by decide) ?_
              have J_113 : ∀ (U113 : MS) (t113_0 : Int32) (t113_1 : Int32) (t113_2 : Int32) (v113_1 : Int32) (v113_2 : Int32) (H : Heap) (locs : List Loc) (ls : Array Slot), w_X9_isJumpDecided_J113 Q U113 t113_0 t113_1 t113_2 v113_1 v113_2 → shy S U113 → RepC g ad A s U113 H locs → lv_has ls 5 [(0, .ref (ad 66)), (1, .int v113_1), (2, .int v113_2)] → W p l e (headSpec (wt yX9_isJumpDecided cX9_isJumpDecided 5 (some .boolean)) ({ frames := 3, cells := 0, slots := 0, locals := 74 })).room s m ([.ref (ad 66), .int x1] : List Value).toArray below meth c H locs 0 0 (MQ below (va_Qi (fun (r : Int32) (u : MS) => Q r u ∧ wfC u ∧ shy S u ∧ (r = 0 ∨ r = 1)) (fun (u : MS) (t : State) => qEC g ad A u t) A) ([.ref (ad 66), .int x1] : List Value).toArray s 0 0 A) (F0 m 113 ls [.int t113_0, .int t113_1, .int t113_2]) := by
                intro U113 t113_0 t113_1 t113_2 v113_1 v113_2 H locs ls h hsh hR hl
                unfold w_X9_isJumpDecided_J113 at h
                replace h := h hR.w
                obtain ⟨hv27, h⟩ := h
                have hFc := cfree hR hA
                refine va_calli (va_runS (As := [.int t113_2, .int t113_1, .int t113_0]) (rest := []) ⟨hx, hb, hml, hown, hts⟩ (rX6_isTaken l g ad H.size U113 t113_2 t113_1 t113_0 hR.w  hv27) (va_cwS 3 hts (gd_S kw_1631 kw_1235 kw_1207 kw_1234) rfl rfl rfl (by decide +kernel) ⟨Nat.le_of_ble_eq_true rfl, Nat.le_of_ble_eq_true rfl⟩) ⟨cblind, fun U hU hW9 => cmk hU hW9 hR hex hE hFc⟩ rfl rfl hl.1 rfl (lv_room (Nat.le_of_ble_eq_true rfl)) dX9_isJumpDecided_113 ⟨Nat.le_of_ble_eq_true rfl, Nat.le_of_ble_eq_true rfl⟩) hR.sS (fun q _ h => hFc q h) hFc (fun r28 u9 t9 H1 locs ht9 hvm9 hw9 hB9 hz9 hk9 hS => ?_)
                have hR : RepC g ad A s U113 H1 locs := hR.call ht9 hB9 hR.w hS hFc
                obtain ⟨rfl, hz_r28⟩ := hw9
                clear hB9 hz9 hk9 hvm9 ht9 hS
                generalize H1 = H at hR ⊢
                refine lv_if_eq (tgt := 158) hx hb dX9_isJumpDecided_116 (by decide) (fun c30 => ?_) (fun c30 => ?_)
                · replace h := h.1 (k_eq rfl (by decide) c30)
                  refine lv_aload_n hx hb dX9_isJumpDecided_158 rfl (lv_at hl 0 rfl) ?_
                  have hT_b31 : qT U113 (qO U113 66 0) = 47 := hR.w.ref (hR.w.ptr ptrC_39) (hR.w.2.1 _ finC_31).2.1
                  refine va_get (D := rD g) (ci := 8) (v := .ref (ad (qO U113 66 0))) (C := RX9) (T := TX9) (N := 6) hx hb hts inX9 hown hR.K hR.P 66 (hR.at48 (hR.w.2.1 _ finC_31).2.1) rfl 0 (by decide) (hts _ kw_1552) (fun _ h9 => h9) (congrArg (fun z => some (vf ad z)) (hR.w.ptr ptrC_39)) dX9_isJumpDecided_159 ?_
                  refine lv_iload_n hx hb dX9_isJumpDecided_162 rfl (lv_at hl 1 rfl) ?_
                  refine lv_iload_n hx hb dX9_isJumpDecided_163 rfl (lv_at hl 2 rfl) ?_
                  replace h := h (hT_b31)
                  obtain ⟨Q32, h0, h⟩ := h
                  have hFc := cfree hR hA
                  refine va_callv (va_runV (As := [.int v113_1, .int v113_2]) (rest := []) ⟨hx, hb, hml, hown, hts⟩ (rX8_remove l g ad H.size U113 (qO U113 66 0) v113_1 v113_2 hR.w hT_b31 Q32 h0) (cwV 2 hts (gd_V kw_1555 kw_1516 kw_1517 kw_782 kw_1515) rfl rfl rfl (by decide +kernel) ⟨Nat.le_of_ble_eq_true rfl, Nat.le_of_ble_eq_true rfl⟩) ⟨cblind, va_recv hR.K hR.P (ci := 7) (q0 := (qO U113 66 0)) rfl (hR.at47 hT_b31), fun U hU hW9 => cmk hU hW9 hR hex hE hFc⟩ rfl rfl hl.1 rfl (lv_room (Nat.le_of_ble_eq_true rfl)) dX9_isJumpDecided_164 ⟨Nat.le_of_ble_eq_true rfl, Nat.le_of_ble_eq_true rfl⟩) hR.sS (fun q _ h => hFc q h) hFc (fun  S33 t9 H1 locs ht9 hvm9 hw9 hB9 hz9 hk9 hS => ?_)
                  obtain ⟨hq34, hw9, hs9⟩ := hw9
                  have hR : RepC g ad A s S33 H1 locs := hR.call ht9 hB9 hw9 hS hFc
                  have hsh := hsh.tr hs9
                  replace h := h  S33 hq34 hw9 hs9
                  clear hB9 hz9 hk9 hvm9 ht9 hw9 hs9 hS
                  generalize H1 = H at hR ⊢
                  refine lv_iconst (v := 1) hx hb dX9_isJumpDecided_167 (by decide) ?_
                  exact W.zret (v := 1) hx hb hr (nz (Or.inr rfl)) (fun t9 ht9 hW9 => ⟨⟨_, S33, rfl, ⟨h, hR.w, hsh, (Or.inr rfl)⟩, ⟨by rw [ht9]; exact hR.P, hR.D⟩⟩, hR.sS.F ht9⟩) hR.sS.2.2 dX9_isJumpDecided_168
                · replace h := h.2 (k_ne rfl (by decide) c30)
                  refine lv_aload_n hx hb dX9_isJumpDecided_119 rfl (lv_at hl 0 rfl) ?_
                  have hT_b35 : qT U113 (qO U113 66 0) = 47 := hR.w.ref (hR.w.ptr ptrC_39) (hR.w.2.1 _ finC_31).2.1
                  refine va_get (D := rD g) (ci := 8) (v := .ref (ad (qO U113 66 0))) (C := RX9) (T := TX9) (N := 6) hx hb hts inX9 hown hR.K hR.P 66 (hR.at48 (hR.w.2.1 _ finC_31).2.1) rfl 0 (by decide) (hts _ kw_1552) (fun _ h9 => h9) (congrArg (fun z => some (vf ad z)) (hR.w.ptr ptrC_39)) dX9_isJumpDecided_120 ?_
                  refine lv_iload_n hx hb dX9_isJumpDecided_123 rfl (lv_at hl 1 rfl) ?_
                  refine lv_sipush (v := 167) hx hb dX9_isJumpDecided_124 (by decide) ?_
                  refine lv_aload_n hx hb dX9_isJumpDecided_127 rfl (lv_at hl 0 rfl) ?_
                  have hT_b36 : qT U113 (qO U113 66 0) = 47 := hR.w.ref (hR.w.ptr ptrC_39) (hR.w.2.1 _ finC_31).2.1
                  refine va_get (D := rD g) (ci := 8) (v := .ref (ad (qO U113 66 0))) (C := RX9) (T := TX9) (N := 6) hx hb hts inX9 hown hR.K hR.P 66 (hR.at48 (hR.w.2.1 _ finC_31).2.1) rfl 0 (by decide) (hts _ kw_1552) (fun _ h9 => h9) (congrArg (fun z => some (vf ad z)) (hR.w.ptr ptrC_39)) dX9_isJumpDecided_128 ?_
                  refine lv_iload_n hx hb dX9_isJumpDecided_131 rfl (lv_at hl 1 rfl) ?_
                  refine lv_iload_n hx hb dX9_isJumpDecided_132 rfl (lv_at hl 2 rfl) ?_
                  refine lv_iadd hx hb dX9_isJumpDecided_133 ?_
                  refine lv_topi (fun z37 ez37 => ?_)
                  obtain rfl : z37 = (v113_1 + v113_2) := ez37
                  refine lv_iconst (v := 1) hx hb dX9_isJumpDecided_134 (by decide) ?_
                  refine lv_isub hx hb dX9_isJumpDecided_135 ?_
                  refine lv_topi (fun z38 ez38 => ?_)
                  obtain rfl : z38 = ((v113_1 + v113_2) - (1 : Int32)) := ez38
                  obtain ⟨hv39, h⟩ := h
                  have hFc := cfree hR hA
                  refine va_calll (va_runV (As := [.int ((v113_1 + v113_2) - (1 : Int32))]) (rest := [.int 167, .int v113_1, .ref (ad (qO U113 66 0))]) ⟨hx, hb, hml, hown, hts⟩ (rX8_argAt l g ad H.size U113 (qO U113 66 0) ((v113_1 + v113_2) - (1 : Int32)) hR.w hT_b36 hv39) (cwV 1 hts (gd_V kw_1605 kw_1476 kw_1477 kw_782 kw_1475) rfl rfl rfl (by decide +kernel) ⟨Nat.le_of_ble_eq_true rfl, Nat.le_of_ble_eq_true rfl⟩) ⟨cblind, va_recv hR.K hR.P (ci := 7) (q0 := (qO U113 66 0)) rfl (hR.at47 hT_b36), fun U hU hW9 => cmk hU hW9 hR hex hE hFc⟩ rfl rfl hl.1 rfl (lv_room (Nat.le_of_ble_eq_true rfl)) dX9_isJumpDecided_136 ⟨Nat.le_of_ble_eq_true rfl, Nat.le_of_ble_eq_true rfl⟩) hR.sS (fun q _ h => hFc q h) hFc (fun r40 u9 t9 H1 locs ht9 hvm9 hw9 hB9 hz9 hk9 hS => ?_)
                  have hR : RepC g ad A s U113 H1 locs := hR.call ht9 hB9 hR.w hS hFc
                  obtain rfl : r40 = (fX8_argAt U113 (qO U113 66 0) ((v113_1 + v113_2) - (1 : Int32))) := hw9
                  clear hB9 hz9 hk9 hvm9 ht9 hS
                  generalize H1 = H at hR ⊢
                  replace h := h (hT_b35)
                  obtain ⟨Q42, h0, h⟩ := h
                  have hFc := cfree hR hA
                  refine va_callv (va_runV (As := [.int v113_1, .int 167, .long (fX8_argAt U113 (qO U113 66 0) ((v113_1 + v113_2) - (1 : Int32)))]) (rest := []) ⟨hx, hb, hml, hown, hts⟩ (rX8_set l g ad H.size U113 (qO U113 66 0) v113_1 (167 : Int32) (fX8_argAt U113 (qO U113 66 0) ((v113_1 + v113_2) - (1 : Int32))) hR.w hT_b35 Q42 h0) (cwV 3 hts (gd_V kw_1600 kw_1523 kw_1524 kw_782 kw_1522) rfl rfl rfl (by decide +kernel) ⟨Nat.le_of_ble_eq_true rfl, Nat.le_of_ble_eq_true rfl⟩) ⟨cblind, va_recv hR.K hR.P (ci := 7) (q0 := (qO U113 66 0)) rfl (hR.at47 hT_b35), fun U hU hW9 => cmk hU hW9 hR hex hE hFc⟩ rfl rfl hl.1 rfl (lv_room (Nat.le_of_ble_eq_true rfl)) dX9_isJumpDecided_139 ⟨Nat.le_of_ble_eq_true rfl, Nat.le_of_ble_eq_true rfl⟩) hR.sS (fun q _ h => hFc q h) hFc (fun  S43 t9 H1 locs ht9 hvm9 hw9 hB9 hz9 hk9 hS => ?_)
                  obtain ⟨hq44, hw9, hs9⟩ := hw9
                  have hR : RepC g ad A s S43 H1 locs := hR.call ht9 hB9 hw9 hS hFc
                  have hsh := hsh.tr hs9
                  replace h := h  S43 hq44 hw9 hs9
                  clear hB9 hz9 hk9 hvm9 ht9 hw9 hs9 hS
                  generalize H1 = H at hR ⊢
                  refine lv_aload_n hx hb dX9_isJumpDecided_142 rfl (lv_at hl 0 rfl) ?_
                  have hT_b45 : qT S43 (qO S43 66 0) = 47 := hR.w.ref (hR.w.ptr ptrC_39) (hR.w.2.1 _ finC_31).2.1
                  refine va_get (D := rD g) (ci := 8) (v := .ref (ad (qO S43 66 0))) (C := RX9) (T := TX9) (N := 6) hx hb hts inX9 hown hR.K hR.P 66 (hR.at48 (hR.w.2.1 _ finC_31).2.1) rfl 0 (by decide) (hts _ kw_1552) (fun _ h9 => h9) (congrArg (fun z => some (vf ad z)) (hR.w.ptr ptrC_39)) dX9_isJumpDecided_143 ?_
                  refine lv_iload_n hx hb dX9_isJumpDecided_146 rfl (lv_at hl 1 rfl) ?_
                  refine lv_iconst (v := 1) hx hb dX9_isJumpDecided_147 (by decide) ?_
                  refine lv_iadd hx hb dX9_isJumpDecided_148 ?_
                  refine lv_topi (fun z46 ez46 => ?_)
                  obtain rfl : z46 = (v113_1 + (1 : Int32)) := ez46
                  refine lv_iload_n hx hb dX9_isJumpDecided_149 rfl (lv_at hl 2 rfl) ?_
                  refine lv_iconst (v := 1) hx hb dX9_isJumpDecided_150 (by decide) ?_
                  refine lv_isub hx hb dX9_isJumpDecided_151 ?_
                  refine lv_topi (fun z47 ez47 => ?_)
                  obtain rfl : z47 = (v113_2 - (1 : Int32)) := ez47
                  replace h := h (hT_b45)
                  obtain ⟨Q48, h0, h⟩ := h
                  have hFc := cfree hR hA
                  refine va_callv (va_runV (As := [.int (v113_1 + (1 : Int32)), .int (v113_2 - (1 : Int32))]) (rest := []) ⟨hx, hb, hml, hown, hts⟩ (rX8_remove l g ad H.size S43 (qO S43 66 0) (v113_1 + (1 : Int32)) (v113_2 - (1 : Int32)) hR.w hT_b45 Q48 h0) (cwV 2 hts (gd_V kw_1555 kw_1516 kw_1517 kw_782 kw_1515) rfl rfl rfl (by decide +kernel) ⟨Nat.le_of_ble_eq_true rfl, Nat.le_of_ble_eq_true rfl⟩) ⟨cblind, va_recv hR.K hR.P (ci := 7) (q0 := (qO S43 66 0)) rfl (hR.at47 hT_b45), fun U hU hW9 => cmk hU hW9 hR hex hE hFc⟩ rfl rfl hl.1 rfl (lv_room (Nat.le_of_ble_eq_true rfl)) dX9_isJumpDecided_152 ⟨Nat.le_of_ble_eq_true rfl, Nat.le_of_ble_eq_true rfl⟩) hR.sS (fun q _ h => hFc q h) hFc (fun  S49 t9 H1 locs ht9 hvm9 hw9 hB9 hz9 hk9 hS => ?_)
                  obtain ⟨hq50, hw9, hs9⟩ := hw9
                  have hR : RepC g ad A s S49 H1 locs := hR.call ht9 hB9 hw9 hS hFc
                  have hsh := hsh.tr hs9
                  replace h := h  S49 hq50 hw9 hs9
                  clear hB9 hz9 hk9 hvm9 ht9 hw9 hs9 hS
                  generalize H1 = H at hR ⊢
                  refine lv_goto (tgt := 167) hx hb dX9_isJumpDecided_155 (by decide) ?_
                  refine lv_iconst (v := 1) hx hb dX9_isJumpDecided_167 (by decide) ?_
                  exact W.zret (v := 1) hx hb hr (nz (Or.inr rfl)) (fun t9 ht9 hW9 => ⟨⟨_, S49, rfl, ⟨h, hR.w, hsh, (Or.inr rfl)⟩, ⟨by rw [ht9]; exact hR.P, hR.D⟩⟩, hR.sS.F ht9⟩) hR.sS.2.2 dX9_isJumpDecided_168
              refine lv_icmp_ne (tgt := 112) hx hb dX9_isJumpDecided_95 (by decide) (fun c51 => ?_) (fun c51 => ?_)
              · replace h := h.2 (k_ne rfl (by decide) c51)
                refine lv_iconst (v := 0) hx hb dX9_isJumpDecided_112 (by decide) ?_
                exact J_113 U55 0 ((fX8_argAt U55 (qO U55 66 0) v55_1).toInt32) v55_3 v55_1 v55_2 _ _ ls h  hsh hR (lv_sub hl [1, 2, 3] rfl)
              · replace h := h.1 (k_eq rfl (by decide) c51)
                refine lv_aload_n hx hb dX9_isJumpDecided_98 rfl (lv_at hl 1 rfl) ?_
                have hT_b52 : qT U55 (qO U55 66 0) = 47 := hR.w.ref (hR.w.ptr ptrC_39) (hR.w.2.1 _ finC_31).2.1
                refine va_get (D := rD g) (ci := 8) (v := .ref (ad (qO U55 66 0))) (C := RX9) (T := TX9) (N := 6) hx hb hts inX9 hown hR.K hR.P 66 (hR.at48 (hR.w.2.1 _ finC_31).2.1) rfl 0 (by decide) (hts _ kw_1552) (fun _ h9 => h9) (congrArg (fun z => some (vf ad z)) (hR.w.ptr ptrC_39)) dX9_isJumpDecided_99 ?_
                refine lv_iload_n hx hb dX9_isJumpDecided_102 rfl (lv_at hl 2 rfl) ?_
                refine lv_iconst (v := 1) hx hb dX9_isJumpDecided_103 (by decide) ?_
                refine lv_iadd hx hb dX9_isJumpDecided_104 ?_
                refine lv_topi (fun z53 ez53 => ?_)
                obtain rfl : z53 = (v55_1 + (1 : Int32)) := ez53
                obtain ⟨hv54, h⟩ := h
                have hFc := cfree hR hA
                refine va_calll (va_runV (As := [.int (v55_1 + (1 : Int32))]) (rest := [.int ((fX8_argAt U55 (qO U55 66 0) v55_1).toInt32), .int v55_3]) ⟨hx, hb, hml, hown, hts⟩ (rX8_argAt l g ad H.size U55 (qO U55 66 0) (v55_1 + (1 : Int32)) hR.w hT_b52 hv54) (cwV 1 hts (gd_V kw_1605 kw_1476 kw_1477 kw_782 kw_1475) rfl rfl rfl (by decide +kernel) ⟨Nat.le_of_ble_eq_true rfl, Nat.le_of_ble_eq_true rfl⟩) ⟨cblind, va_recv hR.K hR.P (ci := 7) (q0 := (qO U55 66 0)) rfl (hR.at47 hT_b52), fun U hU hW9 => cmk hU hW9 hR hex hE hFc⟩ rfl rfl hl.1 rfl (lv_room (Nat.le_of_ble_eq_true rfl)) dX9_isJumpDecided_105 ⟨Nat.le_of_ble_eq_true rfl, Nat.le_of_ble_eq_true rfl⟩) hR.sS (fun q _ h => hFc q h) hFc (fun r55 u9 t9 H1 locs ht9 hvm9 hw9 hB9 hz9 hk9 hS => ?_)
                have hR : RepC g ad A s U55 H1 locs := hR.call ht9 hB9 hR.w hS hFc
                obtain rfl : r55 = (fX8_argAt U55 (qO U55 66 0) (v55_1 + (1 : Int32))) := hw9
                clear hB9 hz9 hk9 hvm9 ht9 hS
                generalize H1 = H at hR ⊢
                refine lv_l2i (v := ((fX8_argAt U55 (qO U55 66 0) (v55_1 + (1 : Int32))).toInt32)) hx hb dX9_isJumpDecided_108 rfl ?_
                refine lv_goto (tgt := 113) hx hb dX9_isJumpDecided_109 (by decide) ?_
                exact J_113 U55 ((fX8_argAt U55 (qO U55 66 0) (v55_1 + (1 : Int32))).toInt32) ((fX8_argAt U55 (qO U55 66 0) v55_1).toInt32) v55_3 v55_1 v55_2 _ _ ls h  hsh hR (lv_sub hl [1, 2, 3] rfl)
            · replace h := h.1 (k_eq rfl (by decide) c22)
              refine lv_iconst (v := 0) hx hb dX9_isJumpDecided_81 (by decide) ?_
              exact W.zret (v := 0) hx hb hr (nz (Or.inl rfl)) (fun t9 ht9 hW9 => ⟨⟨_, U55, rfl, ⟨h, hR.w, hsh, (Or.inl rfl)⟩, ⟨by rw [ht9]; exact hR.P, hR.D⟩⟩, hR.sS.F ht9⟩) hR.sS.2.2 dX9_isJumpDecided_82
      refine lv_icmp_ne (tgt := 52) hx hb dX9_isJumpDecided_43 (by decide) (fun c57 => ?_) (fun c57 => ?_)
      · replace h := h.2 (k_ne rfl (by decide) c57)
        refine lv_sipush (v := 153) hx hb dX9_isJumpDecided_52 (by decide) ?_
        exact J_55 U27 153 v27_1 t27_0 a15 _ _ ls h  hsh hR (lv_sub hl [2, 3, 1, 0] rfl)
      · replace h := h.1 (k_eq rfl (by decide) c57)
        refine lv_sipush (v := 159) hx hb dX9_isJumpDecided_46 (by decide) ?_
        refine lv_goto (tgt := 55) hx hb dX9_isJumpDecided_49 (by decide) ?_
        exact J_55 U27 159 v27_1 t27_0 a15 _ _ ls h  hsh hR (lv_sub hl [2, 3, 1, 0] rfl)
    refine lv_icmp_ne (tgt := 26) hx hb dX9_isJumpDecided_19 (by decide) (fun c58 => ?_) (fun c58 => ?_)
    · replace h := h.2 (k_ne rfl (by decide) c58)
      refine lv_iconst (v := 2) hx hb dX9_isJumpDecided_26 (by decide) ?_
      exact J_27 S 2 x1 _ _ ls h  hsh hR (lv_sub hl [0, 1] rfl)
    · replace h := h.1 (k_eq rfl (by decide) c58)
      refine lv_iconst (v := 3) hx hb dX9_isJumpDecided_22 (by decide) ?_
      refine lv_goto (tgt := 27) hx hb dX9_isJumpDecided_23 (by decide) ?_
      exact J_27 S 3 x1 _ _ ls h  hsh hR (lv_sub hl [0, 1] rfl)
  · replace h := h.2 (k_ne rfl (by decide) c4)
    refine lv_iconst (v := 0) hx hb dX9_isJumpDecided_9 (by decide) ?_
    exact W.zret (v := 0) hx hb hr (nz (Or.inl rfl)) (fun t9 ht9 hW9 => ⟨⟨_, S, rfl, ⟨h, hR.w, hsh, (Or.inl rfl)⟩, ⟨by rw [ht9]; exact hR.P, hR.D⟩⟩, hR.sS.F ht9⟩) hR.sS.2.2 dX9_isJumpDecided_10
def w_X9_liveBehind_L38 (Q : Int32 → MS → Prop) : Nat → MS → Int32 → Int32 → Int32 → Int32 → Prop
  | 0, _, _, _, _, _ => False
  | n38 + 1, U38, v38_1, v38_2, v38_3, v38_4 => (wfC U38 → ((v38_3.toInt ≤ v38_4.toInt → Q v38_2 U38) ∧ (¬ v38_3.toInt ≤ v38_4.toInt → (d_X8_targetAt U38 (qO U38 66 0) v38_1 v38_4 ∧ (∀ a20 : Int32, a20 = (fX8_targetAt U38 (qO U38 66 0) v38_1 v38_4) → (d_X9_liveAt U38 a20 ∧ (∀ a24 : Int32, a24 = (fX9_liveAt U38 a20) → (∀ a26 : Int32, a26 = (v38_2 ||| a24) → (∀ a27 : Int32, a27 = (v38_4 + Int32.ofInt 1) → (w_X9_liveBehind_L38 Q n38) U38 v38_1 a26 v38_3 a27)))))))))
def w_X9_liveBehind_J25 (Q : Int32 → MS → Prop) (U25 : MS) (t25_0 : Int32) (v25_1 : Int32) : Prop := (wfC U25 → (d_X8_targetCount U25 (qO U25 66 0) v25_1 ∧ (∀ a14 : Int32, a14 = (fX8_targetCount U25 (qO U25 66 0) v25_1) → (∃ n, w_X9_liveBehind_L38 Q n U25 v25_1 t25_0 a14 0))))
def wX9_liveBehind (S : MS) (x1 : Int32) (Q : Int32 → MS → Prop) : Prop := (d_X8_opAt S (qO S 66 0) x1 ∧ (∀ a5 : Int32, a5 = (fX8_opAt S (qO S 66 0) x1) → (d_X6_goesOn S a5 ∧ (∀ a9 : Int32, a9 = (fX6_goesOn S a5) → ((a9.toInt = 0 → w_X9_liveBehind_J25 Q S 0 x1) ∧ (¬ a9.toInt = 0 → (d_X9_liveAt S (x1 + (1 : Int32)) ∧ (∀ a33 : Int32, a33 = (fX9_liveAt S (x1 + (1 : Int32))) → w_X9_liveBehind_J25 Q S a33 x1))))))))
set_option maxHeartbeats 2000000 in
set_option maxRecDepth 100000 in
theorem rX9_liveBehind (l : Launch) (g : Gr) (ad : Nat → Nat) (sz : Nat) (S : MS) (x1 : Int32) (hw : wfC S) (Q : Int32 → MS → Prop) (h : wX9_liveBehind S x1 Q) : Met l yX9_liveBehind (wt yX9_liveBehind cX9_liveBehind 5 (some .int)) ({ frames := 2, cells := 0, slots := 0, locals := 43 }) (va_Pc [.ref (ad 66), .int x1] (st_C g ad sz S)) (va_Qi (fun (r : Int32) (u : MS) => Q r u ∧ wfC u ∧ shy S u) (fun (u : MS) (t : State) => qEC g ad (va_A (WdC g ad S) sz) u t) (va_A (WdC g ad S) sz)) 0 0 (va_A (WdC g ad S) sz) := by
  refine Met.ofW (cc := cX9_liveBehind) (maxL := 5) (ret := (some .int)) (by decide) rfl ?_
  intro p e s m args below meth c s₁ B hml hv
  obtain ⟨rfl, hsz, hP, hK, hD0, hex, hE⟩ := hv
  have hx := B.exec
  have hb := B.bytes
  have hr := B.returns
  have hts0 := atoms_spec (ws := wt yX9_liveBehind cX9_liveBehind 5 (some .int)) B.pre
  have hts : ∀ w ∈ tb, w.before _ s = true := fun w h => hts0 w (List.mem_cons_of_mem _ h)
  have hown : s.vm.findClass RX9 = some m.cls := findClass_of_methodNamed B.named
  subst hsz
  have hD := hD0.self (sz := s.heap.size)
  generalize hAe : va_A (WdC g ad S) s.heap.size = A at hD hE ⊢
  have hA : ∀ q : Nat, s.heap.size ≤ q → A q := fun q h => by rw [← hAe]; exact Or.inr h
  have hR : RepC g ad A s S s.heap [] := ⟨hK, hP, hD, va_S.rf, hw⟩
  clear hK hP hD hD0
  have hl := lv_entry ([.ref (ad 66), .int x1]) (n := 5) (Nat.le_of_ble_eq_true rfl)
  rw [lg_entry_eq]
  generalize (lg_sl ([.ref (ad 66), .int x1]) ++ List.replicate (5 - (lg_sl ([.ref (ad 66), .int x1])).length) Slot.unset).toArray = ls at hl ⊢
  have hl : lv_has ls 5 [(0, .ref (ad 66)), (1, .int x1)] := hl
  have hsh : shy S S := shy.rf
  unfold wX9_liveBehind at h
  refine lv_aload_n hx hb dX9_liveBehind_0 rfl (lv_at hl 0 rfl) ?_
  have hT_b1 : qT S (qO S 66 0) = 47 := hR.w.ref (hR.w.ptr ptrC_39) (hR.w.2.1 _ finC_31).2.1
  refine va_get (D := rD g) (ci := 8) (v := .ref (ad (qO S 66 0))) (C := RX9) (T := TX9) (N := 6) hx hb hts inX9 hown hR.K hR.P 66 (hR.at48 (hR.w.2.1 _ finC_31).2.1) rfl 0 (by decide) (hts _ kw_1552) (fun _ h9 => h9) (congrArg (fun z => some (vf ad z)) (hR.w.ptr ptrC_39)) dX9_liveBehind_1 ?_
  refine lv_iload_n hx hb dX9_liveBehind_4 rfl (lv_at hl 1 rfl) ?_
  obtain ⟨hv2, h⟩ := h
  have hFc := cfree hR hA
  refine va_calli (va_runV (As := [.int x1]) (rest := []) ⟨hx, hb, hml, hown, hts⟩ (rX8_opAt l g ad s.heap.size S (qO S 66 0) x1 hR.w hT_b1 hv2) (cwV 1 hts (gd_V kw_1596 kw_1513 kw_1514 kw_782 kw_1512) rfl rfl rfl (by decide +kernel) ⟨Nat.le_of_ble_eq_true rfl, Nat.le_of_ble_eq_true rfl⟩) ⟨cblind, va_recv hR.K hR.P (ci := 7) (q0 := (qO S 66 0)) rfl (hR.at47 hT_b1), fun U hU hW9 => cmk hU hW9 hR hex hE hFc⟩ rfl rfl hl.1 rfl (lv_room (Nat.le_of_ble_eq_true rfl)) dX9_liveBehind_5 ⟨Nat.le_of_ble_eq_true rfl, Nat.le_of_ble_eq_true rfl⟩) hR.sS (fun q _ h => hFc q h) hFc (fun r3 u9 t9 H1 locs ht9 hvm9 hw9 hB9 hz9 hk9 hS => ?_)
  have hR : RepC g ad A s S H1 locs := hR.call ht9 hB9 hR.w hS hFc
  obtain rfl : r3 = (fX8_opAt S (qO S 66 0) x1) := hw9
  clear hB9 hz9 hk9 hvm9 ht9 hS
  generalize H1 = H at hR ⊢
  obtain ⟨a5, ea5⟩ : ∃ z, z = (fX8_opAt S (qO S 66 0) x1) := ⟨_, rfl⟩
  rw [← ea5]
  replace h := h a5 ea5
  obtain ⟨hv6, h⟩ := h
  have hFc := cfree hR hA
  refine va_calli (va_runS (As := [.int a5]) (rest := []) ⟨hx, hb, hml, hown, hts⟩ (rX6_goesOn l g ad H.size S a5 hR.w  hv6) (va_cwS 1 hts (gd_S kw_1672 kw_1219 kw_1207 kw_1218) rfl rfl rfl (by decide +kernel) ⟨Nat.le_of_ble_eq_true rfl, Nat.le_of_ble_eq_true rfl⟩) ⟨cblind, fun U hU hW9 => cmk hU hW9 hR hex hE hFc⟩ rfl rfl hl.1 rfl (lv_room (Nat.le_of_ble_eq_true rfl)) dX9_liveBehind_8 ⟨Nat.le_of_ble_eq_true rfl, Nat.le_of_ble_eq_true rfl⟩) hR.sS (fun q _ h => hFc q h) hFc (fun r7 u9 t9 H1 locs ht9 hvm9 hw9 hB9 hz9 hk9 hS => ?_)
  have hR : RepC g ad A s S H1 locs := hR.call ht9 hB9 hR.w hS hFc
  obtain ⟨rfl, hz_r7⟩ := hw9
  clear hB9 hz9 hk9 hvm9 ht9 hS
  generalize H1 = H at hR ⊢
  obtain ⟨a9, ea9⟩ : ∃ z, z = (fX6_goesOn S a5) := ⟨_, rfl⟩
  rw [← ea9]
  replace h := h a9 ea9
  rw [← ea9] at hz_r7
  have J_25 : ∀ (U25 : MS) (t25_0 : Int32) (v25_1 : Int32) (H : Heap) (locs : List Loc) (ls : Array Slot), w_X9_liveBehind_J25 Q U25 t25_0 v25_1 → shy S U25 → RepC g ad A s U25 H locs → lv_has ls 5 [(0, .ref (ad 66)), (1, .int v25_1)] → W p l e (headSpec (wt yX9_liveBehind cX9_liveBehind 5 (some .int)) ({ frames := 2, cells := 0, slots := 0, locals := 43 })).room s m ([.ref (ad 66), .int x1] : List Value).toArray below meth c H locs 0 0 (MQ below (va_Qi (fun (r : Int32) (u : MS) => Q r u ∧ wfC u ∧ shy S u) (fun (u : MS) (t : State) => qEC g ad A u t) A) ([.ref (ad 66), .int x1] : List Value).toArray s 0 0 A) (F0 m 25 ls [.int t25_0]) := by
    intro U25 t25_0 v25_1 H locs ls h hsh hR hl
    unfold w_X9_liveBehind_J25 at h
    replace h := h hR.w
    refine lv_istore_n (lv' := [(2, .int t25_0), (0, .ref (ad 66)), (1, .int v25_1)]) hx hb dX9_liveBehind_25 rfl hl (by decide) rfl (fun ls hl => ?_)
    refine lv_aload_n hx hb dX9_liveBehind_26 rfl (lv_at hl 1 rfl) ?_
    have hT_b10 : qT U25 (qO U25 66 0) = 47 := hR.w.ref (hR.w.ptr ptrC_39) (hR.w.2.1 _ finC_31).2.1
    refine va_get (D := rD g) (ci := 8) (v := .ref (ad (qO U25 66 0))) (C := RX9) (T := TX9) (N := 6) hx hb hts inX9 hown hR.K hR.P 66 (hR.at48 (hR.w.2.1 _ finC_31).2.1) rfl 0 (by decide) (hts _ kw_1552) (fun _ h9 => h9) (congrArg (fun z => some (vf ad z)) (hR.w.ptr ptrC_39)) dX9_liveBehind_27 ?_
    refine lv_iload_n hx hb dX9_liveBehind_30 rfl (lv_at hl 2 rfl) ?_
    obtain ⟨hv11, h⟩ := h
    have hFc := cfree hR hA
    refine va_calli (va_runV (As := [.int v25_1]) (rest := []) ⟨hx, hb, hml, hown, hts⟩ (rX8_targetCount l g ad H.size U25 (qO U25 66 0) v25_1 hR.w hT_b10 hv11) (cwV 1 hts (gd_V kw_1567 kw_1541 kw_1542 kw_782 kw_1540) rfl rfl rfl (by decide +kernel) ⟨Nat.le_of_ble_eq_true rfl, Nat.le_of_ble_eq_true rfl⟩) ⟨cblind, va_recv hR.K hR.P (ci := 7) (q0 := (qO U25 66 0)) rfl (hR.at47 hT_b10), fun U hU hW9 => cmk hU hW9 hR hex hE hFc⟩ rfl rfl hl.1 rfl (lv_room (Nat.le_of_ble_eq_true rfl)) dX9_liveBehind_31 ⟨Nat.le_of_ble_eq_true rfl, Nat.le_of_ble_eq_true rfl⟩) hR.sS (fun q _ h => hFc q h) hFc (fun r12 u9 t9 H1 locs ht9 hvm9 hw9 hB9 hz9 hk9 hS => ?_)
    have hR : RepC g ad A s U25 H1 locs := hR.call ht9 hB9 hR.w hS hFc
    obtain rfl : r12 = (fX8_targetCount U25 (qO U25 66 0) v25_1) := hw9
    clear hB9 hz9 hk9 hvm9 ht9 hS
    generalize H1 = H at hR ⊢
    obtain ⟨a14, ea14⟩ : ∃ z, z = (fX8_targetCount U25 (qO U25 66 0) v25_1) := ⟨_, rfl⟩
    rw [← ea14]
    replace h := h a14 ea14
    refine lv_istore_n (lv' := [(3, .int a14), (2, .int t25_0), (0, .ref (ad 66)), (1, .int v25_1)]) hx hb dX9_liveBehind_34 rfl hl (by decide) rfl (fun ls hl => ?_)
    refine lv_iconst (v := 0) hx hb dX9_liveBehind_35 (by decide) ?_
    refine lv_istore (lv' := [(4, .int 0), (3, .int a14), (2, .int t25_0), (0, .ref (ad 66)), (1, .int v25_1)]) hx hb dX9_liveBehind_36 hl (by decide) rfl (fun ls hl => ?_)
    have J_38 : ∀ (n38 : Nat) (U38 : MS) (v38_1 : Int32) (v38_2 : Int32) (v38_3 : Int32) (v38_4 : Int32) (H : Heap) (locs : List Loc) (ls : Array Slot), w_X9_liveBehind_L38 Q n38 U38 v38_1 v38_2 v38_3 v38_4 → shy S U38 → RepC g ad A s U38 H locs → lv_has ls 5 [(0, .ref (ad 66)), (1, .int v38_1), (2, .int v38_2), (3, .int v38_3), (4, .int v38_4)] → W p l e (headSpec (wt yX9_liveBehind cX9_liveBehind 5 (some .int)) ({ frames := 2, cells := 0, slots := 0, locals := 43 })).room s m ([.ref (ad 66), .int x1] : List Value).toArray below meth c H locs 0 0 (MQ below (va_Qi (fun (r : Int32) (u : MS) => Q r u ∧ wfC u ∧ shy S u) (fun (u : MS) (t : State) => qEC g ad A u t) A) ([.ref (ad 66), .int x1] : List Value).toArray s 0 0 A) (F0 m 38 ls []) := by
      intro n38
      induction n38 with
      | zero => intro U38 v38_1 v38_2 v38_3 v38_4 H locs ls h hsh hR hl; unfold w_X9_liveBehind_L38 at h; exact h.elim
      | succ n38 ih_38 =>
        intro U38 v38_1 v38_2 v38_3 v38_4 H locs ls h hsh hR hl
        unfold w_X9_liveBehind_L38 at h
        replace h := h hR.w
        refine lv_iload hx hb dX9_liveBehind_38 (lv_at hl 4 rfl) ?_
        refine lv_iload_n hx hb dX9_liveBehind_40 rfl (lv_at hl 3 rfl) ?_
        refine lv_icmp_ge (tgt := 67) hx hb dX9_liveBehind_41 (by decide) (fun c15 => ?_) (fun c15 => ?_)
        · replace h := h.1 (k_le rfl rfl c15)
          refine lv_iload_n hx hb dX9_liveBehind_67 rfl (lv_at hl 2 rfl) ?_
          exact W.iret (v := v38_2) hx hb hr (fun t9 ht9 hW9 => ⟨⟨_, U38, rfl, ⟨h, hR.w, hsh⟩, ⟨by rw [ht9]; exact hR.P, hR.D⟩⟩, hR.sS.F ht9⟩) hR.sS.2.2 dX9_liveBehind_68
        · replace h := h.2 (k_nle rfl rfl c15)
          refine lv_iload_n hx hb dX9_liveBehind_44 rfl (lv_at hl 2 rfl) ?_
          refine lv_aload_n hx hb dX9_liveBehind_45 rfl (lv_at hl 0 rfl) ?_
          refine lv_aload_n hx hb dX9_liveBehind_46 rfl (lv_at hl 0 rfl) ?_
          have hT_b16 : qT U38 (qO U38 66 0) = 47 := hR.w.ref (hR.w.ptr ptrC_39) (hR.w.2.1 _ finC_31).2.1
          refine va_get (D := rD g) (ci := 8) (v := .ref (ad (qO U38 66 0))) (C := RX9) (T := TX9) (N := 6) hx hb hts inX9 hown hR.K hR.P 66 (hR.at48 (hR.w.2.1 _ finC_31).2.1) rfl 0 (by decide) (hts _ kw_1552) (fun _ h9 => h9) (congrArg (fun z => some (vf ad z)) (hR.w.ptr ptrC_39)) dX9_liveBehind_47 ?_
          refine lv_iload_n hx hb dX9_liveBehind_50 rfl (lv_at hl 1 rfl) ?_
          refine lv_iload hx hb dX9_liveBehind_51 (lv_at hl 4 rfl) ?_
          obtain ⟨hv17, h⟩ := h
          have hFc := cfree hR hA
          refine va_calli (va_runV (As := [.int v38_1, .int v38_4]) (rest := [.ref (ad 66), .int v38_2]) ⟨hx, hb, hml, hown, hts⟩ (rX8_targetAt l g ad H.size U38 (qO U38 66 0) v38_1 v38_4 hR.w hT_b16 hv17) (cwV 2 hts (gd_V kw_1568 kw_1537 kw_1538 kw_782 kw_1536) rfl rfl rfl (by decide +kernel) ⟨Nat.le_of_ble_eq_true rfl, Nat.le_of_ble_eq_true rfl⟩) ⟨cblind, va_recv hR.K hR.P (ci := 7) (q0 := (qO U38 66 0)) rfl (hR.at47 hT_b16), fun U hU hW9 => cmk hU hW9 hR hex hE hFc⟩ rfl rfl hl.1 rfl (lv_room (Nat.le_of_ble_eq_true rfl)) dX9_liveBehind_53 ⟨Nat.le_of_ble_eq_true rfl, Nat.le_of_ble_eq_true rfl⟩) hR.sS (fun q _ h => hFc q h) hFc (fun r18 u9 t9 H1 locs ht9 hvm9 hw9 hB9 hz9 hk9 hS => ?_)
          have hR : RepC g ad A s U38 H1 locs := hR.call ht9 hB9 hR.w hS hFc
          obtain rfl : r18 = (fX8_targetAt U38 (qO U38 66 0) v38_1 v38_4) := hw9
          clear hB9 hz9 hk9 hvm9 ht9 hS
          generalize H1 = H at hR ⊢
          obtain ⟨a20, ea20⟩ : ∃ z, z = (fX8_targetAt U38 (qO U38 66 0) v38_1 v38_4) := ⟨_, rfl⟩
          rw [← ea20]
          replace h := h a20 ea20
          obtain ⟨hv21, h⟩ := h
          have hFc := cfree hR hA
          refine va_calli (va_runV (As := [.int a20]) (rest := [.int v38_2]) ⟨hx, hb, hml, hown, hts⟩ (rX9_liveAt l g ad H.size U38 a20 hR.w  hv21) (cwV 1 hts (gd_V kw_1668 kw_1661 kw_1662 kw_404 kw_1660) rfl rfl rfl (by decide +kernel) ⟨Nat.le_of_ble_eq_true rfl, Nat.le_of_ble_eq_true rfl⟩) ⟨cblind, va_recv hR.K hR.P (ci := 8) (q0 := 66) rfl (hR.at48 (hR.w.2.1 _ finC_31).2.1), fun U hU hW9 => cmk hU hW9 hR hex hE hFc⟩ rfl rfl hl.1 rfl (lv_room (Nat.le_of_ble_eq_true rfl)) dX9_liveBehind_56 ⟨Nat.le_of_ble_eq_true rfl, Nat.le_of_ble_eq_true rfl⟩) hR.sS (fun q _ h => hFc q h) hFc (fun r22 u9 t9 H1 locs ht9 hvm9 hw9 hB9 hz9 hk9 hS => ?_)
          have hR : RepC g ad A s U38 H1 locs := hR.call ht9 hB9 hR.w hS hFc
          obtain rfl : r22 = (fX9_liveAt U38 a20) := hw9
          clear hB9 hz9 hk9 hvm9 ht9 hS
          generalize H1 = H at hR ⊢
          obtain ⟨a24, ea24⟩ : ∃ z, z = (fX9_liveAt U38 a20) := ⟨_, rfl⟩
          rw [← ea24]
          replace h := h a24 ea24
          refine lv_ior hx hb dX9_liveBehind_59 ?_
          refine lv_topi (fun z25 ez25 => ?_)
          obtain rfl : z25 = (v38_2 ||| a24) := ez25
          obtain ⟨a26, ea26⟩ : ∃ z, z = (v38_2 ||| a24) := ⟨_, rfl⟩
          rw [← ea26]
          replace h := h a26 ea26
          refine lv_istore_n (lv' := [(2, .int a26), (0, .ref (ad 66)), (1, .int v38_1), (3, .int v38_3), (4, .int v38_4)]) hx hb dX9_liveBehind_60 rfl hl (by decide) rfl (fun ls hl => ?_)
          obtain ⟨a27, ea27⟩ : ∃ z, z = (v38_4 + Int32.ofInt 1) := ⟨_, rfl⟩
          replace h := h a27 ea27
          refine lv_iinc (v := a27) (lv' := [(4, .int a27), (2, .int a26), (0, .ref (ad 66)), (1, .int v38_1), (3, .int v38_3)]) hx hb dX9_liveBehind_61 hl (k := 4) rfl ea27.symm (by decide) rfl (fun ls hl => ?_)
          refine lv_goto (tgt := 38) hx hb dX9_liveBehind_64 (by decide) ?_
          exact ih_38 U38 v38_1 a26 v38_3 a27 _ _ ls h  hsh hR (lv_sub hl [2, 3, 1, 4, 0] rfl)
    obtain ⟨n9, h⟩ := h
    exact J_38 n9 U25 v25_1 t25_0 a14 0 _ _ ls h  hsh hR (lv_sub hl [3, 4, 2, 1, 0] rfl)
  refine lv_if_eq (tgt := 24) hx hb dX9_liveBehind_11 (by decide) (fun c28 => ?_) (fun c28 => ?_)
  · replace h := h.1 (k_eq rfl (by decide) c28)
    refine lv_iconst (v := 0) hx hb dX9_liveBehind_24 (by decide) ?_
    exact J_25 S 0 x1 _ _ ls h  hsh hR (lv_sub hl [0, 1] rfl)
  · replace h := h.2 (k_ne rfl (by decide) c28)
    refine lv_aload_n hx hb dX9_liveBehind_14 rfl (lv_at hl 0 rfl) ?_
    refine lv_iload_n hx hb dX9_liveBehind_15 rfl (lv_at hl 1 rfl) ?_
    refine lv_iconst (v := 1) hx hb dX9_liveBehind_16 (by decide) ?_
    refine lv_iadd hx hb dX9_liveBehind_17 ?_
    refine lv_topi (fun z29 ez29 => ?_)
    obtain rfl : z29 = (x1 + (1 : Int32)) := ez29
    obtain ⟨hv30, h⟩ := h
    have hFc := cfree hR hA
    refine va_calli (va_runV (As := [.int (x1 + (1 : Int32))]) (rest := []) ⟨hx, hb, hml, hown, hts⟩ (rX9_liveAt l g ad H.size S (x1 + (1 : Int32)) hR.w  hv30) (cwV 1 hts (gd_V kw_1668 kw_1661 kw_1662 kw_404 kw_1660) rfl rfl rfl (by decide +kernel) ⟨Nat.le_of_ble_eq_true rfl, Nat.le_of_ble_eq_true rfl⟩) ⟨cblind, va_recv hR.K hR.P (ci := 8) (q0 := 66) rfl (hR.at48 (hR.w.2.1 _ finC_31).2.1), fun U hU hW9 => cmk hU hW9 hR hex hE hFc⟩ rfl rfl hl.1 rfl (lv_room (Nat.le_of_ble_eq_true rfl)) dX9_liveBehind_18 ⟨Nat.le_of_ble_eq_true rfl, Nat.le_of_ble_eq_true rfl⟩) hR.sS (fun q _ h => hFc q h) hFc (fun r31 u9 t9 H1 locs ht9 hvm9 hw9 hB9 hz9 hk9 hS => ?_)
    have hR : RepC g ad A s S H1 locs := hR.call ht9 hB9 hR.w hS hFc
    obtain rfl : r31 = (fX9_liveAt S (x1 + (1 : Int32))) := hw9
    clear hB9 hz9 hk9 hvm9 ht9 hS
    generalize H1 = H at hR ⊢
    obtain ⟨a33, ea33⟩ : ∃ z, z = (fX9_liveAt S (x1 + (1 : Int32))) := ⟨_, rfl⟩
    rw [← ea33]
    replace h := h a33 ea33
    refine lv_goto (tgt := 25) hx hb dX9_liveBehind_21 (by decide) ?_
    exact J_25 S a33 x1 _ _ ls h  hsh hR (lv_sub hl [0, 1] rfl)
def w_X11_entryOfWanted_J166 (Q : Int32 → MS → Prop) (U166 : MS) (v166_1 : Int32) : Prop := (wfC U166 → Q ((qI U166 25 5) - v166_1) U166)
def w_X11_entryOfWanted_J52 (Q : Int32 → MS → Prop) (U52 : MS) (t52_0 : Int32) : Prop := (wfC U52 → ((((qI U52 25 5) + t52_0).toInt ≤ 500 → (((0 : Int) ≤ (qI U52 25 5).toInt ∧ (qI U52 25 5).toInt < 500) ∧ (∀ S7, S7 = wI U52 32 (((qI U52 25 5).toInt).toNat) (qI U52 26 1) → qT U52 32 = 238 → wfC S7 → (qT S7 26 = 40 → qT S7 30 = 40 → (∃ Q8, wX0_putAll S7 26 30 Q8 ∧ ∀ S9, Q8 S9 → wfC S9 → shx S7 S9 → (((0 : Int) ≤ (qI S9 25 5).toInt ∧ (qI S9 25 5).toInt < 500) ∧ (∀ S13, S13 = wI S9 33 (((qI S9 25 5).toInt).toNat) (qI S9 26 1) → qT S9 33 = 239 → wfC S13 → (∀ S15, S15 = wI S13 25 5 ((qI S13 25 5) + t52_0) → qT S13 25 = 50 → wfC S15 → ((t52_0.toInt = 2 → (((0 : Int) ≤ ((qI S15 25 5) - (1 : Int32)).toInt ∧ ((qI S15 25 5) - (1 : Int32)).toInt < 500) ∧ (∀ S20, S20 = wI S15 32 ((((qI S15 25 5) - (1 : Int32)).toInt).toNat) (qI S15 26 1) → qT S15 32 = 238 → wfC S20 → (((0 : Int) ≤ ((qI S20 25 5) - (1 : Int32)).toInt ∧ ((qI S20 25 5) - (1 : Int32)).toInt < 500) ∧ (∀ S23, S23 = wI S20 33 ((((qI S20 25 5) - (1 : Int32)).toInt).toNat) (qI S20 26 1) → qT S20 33 = 239 → wfC S23 → w_X11_entryOfWanted_J166 Q S23 t52_0))))) ∧ (¬ t52_0.toInt = 2 → w_X11_entryOfWanted_J166 Q S15 t52_0)))))))))) ∧ (¬ ((qI U52 25 5) + t52_0).toInt ≤ 500 → (∀ S24, S24 = wI U52 25 6 (1 : Int32) → qT U52 25 = 50 → wfC S24 → Q (0 : Int32) S24))))
def w_X11_entryOfWanted_J35 (Q : Int32 → MS → Prop) (U35 : MS) : Prop := (wfC U35 → (d_X0_get U35 30 (0 : Int32) ∧ (((fX0_get U35 30 (0 : Int32)).toInt = 5 → w_X11_entryOfWanted_J52 Q U35 2) ∧ (¬ (fX0_get U35 30 (0 : Int32)).toInt = 5 → w_X11_entryOfWanted_J52 Q U35 1))))
def w_X11_entryOfWanted_L2 (Q : Int32 → MS → Prop) : Nat → MS → Int32 → Prop
  | 0, _, _ => False
  | n2 + 1, U2, v2_1 => (wfC U2 → (((qI U2 25 5).toInt ≤ v2_1.toInt → w_X11_entryOfWanted_J35 Q U2) ∧ (¬ (qI U2 25 5).toInt ≤ v2_1.toInt → ((500 ≤ v2_1.toInt → w_X11_entryOfWanted_J35 Q U2) ∧ (¬ 500 ≤ v2_1.toInt → (∃ Q28, wX11_isWanted U2 v2_1 Q28 ∧ ∀ r29 S30, Q28 r29 S30 → wfC S30 → shy U2 S30 → ((r29.toInt = 0 → (∀ a33 : Int32, a33 = (v2_1 + Int32.ofInt 1) → (w_X11_entryOfWanted_L2 Q n2) S30 a33)) ∧ (¬ r29.toInt = 0 → Q v2_1 S30))))))))
def wX11_entryOfWanted (S : MS) (Q : Int32 → MS → Prop) : Prop := (∃ n, w_X11_entryOfWanted_L2 Q n S 1)
set_option maxHeartbeats 2000000 in
set_option maxRecDepth 100000 in
theorem rX11_entryOfWanted (l : Launch) (g : Gr) (ad : Nat → Nat) (H0 : Heap) (S : MS) (hw : wfC S) (Q : Int32 → MS → Prop) (h : wX11_entryOfWanted S Q) : Met l yX11_entryOfWanted (wt yX11_entryOfWanted cX11_entryOfWanted 2 (some .int)) ({ frames := 3, cells := KCC - qn S, slots := KSC - qu S, locals := 85 }) (va_Pc [.ref (ad 25)] (st_CH g ad H0 S)) (va_Qi (fun (r : Int32) (u : MS × (Nat → Nat)) => Q r u.1 ∧ wfC u.1 ∧ shx S u.1 ∧ adk ad u.2 S) (fun (u : MS × (Nat → Nat)) (t : State) => qEHC g (va_A (WdC g ad S) H0.size) S H0 u t) (va_A (WdC g ad S) H0.size)) (KCC - qn S) (KSC - qu S) (va_A (WdC g ad S) H0.size) := by
  refine Met.ofW (cc := cX11_entryOfWanted) (maxL := 2) (ret := (some .int)) (by decide) rfl ?_
  intro p e s m args below meth c s₁ B hml hv
  obtain ⟨rfl, hH0, hsz, hP, hK, hD0, hex, hE⟩ := hv
  have hx := B.exec
  have hb := B.bytes
  have hr := B.returns
  have hts0 := atoms_spec (ws := wt yX11_entryOfWanted cX11_entryOfWanted 2 (some .int)) B.pre
  have hts : ∀ w ∈ tb, w.before _ s = true := fun w h => hts0 w (List.mem_cons_of_mem _ h)
  have hown : s.vm.findClass RX11 = some m.cls := findClass_of_methodNamed B.named
  subst hH0
  have hD := hD0.self (sz := s.heap.size)
  generalize hAe : va_A (WdC g ad S) s.heap.size = A at hD hE ⊢
  have hA : ∀ q : Nat, s.heap.size ≤ q → A q := fun q h => by rw [← hAe]; exact Or.inr h
  have hR : RepC g ad A s S s.heap [] := ⟨hK, hP, hD, va_S.rf, hw⟩
  clear hK hP hD hD0
  have hl := lv_entry ([.ref (ad 25)]) (n := 2) (Nat.le_of_ble_eq_true rfl)
  rw [lg_entry_eq]
  generalize (lg_sl ([.ref (ad 25)]) ++ List.replicate (2 - (lg_sl ([.ref (ad 25)])).length) Slot.unset).toArray = ls at hl ⊢
  have hlg : lgC S S 0 0 := lgC.rf
  have hak : adk ad ad S := adk.rf
  have hl : lv_has ls 2 [(0, .ref (ad 25))] := hl
  have hsh : shx S S := shx.rf
  unfold wX11_entryOfWanted at h
  refine lv_iconst (v := 1) hx hb dX11_entryOfWanted_0 (by decide) ?_
  refine lv_istore_n (lv' := [(1, .int 1), (0, .ref (ad 25))]) hx hb dX11_entryOfWanted_1 rfl hl (by decide) rfl (fun ls hl => ?_)
  have J_2 : ∀ (n2 : Nat) (ad2 : Nat → Nat) (dc2 ds2 : Nat) (U2 : MS) (v2_1 : Int32) (H : Heap) (locs : List Loc) (ls : Array Slot), w_X11_entryOfWanted_L2 Q n2 U2 v2_1 → shx S U2 → lgC S U2 dc2 ds2 → adk ad ad2 S → ogC ad2 A s s.heap → RepC g ad2 A s U2 H locs → lv_has ls 2 [(0, .ref (ad2 25)), (1, .int v2_1)] → W p l e (headSpec (wt yX11_entryOfWanted cX11_entryOfWanted 2 (some .int)) ({ frames := 3, cells := KCC - qn S, slots := KSC - qu S, locals := 85 })).room s m ([.ref (ad 25)] : List Value).toArray below meth c H locs dc2 ds2 (MQ below (va_Qi (fun (r : Int32) (u : MS × (Nat → Nat)) => Q r u.1 ∧ wfC u.1 ∧ shx S u.1 ∧ adk ad u.2 S) (fun (u : MS × (Nat → Nat)) (t : State) => qEHC g A S s.heap u t) A) ([.ref (ad 25)] : List Value).toArray s (KCC - qn S) (KSC - qu S) A) (F0 m 2 ls []) := by
    intro n2
    induction n2 with
    | zero => intro ad2 dc2 ds2 U2 v2_1 H locs ls h hsh hlg hak hE hR hl; unfold w_X11_entryOfWanted_L2 at h; exact h.elim
    | succ n2 ih_2 =>
      intro ad2 dc2 ds2 U2 v2_1 H locs ls h hsh hlg hak hE hR hl
      unfold w_X11_entryOfWanted_L2 at h
      replace h := h hR.w
      refine lv_iload_n hx hb dX11_entryOfWanted_2 rfl (lv_at hl 1 rfl) ?_
      refine lv_aload_n hx hb dX11_entryOfWanted_3 rfl (lv_at hl 0 rfl) ?_
      refine va_get (D := rD g) (ci := 10) (v := .int (qI U2 25 5)) (C := RX11) (T := TX11) (N := 18) hx hb hts inX11 hown hR.K hR.P 25 (hR.at50 (hR.w.2.1 _ finC_28).2.1) rfl 5 (by decide) (hts _ kw_114) (fun _ h9 => h9) rfl dX11_entryOfWanted_4 ?_
      have J_35 : ∀ (ad35 : Nat → Nat) (dc35 ds35 : Nat) (U35 : MS) (H : Heap) (locs : List Loc) (ls : Array Slot), w_X11_entryOfWanted_J35 Q U35 → shx S U35 → lgC S U35 dc35 ds35 → adk ad ad35 S → ogC ad35 A s s.heap → RepC g ad35 A s U35 H locs → lv_has ls 2 [(0, .ref (ad35 25))] → W p l e (headSpec (wt yX11_entryOfWanted cX11_entryOfWanted 2 (some .int)) ({ frames := 3, cells := KCC - qn S, slots := KSC - qu S, locals := 85 })).room s m ([.ref (ad 25)] : List Value).toArray below meth c H locs dc35 ds35 (MQ below (va_Qi (fun (r : Int32) (u : MS × (Nat → Nat)) => Q r u.1 ∧ wfC u.1 ∧ shx S u.1 ∧ adk ad u.2 S) (fun (u : MS × (Nat → Nat)) (t : State) => qEHC g A S s.heap u t) A) ([.ref (ad 25)] : List Value).toArray s (KCC - qn S) (KSC - qu S) A) (F0 m 35 ls []) := by
        intro ad35 dc35 ds35 U35 H locs ls h hsh hlg hak hE hR hl
        unfold w_X11_entryOfWanted_J35 at h
        replace h := h hR.w
        refine lv_aload_n hx hb dX11_entryOfWanted_35 rfl (lv_at hl 0 rfl) ?_
        refine va_get (D := rD g) (ci := 10) (v := .ref (ad35 30)) (C := RX11) (T := TX11) (N := 18) hx hb hts inX11 hown hR.K hR.P 25 (hR.at50 (hR.w.2.1 _ finC_28).2.1) rfl 2 (by decide) (hts _ kw_139) (fun _ h9 => h9) (congrArg (fun z => some (vf ad35 z)) (hR.w.2.1 _ finC_14).1) dX11_entryOfWanted_36 ?_
        refine lv_iconst (v := 0) hx hb dX11_entryOfWanted_39 (by decide) ?_
        obtain ⟨hv1, h⟩ := h
        have hFc := cfree hR hA
        refine va_calli (va_runV (As := [.int 0]) (rest := []) ⟨hx, hb, hml, hown, hts⟩ (rX0_get l g ad35 H.size U35 30 (0 : Int32) hR.w (hR.w.2.1 _ finC_14).2.1 hv1) (cwV 1 hts (gd_V kw_147 kw_1 kw_2 kw_3 kw_0) rfl rfl rfl (by decide +kernel) ⟨Nat.le_of_ble_eq_true rfl, Nat.le_of_ble_eq_true rfl⟩) ⟨cblind, va_recv hR.K hR.P (ci := 0) (q0 := 30) rfl (hR.at40 (hR.w.2.1 _ finC_14).2.1), fun U hU hW9 => cmk hU hW9 hR hex hE hFc⟩ rfl rfl hl.1 rfl (lv_room (Nat.le_of_ble_eq_true rfl)) dX11_entryOfWanted_40 ⟨(show dc35 + 0 ≤ KCC - qn S from hlg.c), (show ds35 + 0 ≤ KSC - qu S from hlg.s)⟩) hR.sS (fun q _ h => hFc q h) hFc (fun r2 u9 t9 H1 locs ht9 hvm9 hw9 hB9 hz9 hk9 hS => ?_)
        have hR : RepC g ad35 A s U35 H1 locs := hR.call ht9 hB9 hR.w hS hFc
        obtain rfl : r2 = (fX0_get U35 30 (0 : Int32)) := hw9
        clear hB9 hz9 hk9 hvm9 ht9 hS
        generalize H1 = H at hR ⊢
        refine lv_iconst (v := 5) hx hb dX11_entryOfWanted_43 (by decide) ?_
        have J_52 : ∀ (ad52 : Nat → Nat) (dc52 ds52 : Nat) (U52 : MS) (t52_0 : Int32) (H : Heap) (locs : List Loc) (ls : Array Slot), w_X11_entryOfWanted_J52 Q U52 t52_0 → shx S U52 → lgC S U52 dc52 ds52 → adk ad ad52 S → ogC ad52 A s s.heap → RepC g ad52 A s U52 H locs → lv_has ls 2 [(0, .ref (ad52 25))] → W p l e (headSpec (wt yX11_entryOfWanted cX11_entryOfWanted 2 (some .int)) ({ frames := 3, cells := KCC - qn S, slots := KSC - qu S, locals := 85 })).room s m ([.ref (ad 25)] : List Value).toArray below meth c H locs dc52 ds52 (MQ below (va_Qi (fun (r : Int32) (u : MS × (Nat → Nat)) => Q r u.1 ∧ wfC u.1 ∧ shx S u.1 ∧ adk ad u.2 S) (fun (u : MS × (Nat → Nat)) (t : State) => qEHC g A S s.heap u t) A) ([.ref (ad 25)] : List Value).toArray s (KCC - qn S) (KSC - qu S) A) (F0 m 52 ls [.int t52_0]) := by
          intro ad52 dc52 ds52 U52 t52_0 H locs ls h hsh hlg hak hE hR hl
          unfold w_X11_entryOfWanted_J52 at h
          replace h := h hR.w
          refine lv_istore_n (lv' := [(1, .int t52_0), (0, .ref (ad52 25))]) hx hb dX11_entryOfWanted_52 rfl hl (by decide) rfl (fun ls hl => ?_)
          refine lv_aload_n hx hb dX11_entryOfWanted_53 rfl (lv_at hl 1 rfl) ?_
          refine va_get (D := rD g) (ci := 10) (v := .int (qI U52 25 5)) (C := RX11) (T := TX11) (N := 18) hx hb hts inX11 hown hR.K hR.P 25 (hR.at50 (hR.w.2.1 _ finC_28).2.1) rfl 5 (by decide) (hts _ kw_114) (fun _ h9 => h9) rfl dX11_entryOfWanted_54 ?_
          refine lv_iload_n hx hb dX11_entryOfWanted_57 rfl (lv_at hl 0 rfl) ?_
          refine lv_iadd hx hb dX11_entryOfWanted_58 ?_
          refine lv_topi (fun z4 ez4 => ?_)
          obtain rfl : z4 = ((qI U52 25 5) + t52_0) := ez4
          refine lv_sipush (v := 500) hx hb dX11_entryOfWanted_59 (by decide) ?_
          refine lv_icmp_le (tgt := 72) hx hb dX11_entryOfWanted_62 (by decide) (fun c5 => ?_) (fun c5 => ?_)
          · replace h := h.1 (k_le rfl (by decide) c5)
            refine lv_aload_n hx hb dX11_entryOfWanted_72 rfl (lv_at hl 1 rfl) ?_
            refine va_get (D := rD g) (ci := 10) (v := .ref (ad52 32)) (C := RX11) (T := TX11) (N := 18) hx hb hts inX11 hown hR.K hR.P 25 (hR.at50 (hR.w.2.1 _ finC_28).2.1) rfl 3 (by decide) (hts _ kw_145) (fun _ h9 => h9) (congrArg (fun z => some (vf ad52 z)) (hR.w.2.1 _ finC_15).1) dX11_entryOfWanted_73 ?_
            refine lv_aload_n hx hb dX11_entryOfWanted_76 rfl (lv_at hl 1 rfl) ?_
            refine va_get (D := rD g) (ci := 10) (v := .int (qI U52 25 5)) (C := RX11) (T := TX11) (N := 18) hx hb hts inX11 hown hR.K hR.P 25 (hR.at50 (hR.w.2.1 _ finC_28).2.1) rfl 5 (by decide) (hts _ kw_114) (fun _ h9 => h9) rfl dX11_entryOfWanted_77 ?_
            refine lv_aload_n hx hb dX11_entryOfWanted_80 rfl (lv_at hl 1 rfl) ?_
            refine va_get (D := rD g) (ci := 10) (v := .ref (ad52 26)) (C := RX11) (T := TX11) (N := 18) hx hb hts inX11 hown hR.K hR.P 25 (hR.at50 (hR.w.2.1 _ finC_28).2.1) rfl 0 (by decide) (hts _ kw_113) (fun _ h9 => h9) (congrArg (fun z => some (vf ad52 z)) (hR.w.2.1 _ finC_12).1) dX11_entryOfWanted_81 ?_
            refine va_get (D := rD g) (ci := 0) (v := .int (qI U52 26 1)) (C := RX0) (T := TX0) (N := 2) hx hb hts inX0 hown hR.K hR.P 26 (hR.at40 (hR.w.2.1 _ finC_12).2.1) rfl 1 (by decide) (hts _ kw_101) (fun _ h9 => h9) rfl dX11_entryOfWanted_84 ?_
            obtain ⟨hv6, h⟩ := h
            refine va_iast hx hb hR.K hR.P hR.D hR.sS 32 1 (hR.atI (hR.w.2.1 _ finC_15).2.1 (by decide)) rfl (k_ixN (k_ix (n := 500) (x := (qI U52 25 5)) (a := (qI U52 25 5).toInt) rfl hv6) (hR.w.2.1 _ finC_15).2.2) dX11_entryOfWanted_87 (fun H locs hP hD hS => ?_)
            have hTk9 : qT U52 32 = 238 := (hR.w.2.1 _ finC_15).2.1
            have hR : RepC g ad52 A s (wI U52 32 (((qI U52 25 5).toInt).toNat) (qI U52 26 1)) H locs := hR.aI (hR.w.2.1 _ finC_15).2.1 (by decide) hP hD hS
            obtain ⟨S7, eS7⟩ : ∃ z, z = wI U52 32 (((qI U52 25 5).toInt).toNat) (qI U52 26 1) := ⟨_, rfl⟩
            rw [← eS7] at hR
            replace h := h S7 eS7 hTk9 hR.w
            have hsh : shx S S7 := by rw [eS7]; exact hsh
            have hlg : lgC S S7 (dc52) (ds52) := by rw [eS7]; exact hlg
            refine lv_aload_n hx hb dX11_entryOfWanted_88 rfl (lv_at hl 1 rfl) ?_
            refine va_get (D := rD g) (ci := 10) (v := .ref (ad52 26)) (C := RX11) (T := TX11) (N := 18) hx hb hts inX11 hown hR.K hR.P 25 (hR.at50 (hR.w.2.1 _ finC_28).2.1) rfl 0 (by decide) (hts _ kw_113) (fun _ h9 => h9) (congrArg (fun z => some (vf ad52 z)) (hR.w.2.1 _ finC_12).1) dX11_entryOfWanted_89 ?_
            refine lv_aload_n hx hb dX11_entryOfWanted_92 rfl (lv_at hl 1 rfl) ?_
            refine va_get (D := rD g) (ci := 10) (v := .ref (ad52 30)) (C := RX11) (T := TX11) (N := 18) hx hb hts inX11 hown hR.K hR.P 25 (hR.at50 (hR.w.2.1 _ finC_28).2.1) rfl 2 (by decide) (hts _ kw_139) (fun _ h9 => h9) (congrArg (fun z => some (vf ad52 z)) (hR.w.2.1 _ finC_14).1) dX11_entryOfWanted_93 ?_
            replace h := h ((hR.w.2.1 _ finC_12).2.1) ((hR.w.2.1 _ finC_14).2.1)
            obtain ⟨Q8, h0, h⟩ := h
            have hFc := cfree hR hA
            refine W_led2 (fun hL0 => ?_)
            refine va_callv (va_runV (As := [.ref (ad52 30)]) (rest := []) ⟨hx, hb, hml, hown, hts⟩ (rX0_putAll l g ad52 H S7 26 30 hR.w (hR.w.2.1 _ finC_12).2.1 (hR.w.2.1 _ finC_14).2.1 Q8 h0) (cwV 1 hts (gd_V kw_148 kw_25 kw_26 kw_3 kw_24) rfl rfl rfl (by decide +kernel) ⟨Nat.le_of_ble_eq_true rfl, Nat.le_of_ble_eq_true rfl⟩) ⟨cblindH, va_recv hR.K hR.P (ci := 0) (q0 := 26) rfl (hR.at40 (hR.w.2.1 _ finC_12).2.1), fun U hU hW9 => cmkH hU hW9 hR hex hE hFc⟩ rfl rfl hl.1 rfl (lv_room (Nat.le_of_ble_eq_true rfl)) dX11_entryOfWanted_96 ⟨(show dc52 + (KCC - qn S7) ≤ KCC - qn S from hlg.cm), (show ds52 + (KSC - qu S7) ≤ KSC - qu S from hlg.sm)⟩) hR.sS (fun q _ h => hFc q h) hFc (fun  S9 t9 H1 locs ht9 hvm9 hw9 hB9 hz9 hk9 hS => ?_)
            rcases S9 with ⟨S9, ak11⟩
            obtain ⟨hB9, dc9, ds9, hL9, hl9⟩ := hB9
            dsimp only at hw9 hB9 hl9
            rw [ht9] at hL9
            obtain ⟨hq10, hw9, hs9, hk8⟩ := hw9
            have hw8 := hR.w
            have hak := hak.tr hk8 hlg.2.2.1
            have hE := hE.ad hk8
            have hR : RepC g ak11 A s S9 H1 locs := hR.callH ht9 hB9 hw9 hS hFc
            have hsh := hsh.tr hs9
            refine W_tight2 (hL0.tr hL9).1 (hL0.tr hL9).2.1 ?_
            have hlg := hlg.call hl9
            replace h := h  S9 hq10 hw9 hs9
            have ea_0 : ak11 25 = ad52 25 := hk8 _ (hw8.hd (hw8.2.1 _ finC_28).2.1 (by decide) (by decide))
            have hl : lv_has ls 2 [(1, .int t52_0), (0, .ref (ak11 25))] := by simp only [ea_0]; exact hl
            clear hB9 hz9 hk9 hvm9 ht9 hw9 hs9 hS hL0 hL9
            generalize H1 = H at hR ⊢
            generalize dc9 = dc_ak11, ds9 = ds_ak11 at hlg ⊢
            refine lv_aload_n hx hb dX11_entryOfWanted_99 rfl (lv_at hl 1 rfl) ?_
            refine va_get (D := rD g) (ci := 10) (v := .ref (ak11 33)) (C := RX11) (T := TX11) (N := 18) hx hb hts inX11 hown hR.K hR.P 25 (hR.at50 (hR.w.2.1 _ finC_28).2.1) rfl 4 (by decide) (hts _ kw_149) (fun _ h9 => h9) (congrArg (fun z => some (vf ak11 z)) (hR.w.2.1 _ finC_16).1) dX11_entryOfWanted_100 ?_
            refine lv_aload_n hx hb dX11_entryOfWanted_103 rfl (lv_at hl 1 rfl) ?_
            refine va_get (D := rD g) (ci := 10) (v := .int (qI S9 25 5)) (C := RX11) (T := TX11) (N := 18) hx hb hts inX11 hown hR.K hR.P 25 (hR.at50 (hR.w.2.1 _ finC_28).2.1) rfl 5 (by decide) (hts _ kw_114) (fun _ h9 => h9) rfl dX11_entryOfWanted_104 ?_
            refine lv_aload_n hx hb dX11_entryOfWanted_107 rfl (lv_at hl 1 rfl) ?_
            refine va_get (D := rD g) (ci := 10) (v := .ref (ak11 26)) (C := RX11) (T := TX11) (N := 18) hx hb hts inX11 hown hR.K hR.P 25 (hR.at50 (hR.w.2.1 _ finC_28).2.1) rfl 0 (by decide) (hts _ kw_113) (fun _ h9 => h9) (congrArg (fun z => some (vf ak11 z)) (hR.w.2.1 _ finC_12).1) dX11_entryOfWanted_108 ?_
            refine va_get (D := rD g) (ci := 0) (v := .int (qI S9 26 1)) (C := RX0) (T := TX0) (N := 2) hx hb hts inX0 hown hR.K hR.P 26 (hR.at40 (hR.w.2.1 _ finC_12).2.1) rfl 1 (by decide) (hts _ kw_101) (fun _ h9 => h9) rfl dX11_entryOfWanted_111 ?_
            obtain ⟨hv12, h⟩ := h
            refine va_iast hx hb hR.K hR.P hR.D hR.sS 33 1 (hR.atI (hR.w.2.1 _ finC_16).2.1 (by decide)) rfl (k_ixN (k_ix (n := 500) (x := (qI S9 25 5)) (a := (qI S9 25 5).toInt) rfl hv12) (hR.w.2.1 _ finC_16).2.2) dX11_entryOfWanted_114 (fun H locs hP hD hS => ?_)
            have hTk9 : qT S9 33 = 239 := (hR.w.2.1 _ finC_16).2.1
            have hR : RepC g ak11 A s (wI S9 33 (((qI S9 25 5).toInt).toNat) (qI S9 26 1)) H locs := hR.aI (hR.w.2.1 _ finC_16).2.1 (by decide) hP hD hS
            obtain ⟨S13, eS13⟩ : ∃ z, z = wI S9 33 (((qI S9 25 5).toInt).toNat) (qI S9 26 1) := ⟨_, rfl⟩
            rw [← eS13] at hR
            replace h := h S13 eS13 hTk9 hR.w
            have hsh : shx S S13 := by rw [eS13]; exact hsh
            have hlg : lgC S S13 (dc52 + dc_ak11) (ds52 + ds_ak11) := by rw [eS13]; exact hlg
            refine lv_aload_n hx hb dX11_entryOfWanted_115 rfl (lv_at hl 1 rfl) ?_
            refine lv_dup hx hb dX11_entryOfWanted_116 rfl ?_
            refine va_get (D := rD g) (ci := 10) (v := .int (qI S13 25 5)) (C := RX11) (T := TX11) (N := 18) hx hb hts inX11 hown hR.K hR.P 25 (hR.at50 (hR.w.2.1 _ finC_28).2.1) rfl 5 (by decide) (hts _ kw_114) (fun _ h9 => h9) rfl dX11_entryOfWanted_117 ?_
            refine lv_iload_n hx hb dX11_entryOfWanted_120 rfl (lv_at hl 0 rfl) ?_
            refine lv_iadd hx hb dX11_entryOfWanted_121 ?_
            refine lv_topi (fun z14 ez14 => ?_)
            obtain rfl : z14 = ((qI S13 25 5) + t52_0) := ez14
            refine va_put (D := rD g) (ci := 10) (v := .int ((qI S13 25 5) + t52_0)) (ty := .int) (C := RX11) (T := TX11) (N := 18) hx hb hts inX11 tyX11 tyX11_ok nmX11 hown hR.K hR.P hR.D hR.sS 25 (hR.at50 (hR.w.2.1 _ finC_28).2.1) rfl 5 (by decide) (hts _ kw_114) (fun _ h9 => h9) rfl (by decide +kernel) rfl rfl (Nat.le_of_ble_eq_true rfl) dX11_entryOfWanted_122 (fun H locs hP hD hS => ?_)
            have hTk9 : qT S13 25 = 50 := (hR.w.2.1 _ finC_28).2.1
            have hR : RepC g ak11 A s (wI S13 25 5 ((qI S13 25 5) + t52_0)) H locs := hR.pI50 (hR.w.2.1 _ finC_28).2.1 FX11_s5 (fun q9 => absurd q9 (by decide)) hP hD hS
            obtain ⟨S15, eS15⟩ : ∃ z, z = wI S13 25 5 ((qI S13 25 5) + t52_0) := ⟨_, rfl⟩
            rw [← eS15] at hR
            replace h := h S15 eS15 hTk9 hR.w
            have hsh : shx S S15 := by rw [eS15]; exact hsh
            have hlg : lgC S S15 (dc52 + dc_ak11) (ds52 + ds_ak11) := by rw [eS15]; exact hlg
            refine lv_iload_n hx hb dX11_entryOfWanted_125 rfl (lv_at hl 0 rfl) ?_
            refine lv_iconst (v := 2) hx hb dX11_entryOfWanted_126 (by decide) ?_
            have J_166 : ∀ (ad166 : Nat → Nat) (dc166 ds166 : Nat) (U166 : MS) (v166_1 : Int32) (H : Heap) (locs : List Loc) (ls : Array Slot), w_X11_entryOfWanted_J166 Q U166 v166_1 → shx S U166 → lgC S U166 dc166 ds166 → adk ad ad166 S → ogC ad166 A s s.heap → RepC g ad166 A s U166 H locs → lv_has ls 2 [(0, .ref (ad166 25)), (1, .int v166_1)] → W p l e (headSpec (wt yX11_entryOfWanted cX11_entryOfWanted 2 (some .int)) ({ frames := 3, cells := KCC - qn S, slots := KSC - qu S, locals := 85 })).room s m ([.ref (ad 25)] : List Value).toArray below meth c H locs dc166 ds166 (MQ below (va_Qi (fun (r : Int32) (u : MS × (Nat → Nat)) => Q r u.1 ∧ wfC u.1 ∧ shx S u.1 ∧ adk ad u.2 S) (fun (u : MS × (Nat → Nat)) (t : State) => qEHC g A S s.heap u t) A) ([.ref (ad 25)] : List Value).toArray s (KCC - qn S) (KSC - qu S) A) (F0 m 166 ls []) := by
              intro ad166 dc166 ds166 U166 v166_1 H locs ls h hsh hlg hak hE hR hl
              unfold w_X11_entryOfWanted_J166 at h
              replace h := h hR.w
              refine lv_aload_n hx hb dX11_entryOfWanted_166 rfl (lv_at hl 0 rfl) ?_
              refine va_get (D := rD g) (ci := 10) (v := .int (qI U166 25 5)) (C := RX11) (T := TX11) (N := 18) hx hb hts inX11 hown hR.K hR.P 25 (hR.at50 (hR.w.2.1 _ finC_28).2.1) rfl 5 (by decide) (hts _ kw_114) (fun _ h9 => h9) rfl dX11_entryOfWanted_167 ?_
              refine lv_iload_n hx hb dX11_entryOfWanted_170 rfl (lv_at hl 1 rfl) ?_
              refine lv_isub hx hb dX11_entryOfWanted_171 ?_
              refine lv_topi (fun z16 ez16 => ?_)
              obtain rfl : z16 = ((qI U166 25 5) - v166_1) := ez16
              refine W_led2 (fun hLd => ?_)
              refine W.widen (k := KCC - qn S) (n := KSC - qu S) hlg.c hlg.s ?_
              exact W.iret (v := ((qI U166 25 5) - v166_1)) hx hb hr (fun t9 ht9 hW9 => ⟨⟨_, (U166, ad166), rfl, ⟨h, hR.w, hsh, hak⟩, ⟨⟨by rw [ht9]; exact hR.P, hR.D⟩, _, _, by rw [ht9]; exact hLd, hlg⟩⟩, hR.sS.F ht9⟩) hR.sS.2.2 dX11_entryOfWanted_172
            refine lv_icmp_ne (tgt := 166) hx hb dX11_entryOfWanted_127 (by decide) (fun c17 => ?_) (fun c17 => ?_)
            · replace h := h.2 (k_ne rfl (by decide) c17)
              exact J_166 ak11 (dc52 + dc_ak11) (ds52 + ds_ak11) S15 t52_0 _ _ ls h  hsh hlg hak hE hR (lv_sub hl [1, 0] rfl)
            · replace h := h.1 (k_eq rfl (by decide) c17)
              refine lv_aload_n hx hb dX11_entryOfWanted_130 rfl (lv_at hl 1 rfl) ?_
              refine va_get (D := rD g) (ci := 10) (v := .ref (ak11 32)) (C := RX11) (T := TX11) (N := 18) hx hb hts inX11 hown hR.K hR.P 25 (hR.at50 (hR.w.2.1 _ finC_28).2.1) rfl 3 (by decide) (hts _ kw_145) (fun _ h9 => h9) (congrArg (fun z => some (vf ak11 z)) (hR.w.2.1 _ finC_15).1) dX11_entryOfWanted_131 ?_
              refine lv_aload_n hx hb dX11_entryOfWanted_134 rfl (lv_at hl 1 rfl) ?_
              refine va_get (D := rD g) (ci := 10) (v := .int (qI S15 25 5)) (C := RX11) (T := TX11) (N := 18) hx hb hts inX11 hown hR.K hR.P 25 (hR.at50 (hR.w.2.1 _ finC_28).2.1) rfl 5 (by decide) (hts _ kw_114) (fun _ h9 => h9) rfl dX11_entryOfWanted_135 ?_
              refine lv_iconst (v := 1) hx hb dX11_entryOfWanted_138 (by decide) ?_
              refine lv_isub hx hb dX11_entryOfWanted_139 ?_
              refine lv_topi (fun z18 ez18 => ?_)
              obtain rfl : z18 = ((qI S15 25 5) - (1 : Int32)) := ez18
              refine lv_aload_n hx hb dX11_entryOfWanted_140 rfl (lv_at hl 1 rfl) ?_
              refine va_get (D := rD g) (ci := 10) (v := .ref (ak11 26)) (C := RX11) (T := TX11) (N := 18) hx hb hts inX11 hown hR.K hR.P 25 (hR.at50 (hR.w.2.1 _ finC_28).2.1) rfl 0 (by decide) (hts _ kw_113) (fun _ h9 => h9) (congrArg (fun z => some (vf ak11 z)) (hR.w.2.1 _ finC_12).1) dX11_entryOfWanted_141 ?_
              refine va_get (D := rD g) (ci := 0) (v := .int (qI S15 26 1)) (C := RX0) (T := TX0) (N := 2) hx hb hts inX0 hown hR.K hR.P 26 (hR.at40 (hR.w.2.1 _ finC_12).2.1) rfl 1 (by decide) (hts _ kw_101) (fun _ h9 => h9) rfl dX11_entryOfWanted_144 ?_
              obtain ⟨hv19, h⟩ := h
              refine va_iast hx hb hR.K hR.P hR.D hR.sS 32 1 (hR.atI (hR.w.2.1 _ finC_15).2.1 (by decide)) rfl (k_ixN (k_ix (n := 500) (x := ((qI S15 25 5) - (1 : Int32))) (a := ((qI S15 25 5) - (1 : Int32)).toInt) rfl hv19) (hR.w.2.1 _ finC_15).2.2) dX11_entryOfWanted_147 (fun H locs hP hD hS => ?_)
              have hTk9 : qT S15 32 = 238 := (hR.w.2.1 _ finC_15).2.1
              have hR : RepC g ak11 A s (wI S15 32 ((((qI S15 25 5) - (1 : Int32)).toInt).toNat) (qI S15 26 1)) H locs := hR.aI (hR.w.2.1 _ finC_15).2.1 (by decide) hP hD hS
              obtain ⟨S20, eS20⟩ : ∃ z, z = wI S15 32 ((((qI S15 25 5) - (1 : Int32)).toInt).toNat) (qI S15 26 1) := ⟨_, rfl⟩
              rw [← eS20] at hR
              replace h := h S20 eS20 hTk9 hR.w
              have hsh : shx S S20 := by rw [eS20]; exact hsh
              have hlg : lgC S S20 (dc52 + dc_ak11) (ds52 + ds_ak11) := by rw [eS20]; exact hlg
              refine lv_aload_n hx hb dX11_entryOfWanted_148 rfl (lv_at hl 1 rfl) ?_
              refine va_get (D := rD g) (ci := 10) (v := .ref (ak11 33)) (C := RX11) (T := TX11) (N := 18) hx hb hts inX11 hown hR.K hR.P 25 (hR.at50 (hR.w.2.1 _ finC_28).2.1) rfl 4 (by decide) (hts _ kw_149) (fun _ h9 => h9) (congrArg (fun z => some (vf ak11 z)) (hR.w.2.1 _ finC_16).1) dX11_entryOfWanted_149 ?_
              refine lv_aload_n hx hb dX11_entryOfWanted_152 rfl (lv_at hl 1 rfl) ?_
              refine va_get (D := rD g) (ci := 10) (v := .int (qI S20 25 5)) (C := RX11) (T := TX11) (N := 18) hx hb hts inX11 hown hR.K hR.P 25 (hR.at50 (hR.w.2.1 _ finC_28).2.1) rfl 5 (by decide) (hts _ kw_114) (fun _ h9 => h9) rfl dX11_entryOfWanted_153 ?_
              refine lv_iconst (v := 1) hx hb dX11_entryOfWanted_156 (by decide) ?_
              refine lv_isub hx hb dX11_entryOfWanted_157 ?_
              refine lv_topi (fun z21 ez21 => ?_)
              obtain rfl : z21 = ((qI S20 25 5) - (1 : Int32)) := ez21
              refine lv_aload_n hx hb dX11_entryOfWanted_158 rfl (lv_at hl 1 rfl) ?_
              refine va_get (D := rD g) (ci := 10) (v := .ref (ak11 26)) (C := RX11) (T := TX11) (N := 18) hx hb hts inX11 hown hR.K hR.P 25 (hR.at50 (hR.w.2.1 _ finC_28).2.1) rfl 0 (by decide) (hts _ kw_113) (fun _ h9 => h9) (congrArg (fun z => some (vf ak11 z)) (hR.w.2.1 _ finC_12).1) dX11_entryOfWanted_159 ?_
              refine va_get (D := rD g) (ci := 0) (v := .int (qI S20 26 1)) (C := RX0) (T := TX0) (N := 2) hx hb hts inX0 hown hR.K hR.P 26 (hR.at40 (hR.w.2.1 _ finC_12).2.1) rfl 1 (by decide) (hts _ kw_101) (fun _ h9 => h9) rfl dX11_entryOfWanted_162 ?_
              obtain ⟨hv22, h⟩ := h
              refine va_iast hx hb hR.K hR.P hR.D hR.sS 33 1 (hR.atI (hR.w.2.1 _ finC_16).2.1 (by decide)) rfl (k_ixN (k_ix (n := 500) (x := ((qI S20 25 5) - (1 : Int32))) (a := ((qI S20 25 5) - (1 : Int32)).toInt) rfl hv22) (hR.w.2.1 _ finC_16).2.2) dX11_entryOfWanted_165 (fun H locs hP hD hS => ?_)
              have hTk9 : qT S20 33 = 239 := (hR.w.2.1 _ finC_16).2.1
              have hR : RepC g ak11 A s (wI S20 33 ((((qI S20 25 5) - (1 : Int32)).toInt).toNat) (qI S20 26 1)) H locs := hR.aI (hR.w.2.1 _ finC_16).2.1 (by decide) hP hD hS
              obtain ⟨S23, eS23⟩ : ∃ z, z = wI S20 33 ((((qI S20 25 5) - (1 : Int32)).toInt).toNat) (qI S20 26 1) := ⟨_, rfl⟩
              rw [← eS23] at hR
              replace h := h S23 eS23 hTk9 hR.w
              have hsh : shx S S23 := by rw [eS23]; exact hsh
              have hlg : lgC S S23 (dc52 + dc_ak11) (ds52 + ds_ak11) := by rw [eS23]; exact hlg
              exact J_166 ak11 (dc52 + dc_ak11) (ds52 + ds_ak11) S23 t52_0 _ _ ls h  hsh hlg hak hE hR (lv_sub hl [1, 0] rfl)
          · replace h := h.2 (k_nle rfl (by decide) c5)
            refine lv_aload_n hx hb dX11_entryOfWanted_65 rfl (lv_at hl 1 rfl) ?_
            refine lv_iconst (v := 1) hx hb dX11_entryOfWanted_66 (by decide) ?_
            refine va_put (D := rD g) (ci := 10) (v := .int 1) (ty := .boolean) (C := RX11) (T := TX11) (N := 18) hx hb hts inX11 tyX11 tyX11_ok nmX11 hown hR.K hR.P hR.D hR.sS 25 (hR.at50 (hR.w.2.1 _ finC_28).2.1) rfl 6 (by decide) (hts _ kw_115) (fun _ h9 => h9) rfl (by decide +kernel) rfl rfl (Nat.le_of_ble_eq_true rfl) dX11_entryOfWanted_67 (fun H locs hP hD hS => ?_)
            have hTk9 : qT U52 25 = 50 := (hR.w.2.1 _ finC_28).2.1
            have hR : RepC g ad52 A s (wI U52 25 6 (1 : Int32)) H locs := hR.pI50 (hR.w.2.1 _ finC_28).2.1 FX11_s6 (fun _ => (Or.inr rfl)) hP hD hS
            obtain ⟨S24, eS24⟩ : ∃ z, z = wI U52 25 6 (1 : Int32) := ⟨_, rfl⟩
            rw [← eS24] at hR
            replace h := h S24 eS24 hTk9 hR.w
            have hsh : shx S S24 := by rw [eS24]; exact hsh
            have hlg : lgC S S24 (dc52) (ds52) := by rw [eS24]; exact hlg
            refine lv_iconst (v := 0) hx hb dX11_entryOfWanted_70 (by decide) ?_
            refine W_led2 (fun hLd => ?_)
            refine W.widen (k := KCC - qn S) (n := KSC - qu S) hlg.c hlg.s ?_
            exact W.iret (v := 0) hx hb hr (fun t9 ht9 hW9 => ⟨⟨_, (S24, ad52), rfl, ⟨h, hR.w, hsh, hak⟩, ⟨⟨by rw [ht9]; exact hR.P, hR.D⟩, _, _, by rw [ht9]; exact hLd, hlg⟩⟩, hR.sS.F ht9⟩) hR.sS.2.2 dX11_entryOfWanted_71
        refine lv_icmp_ne (tgt := 51) hx hb dX11_entryOfWanted_44 (by decide) (fun c25 => ?_) (fun c25 => ?_)
        · replace h := h.2 (k_ne rfl (by decide) c25)
          refine lv_iconst (v := 1) hx hb dX11_entryOfWanted_51 (by decide) ?_
          exact J_52 ad35 (dc35) (ds35) U35 1 _ _ ls h  hsh hlg hak hE hR (lv_sub hl [0] rfl)
        · replace h := h.1 (k_eq rfl (by decide) c25)
          refine lv_iconst (v := 2) hx hb dX11_entryOfWanted_47 (by decide) ?_
          refine lv_goto (tgt := 52) hx hb dX11_entryOfWanted_48 (by decide) ?_
          exact J_52 ad35 (dc35) (ds35) U35 2 _ _ ls h  hsh hlg hak hE hR (lv_sub hl [0] rfl)
      refine lv_icmp_ge (tgt := 35) hx hb dX11_entryOfWanted_7 (by decide) (fun c26 => ?_) (fun c26 => ?_)
      · replace h := h.1 (k_le rfl rfl c26)
        exact J_35 ad2 (dc2) (ds2) U2 _ _ ls h  hsh hlg hak hE hR (lv_sub hl [0] rfl)
      · replace h := h.2 (k_nle rfl rfl c26)
        refine lv_iload_n hx hb dX11_entryOfWanted_10 rfl (lv_at hl 1 rfl) ?_
        refine lv_aload_n hx hb dX11_entryOfWanted_11 rfl (lv_at hl 0 rfl) ?_
        refine va_get (D := rD g) (ci := 10) (v := .ref (ad2 32)) (C := RX11) (T := TX11) (N := 18) hx hb hts inX11 hown hR.K hR.P 25 (hR.at50 (hR.w.2.1 _ finC_28).2.1) rfl 3 (by decide) (hts _ kw_145) (fun _ h9 => h9) (congrArg (fun z => some (vf ad2 z)) (hR.w.2.1 _ finC_15).1) dX11_entryOfWanted_12 ?_
        refine va_alen (v := 500) hx hb hR.K hR.P 32 1 (hR.atI (hR.w.2.1 _ finC_15).2.1 (by decide)) rfl (by rw [(hR.w.2.1 _ finC_15).2.2]; rfl) dX11_entryOfWanted_15 ?_
        refine lv_icmp_ge (tgt := 35) hx hb dX11_entryOfWanted_16 (by decide) (fun c27 => ?_) (fun c27 => ?_)
        · replace h := h.1 (k_le (by decide) rfl c27)
          exact J_35 ad2 (dc2) (ds2) U2 _ _ ls h  hsh hlg hak hE hR (lv_sub hl [0] rfl)
        · replace h := h.2 (k_nle (by decide) rfl c27)
          refine lv_aload_n hx hb dX11_entryOfWanted_19 rfl (lv_at hl 0 rfl) ?_
          refine lv_iload_n hx hb dX11_entryOfWanted_20 rfl (lv_at hl 1 rfl) ?_
          obtain ⟨Q28, h0, h⟩ := h
          have hFc := cfree hR hA
          refine va_calli (va_runV (As := [.int v2_1]) (rest := []) ⟨hx, hb, hml, hown, hts⟩ (rX11_isWanted l g ad2 H.size U2 v2_1 hR.w  Q28 h0) (cwV 1 hts (gd_V kw_146 kw_176 kw_177 kw_83 kw_175) rfl rfl rfl (by decide +kernel) ⟨Nat.le_of_ble_eq_true rfl, Nat.le_of_ble_eq_true rfl⟩) ⟨cblind, va_recv hR.K hR.P (ci := 10) (q0 := 25) rfl (hR.at50 (hR.w.2.1 _ finC_28).2.1), fun U hU hW9 => cmk hU hW9 hR hex hE hFc⟩ rfl rfl hl.1 rfl (lv_room (Nat.le_of_ble_eq_true rfl)) dX11_entryOfWanted_21 ⟨(show dc2 + 0 ≤ KCC - qn S from hlg.c), (show ds2 + 0 ≤ KSC - qu S from hlg.s)⟩) hR.sS (fun q _ h => hFc q h) hFc (fun r29 S30 t9 H1 locs ht9 hvm9 hw9 hB9 hz9 hk9 hS => ?_)
          obtain ⟨hq31, hw9, hs9, hz_r29⟩ := hw9
          have hR : RepC g ad2 A s S30 H1 locs := hR.call ht9 hB9 hw9 hS hFc
          have hsh := hsh.tr hs9.1
          have hlg : lgC S S30 (dc2) (ds2) := hlg.same hs9
          replace h := h r29 S30 hq31 hw9 hs9
          clear hB9 hz9 hk9 hvm9 ht9 hw9 hs9 hS
          generalize H1 = H at hR ⊢
          refine lv_if_eq (tgt := 29) hx hb dX11_entryOfWanted_24 (by decide) (fun c32 => ?_) (fun c32 => ?_)
          · replace h := h.1 (k_eq rfl (by decide) c32)
            obtain ⟨a33, ea33⟩ : ∃ z, z = (v2_1 + Int32.ofInt 1) := ⟨_, rfl⟩
            replace h := h a33 ea33
            refine lv_iinc (v := a33) (lv' := [(1, .int a33), (0, .ref (ad2 25))]) hx hb dX11_entryOfWanted_29 hl (k := 1) rfl ea33.symm (by decide) rfl (fun ls hl => ?_)
            refine lv_goto (tgt := 2) hx hb dX11_entryOfWanted_32 (by decide) ?_
            exact ih_2 ad2 (dc2) (ds2) S30 a33 _ _ ls h  hsh hlg hak hE hR (lv_sub hl [1, 0] rfl)
          · replace h := h.2 (k_ne rfl (by decide) c32)
            refine lv_iload_n hx hb dX11_entryOfWanted_27 rfl (lv_at hl 1 rfl) ?_
            refine W_led2 (fun hLd => ?_)
            refine W.widen (k := KCC - qn S) (n := KSC - qu S) hlg.c hlg.s ?_
            exact W.iret (v := v2_1) hx hb hr (fun t9 ht9 hW9 => ⟨⟨_, (S30, ad2), rfl, ⟨h, hR.w, hsh, hak⟩, ⟨⟨by rw [ht9]; exact hR.P, hR.D⟩, _, _, by rw [ht9]; exact hLd, hlg⟩⟩, hR.sS.F ht9⟩) hR.sS.2.2 dX11_entryOfWanted_28
  obtain ⟨n9, h⟩ := h
  exact J_2 n9 ad (0) (0) S 1 _ _ ls h  hsh hlg hak hE hR (lv_sub hl [1, 0] rfl)
def w_X11_textEntry_L18 (Q : Int32 → MS → Prop) : Nat → MS → Nat → Int32 → Prop
  | 0, _, _, _ => False
  | n18 + 1, U18, v18_1, v18_2 => (wfC U18 → qT U18 v18_1 = 12 → (((Int32.ofNat (qN U18 (v18_1 + 1))).toInt ≤ v18_2.toInt → (∃ Q12, wX11_entryOfWanted U18 Q12 ∧ ∀ r13 S14, Q12 r13 S14 → wfC S14 → shx U18 S14 → Q r13 S14)) ∧ (¬ (Int32.ofNat (qN U18 (v18_1 + 1))).toInt ≤ v18_2.toInt → (((0 : Int) ≤ v18_2.toInt ∧ v18_2.toInt < (qN U18 (v18_1 + 1) : Int)) ∧ (qT U18 30 = 40 → (∃ Q19, wX0_put U18 30 (cAt U18 v18_1 v18_2) Q19 ∧ ∀ S20, Q19 S20 → wfC S20 → shx U18 S20 → (∀ a23 : Int32, a23 = (v18_2 + Int32.ofInt 1) → (w_X11_textEntry_L18 Q n18) S20 v18_1 a23)))))))
def wX11_textEntry (S : MS) (p1 : Nat) (Q : Int32 → MS → Prop) : Prop := (∃ Q1, wX11_want S (1 : Int32) Q1 ∧ ∀ S2, Q1 S2 → wfC S2 → shx S S2 → (qT S2 30 = 40 → (∃ Q6, wX0_put2 S2 30 (Int32.ofNat (qN S2 (p1 + 1))) Q6 ∧ ∀ S7, Q6 S7 → wfC S7 → shx S2 S7 → (∃ n, w_X11_textEntry_L18 Q n S7 p1 0))))
set_option maxHeartbeats 2000000 in
set_option maxRecDepth 100000 in
theorem rX11_textEntry (l : Launch) (g : Gr) (ad : Nat → Nat) (H0 : Heap) (S : MS) (p1 : Nat) (hw : wfC S) (hT_p1 : qT S p1 = 12) (Q : Int32 → MS → Prop) (h : wX11_textEntry S p1 Q) : Met l yX11_textEntry (wt yX11_textEntry cX11_textEntry 3 (some .int)) ({ frames := 4, cells := KCC - qn S, slots := KSC - qu S, locals := 106 }) (va_Pc [.ref (ad 25), .ref (ad p1)] (st_CH g ad H0 S)) (va_Qi (fun (r : Int32) (u : MS × (Nat → Nat)) => Q r u.1 ∧ wfC u.1 ∧ shx S u.1 ∧ adk ad u.2 S) (fun (u : MS × (Nat → Nat)) (t : State) => qEHC g (va_A (WdC g ad S) H0.size) S H0 u t) (va_A (WdC g ad S) H0.size)) (KCC - qn S) (KSC - qu S) (va_A (WdC g ad S) H0.size) := by
  refine Met.ofW (cc := cX11_textEntry) (maxL := 3) (ret := (some .int)) (by decide) rfl ?_
  intro p e s m args below meth c s₁ B hml hv
  obtain ⟨rfl, hH0, hsz, hP, hK, hD0, hex, hE⟩ := hv
  have hx := B.exec
  have hb := B.bytes
  have hr := B.returns
  have hts0 := atoms_spec (ws := wt yX11_textEntry cX11_textEntry 3 (some .int)) B.pre
  have hts : ∀ w ∈ tb, w.before _ s = true := fun w h => hts0 w (List.mem_cons_of_mem _ h)
  have hown : s.vm.findClass RX11 = some m.cls := findClass_of_methodNamed B.named
  subst hH0
  have hD := hD0.self (sz := s.heap.size)
  generalize hAe : va_A (WdC g ad S) s.heap.size = A at hD hE ⊢
  have hA : ∀ q : Nat, s.heap.size ≤ q → A q := fun q h => by rw [← hAe]; exact Or.inr h
  have hR : RepC g ad A s S s.heap [] := ⟨hK, hP, hD, va_S.rf, hw⟩
  clear hK hP hD hD0
  have hl := lv_entry ([.ref (ad 25), .ref (ad p1)]) (n := 3) (Nat.le_of_ble_eq_true rfl)
  rw [lg_entry_eq]
  generalize (lg_sl ([.ref (ad 25), .ref (ad p1)]) ++ List.replicate (3 - (lg_sl ([.ref (ad 25), .ref (ad p1)])).length) Slot.unset).toArray = ls at hl ⊢
  have hlg : lgC S S 0 0 := lgC.rf
  have hak : adk ad ad S := adk.rf
  have hl : lv_has ls 3 [(0, .ref (ad 25)), (1, .ref (ad p1))] := hl
  have hsh : shx S S := shx.rf
  unfold wX11_textEntry at h
  refine lv_aload_n hx hb dX11_textEntry_0 rfl (lv_at hl 0 rfl) ?_
  refine lv_iconst (v := 1) hx hb dX11_textEntry_1 (by decide) ?_
  obtain ⟨Q1, h0, h⟩ := h
  have hFc := cfree hR hA
  refine W_led2 (fun hL0 => ?_)
  refine va_callv (va_runV (As := [.int 1]) (rest := []) ⟨hx, hb, hml, hown, hts⟩ (rX11_want l g ad s.heap S (1 : Int32) hR.w  Q1 h0) (cwV 1 hts (gd_V kw_138 kw_275 kw_276 kw_83 kw_274) rfl rfl rfl (by decide +kernel) ⟨Nat.le_of_ble_eq_true rfl, Nat.le_of_ble_eq_true rfl⟩) ⟨cblindH, va_recv hR.K hR.P (ci := 10) (q0 := 25) rfl (hR.at50 (hR.w.2.1 _ finC_28).2.1), fun U hU hW9 => cmkH hU hW9 hR hex hE hFc⟩ rfl rfl hl.1 rfl (lv_room (Nat.le_of_ble_eq_true rfl)) dX11_textEntry_2 ⟨(show 0 + (KCC - qn S) ≤ KCC - qn S from hlg.cm), (show 0 + (KSC - qu S) ≤ KSC - qu S from hlg.sm)⟩) hR.sS (fun q _ h => hFc q h) hFc (fun  S2 t9 H1 locs ht9 hvm9 hw9 hB9 hz9 hk9 hS => ?_)
  rcases S2 with ⟨S2, ak4⟩
  obtain ⟨hB9, dc9, ds9, hL9, hl9⟩ := hB9
  dsimp only at hw9 hB9 hl9
  rw [ht9] at hL9
  obtain ⟨hq3, hw9, hs9, hk8⟩ := hw9
  have hw8 := hR.w
  have hak := hak.tr hk8 hlg.2.2.1
  have hE := hE.ad hk8
  have hR : RepC g ak4 A s S2 H1 locs := hR.callH ht9 hB9 hw9 hS hFc
  have hsh := hsh.tr hs9
  refine W_tight2 (hL0.tr hL9).1 (hL0.tr hL9).2.1 ?_
  have hlg := hlg.call hl9
  replace h := h  S2 hq3 hw9 hs9
  have ea_0 : ak4 25 = ad 25 := hk8 _ (hw8.hd (hw8.2.1 _ finC_28).2.1 (by decide) (by decide))
  have ea_1 : ak4 p1 = ad p1 := hk8 _ (hw8.hd hT_p1 (by decide) (by decide))
  have hl : lv_has ls 3 [(0, .ref (ak4 25)), (1, .ref (ak4 p1))] := by simp only [ea_0, ea_1]; exact hl
  have hT_p1 := hs9.T hT_p1 (by decide)
  clear hB9 hz9 hk9 hvm9 ht9 hw9 hs9 hS hL0 hL9
  generalize H1 = H at hR ⊢
  generalize dc9 = dc_ak4, ds9 = ds_ak4 at hlg ⊢
  refine lv_aload_n hx hb dX11_textEntry_5 rfl (lv_at hl 0 rfl) ?_
  refine va_get (D := rD g) (ci := 10) (v := .ref (ak4 30)) (C := RX11) (T := TX11) (N := 18) hx hb hts inX11 hown hR.K hR.P 25 (hR.at50 (hR.w.2.1 _ finC_28).2.1) rfl 2 (by decide) (hts _ kw_139) (fun _ h9 => h9) (congrArg (fun z => some (vf ak4 z)) (hR.w.2.1 _ finC_14).1) dX11_textEntry_6 ?_
  refine lv_aload_n hx hb dX11_textEntry_9 rfl (lv_at hl 1 rfl) ?_
  have hF : ∀ q, Ns H.size q → A q := fun q h => hA q (Nat.le_trans hR.sS.1 h)
  refine va_calli (va_runV (As := []) (rest := [.ref (ak4 30)]) ⟨hx, hb, hml, hown, hts⟩ (sc_length l H.size (ak4 p1) (ak4 (p1 + 1)) (qN S2 (p1 + 1)) (qI S2 (p1 + 1))) (cwV 0 hts (gd_V kw_268 kw_1752 kw_1753 kw_1754 kw_1751) rfl rfl rfl (by decide +kernel) ⟨Nat.le_of_ble_eq_true rfl, Nat.le_of_ble_eq_true rfl⟩) ⟨tblind (fun A u U H hv h => by exact tx1.moved hv h), (strC hR hE hT_p1), fun U hU hW9 => ⟨rfl, by rw [hU], str_atC hR hE hA hT_p1 hU hW9, by rw [hU]; exact ((hE.1.1.kept hR.sS.2.1).narrow hF).moved hW9.alike⟩⟩ rfl rfl hl.1 rfl (lv_room (Nat.le_of_ble_eq_true rfl)) dX11_textEntry_10 ⟨(show 0 + dc_ak4 + 0 ≤ KCC - qn S from hlg.c), (show 0 + ds_ak4 + 0 ≤ KSC - qu S from hlg.s)⟩) hR.sS (fun q _ h => hF q h) hF (fun r5 u9 t9 H1 locs ht9 hvm9 hw9 hB9 hz9 hk9 hS => ?_)
  obtain rfl : r5 = (Int32.ofNat (qN S2 (p1 + 1))) := hw9
  have hR : RepC g ak4 A s S2 H1 locs := hR.keep hk9 hS
  clear hz9 hk9 hvm9 ht9 hB9 hF hS
  generalize H1 = H at hR ⊢
  replace h := h ((hR.w.2.1 _ finC_14).2.1)
  obtain ⟨Q6, h0, h⟩ := h
  have hFc := cfree hR hA
  refine W_led2 (fun hL0 => ?_)
  refine va_callv (va_runV (As := [.int (Int32.ofNat (qN S2 (p1 + 1)))]) (rest := []) ⟨hx, hb, hml, hown, hts⟩ (rX0_put2 l g ak4 H S2 30 (Int32.ofNat (qN S2 (p1 + 1))) hR.w (hR.w.2.1 _ finC_14).2.1 Q6 h0) (cwV 1 hts (gd_V kw_96 kw_17 kw_18 kw_3 kw_16) rfl rfl rfl (by decide +kernel) ⟨Nat.le_of_ble_eq_true rfl, Nat.le_of_ble_eq_true rfl⟩) ⟨cblindH, va_recv hR.K hR.P (ci := 0) (q0 := 30) rfl (hR.at40 (hR.w.2.1 _ finC_14).2.1), fun U hU hW9 => cmkH hU hW9 hR hex hE hFc⟩ rfl rfl hl.1 rfl (lv_room (Nat.le_of_ble_eq_true rfl)) dX11_textEntry_13 ⟨(show 0 + dc_ak4 + (KCC - qn S2) ≤ KCC - qn S from hlg.cm), (show 0 + ds_ak4 + (KSC - qu S2) ≤ KSC - qu S from hlg.sm)⟩) hR.sS (fun q _ h => hFc q h) hFc (fun  S7 t9 H1 locs ht9 hvm9 hw9 hB9 hz9 hk9 hS => ?_)
  rcases S7 with ⟨S7, ak9⟩
  obtain ⟨hB9, dc9, ds9, hL9, hl9⟩ := hB9
  dsimp only at hw9 hB9 hl9
  rw [ht9] at hL9
  obtain ⟨hq8, hw9, hs9, hk8⟩ := hw9
  have hw8 := hR.w
  have hak := hak.tr hk8 hlg.2.2.1
  have hE := hE.ad hk8
  have hR : RepC g ak9 A s S7 H1 locs := hR.callH ht9 hB9 hw9 hS hFc
  have hsh := hsh.tr hs9
  refine W_tight2 (hL0.tr hL9).1 (hL0.tr hL9).2.1 ?_
  have hlg := hlg.call hl9
  replace h := h  S7 hq8 hw9 hs9
  have ea_0 : ak9 25 = ak4 25 := hk8 _ (hw8.hd (hw8.2.1 _ finC_28).2.1 (by decide) (by decide))
  have ea_1 : ak9 p1 = ak4 p1 := hk8 _ (hw8.hd hT_p1 (by decide) (by decide))
  have hl : lv_has ls 3 [(0, .ref (ak9 25)), (1, .ref (ak9 p1))] := by simp only [ea_0, ea_1]; exact hl
  have hT_p1 := hs9.T hT_p1 (by decide)
  clear hB9 hz9 hk9 hvm9 ht9 hw9 hs9 hS hL0 hL9
  generalize H1 = H at hR ⊢
  generalize dc9 = dc_ak9, ds9 = ds_ak9 at hlg ⊢
  refine lv_iconst (v := 0) hx hb dX11_textEntry_16 (by decide) ?_
  refine lv_istore_n (lv' := [(2, .int 0), (0, .ref (ak9 25)), (1, .ref (ak9 p1))]) hx hb dX11_textEntry_17 rfl hl (by decide) rfl (fun ls hl => ?_)
  have J_18 : ∀ (n18 : Nat) (ad18 : Nat → Nat) (dc18 ds18 : Nat) (U18 : MS) (v18_1 : Nat) (v18_2 : Int32) (H : Heap) (locs : List Loc) (ls : Array Slot), w_X11_textEntry_L18 Q n18 U18 v18_1 v18_2 → qT U18 v18_1 = 12 → shx S U18 → lgC S U18 dc18 ds18 → adk ad ad18 S → ogC ad18 A s s.heap → RepC g ad18 A s U18 H locs → lv_has ls 3 [(0, .ref (ad18 25)), (1, .ref (ad18 v18_1)), (2, .int v18_2)] → W p l e (headSpec (wt yX11_textEntry cX11_textEntry 3 (some .int)) ({ frames := 4, cells := KCC - qn S, slots := KSC - qu S, locals := 106 })).room s m ([.ref (ad 25), .ref (ad p1)] : List Value).toArray below meth c H locs dc18 ds18 (MQ below (va_Qi (fun (r : Int32) (u : MS × (Nat → Nat)) => Q r u.1 ∧ wfC u.1 ∧ shx S u.1 ∧ adk ad u.2 S) (fun (u : MS × (Nat → Nat)) (t : State) => qEHC g A S s.heap u t) A) ([.ref (ad 25), .ref (ad p1)] : List Value).toArray s (KCC - qn S) (KSC - qu S) A) (F0 m 18 ls []) := by
    intro n18
    induction n18 with
    | zero => intro ad18 dc18 ds18 U18 v18_1 v18_2 H locs ls h hT_v18_1 hsh hlg hak hE hR hl; unfold w_X11_textEntry_L18 at h; exact h.elim
    | succ n18 ih_18 =>
      intro ad18 dc18 ds18 U18 v18_1 v18_2 H locs ls h hT_v18_1 hsh hlg hak hE hR hl
      unfold w_X11_textEntry_L18 at h
      replace h := h hR.w hT_v18_1
      refine lv_iload_n hx hb dX11_textEntry_18 rfl (lv_at hl 2 rfl) ?_
      refine lv_aload_n hx hb dX11_textEntry_19 rfl (lv_at hl 1 rfl) ?_
      have hF : ∀ q, Ns H.size q → A q := fun q h => hA q (Nat.le_trans hR.sS.1 h)
      refine va_calli (va_runV (As := []) (rest := [.int v18_2]) ⟨hx, hb, hml, hown, hts⟩ (sc_length l H.size (ad18 v18_1) (ad18 (v18_1 + 1)) (qN U18 (v18_1 + 1)) (qI U18 (v18_1 + 1))) (cwV 0 hts (gd_V kw_268 kw_1752 kw_1753 kw_1754 kw_1751) rfl rfl rfl (by decide +kernel) ⟨Nat.le_of_ble_eq_true rfl, Nat.le_of_ble_eq_true rfl⟩) ⟨tblind (fun A u U H hv h => by exact tx1.moved hv h), (strC hR hE hT_v18_1), fun U hU hW9 => ⟨rfl, by rw [hU], str_atC hR hE hA hT_v18_1 hU hW9, by rw [hU]; exact ((hE.1.1.kept hR.sS.2.1).narrow hF).moved hW9.alike⟩⟩ rfl rfl hl.1 rfl (lv_room (Nat.le_of_ble_eq_true rfl)) dX11_textEntry_20 ⟨(show dc18 + 0 ≤ KCC - qn S from hlg.c), (show ds18 + 0 ≤ KSC - qu S from hlg.s)⟩) hR.sS (fun q _ h => hF q h) hF (fun r10 u9 t9 H1 locs ht9 hvm9 hw9 hB9 hz9 hk9 hS => ?_)
      obtain rfl : r10 = (Int32.ofNat (qN U18 (v18_1 + 1))) := hw9
      have hR : RepC g ad18 A s U18 H1 locs := hR.keep hk9 hS
      clear hz9 hk9 hvm9 ht9 hB9 hF hS
      generalize H1 = H at hR ⊢
      refine lv_icmp_ge (tgt := 44) hx hb dX11_textEntry_23 (by decide) (fun c11 => ?_) (fun c11 => ?_)
      · replace h := h.1 (k_le rfl rfl c11)
        refine lv_aload_n hx hb dX11_textEntry_44 rfl (lv_at hl 0 rfl) ?_
        obtain ⟨Q12, h0, h⟩ := h
        have hFc := cfree hR hA
        refine W_led2 (fun hL0 => ?_)
        refine va_calli (va_runV (As := []) (rest := []) ⟨hx, hb, hml, hown, hts⟩ (rX11_entryOfWanted l g ad18 H U18 hR.w  Q12 h0) (cwV 0 hts (gd_V kw_141 kw_143 kw_144 kw_83 kw_142) rfl rfl rfl (by decide +kernel) ⟨Nat.le_of_ble_eq_true rfl, Nat.le_of_ble_eq_true rfl⟩) ⟨cblindH, va_recv hR.K hR.P (ci := 10) (q0 := 25) rfl (hR.at50 (hR.w.2.1 _ finC_28).2.1), fun U hU hW9 => cmkH hU hW9 hR hex hE hFc⟩ rfl rfl hl.1 rfl (lv_room (Nat.le_of_ble_eq_true rfl)) dX11_textEntry_45 ⟨(show dc18 + (KCC - qn U18) ≤ KCC - qn S from hlg.cm), (show ds18 + (KSC - qu U18) ≤ KSC - qu S from hlg.sm)⟩) hR.sS (fun q _ h => hFc q h) hFc (fun r13 S14 t9 H1 locs ht9 hvm9 hw9 hB9 hz9 hk9 hS => ?_)
        rcases S14 with ⟨S14, ak16⟩
        obtain ⟨hB9, dc9, ds9, hL9, hl9⟩ := hB9
        dsimp only at hw9 hB9 hl9
        rw [ht9] at hL9
        obtain ⟨hq15, hw9, hs9, hk8⟩ := hw9
        have hw8 := hR.w
        have hak := hak.tr hk8 hlg.2.2.1
        have hE := hE.ad hk8
        have hR : RepC g ak16 A s S14 H1 locs := hR.callH ht9 hB9 hw9 hS hFc
        have hsh := hsh.tr hs9
        refine W_tight2 (hL0.tr hL9).1 (hL0.tr hL9).2.1 ?_
        have hlg := hlg.call hl9
        replace h := h r13 S14 hq15 hw9 hs9
        have ea_0 : ak16 25 = ad18 25 := hk8 _ (hw8.hd (hw8.2.1 _ finC_28).2.1 (by decide) (by decide))
        have ea_1 : ak16 v18_1 = ad18 v18_1 := hk8 _ (hw8.hd hT_v18_1 (by decide) (by decide))
        have hl : lv_has ls 3 [(0, .ref (ak16 25)), (1, .ref (ak16 v18_1)), (2, .int v18_2)] := by simp only [ea_0, ea_1]; exact hl
        have hT_v18_1 := hs9.T hT_v18_1 (by decide)
        clear hB9 hz9 hk9 hvm9 ht9 hw9 hs9 hS hL0 hL9
        generalize H1 = H at hR ⊢
        generalize dc9 = dc_ak16, ds9 = ds_ak16 at hlg ⊢
        refine W_led2 (fun hLd => ?_)
        refine W.widen (k := KCC - qn S) (n := KSC - qu S) hlg.c hlg.s ?_
        exact W.iret (v := r13) hx hb hr (fun t9 ht9 hW9 => ⟨⟨_, (S14, ak16), rfl, ⟨h, hR.w, hsh, hak⟩, ⟨⟨by rw [ht9]; exact hR.P, hR.D⟩, _, _, by rw [ht9]; exact hLd, hlg⟩⟩, hR.sS.F ht9⟩) hR.sS.2.2 dX11_textEntry_48
      · replace h := h.2 (k_nle rfl rfl c11)
        refine lv_aload_n hx hb dX11_textEntry_26 rfl (lv_at hl 0 rfl) ?_
        refine va_get (D := rD g) (ci := 10) (v := .ref (ad18 30)) (C := RX11) (T := TX11) (N := 18) hx hb hts inX11 hown hR.K hR.P 25 (hR.at50 (hR.w.2.1 _ finC_28).2.1) rfl 2 (by decide) (hts _ kw_139) (fun _ h9 => h9) (congrArg (fun z => some (vf ad18 z)) (hR.w.2.1 _ finC_14).1) dX11_textEntry_27 ?_
        refine lv_aload_n hx hb dX11_textEntry_30 rfl (lv_at hl 1 rfl) ?_
        refine lv_iload_n hx hb dX11_textEntry_31 rfl (lv_at hl 2 rfl) ?_
        obtain ⟨hv17, h⟩ := h
        have hF : ∀ q, Ns H.size q → A q := fun q h => hA q (Nat.le_trans hR.sS.1 h)
        refine va_calli (va_runV (As := [.int v18_2]) (rest := [.ref (ad18 30)]) ⟨hx, hb, hml, hown, hts⟩ (sc_charAt l H.size (ad18 v18_1) (ad18 (v18_1 + 1)) (qN U18 (v18_1 + 1)) (qI U18 (v18_1 + 1)) v18_2 (hR.w.len hT_v18_1) hv17) (cwV 1 hts (gd_V kw_269 kw_1758 kw_1759 kw_1754 kw_1757) rfl rfl rfl (by decide +kernel) ⟨Nat.le_of_ble_eq_true rfl, Nat.le_of_ble_eq_true rfl⟩) ⟨tblind (fun A u U H hv h => by exact tx1.moved hv h), (strC hR hE hT_v18_1), fun U hU hW9 => ⟨rfl, by rw [hU], str_atC hR hE hA hT_v18_1 hU hW9, by rw [hU]; exact ((hE.1.1.kept hR.sS.2.1).narrow hF).moved hW9.alike⟩⟩ rfl rfl hl.1 rfl (lv_room (Nat.le_of_ble_eq_true rfl)) dX11_textEntry_32 ⟨(show dc18 + 0 ≤ KCC - qn S from hlg.c), (show ds18 + 0 ≤ KSC - qu S from hlg.s)⟩) hR.sS (fun q _ h => hF q h) hF (fun r18 u9 t9 H1 locs ht9 hvm9 hw9 hB9 hz9 hk9 hS => ?_)
        obtain rfl : r18 = (cAt U18 v18_1 v18_2) := hw9
        have hR : RepC g ad18 A s U18 H1 locs := hR.keep hk9 hS
        clear hz9 hk9 hvm9 ht9 hB9 hF hS
        generalize H1 = H at hR ⊢
        replace h := h ((hR.w.2.1 _ finC_14).2.1)
        obtain ⟨Q19, h0, h⟩ := h
        have hFc := cfree hR hA
        refine W_led2 (fun hL0 => ?_)
        refine va_callv (va_runV (As := [.int (cAt U18 v18_1 v18_2)]) (rest := []) ⟨hx, hb, hml, hown, hts⟩ (rX0_put l g ad18 H U18 30 (cAt U18 v18_1 v18_2) hR.w (hR.w.2.1 _ finC_14).2.1 Q19 h0) (cwV 1 hts (gd_V kw_140 kw_13 kw_14 kw_3 kw_12) rfl rfl rfl (by decide +kernel) ⟨Nat.le_of_ble_eq_true rfl, Nat.le_of_ble_eq_true rfl⟩) ⟨cblindH, va_recv hR.K hR.P (ci := 0) (q0 := 30) rfl (hR.at40 (hR.w.2.1 _ finC_14).2.1), fun U hU hW9 => cmkH hU hW9 hR hex hE hFc⟩ rfl rfl hl.1 rfl (lv_room (Nat.le_of_ble_eq_true rfl)) dX11_textEntry_35 ⟨(show dc18 + (KCC - qn U18) ≤ KCC - qn S from hlg.cm), (show ds18 + (KSC - qu U18) ≤ KSC - qu S from hlg.sm)⟩) hR.sS (fun q _ h => hFc q h) hFc (fun  S20 t9 H1 locs ht9 hvm9 hw9 hB9 hz9 hk9 hS => ?_)
        rcases S20 with ⟨S20, ak22⟩
        obtain ⟨hB9, dc9, ds9, hL9, hl9⟩ := hB9
        dsimp only at hw9 hB9 hl9
        rw [ht9] at hL9
        obtain ⟨hq21, hw9, hs9, hk8⟩ := hw9
        have hw8 := hR.w
        have hak := hak.tr hk8 hlg.2.2.1
        have hE := hE.ad hk8
        have hR : RepC g ak22 A s S20 H1 locs := hR.callH ht9 hB9 hw9 hS hFc
        have hsh := hsh.tr hs9
        refine W_tight2 (hL0.tr hL9).1 (hL0.tr hL9).2.1 ?_
        have hlg := hlg.call hl9
        replace h := h  S20 hq21 hw9 hs9
        have ea_0 : ak22 25 = ad18 25 := hk8 _ (hw8.hd (hw8.2.1 _ finC_28).2.1 (by decide) (by decide))
        have ea_1 : ak22 v18_1 = ad18 v18_1 := hk8 _ (hw8.hd hT_v18_1 (by decide) (by decide))
        have hl : lv_has ls 3 [(0, .ref (ak22 25)), (1, .ref (ak22 v18_1)), (2, .int v18_2)] := by simp only [ea_0, ea_1]; exact hl
        have hT_v18_1 := hs9.T hT_v18_1 (by decide)
        clear hB9 hz9 hk9 hvm9 ht9 hw9 hs9 hS hL0 hL9
        generalize H1 = H at hR ⊢
        generalize dc9 = dc_ak22, ds9 = ds_ak22 at hlg ⊢
        obtain ⟨a23, ea23⟩ : ∃ z, z = (v18_2 + Int32.ofInt 1) := ⟨_, rfl⟩
        replace h := h a23 ea23
        refine lv_iinc (v := a23) (lv' := [(2, .int a23), (0, .ref (ak22 25)), (1, .ref (ak22 v18_1))]) hx hb dX11_textEntry_38 hl (k := 2) rfl ea23.symm (by decide) rfl (fun ls hl => ?_)
        refine lv_goto (tgt := 18) hx hb dX11_textEntry_41 (by decide) ?_
        exact ih_18 ak22 (dc18 + dc_ak22) (ds18 + ds_ak22) S20 v18_1 a23 _ _ ls h hT_v18_1 hsh hlg hak hE hR (lv_sub hl [1, 2, 0] rfl)
  obtain ⟨n9, h⟩ := h
  exact J_18 n9 ak9 (0 + dc_ak4 + dc_ak9) (0 + ds_ak4 + ds_ak9) S7 p1 0 _ _ ls h hT_p1 hsh hlg hak hE hR (lv_sub hl [1, 2, 0] rfl)
