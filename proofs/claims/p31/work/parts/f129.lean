def w_X9_goThrough_J98 (Q : Int32 → MS → Prop) (k10 : MS → Int32 → Int32 → Int32 → Int32 → Int32 → Prop) (U98 : MS) (v98_1 : Int32) (v98_2 : Int32) (v98_3 : Int32) (v98_4 : Int32) (v98_5 : Int32) : Prop := (wfC U98 → (v98_2 = 0 ∨ v98_2 = 1) → (v98_3 = 0 ∨ v98_3 = 1) → (∀ a8 : Int32, a8 = (v98_5 + Int32.ofInt 1) → k10 U98 v98_1 v98_2 v98_3 v98_4 a8))
def w_X9_goThrough_J68 (Q : Int32 → MS → Prop) (k10 : MS → Int32 → Int32 → Int32 → Int32 → Int32 → Prop) (U68 : MS) (v68_1 : Int32) (v68_2 : Int32) (v68_4 : Int32) (v68_5 : Int32) : Prop := (wfC U68 → (v68_2 = 0 ∨ v68_2 = 1) → (∃ Q4, wX9_isDone U68 v68_1 v68_4 Q4 ∧ ∀ r5 S6, Q4 r5 S6 → wfC S6 → shy U68 S6 → ((r5.toInt = 0 → (∀ a10 : Int32, a10 = (v68_4 + Int32.ofInt 1) → w_X9_goThrough_J98 Q k10 S6 v68_1 v68_2 r5 a10 v68_5)) ∧ (¬ r5.toInt = 0 → (((0 : Int) ≤ v68_1.toInt ∧ v68_1.toInt < 12) ∧ (((0 : Int) ≤ v68_1.toInt ∧ v68_1.toInt < 12) ∧ (∀ S15, S15 = wI S6 75 v68_1.toInt.toNat ((qI S6 75 v68_1.toInt.toNat) + (1 : Int32)) → qT S6 75 = 228 → wfC S15 → w_X9_goThrough_J98 Q k10 S15 v68_1 1 r5 v68_4 v68_5)))))))
def w_X9_goThrough_J49 (Q : Int32 → MS → Prop) (k10 : MS → Int32 → Int32 → Int32 → Int32 → Int32 → Prop) (U49 : MS) (v49_1 : Int32) (v49_2 : Int32) (v49_3 : Int32) (v49_4 : Int32) (v49_5 : Int32) : Prop := (wfC U49 → (v49_2 = 0 ∨ v49_2 = 1) → (v49_3 = 0 ∨ v49_3 = 1) → ((v49_3.toInt = 0 → w_X9_goThrough_J68 Q k10 U49 v49_1 v49_2 v49_4 v49_5) ∧ (¬ v49_3.toInt = 0 → ((v49_1.toInt < 5 → w_X9_goThrough_J68 Q k10 U49 v49_1 v49_2 v49_4 v49_5) ∧ (¬ v49_1.toInt < 5 → ((10 < v49_1.toInt → w_X9_goThrough_J68 Q k10 U49 v49_1 v49_2 v49_4 v49_5) ∧ (¬ 10 < v49_1.toInt → (∃ Q19, wX9_findMarked U49 Q19 ∧ ∀ S20, Q19 S20 → wfC S20 → shy U49 S20 → w_X9_goThrough_J68 Q k10 S20 v49_1 v49_2 v49_4 v49_5))))))))
def w_X9_goThrough_J45 (Q : Int32 → MS → Prop) (k10 : MS → Int32 → Int32 → Int32 → Int32 → Int32 → Prop) (U45 : MS) (v45_1 : Int32) (v45_2 : Int32) (v45_3 : Int32) (v45_4 : Int32) (v45_5 : Int32) : Prop := (wfC U45 → (v45_2 = 0 ∨ v45_2 = 1) → (v45_3 = 0 ∨ v45_3 = 1) → (∃ Q23, wX9_findLive U45 Q23 ∧ ∀ S24, Q23 S24 → wfC S24 → shy U45 S24 → w_X9_goThrough_J49 Q k10 S24 v45_1 v45_2 v45_3 v45_4 v45_5))
def w_X9_goThrough_L10 (Q : Int32 → MS → Prop) : Nat → MS → Int32 → Int32 → Int32 → Int32 → Int32 → Prop
  | 0, _, _, _, _, _, _ => False
  | n10 + 1, U10, v10_1, v10_2, v10_3, v10_4, v10_5 => (wfC U10 → (v10_2 = 0 ∨ v10_2 = 1) → (v10_3 = 0 ∨ v10_3 = 1) → (((qI U10 (qO U10 66 0) 2).toInt ≤ v10_4.toInt → Q v10_2 U10) ∧ (¬ (qI U10 (qO U10 66 0) 2).toInt ≤ v10_4.toInt → ((1000000 ≤ v10_5.toInt → Q v10_2 U10) ∧ (¬ 1000000 ≤ v10_5.toInt → ((v10_3.toInt = 0 → w_X9_goThrough_J49 Q (w_X9_goThrough_L10 Q n10) U10 v10_1 v10_2 v10_3 v10_4 v10_5) ∧ (¬ v10_3.toInt = 0 → ((v10_1.toInt = 10 → w_X9_goThrough_J45 Q (w_X9_goThrough_L10 Q n10) U10 v10_1 v10_2 v10_3 v10_4 v10_5) ∧ (¬ v10_1.toInt = 10 → ((v10_1.toInt = 11 → w_X9_goThrough_J45 Q (w_X9_goThrough_L10 Q n10) U10 v10_1 v10_2 v10_3 v10_4 v10_5) ∧ (¬ v10_1.toInt = 11 → w_X9_goThrough_J49 Q (w_X9_goThrough_L10 Q n10) U10 v10_1 v10_2 v10_3 v10_4 v10_5)))))))))))
def wX9_goThrough (S : MS) (x1 : Int32) (Q : Int32 → MS → Prop) : Prop := (∃ n, w_X9_goThrough_L10 Q n S x1 0 1 0 0)
set_option maxHeartbeats 2000000 in
set_option maxRecDepth 100000 in
theorem rX9_goThrough (l : Launch) (g : Gr) (ad : Nat → Nat) (sz : Nat) (S : MS) (x1 : Int32) (hw : wfC S) (Q : Int32 → MS → Prop) (h : wX9_goThrough S x1 Q) : Met l yX9_goThrough (wt yX9_goThrough cX9_goThrough 6 (some .boolean)) ({ frames := 5, cells := 0, slots := 0, locals := 120 }) (va_Pc [.ref (ad 66), .int x1] (st_C g ad sz S)) (va_Qi (fun (r : Int32) (u : MS) => Q r u ∧ wfC u ∧ shy S u ∧ (r = 0 ∨ r = 1)) (fun (u : MS) (t : State) => qEC g ad (va_A (WdC g ad S) sz) u t) (va_A (WdC g ad S) sz)) 0 0 (va_A (WdC g ad S) sz) := by
  refine Met.ofW (cc := cX9_goThrough) (maxL := 6) (ret := (some .boolean)) (by decide) rfl ?_
  intro p e s m args below meth c s₁ B hml hv
  obtain ⟨rfl, hsz, hP, hK, hD0, hex, hE⟩ := hv
  have hx := B.exec
  have hb := B.bytes
  have hr := B.returns
  have hts0 := atoms_spec (ws := wt yX9_goThrough cX9_goThrough 6 (some .boolean)) B.pre
  have hts : ∀ w ∈ tb, w.before _ s = true := fun w h => hts0 w (List.mem_cons_of_mem _ h)
  have hown : s.vm.findClass RX9 = some m.cls := findClass_of_methodNamed B.named
  subst hsz
  have hD := hD0.self (sz := s.heap.size)
  generalize hAe : va_A (WdC g ad S) s.heap.size = A at hD hE ⊢
  have hA : ∀ q : Nat, s.heap.size ≤ q → A q := fun q h => by rw [← hAe]; exact Or.inr h
  have hR : RepC g ad A s S s.heap [] := ⟨hK, hP, hD, va_S.rf, hw⟩
  clear hK hP hD hD0
  have hl := lv_entry ([.ref (ad 66), .int x1]) (n := 6) (Nat.le_of_ble_eq_true rfl)
  rw [lg_entry_eq]
  generalize (lg_sl ([.ref (ad 66), .int x1]) ++ List.replicate (6 - (lg_sl ([.ref (ad 66), .int x1])).length) Slot.unset).toArray = ls at hl ⊢
  have hl : lv_has ls 6 [(0, .ref (ad 66)), (1, .int x1)] := hl
  have hsh : shy S S := shy.rf
  unfold wX9_goThrough at h
  refine lv_iconst (v := 0) hx hb dX9_goThrough_0 (by decide) ?_
  refine lv_istore_n (lv' := [(2, .int 0), (0, .ref (ad 66)), (1, .int x1)]) hx hb dX9_goThrough_1 rfl hl (by decide) rfl (fun ls hl => ?_)
  refine lv_iconst (v := 1) hx hb dX9_goThrough_2 (by decide) ?_
  refine lv_istore_n (lv' := [(3, .int 1), (2, .int 0), (0, .ref (ad 66)), (1, .int x1)]) hx hb dX9_goThrough_3 rfl hl (by decide) rfl (fun ls hl => ?_)
  refine lv_iconst (v := 0) hx hb dX9_goThrough_4 (by decide) ?_
  refine lv_istore (lv' := [(4, .int 0), (3, .int 1), (2, .int 0), (0, .ref (ad 66)), (1, .int x1)]) hx hb dX9_goThrough_5 hl (by decide) rfl (fun ls hl => ?_)
  refine lv_iconst (v := 0) hx hb dX9_goThrough_7 (by decide) ?_
  refine lv_istore (lv' := [(5, .int 0), (4, .int 0), (3, .int 1), (2, .int 0), (0, .ref (ad 66)), (1, .int x1)]) hx hb dX9_goThrough_8 hl (by decide) rfl (fun ls hl => ?_)
  have J_10 : ∀ (n10 : Nat) (U10 : MS) (v10_1 : Int32) (v10_2 : Int32) (v10_3 : Int32) (v10_4 : Int32) (v10_5 : Int32) (H : Heap) (locs : List Loc) (ls : Array Slot), w_X9_goThrough_L10 Q n10 U10 v10_1 v10_2 v10_3 v10_4 v10_5 → (v10_2 = 0 ∨ v10_2 = 1) → (v10_3 = 0 ∨ v10_3 = 1) → shy S U10 → RepC g ad A s U10 H locs → lv_has ls 6 [(0, .ref (ad 66)), (1, .int v10_1), (2, .int v10_2), (3, .int v10_3), (4, .int v10_4), (5, .int v10_5)] → W p l e (headSpec (wt yX9_goThrough cX9_goThrough 6 (some .boolean)) ({ frames := 5, cells := 0, slots := 0, locals := 120 })).room s m ([.ref (ad 66), .int x1] : List Value).toArray below meth c H locs 0 0 (MQ below (va_Qi (fun (r : Int32) (u : MS) => Q r u ∧ wfC u ∧ shy S u ∧ (r = 0 ∨ r = 1)) (fun (u : MS) (t : State) => qEC g ad A u t) A) ([.ref (ad 66), .int x1] : List Value).toArray s 0 0 A) (F0 m 10 ls []) := by
    intro n10
    induction n10 with
    | zero => intro U10 v10_1 v10_2 v10_3 v10_4 v10_5 H locs ls h hz_v10_2 hz_v10_3 hsh hR hl; unfold w_X9_goThrough_L10 at h; exact h.elim
    | succ n10 ih_10 =>
      intro U10 v10_1 v10_2 v10_3 v10_4 v10_5 H locs ls h hz_v10_2 hz_v10_3 hsh hR hl
      unfold w_X9_goThrough_L10 at h
      replace h := h hR.w hz_v10_2 hz_v10_3
      refine lv_iload hx hb dX9_goThrough_10 (lv_at hl 4 rfl) ?_
      refine lv_aload_n hx hb dX9_goThrough_12 rfl (lv_at hl 0 rfl) ?_
      have hT_b1 : qT U10 (qO U10 66 0) = 47 := hR.w.ref (hR.w.ptr ptrC_39) (hR.w.2.1 _ finC_31).2.1
      refine va_get (D := rD g) (ci := 8) (v := .ref (ad (qO U10 66 0))) (C := RX9) (T := TX9) (N := 6) hx hb hts inX9 hown hR.K hR.P 66 (hR.at48 (hR.w.2.1 _ finC_31).2.1) rfl 0 (by decide) (hts _ kw_1552) (fun _ h9 => h9) (congrArg (fun z => some (vf ad z)) (hR.w.ptr ptrC_39)) dX9_goThrough_13 ?_
      refine va_get (D := rD g) (ci := 7) (v := .int (qI U10 (qO U10 66 0) 2)) (C := RX8) (T := TX8) (N := 15) hx hb hts inX8 hown hR.K hR.P (qO U10 66 0) (hR.at47 hT_b1) rfl 2 (by decide) (hts _ kw_1553) (fun _ h9 => h9) rfl dX9_goThrough_16 ?_
      refine lv_icmp_ge (tgt := 104) hx hb dX9_goThrough_19 (by decide) (fun c2 => ?_) (fun c2 => ?_)
      · replace h := h.1 (k_le rfl rfl c2)
        refine lv_iload_n hx hb dX9_goThrough_104 rfl (lv_at hl 2 rfl) ?_
        exact W.zret (v := v10_2) hx hb hr (nz hz_v10_2) (fun t9 ht9 hW9 => ⟨⟨_, U10, rfl, ⟨h, hR.w, hsh, hz_v10_2⟩, ⟨by rw [ht9]; exact hR.P, hR.D⟩⟩, hR.sS.F ht9⟩) hR.sS.2.2 dX9_goThrough_105
      · replace h := h.2 (k_nle rfl rfl c2)
        refine lv_iload hx hb dX9_goThrough_22 (lv_at hl 5 rfl) ?_
        refine lv_ldc hx hb hown (hts _ kw_1561) dX9_goThrough_24 ?_
        refine lv_icmp_ge (tgt := 104) hx hb dX9_goThrough_26 (by decide) (fun c3 => ?_) (fun c3 => ?_)
        · replace h := h.1 (k_le (by decide) rfl c3)
          refine lv_iload_n hx hb dX9_goThrough_104 rfl (lv_at hl 2 rfl) ?_
          exact W.zret (v := v10_2) hx hb hr (nz hz_v10_2) (fun t9 ht9 hW9 => ⟨⟨_, U10, rfl, ⟨h, hR.w, hsh, hz_v10_2⟩, ⟨by rw [ht9]; exact hR.P, hR.D⟩⟩, hR.sS.F ht9⟩) hR.sS.2.2 dX9_goThrough_105
        · replace h := h.2 (k_nle (by decide) rfl c3)
          refine lv_iload_n hx hb dX9_goThrough_29 rfl (lv_at hl 3 rfl) ?_
          have J_49 : ∀ (U49 : MS) (v49_1 : Int32) (v49_2 : Int32) (v49_3 : Int32) (v49_4 : Int32) (v49_5 : Int32) (H : Heap) (locs : List Loc) (ls : Array Slot), w_X9_goThrough_J49 Q (w_X9_goThrough_L10 Q n10) U49 v49_1 v49_2 v49_3 v49_4 v49_5 → (v49_2 = 0 ∨ v49_2 = 1) → (v49_3 = 0 ∨ v49_3 = 1) → shy S U49 → RepC g ad A s U49 H locs → lv_has ls 6 [(0, .ref (ad 66)), (1, .int v49_1), (2, .int v49_2), (3, .int v49_3), (4, .int v49_4), (5, .int v49_5)] → W p l e (headSpec (wt yX9_goThrough cX9_goThrough 6 (some .boolean)) ({ frames := 5, cells := 0, slots := 0, locals := 120 })).room s m ([.ref (ad 66), .int x1] : List Value).toArray below meth c H locs 0 0 (MQ below (va_Qi (fun (r : Int32) (u : MS) => Q r u ∧ wfC u ∧ shy S u ∧ (r = 0 ∨ r = 1)) (fun (u : MS) (t : State) => qEC g ad A u t) A) ([.ref (ad 66), .int x1] : List Value).toArray s 0 0 A) (F0 m 49 ls []) := by
            intro U49 v49_1 v49_2 v49_3 v49_4 v49_5 H locs ls h hz_v49_2 hz_v49_3 hsh hR hl
            unfold w_X9_goThrough_J49 at h
            replace h := h hR.w hz_v49_2 hz_v49_3
            refine lv_iload_n hx hb dX9_goThrough_49 rfl (lv_at hl 3 rfl) ?_
            have J_68 : ∀ (U68 : MS) (v68_1 : Int32) (v68_2 : Int32) (v68_4 : Int32) (v68_5 : Int32) (H : Heap) (locs : List Loc) (ls : Array Slot), w_X9_goThrough_J68 Q (w_X9_goThrough_L10 Q n10) U68 v68_1 v68_2 v68_4 v68_5 → (v68_2 = 0 ∨ v68_2 = 1) → shy S U68 → RepC g ad A s U68 H locs → lv_has ls 6 [(0, .ref (ad 66)), (1, .int v68_1), (2, .int v68_2), (4, .int v68_4), (5, .int v68_5)] → W p l e (headSpec (wt yX9_goThrough cX9_goThrough 6 (some .boolean)) ({ frames := 5, cells := 0, slots := 0, locals := 120 })).room s m ([.ref (ad 66), .int x1] : List Value).toArray below meth c H locs 0 0 (MQ below (va_Qi (fun (r : Int32) (u : MS) => Q r u ∧ wfC u ∧ shy S u ∧ (r = 0 ∨ r = 1)) (fun (u : MS) (t : State) => qEC g ad A u t) A) ([.ref (ad 66), .int x1] : List Value).toArray s 0 0 A) (F0 m 68 ls []) := by
              intro U68 v68_1 v68_2 v68_4 v68_5 H locs ls h hz_v68_2 hsh hR hl
              unfold w_X9_goThrough_J68 at h
              replace h := h hR.w hz_v68_2
              refine lv_aload_n hx hb dX9_goThrough_68 rfl (lv_at hl 0 rfl) ?_
              refine lv_iload_n hx hb dX9_goThrough_69 rfl (lv_at hl 1 rfl) ?_
              refine lv_iload hx hb dX9_goThrough_70 (lv_at hl 3 rfl) ?_
              obtain ⟨Q4, h0, h⟩ := h
              have hFc := cfree hR hA
              refine va_calli (va_runV (As := [.int v68_1, .int v68_4]) (rest := []) ⟨hx, hb, hml, hown, hts⟩ (rX9_isDone l g ad H.size U68 v68_1 v68_4 hR.w  Q4 h0) (cwV 2 hts (gd_V kw_1586 kw_1602 kw_1603 kw_404 kw_1601) rfl rfl rfl (by decide +kernel) ⟨Nat.le_of_ble_eq_true rfl, Nat.le_of_ble_eq_true rfl⟩) ⟨cblind, va_recv hR.K hR.P (ci := 8) (q0 := 66) rfl (hR.at48 (hR.w.2.1 _ finC_31).2.1), fun U hU hW9 => cmk hU hW9 hR hex hE hFc⟩ rfl rfl hl.1 rfl (lv_room (Nat.le_of_ble_eq_true rfl)) dX9_goThrough_72 ⟨Nat.le_of_ble_eq_true rfl, Nat.le_of_ble_eq_true rfl⟩) hR.sS (fun q _ h => hFc q h) hFc (fun r5 S6 t9 H1 locs ht9 hvm9 hw9 hB9 hz9 hk9 hS => ?_)
              obtain ⟨hq7, hw9, hs9, hz_r5⟩ := hw9
              have hR : RepC g ad A s S6 H1 locs := hR.call ht9 hB9 hw9 hS hFc
              have hsh := hsh.tr hs9
              replace h := h r5 S6 hq7 hw9 hs9
              clear hB9 hz9 hk9 hvm9 ht9 hw9 hs9 hS
              generalize H1 = H at hR ⊢
              refine lv_istore_n (lv' := [(3, .int r5), (0, .ref (ad 66)), (1, .int v68_1), (2, .int v68_2), (4, .int v68_4), (5, .int v68_5)]) hx hb dX9_goThrough_75 rfl hl (by decide) rfl (fun ls hl => ?_)
              refine lv_iload_n hx hb dX9_goThrough_76 rfl (lv_at hl 0 rfl) ?_
              have J_98 : ∀ (U98 : MS) (v98_1 : Int32) (v98_2 : Int32) (v98_3 : Int32) (v98_4 : Int32) (v98_5 : Int32) (H : Heap) (locs : List Loc) (ls : Array Slot), w_X9_goThrough_J98 Q (w_X9_goThrough_L10 Q n10) U98 v98_1 v98_2 v98_3 v98_4 v98_5 → (v98_2 = 0 ∨ v98_2 = 1) → (v98_3 = 0 ∨ v98_3 = 1) → shy S U98 → RepC g ad A s U98 H locs → lv_has ls 6 [(0, .ref (ad 66)), (1, .int v98_1), (2, .int v98_2), (3, .int v98_3), (4, .int v98_4), (5, .int v98_5)] → W p l e (headSpec (wt yX9_goThrough cX9_goThrough 6 (some .boolean)) ({ frames := 5, cells := 0, slots := 0, locals := 120 })).room s m ([.ref (ad 66), .int x1] : List Value).toArray below meth c H locs 0 0 (MQ below (va_Qi (fun (r : Int32) (u : MS) => Q r u ∧ wfC u ∧ shy S u ∧ (r = 0 ∨ r = 1)) (fun (u : MS) (t : State) => qEC g ad A u t) A) ([.ref (ad 66), .int x1] : List Value).toArray s 0 0 A) (F0 m 98 ls []) := by
                intro U98 v98_1 v98_2 v98_3 v98_4 v98_5 H locs ls h hz_v98_2 hz_v98_3 hsh hR hl
                unfold w_X9_goThrough_J98 at h
                replace h := h hR.w hz_v98_2 hz_v98_3
                obtain ⟨a8, ea8⟩ : ∃ z, z = (v98_5 + Int32.ofInt 1) := ⟨_, rfl⟩
                replace h := h a8 ea8
                refine lv_iinc (v := a8) (lv' := [(5, .int a8), (0, .ref (ad 66)), (1, .int v98_1), (2, .int v98_2), (3, .int v98_3), (4, .int v98_4)]) hx hb dX9_goThrough_98 hl (k := 5) rfl ea8.symm (by decide) rfl (fun ls hl => ?_)
                refine lv_goto (tgt := 10) hx hb dX9_goThrough_101 (by decide) ?_
                exact ih_10 U98 v98_1 v98_2 v98_3 v98_4 a8 _ _ ls h hz_v98_2 hz_v98_3 hsh hR (lv_sub hl [1, 2, 3, 4, 5, 0] rfl)
              refine lv_if_eq (tgt := 95) hx hb dX9_goThrough_77 (by decide) (fun c9 => ?_) (fun c9 => ?_)
              · replace h := h.1 (k_eq rfl (by decide) c9)
                obtain ⟨a10, ea10⟩ : ∃ z, z = (v68_4 + Int32.ofInt 1) := ⟨_, rfl⟩
                replace h := h a10 ea10
                refine lv_iinc (v := a10) (lv' := [(4, .int a10), (3, .int r5), (0, .ref (ad 66)), (1, .int v68_1), (2, .int v68_2), (5, .int v68_5)]) hx hb dX9_goThrough_95 hl (k := 4) rfl ea10.symm (by decide) rfl (fun ls hl => ?_)
                exact J_98 S6 v68_1 v68_2 r5 a10 v68_5 _ _ ls h hz_v68_2 hz_r5 hsh hR (lv_sub hl [2, 3, 4, 1, 0, 5] rfl)
              · replace h := h.2 (k_ne rfl (by decide) c9)
                refine lv_aload_n hx hb dX9_goThrough_80 rfl (lv_at hl 1 rfl) ?_
                refine va_get (D := rD g) (ci := 8) (v := .ref (ad 75)) (C := RX9) (T := TX9) (N := 6) hx hb hts inX9 hown hR.K hR.P 66 (hR.at48 (hR.w.2.1 _ finC_31).2.1) rfl 1 (by decide) (hts _ kw_1547) (fun _ h9 => h9) (congrArg (fun z => some (vf ad z)) (hR.w.2.1 _ finC_11).1) dX9_goThrough_81 ?_
                refine lv_iload_n hx hb dX9_goThrough_84 rfl (lv_at hl 2 rfl) ?_
                refine lv_dup2_11 hx hb dX9_goThrough_85 rfl rfl ?_
                obtain ⟨hv11, h⟩ := h
                refine va_iald hx hb hR.K hR.P 75 1 (hR.atI (hR.w.2.1 _ finC_11).2.1 (by decide)) rfl (k_ixN (k_ix (n := 12) (x := v68_1) (a := v68_1.toInt) rfl hv11) (hR.w.2.1 _ finC_11).2.2) dX9_goThrough_86 ?_
                refine lv_topi (fun z12 ez12 => ?_)
                obtain rfl : z12 = (qI S6 75 v68_1.toInt.toNat) := ez12
                refine lv_iconst (v := 1) hx hb dX9_goThrough_87 (by decide) ?_
                refine lv_iadd hx hb dX9_goThrough_88 ?_
                refine lv_topi (fun z13 ez13 => ?_)
                obtain rfl : z13 = ((qI S6 75 v68_1.toInt.toNat) + (1 : Int32)) := ez13
                obtain ⟨hv14, h⟩ := h
                refine va_iast hx hb hR.K hR.P hR.D hR.sS 75 1 (hR.atI (hR.w.2.1 _ finC_11).2.1 (by decide)) rfl (k_ixN (k_ix (n := 12) (x := v68_1) (a := v68_1.toInt) rfl hv14) (hR.w.2.1 _ finC_11).2.2) dX9_goThrough_89 (fun H locs hP hD hS => ?_)
                have hTk9 : qT S6 75 = 228 := (hR.w.2.1 _ finC_11).2.1
                have hR : RepC g ad A s (wI S6 75 v68_1.toInt.toNat ((qI S6 75 v68_1.toInt.toNat) + (1 : Int32))) H locs := hR.aI (hR.w.2.1 _ finC_11).2.1 (by decide) hP hD hS
                obtain ⟨S15, eS15⟩ : ∃ z, z = wI S6 75 v68_1.toInt.toNat ((qI S6 75 v68_1.toInt.toNat) + (1 : Int32)) := ⟨_, rfl⟩
                rw [← eS15] at hR
                replace h := h S15 eS15 hTk9 hR.w
                have hsh : shy S S15 := by rw [eS15]; exact hsh
                refine lv_iconst (v := 1) hx hb dX9_goThrough_90 (by decide) ?_
                refine lv_istore_n (lv' := [(2, .int 1), (3, .int r5), (0, .ref (ad 66)), (1, .int v68_1), (4, .int v68_4), (5, .int v68_5)]) hx hb dX9_goThrough_91 rfl hl (by decide) rfl (fun ls hl => ?_)
                refine lv_goto (tgt := 98) hx hb dX9_goThrough_92 (by decide) ?_
                exact J_98 S15 v68_1 1 r5 v68_4 v68_5 _ _ ls h (Or.inr rfl) hz_r5 hsh hR (lv_sub hl [2, 3, 0, 1, 4, 5] rfl)
            refine lv_if_eq (tgt := 68) hx hb dX9_goThrough_50 (by decide) (fun c16 => ?_) (fun c16 => ?_)
            · replace h := h.1 (k_eq rfl (by decide) c16)
              exact J_68 U49 v49_1 v49_2 v49_4 v49_5 _ _ ls h hz_v49_2 hsh hR (lv_sub hl [0, 1, 2, 4, 5] rfl)
            · replace h := h.2 (k_ne rfl (by decide) c16)
              refine lv_iload_n hx hb dX9_goThrough_53 rfl (lv_at hl 1 rfl) ?_
              refine lv_iconst (v := 5) hx hb dX9_goThrough_54 (by decide) ?_
              refine lv_icmp_lt (tgt := 68) hx hb dX9_goThrough_55 (by decide) (fun c17 => ?_) (fun c17 => ?_)
              · replace h := h.1 (k_lt rfl (by decide) c17)
                exact J_68 U49 v49_1 v49_2 v49_4 v49_5 _ _ ls h hz_v49_2 hsh hR (lv_sub hl [0, 1, 2, 4, 5] rfl)
              · replace h := h.2 (k_nlt rfl (by decide) c17)
                refine lv_iload_n hx hb dX9_goThrough_58 rfl (lv_at hl 1 rfl) ?_
                refine lv_bipush (v := 10) hx hb dX9_goThrough_59 (by decide) ?_
                refine lv_icmp_gt (tgt := 68) hx hb dX9_goThrough_61 (by decide) (fun c18 => ?_) (fun c18 => ?_)
                · replace h := h.1 (k_lt (by decide) rfl c18)
                  exact J_68 U49 v49_1 v49_2 v49_4 v49_5 _ _ ls h hz_v49_2 hsh hR (lv_sub hl [0, 1, 2, 4, 5] rfl)
                · replace h := h.2 (k_nlt (by decide) rfl c18)
                  refine lv_aload_n hx hb dX9_goThrough_64 rfl (lv_at hl 0 rfl) ?_
                  obtain ⟨Q19, h0, h⟩ := h
                  have hFc := cfree hR hA
                  refine va_callv (va_runV (As := []) (rest := []) ⟨hx, hb, hml, hown, hts⟩ (rX9_findMarked l g ad H.size U49 hR.w  Q19 h0) (cwV 0 hts (gd_V kw_1585 kw_1564 kw_1565 kw_404 kw_1563) rfl rfl rfl (by decide +kernel) ⟨Nat.le_of_ble_eq_true rfl, Nat.le_of_ble_eq_true rfl⟩) ⟨cblind, va_recv hR.K hR.P (ci := 8) (q0 := 66) rfl (hR.at48 (hR.w.2.1 _ finC_31).2.1), fun U hU hW9 => cmk hU hW9 hR hex hE hFc⟩ rfl rfl hl.1 rfl (lv_room (Nat.le_of_ble_eq_true rfl)) dX9_goThrough_65 ⟨Nat.le_of_ble_eq_true rfl, Nat.le_of_ble_eq_true rfl⟩) hR.sS (fun q _ h => hFc q h) hFc (fun  S20 t9 H1 locs ht9 hvm9 hw9 hB9 hz9 hk9 hS => ?_)
                  obtain ⟨hq21, hw9, hs9⟩ := hw9
                  have hR : RepC g ad A s S20 H1 locs := hR.call ht9 hB9 hw9 hS hFc
                  have hsh := hsh.tr hs9
                  replace h := h  S20 hq21 hw9 hs9
                  clear hB9 hz9 hk9 hvm9 ht9 hw9 hs9 hS
                  generalize H1 = H at hR ⊢
                  exact J_68 S20 v49_1 v49_2 v49_4 v49_5 _ _ ls h hz_v49_2 hsh hR (lv_sub hl [0, 1, 2, 4, 5] rfl)
          refine lv_if_eq (tgt := 49) hx hb dX9_goThrough_30 (by decide) (fun c22 => ?_) (fun c22 => ?_)
          · replace h := h.1 (k_eq rfl (by decide) c22)
            exact J_49 U10 v10_1 v10_2 v10_3 v10_4 v10_5 _ _ ls h hz_v10_2 hz_v10_3 hsh hR (lv_sub hl [0, 1, 2, 3, 4, 5] rfl)
          · replace h := h.2 (k_ne rfl (by decide) c22)
            refine lv_iload_n hx hb dX9_goThrough_33 rfl (lv_at hl 1 rfl) ?_
            refine lv_bipush (v := 10) hx hb dX9_goThrough_34 (by decide) ?_
            have J_45 : ∀ (U45 : MS) (v45_1 : Int32) (v45_2 : Int32) (v45_3 : Int32) (v45_4 : Int32) (v45_5 : Int32) (H : Heap) (locs : List Loc) (ls : Array Slot), w_X9_goThrough_J45 Q (w_X9_goThrough_L10 Q n10) U45 v45_1 v45_2 v45_3 v45_4 v45_5 → (v45_2 = 0 ∨ v45_2 = 1) → (v45_3 = 0 ∨ v45_3 = 1) → shy S U45 → RepC g ad A s U45 H locs → lv_has ls 6 [(0, .ref (ad 66)), (1, .int v45_1), (2, .int v45_2), (3, .int v45_3), (4, .int v45_4), (5, .int v45_5)] → W p l e (headSpec (wt yX9_goThrough cX9_goThrough 6 (some .boolean)) ({ frames := 5, cells := 0, slots := 0, locals := 120 })).room s m ([.ref (ad 66), .int x1] : List Value).toArray below meth c H locs 0 0 (MQ below (va_Qi (fun (r : Int32) (u : MS) => Q r u ∧ wfC u ∧ shy S u ∧ (r = 0 ∨ r = 1)) (fun (u : MS) (t : State) => qEC g ad A u t) A) ([.ref (ad 66), .int x1] : List Value).toArray s 0 0 A) (F0 m 45 ls []) := by
              intro U45 v45_1 v45_2 v45_3 v45_4 v45_5 H locs ls h hz_v45_2 hz_v45_3 hsh hR hl
              unfold w_X9_goThrough_J45 at h
              replace h := h hR.w hz_v45_2 hz_v45_3
              refine lv_aload_n hx hb dX9_goThrough_45 rfl (lv_at hl 0 rfl) ?_
              obtain ⟨Q23, h0, h⟩ := h
              have hFc := cfree hR hA
              refine va_callv (va_runV (As := []) (rest := []) ⟨hx, hb, hml, hown, hts⟩ (rX9_findLive l g ad H.size U45 hR.w  Q23 h0) (cwV 0 hts (gd_V kw_1584 kw_1557 kw_1558 kw_404 kw_1556) rfl rfl rfl (by decide +kernel) ⟨Nat.le_of_ble_eq_true rfl, Nat.le_of_ble_eq_true rfl⟩) ⟨cblind, va_recv hR.K hR.P (ci := 8) (q0 := 66) rfl (hR.at48 (hR.w.2.1 _ finC_31).2.1), fun U hU hW9 => cmk hU hW9 hR hex hE hFc⟩ rfl rfl hl.1 rfl (lv_room (Nat.le_of_ble_eq_true rfl)) dX9_goThrough_46 ⟨Nat.le_of_ble_eq_true rfl, Nat.le_of_ble_eq_true rfl⟩) hR.sS (fun q _ h => hFc q h) hFc (fun  S24 t9 H1 locs ht9 hvm9 hw9 hB9 hz9 hk9 hS => ?_)
              obtain ⟨hq25, hw9, hs9⟩ := hw9
              have hR : RepC g ad A s S24 H1 locs := hR.call ht9 hB9 hw9 hS hFc
              have hsh := hsh.tr hs9
              replace h := h  S24 hq25 hw9 hs9
              clear hB9 hz9 hk9 hvm9 ht9 hw9 hs9 hS
              generalize H1 = H at hR ⊢
              exact J_49 S24 v45_1 v45_2 v45_3 v45_4 v45_5 _ _ ls h hz_v45_2 hz_v45_3 hsh hR (lv_sub hl [0, 1, 2, 3, 4, 5] rfl)
            refine lv_icmp_eq (tgt := 45) hx hb dX9_goThrough_36 (by decide) (fun c26 => ?_) (fun c26 => ?_)
            · replace h := h.1 (k_eq rfl (by decide) c26)
              exact J_45 U10 v10_1 v10_2 v10_3 v10_4 v10_5 _ _ ls h hz_v10_2 hz_v10_3 hsh hR (lv_sub hl [0, 1, 2, 3, 4, 5] rfl)
            · replace h := h.2 (k_ne rfl (by decide) c26)
              refine lv_iload_n hx hb dX9_goThrough_39 rfl (lv_at hl 1 rfl) ?_
              refine lv_bipush (v := 11) hx hb dX9_goThrough_40 (by decide) ?_
              refine lv_icmp_ne (tgt := 49) hx hb dX9_goThrough_42 (by decide) (fun c27 => ?_) (fun c27 => ?_)
              · replace h := h.2 (k_ne rfl (by decide) c27)
                exact J_49 U10 v10_1 v10_2 v10_3 v10_4 v10_5 _ _ ls h hz_v10_2 hz_v10_3 hsh hR (lv_sub hl [0, 1, 2, 3, 4, 5] rfl)
              · replace h := h.1 (k_eq rfl (by decide) c27)
                exact J_45 U10 v10_1 v10_2 v10_3 v10_4 v10_5 _ _ ls h hz_v10_2 hz_v10_3 hsh hR (lv_sub hl [0, 1, 2, 3, 4, 5] rfl)
  obtain ⟨n9, h⟩ := h
  exact J_10 n9 S x1 0 1 0 0 _ _ ls h (Or.inl rfl) (Or.inr rfl) hsh hR (lv_sub hl [4, 5, 3, 2, 1, 0] rfl)
def wX12_file (S : MS) (Q : Int32 → MS → Prop) : Prop := (((qI S 0 11).toInt < 12 → (qT S 1 = 40 → (∃ Q2, wX2_unitOf S 1 Q2 ∧ ∀ b7 S4, Q2 b7 S4 → wfC S4 → shx S S4 → (∀ z, b7 = some z → qT S4 z = 49) → ((b7 = none → (∀ S9, S9 = wI S4 1 1 (0 : Int32) → qT S4 1 = 40 → wfC S9 → (∀ S10, S10 = wI S9 0 13 (qI S9 9 2) → qT S9 0 = 51 → wfC S10 → (∀ S11, S11 = wI S10 0 14 (qI S10 9 3) → qT S10 0 = 51 → wfC S11 → (∃ Q12, wX12_keep S11 none (-1 : Int32) Q12 ∧ ∀ r13 S14, Q12 r13 S14 → wfC S14 → shy S11 S14 → Q r13 S14))))) ∧ (¬ b7 = none → (∀ S16, S16 = wI S4 1 1 (0 : Int32) → qT S4 1 = 40 → wfC S16 → (∀ S17, S17 = wI S16 0 13 (qI S16 9 2) → qT S16 0 = 51 → wfC S17 → (∀ S18, S18 = wI S17 0 14 (qI S17 9 3) → qT S17 0 = 51 → wfC S18 → (∃ Q19, wX12_keep S18 (some ((b7).getD 0)) (-1 : Int32) Q19 ∧ ∀ r20 S21, Q19 r20 S21 → wfC S21 → shy S18 S21 → Q r20 S21))))))))) ∧ (¬ (qI S 0 11).toInt < 12 → Q (-2 : Int32) S))
set_option maxHeartbeats 2000000 in
set_option maxRecDepth 100000 in
theorem rX12_file (l : Launch) (g : Gr) (ad : Nat → Nat) (H0 : Heap) (S : MS) (hw : wfC S) (Q : Int32 → MS → Prop) (h : wX12_file S Q) : Met l yX12_file (wt yX12_file cX12_file 2 (some .int)) ({ frames := 9, cells := KCC - qn S, slots := KSC - qu S, locals := 198 }) (va_Pc [.ref (ad 0)] (st_CH g ad H0 S)) (va_Qi (fun (r : Int32) (u : MS × (Nat → Nat)) => Q r u.1 ∧ wfC u.1 ∧ shx S u.1 ∧ adk ad u.2 S) (fun (u : MS × (Nat → Nat)) (t : State) => qEHC g (va_A (WdC g ad S) H0.size) S H0 u t) (va_A (WdC g ad S) H0.size)) (KCC - qn S) (KSC - qu S) (va_A (WdC g ad S) H0.size) := by
  refine Met.ofW (cc := cX12_file) (maxL := 2) (ret := (some .int)) (by decide) rfl ?_
  intro p e s m args below meth c s₁ B hml hv
  obtain ⟨rfl, hH0, hsz, hP, hK, hD0, hex, hE⟩ := hv
  have hx := B.exec
  have hb := B.bytes
  have hr := B.returns
  have hts0 := atoms_spec (ws := wt yX12_file cX12_file 2 (some .int)) B.pre
  have hts : ∀ w ∈ tb, w.before _ s = true := fun w h => hts0 w (List.mem_cons_of_mem _ h)
  have hown : s.vm.findClass RX12 = some m.cls := findClass_of_methodNamed B.named
  subst hH0
  have hD := hD0.self (sz := s.heap.size)
  generalize hAe : va_A (WdC g ad S) s.heap.size = A at hD hE ⊢
  have hA : ∀ q : Nat, s.heap.size ≤ q → A q := fun q h => by rw [← hAe]; exact Or.inr h
  have hR : RepC g ad A s S s.heap [] := ⟨hK, hP, hD, va_S.rf, hw⟩
  clear hK hP hD hD0
  have hl := lv_entry ([.ref (ad 0)]) (n := 2) (Nat.le_of_ble_eq_true rfl)
  rw [lg_entry_eq]
  generalize (lg_sl ([.ref (ad 0)]) ++ List.replicate (2 - (lg_sl ([.ref (ad 0)])).length) Slot.unset).toArray = ls at hl ⊢
  have hlg : lgC S S 0 0 := lgC.rf
  have hak : adk ad ad S := adk.rf
  have hl : lv_has ls 2 [(0, .ref (ad 0))] := hl
  have hsh : shx S S := shx.rf
  unfold wX12_file at h
  refine lv_aload_n hx hb dX12_file_0 rfl (lv_at hl 0 rfl) ?_
  refine va_get (D := rD g) (ci := 11) (v := .int (qI S 0 11)) (C := RX12) (T := TX12) (N := 18) hx hb hts inX12 hown hR.K hR.P 0 (hR.at51 hR.w.1) rfl 11 (by decide) (hts _ kw_317) (fun _ h9 => h9) rfl dX12_file_1 ?_
  refine lv_bipush (v := 12) hx hb dX12_file_4 (by decide) ?_
  refine lv_icmp_lt (tgt := 12) hx hb dX12_file_6 (by decide) (fun c1 => ?_) (fun c1 => ?_)
  · replace h := h.1 (k_lt rfl (by decide) c1)
    refine lv_aload_n hx hb dX12_file_12 rfl (lv_at hl 0 rfl) ?_
    refine va_get (D := rD g) (ci := 11) (v := .ref (ad 8)) (C := RX12) (T := TX12) (N := 18) hx hb hts inX12 hown hR.K hR.P 0 (hR.at51 hR.w.1) rfl 4 (by decide) (hts _ kw_332) (fun _ h9 => h9) (congrArg (fun z => some (vf ad z)) (hR.w.2.1 _ finC_26).1) dX12_file_13 ?_
    refine lv_aload_n hx hb dX12_file_16 rfl (lv_at hl 0 rfl) ?_
    refine va_get (D := rD g) (ci := 11) (v := .ref (ad 1)) (C := RX12) (T := TX12) (N := 18) hx hb hts inX12 hown hR.K hR.P 0 (hR.at51 hR.w.1) rfl 0 (by decide) (hts _ kw_349) (fun _ h9 => h9) (congrArg (fun z => some (vf ad z)) (hR.w.2.1 _ finC_22).1) dX12_file_17 ?_
    replace h := h ((hR.w.2.1 _ finC_22).2.1)
    obtain ⟨Q2, h0, h⟩ := h
    have hFc := cfree hR hA
    refine W_led2 (fun hL0 => ?_)
    refine va_callq (va_runV (As := [.ref (ad 1)]) (rest := []) ⟨hx, hb, hml, hown, hts⟩ (rX2_unitOf l g ad s.heap S 1 hR.w (hR.w.2.1 _ finC_22).2.1 Q2 h0) (cwV 1 hts (gd_V kw_333 kw_819 kw_820 kw_389 kw_818) rfl rfl rfl (by decide +kernel) ⟨Nat.le_of_ble_eq_true rfl, Nat.le_of_ble_eq_true rfl⟩) ⟨cblindH, va_recv hR.K hR.P (ci := 2) (q0 := 8) rfl (hR.at42 (hR.w.2.1 _ finC_26).2.1), fun U hU hW9 => cmkH hU hW9 hR hex hE hFc⟩ rfl rfl hl.1 rfl (lv_room (Nat.le_of_ble_eq_true rfl)) dX12_file_20 ⟨(show 0 + (KCC - qn S) ≤ KCC - qn S from hlg.cm), (show 0 + (KSC - qu S) ≤ KSC - qu S from hlg.sm)⟩) hR.sS (fun q _ h => hFc q h) hFc (fun r3 S4 t9 H1 locs ht9 hvm9 hw9 hB9 hz9 hk9 hS => ?_)
    rcases S4 with ⟨S4, ak6⟩
    obtain ⟨hB9, dc9, ds9, hL9, hl9⟩ := hB9
    dsimp only at hw9 hB9 hl9
    rw [ht9] at hL9
    obtain ⟨b7, rfl, hq5, hw9, hs9, hk8, hO_b7⟩ := hw9
    have hw8 := hR.w
    have hak := hak.tr hk8 hlg.2.2.1
    have hE := hE.ad hk8
    have hR : RepC g ak6 A s S4 H1 locs := hR.callH ht9 hB9 hw9 hS hFc
    have hsh := hsh.tr hs9
    refine W_tight2 (hL0.tr hL9).1 (hL0.tr hL9).2.1 ?_
    have hlg := hlg.call hl9
    replace h := h b7 S4 hq5 hw9 hs9 hO_b7
    have ea_0 : ak6 0 = ad 0 := hk8 _ (hw8.hd hw8.1 (by decide) (by decide))
    have hl : lv_has ls 2 [(0, .ref (ak6 0))] := by simp only [ea_0]; exact hl
    clear hB9 hz9 hk9 hvm9 ht9 hw9 hs9 hS hL0 hL9
    generalize H1 = H at hR ⊢
    generalize dc9 = dc_ak6, ds9 = ds_ak6 at hlg ⊢
    rcases hq_b8 : b7 with _ | b8
    · skip
      replace h := h.1 (hq_b8)
      refine lv_astore_nN (lv' := [(1, .null), (0, .ref (ak6 0))]) hx hb dX12_file_23 rfl hl (by decide) rfl (fun ls hl => ?_)
      refine lv_aload_n hx hb dX12_file_24 rfl (lv_at hl 1 rfl) ?_
      refine va_get (D := rD g) (ci := 11) (v := .ref (ak6 1)) (C := RX12) (T := TX12) (N := 18) hx hb hts inX12 hown hR.K hR.P 0 (hR.at51 hR.w.1) rfl 0 (by decide) (hts _ kw_349) (fun _ h9 => h9) (congrArg (fun z => some (vf ak6 z)) (hR.w.2.1 _ finC_22).1) dX12_file_25 ?_
      refine lv_iconst (v := 0) hx hb dX12_file_28 (by decide) ?_
      refine va_put (D := rD g) (ci := 0) (v := .int 0) (ty := .int) (C := RX0) (T := TX0) (N := 2) hx hb hts inX0 tyX0 tyX0_ok nmX0 hown hR.K hR.P hR.D hR.sS 1 (hR.at40 (hR.w.2.1 _ finC_22).2.1) rfl 1 (by decide) (hts _ kw_311) (fun _ h9 => h9) rfl (by decide +kernel) rfl rfl (Nat.le_of_ble_eq_true rfl) dX12_file_29 (fun H locs hP hD hS => ?_)
      have hTk9 : qT S4 1 = 40 := (hR.w.2.1 _ finC_22).2.1
      have hR : RepC g ak6 A s (wI S4 1 1 (0 : Int32)) H locs := hR.pI40 (hR.w.2.1 _ finC_22).2.1 FX0_s1 (fun q9 => absurd q9 (by decide)) hP hD hS
      obtain ⟨S9, eS9⟩ : ∃ z, z = wI S4 1 1 (0 : Int32) := ⟨_, rfl⟩
      rw [← eS9] at hR
      replace h := h S9 eS9 hTk9 hR.w
      have hsh : shx S S9 := by rw [eS9]; exact hsh
      have hlg : lgC S S9 (0 + dc_ak6) (0 + ds_ak6) := by rw [eS9]; exact hlg
      refine lv_aload_n hx hb dX12_file_32 rfl (lv_at hl 1 rfl) ?_
      refine lv_aload_n hx hb dX12_file_33 rfl (lv_at hl 1 rfl) ?_
      refine va_get (D := rD g) (ci := 11) (v := .ref (ak6 8)) (C := RX12) (T := TX12) (N := 18) hx hb hts inX12 hown hR.K hR.P 0 (hR.at51 hR.w.1) rfl 4 (by decide) (hts _ kw_332) (fun _ h9 => h9) (congrArg (fun z => some (vf ak6 z)) (hR.w.2.1 _ finC_26).1) dX12_file_34 ?_
      refine va_get (D := rD g) (ci := 2) (v := .ref (ak6 9)) (C := RX2) (T := TX2) (N := 12) hx hb hts inX2 hown hR.K hR.P 8 (hR.at42 (hR.w.2.1 _ finC_26).2.1) rfl 0 (by decide) (hts _ kw_367) (fun _ h9 => h9) (congrArg (fun z => some (vf ak6 z)) (hR.w.2.1 _ finC_2).1) dX12_file_37 ?_
      refine va_get (D := rD g) (ci := 6) (v := .int (qI S9 9 2)) (C := RX7) (T := TX7) (N := 17) hx hb hts inX7 hown hR.K hR.P 9 (hR.at46 (hR.w.2.1 _ finC_2).2.1) rfl 2 (by decide) (hts _ kw_368) (fun _ h9 => h9) rfl dX12_file_40 ?_
      refine va_put (D := rD g) (ci := 11) (v := .int (qI S9 9 2)) (ty := .int) (C := RX12) (T := TX12) (N := 18) hx hb hts inX12 tyX12 tyX12_ok nmX12 hown hR.K hR.P hR.D hR.sS 0 (hR.at51 hR.w.1) rfl 13 (by decide) (hts _ kw_369) (fun _ h9 => h9) rfl (by decide +kernel) rfl rfl (Nat.le_of_ble_eq_true rfl) dX12_file_43 (fun H locs hP hD hS => ?_)
      have hTk9 : qT S9 0 = 51 := hR.w.1
      have hR : RepC g ak6 A s (wI S9 0 13 (qI S9 9 2)) H locs := hR.pI51 hR.w.1 FX12_s13 (fun q9 => absurd q9 (by decide)) hP hD hS
      obtain ⟨S10, eS10⟩ : ∃ z, z = wI S9 0 13 (qI S9 9 2) := ⟨_, rfl⟩
      rw [← eS10] at hR
      replace h := h S10 eS10 hTk9 hR.w
      have hsh : shx S S10 := by rw [eS10]; exact hsh
      have hlg : lgC S S10 (0 + dc_ak6) (0 + ds_ak6) := by rw [eS10]; exact hlg
      refine lv_aload_n hx hb dX12_file_46 rfl (lv_at hl 1 rfl) ?_
      refine lv_aload_n hx hb dX12_file_47 rfl (lv_at hl 1 rfl) ?_
      refine va_get (D := rD g) (ci := 11) (v := .ref (ak6 8)) (C := RX12) (T := TX12) (N := 18) hx hb hts inX12 hown hR.K hR.P 0 (hR.at51 hR.w.1) rfl 4 (by decide) (hts _ kw_332) (fun _ h9 => h9) (congrArg (fun z => some (vf ak6 z)) (hR.w.2.1 _ finC_26).1) dX12_file_48 ?_
      refine va_get (D := rD g) (ci := 2) (v := .ref (ak6 9)) (C := RX2) (T := TX2) (N := 12) hx hb hts inX2 hown hR.K hR.P 8 (hR.at42 (hR.w.2.1 _ finC_26).2.1) rfl 0 (by decide) (hts _ kw_367) (fun _ h9 => h9) (congrArg (fun z => some (vf ak6 z)) (hR.w.2.1 _ finC_2).1) dX12_file_51 ?_
      refine va_get (D := rD g) (ci := 6) (v := .int (qI S10 9 3)) (C := RX7) (T := TX7) (N := 17) hx hb hts inX7 hown hR.K hR.P 9 (hR.at46 (hR.w.2.1 _ finC_2).2.1) rfl 3 (by decide) (hts _ kw_370) (fun _ h9 => h9) rfl dX12_file_54 ?_
      refine va_put (D := rD g) (ci := 11) (v := .int (qI S10 9 3)) (ty := .int) (C := RX12) (T := TX12) (N := 18) hx hb hts inX12 tyX12 tyX12_ok nmX12 hown hR.K hR.P hR.D hR.sS 0 (hR.at51 hR.w.1) rfl 14 (by decide) (hts _ kw_371) (fun _ h9 => h9) rfl (by decide +kernel) rfl rfl (Nat.le_of_ble_eq_true rfl) dX12_file_57 (fun H locs hP hD hS => ?_)
      have hTk9 : qT S10 0 = 51 := hR.w.1
      have hR : RepC g ak6 A s (wI S10 0 14 (qI S10 9 3)) H locs := hR.pI51 hR.w.1 FX12_s14 (fun q9 => absurd q9 (by decide)) hP hD hS
      obtain ⟨S11, eS11⟩ : ∃ z, z = wI S10 0 14 (qI S10 9 3) := ⟨_, rfl⟩
      rw [← eS11] at hR
      replace h := h S11 eS11 hTk9 hR.w
      have hsh : shx S S11 := by rw [eS11]; exact hsh
      have hlg : lgC S S11 (0 + dc_ak6) (0 + ds_ak6) := by rw [eS11]; exact hlg
      refine lv_aload_n hx hb dX12_file_60 rfl (lv_at hl 1 rfl) ?_
      refine lv_aload_nN hx hb dX12_file_61 rfl (lv_at hl 0 rfl) ?_
      refine lv_iconst (v := (-1)) hx hb dX12_file_62 (by decide) ?_
      obtain ⟨Q12, h0, h⟩ := h
      have hFc := cfree hR hA
      refine va_calli (va_runV (As := [.null, .int (-1)]) (rest := []) ⟨hx, hb, hml, hown, hts⟩ (rX12_keep l g ak6 H.size S11 none (-1 : Int32) hR.w (fun z q9 => by cases q9) Q12 h0) (cwV 2 hts (gd_V kw_334 kw_408 kw_409 kw_280 kw_407) rfl rfl rfl (by decide +kernel) ⟨Nat.le_of_ble_eq_true rfl, Nat.le_of_ble_eq_true rfl⟩) ⟨cblind, va_recv hR.K hR.P (ci := 11) (q0 := 0) rfl (hR.at51 hR.w.1), fun U hU hW9 => cmk hU hW9 hR hex hE hFc⟩ rfl rfl hl.1 rfl (lv_room (Nat.le_of_ble_eq_true rfl)) dX12_file_63 ⟨(show 0 + dc_ak6 + 0 ≤ KCC - qn S from hlg.c), (show 0 + ds_ak6 + 0 ≤ KSC - qu S from hlg.s)⟩) hR.sS (fun q _ h => hFc q h) hFc (fun r13 S14 t9 H1 locs ht9 hvm9 hw9 hB9 hz9 hk9 hS => ?_)
      obtain ⟨hq15, hw9, hs9⟩ := hw9
      have hR : RepC g ak6 A s S14 H1 locs := hR.call ht9 hB9 hw9 hS hFc
      have hsh := hsh.tr hs9.1
      have hlg : lgC S S14 (0 + dc_ak6) (0 + ds_ak6) := hlg.same hs9
      replace h := h r13 S14 hq15 hw9 hs9
      clear hB9 hz9 hk9 hvm9 ht9 hw9 hs9 hS
      generalize H1 = H at hR ⊢
      refine W_led2 (fun hLd => ?_)
      refine W.widen (k := KCC - qn S) (n := KSC - qu S) hlg.c hlg.s ?_
      exact W.iret (v := r13) hx hb hr (fun t9 ht9 hW9 => ⟨⟨_, (S14, ak6), rfl, ⟨h, hR.w, hsh, hak⟩, ⟨⟨by rw [ht9]; exact hR.P, hR.D⟩, _, _, by rw [ht9]; exact hLd, hlg⟩⟩, hR.sS.F ht9⟩) hR.sS.2.2 dX12_file_66
    · have hg_b8 : b8 = (b7).getD 0 := by rw [hq_b8]; rfl
      have hT_b8 : qT S4 ((b7).getD 0) = 49 := hg_b8 ▸ hO_b7 _ hq_b8
      subst hg_b8
      replace h := h.2 (fun q9 => Option.some_ne_none _ (hq_b8.symm.trans q9))
      refine lv_astore_n (lv' := [(1, .ref (ak6 ((b7).getD 0))), (0, .ref (ak6 0))]) hx hb dX12_file_23 rfl hl (by decide) rfl (fun ls hl => ?_)
      refine lv_aload_n hx hb dX12_file_24 rfl (lv_at hl 1 rfl) ?_
      refine va_get (D := rD g) (ci := 11) (v := .ref (ak6 1)) (C := RX12) (T := TX12) (N := 18) hx hb hts inX12 hown hR.K hR.P 0 (hR.at51 hR.w.1) rfl 0 (by decide) (hts _ kw_349) (fun _ h9 => h9) (congrArg (fun z => some (vf ak6 z)) (hR.w.2.1 _ finC_22).1) dX12_file_25 ?_
      refine lv_iconst (v := 0) hx hb dX12_file_28 (by decide) ?_
      refine va_put (D := rD g) (ci := 0) (v := .int 0) (ty := .int) (C := RX0) (T := TX0) (N := 2) hx hb hts inX0 tyX0 tyX0_ok nmX0 hown hR.K hR.P hR.D hR.sS 1 (hR.at40 (hR.w.2.1 _ finC_22).2.1) rfl 1 (by decide) (hts _ kw_311) (fun _ h9 => h9) rfl (by decide +kernel) rfl rfl (Nat.le_of_ble_eq_true rfl) dX12_file_29 (fun H locs hP hD hS => ?_)
      have hTk9 : qT S4 1 = 40 := (hR.w.2.1 _ finC_22).2.1
      have hR : RepC g ak6 A s (wI S4 1 1 (0 : Int32)) H locs := hR.pI40 (hR.w.2.1 _ finC_22).2.1 FX0_s1 (fun q9 => absurd q9 (by decide)) hP hD hS
      obtain ⟨S16, eS16⟩ : ∃ z, z = wI S4 1 1 (0 : Int32) := ⟨_, rfl⟩
      rw [← eS16] at hR
      replace h := h S16 eS16 hTk9 hR.w
      have hT_b8 : qT S16 ((b7).getD 0) = 49 := (congrArg (fun z => qT z ((b7).getD 0)) eS16).trans hT_b8
      have hsh : shx S S16 := by rw [eS16]; exact hsh
      have hlg : lgC S S16 (0 + dc_ak6) (0 + ds_ak6) := by rw [eS16]; exact hlg
      refine lv_aload_n hx hb dX12_file_32 rfl (lv_at hl 1 rfl) ?_
      refine lv_aload_n hx hb dX12_file_33 rfl (lv_at hl 1 rfl) ?_
      refine va_get (D := rD g) (ci := 11) (v := .ref (ak6 8)) (C := RX12) (T := TX12) (N := 18) hx hb hts inX12 hown hR.K hR.P 0 (hR.at51 hR.w.1) rfl 4 (by decide) (hts _ kw_332) (fun _ h9 => h9) (congrArg (fun z => some (vf ak6 z)) (hR.w.2.1 _ finC_26).1) dX12_file_34 ?_
      refine va_get (D := rD g) (ci := 2) (v := .ref (ak6 9)) (C := RX2) (T := TX2) (N := 12) hx hb hts inX2 hown hR.K hR.P 8 (hR.at42 (hR.w.2.1 _ finC_26).2.1) rfl 0 (by decide) (hts _ kw_367) (fun _ h9 => h9) (congrArg (fun z => some (vf ak6 z)) (hR.w.2.1 _ finC_2).1) dX12_file_37 ?_
      refine va_get (D := rD g) (ci := 6) (v := .int (qI S16 9 2)) (C := RX7) (T := TX7) (N := 17) hx hb hts inX7 hown hR.K hR.P 9 (hR.at46 (hR.w.2.1 _ finC_2).2.1) rfl 2 (by decide) (hts _ kw_368) (fun _ h9 => h9) rfl dX12_file_40 ?_
      refine va_put (D := rD g) (ci := 11) (v := .int (qI S16 9 2)) (ty := .int) (C := RX12) (T := TX12) (N := 18) hx hb hts inX12 tyX12 tyX12_ok nmX12 hown hR.K hR.P hR.D hR.sS 0 (hR.at51 hR.w.1) rfl 13 (by decide) (hts _ kw_369) (fun _ h9 => h9) rfl (by decide +kernel) rfl rfl (Nat.le_of_ble_eq_true rfl) dX12_file_43 (fun H locs hP hD hS => ?_)
      have hTk9 : qT S16 0 = 51 := hR.w.1
      have hR : RepC g ak6 A s (wI S16 0 13 (qI S16 9 2)) H locs := hR.pI51 hR.w.1 FX12_s13 (fun q9 => absurd q9 (by decide)) hP hD hS
      obtain ⟨S17, eS17⟩ : ∃ z, z = wI S16 0 13 (qI S16 9 2) := ⟨_, rfl⟩
      rw [← eS17] at hR
      replace h := h S17 eS17 hTk9 hR.w
      have hT_b8 : qT S17 ((b7).getD 0) = 49 := (congrArg (fun z => qT z ((b7).getD 0)) eS17).trans hT_b8
      have hsh : shx S S17 := by rw [eS17]; exact hsh
      have hlg : lgC S S17 (0 + dc_ak6) (0 + ds_ak6) := by rw [eS17]; exact hlg
      refine lv_aload_n hx hb dX12_file_46 rfl (lv_at hl 1 rfl) ?_
      refine lv_aload_n hx hb dX12_file_47 rfl (lv_at hl 1 rfl) ?_
      refine va_get (D := rD g) (ci := 11) (v := .ref (ak6 8)) (C := RX12) (T := TX12) (N := 18) hx hb hts inX12 hown hR.K hR.P 0 (hR.at51 hR.w.1) rfl 4 (by decide) (hts _ kw_332) (fun _ h9 => h9) (congrArg (fun z => some (vf ak6 z)) (hR.w.2.1 _ finC_26).1) dX12_file_48 ?_
      refine va_get (D := rD g) (ci := 2) (v := .ref (ak6 9)) (C := RX2) (T := TX2) (N := 12) hx hb hts inX2 hown hR.K hR.P 8 (hR.at42 (hR.w.2.1 _ finC_26).2.1) rfl 0 (by decide) (hts _ kw_367) (fun _ h9 => h9) (congrArg (fun z => some (vf ak6 z)) (hR.w.2.1 _ finC_2).1) dX12_file_51 ?_
      refine va_get (D := rD g) (ci := 6) (v := .int (qI S17 9 3)) (C := RX7) (T := TX7) (N := 17) hx hb hts inX7 hown hR.K hR.P 9 (hR.at46 (hR.w.2.1 _ finC_2).2.1) rfl 3 (by decide) (hts _ kw_370) (fun _ h9 => h9) rfl dX12_file_54 ?_
      refine va_put (D := rD g) (ci := 11) (v := .int (qI S17 9 3)) (ty := .int) (C := RX12) (T := TX12) (N := 18) hx hb hts inX12 tyX12 tyX12_ok nmX12 hown hR.K hR.P hR.D hR.sS 0 (hR.at51 hR.w.1) rfl 14 (by decide) (hts _ kw_371) (fun _ h9 => h9) rfl (by decide +kernel) rfl rfl (Nat.le_of_ble_eq_true rfl) dX12_file_57 (fun H locs hP hD hS => ?_)
      have hTk9 : qT S17 0 = 51 := hR.w.1
      have hR : RepC g ak6 A s (wI S17 0 14 (qI S17 9 3)) H locs := hR.pI51 hR.w.1 FX12_s14 (fun q9 => absurd q9 (by decide)) hP hD hS
      obtain ⟨S18, eS18⟩ : ∃ z, z = wI S17 0 14 (qI S17 9 3) := ⟨_, rfl⟩
      rw [← eS18] at hR
      replace h := h S18 eS18 hTk9 hR.w
      have hT_b8 : qT S18 ((b7).getD 0) = 49 := (congrArg (fun z => qT z ((b7).getD 0)) eS18).trans hT_b8
      have hsh : shx S S18 := by rw [eS18]; exact hsh
      have hlg : lgC S S18 (0 + dc_ak6) (0 + ds_ak6) := by rw [eS18]; exact hlg
      refine lv_aload_n hx hb dX12_file_60 rfl (lv_at hl 1 rfl) ?_
      refine lv_aload_n hx hb dX12_file_61 rfl (lv_at hl 0 rfl) ?_
      refine lv_iconst (v := (-1)) hx hb dX12_file_62 (by decide) ?_
      obtain ⟨Q19, h0, h⟩ := h
      have hFc := cfree hR hA
      refine va_calli (va_runV (As := [.ref (ak6 ((b7).getD 0)), .int (-1)]) (rest := []) ⟨hx, hb, hml, hown, hts⟩ (rX12_keep l g ak6 H.size S18 (some ((b7).getD 0)) (-1 : Int32) hR.w (fun z q9 => by cases q9; exact hT_b8) Q19 h0) (cwV 2 hts (gd_V kw_334 kw_408 kw_409 kw_280 kw_407) rfl rfl rfl (by decide +kernel) ⟨Nat.le_of_ble_eq_true rfl, Nat.le_of_ble_eq_true rfl⟩) ⟨cblind, va_recv hR.K hR.P (ci := 11) (q0 := 0) rfl (hR.at51 hR.w.1), fun U hU hW9 => cmk hU hW9 hR hex hE hFc⟩ rfl rfl hl.1 rfl (lv_room (Nat.le_of_ble_eq_true rfl)) dX12_file_63 ⟨(show 0 + dc_ak6 + 0 ≤ KCC - qn S from hlg.c), (show 0 + ds_ak6 + 0 ≤ KSC - qu S from hlg.s)⟩) hR.sS (fun q _ h => hFc q h) hFc (fun r20 S21 t9 H1 locs ht9 hvm9 hw9 hB9 hz9 hk9 hS => ?_)
      obtain ⟨hq22, hw9, hs9⟩ := hw9
      have hR : RepC g ak6 A s S21 H1 locs := hR.call ht9 hB9 hw9 hS hFc
      have hsh := hsh.tr hs9.1
      have hlg : lgC S S21 (0 + dc_ak6) (0 + ds_ak6) := hlg.same hs9
      replace h := h r20 S21 hq22 hw9 hs9
      have hT_b8 := hs9.T hT_b8 (by decide)
      clear hB9 hz9 hk9 hvm9 ht9 hw9 hs9 hS
      generalize H1 = H at hR ⊢
      refine W_led2 (fun hLd => ?_)
      refine W.widen (k := KCC - qn S) (n := KSC - qu S) hlg.c hlg.s ?_
      exact W.iret (v := r20) hx hb hr (fun t9 ht9 hW9 => ⟨⟨_, (S21, ak6), rfl, ⟨h, hR.w, hsh, hak⟩, ⟨⟨by rw [ht9]; exact hR.P, hR.D⟩, _, _, by rw [ht9]; exact hLd, hlg⟩⟩, hR.sS.F ht9⟩) hR.sS.2.2 dX12_file_66
  · replace h := h.2 (k_nlt rfl (by decide) c1)
    refine lv_bipush (v := (-2)) hx hb dX12_file_9 (by decide) ?_
    refine W_led2 (fun hLd => ?_)
    refine W.widen (k := KCC - qn S) (n := KSC - qu S) hlg.c hlg.s ?_
    exact W.iret (v := (-2)) hx hb hr (fun t9 ht9 hW9 => ⟨⟨_, (S, ad), rfl, ⟨h, hR.w, hsh, hak⟩, ⟨⟨by rw [ht9]; exact hR.P, hR.D⟩, _, _, by rw [ht9]; exact hLd, hlg⟩⟩, hR.sS.F ht9⟩) hR.sS.2.2 dX12_file_11
def w_X12_verify_J85 (Q : Int32 → MS → Prop) (U85 : MS) (v85_2 : Nat) : Prop := (wfC U85 → qT U85 v85_2 = 49 → (∀ S10, S10 = wI U85 v85_2 15 (1 : Int32) → qT U85 v85_2 = 49 → wfC S10 → (∀ S11, S11 = wI S10 0 15 (qI S10 v85_2 16) → qT S10 0 = 51 → wfC S11 → (∀ S12, S12 = wI S11 0 16 (qI S11 v85_2 17) → qT S11 0 = 51 → wfC S12 → ((0 ≤ (qI S12 0 15).toInt → Q (1 : Int32) S12) ∧ (¬ 0 ≤ (qI S12 0 15).toInt → Q (0 : Int32) S12))))))
def w_X12_verify_J76 (Q : Int32 → MS → Prop) (k24 : MS → Nat → Int32 → Prop) (U76 : MS) (t76_0 : Int32) (t76_1 : Nat) (v76_2 : Nat) (v76_3 : Int32) : Prop := (wfC U76 → qT U76 t76_1 = 49 → qT U76 v76_2 = 49 → (∀ S28, S28 = wI U76 t76_1 16 t76_0 → qT U76 t76_1 = 49 → wfC S28 → (∀ a29 : Int32, a29 = (v76_3 + Int32.ofInt 1) → k24 S28 v76_2 a29)))
def w_X12_verify_L24 (Q : Int32 → MS → Prop) : Nat → MS → Nat → Int32 → Prop
  | 0, _, _, _ => False
  | n24 + 1, U24, v24_2, v24_3 => (wfC U24 → qT U24 v24_2 = 49 → (((qI U24 v24_2 15).toInt = 0 → ((0 ≤ (qI U24 v24_2 16).toInt → w_X12_verify_J85 Q U24 v24_2) ∧ (¬ 0 ≤ (qI U24 v24_2 16).toInt → (((qI U24 v24_2 8).toInt ≤ v24_3.toInt → w_X12_verify_J85 Q U24 v24_2) ∧ (¬ (qI U24 v24_2 8).toInt ≤ v24_3.toInt → (qT U24 v24_2 = 49 → (∃ Q17, wX10_rowAt U24 v24_2 v24_3 Q17 ∧ ∀ b21 S19, Q17 b21 S19 → wfC S19 → shy U24 S19 → (∀ z, b21 = some z → qT S19 z = 47) → (qT S19 v24_2 = 49 → (∃ Q22, wX1_firstFault S19 v24_2 b21 Q22 ∧ ∀ r23 S24, Q22 r23 S24 → wfC S24 → shx S19 S24 → (∀ S27, S27 = wI S24 v24_2 17 r23 → qT S24 v24_2 = 49 → wfC S27 → ((0 ≤ (qI S27 v24_2 17).toInt → w_X12_verify_J76 Q (w_X12_verify_L24 Q n24) S27 v24_3 v24_2 v24_2 v24_3) ∧ (¬ 0 ≤ (qI S27 v24_2 17).toInt → w_X12_verify_J76 Q (w_X12_verify_L24 Q n24) S27 (-1) v24_2 v24_2 v24_3)))))))))))) ∧ (¬ (qI U24 v24_2 15).toInt = 0 → w_X12_verify_J85 Q U24 v24_2)))
def wX12_verify (S : MS) (x1 : Int32) (Q : Int32 → MS → Prop) : Prop := (∀ S1, S1 = wI S 0 15 (-1 : Int32) → qT S 0 = 51 → wfC S1 → (∀ S2, S2 = wI S1 0 16 (-1 : Int32) → qT S1 0 = 51 → wfC S2 → (∃ Q3, wX12_unitAt S2 x1 Q3 ∧ ∀ b7 S5, Q3 b7 S5 → wfC S5 → shy S2 S5 → (∀ z, b7 = some z → qT S5 z = 49) → ((b7 = none → Q (-1 : Int32) S5) ∧ (¬ b7 = none → (∃ n, w_X12_verify_L24 Q n S5 ((b7).getD 0) 0))))))
set_option maxHeartbeats 2000000 in
set_option maxRecDepth 100000 in
theorem rX12_verify (l : Launch) (g : Gr) (ad : Nat → Nat) (H0 : Heap) (S : MS) (x1 : Int32) (hw : wfC S) (Q : Int32 → MS → Prop) (h : wX12_verify S x1 Q) : Met l yX12_verify (wt yX12_verify cX12_verify 4 (some .int)) ({ frames := 7, cells := KCC - qn S, slots := KSC - qu S, locals := 157 }) (va_Pc [.ref (ad 0), .int x1] (st_CH g ad H0 S)) (va_Qi (fun (r : Int32) (u : MS × (Nat → Nat)) => Q r u.1 ∧ wfC u.1 ∧ shx S u.1 ∧ adk ad u.2 S) (fun (u : MS × (Nat → Nat)) (t : State) => qEHC g (va_A (WdC g ad S) H0.size) S H0 u t) (va_A (WdC g ad S) H0.size)) (KCC - qn S) (KSC - qu S) (va_A (WdC g ad S) H0.size) := by
  refine Met.ofW (cc := cX12_verify) (maxL := 4) (ret := (some .int)) (by decide) rfl ?_
  intro p e s m args below meth c s₁ B hml hv
  obtain ⟨rfl, hH0, hsz, hP, hK, hD0, hex, hE⟩ := hv
  have hx := B.exec
  have hb := B.bytes
  have hr := B.returns
  have hts0 := atoms_spec (ws := wt yX12_verify cX12_verify 4 (some .int)) B.pre
  have hts : ∀ w ∈ tb, w.before _ s = true := fun w h => hts0 w (List.mem_cons_of_mem _ h)
  have hown : s.vm.findClass RX12 = some m.cls := findClass_of_methodNamed B.named
  subst hH0
  have hD := hD0.self (sz := s.heap.size)
  generalize hAe : va_A (WdC g ad S) s.heap.size = A at hD hE ⊢
  have hA : ∀ q : Nat, s.heap.size ≤ q → A q := fun q h => by rw [← hAe]; exact Or.inr h
  have hR : RepC g ad A s S s.heap [] := ⟨hK, hP, hD, va_S.rf, hw⟩
  clear hK hP hD hD0
  have hl := lv_entry ([.ref (ad 0), .int x1]) (n := 4) (Nat.le_of_ble_eq_true rfl)
  rw [lg_entry_eq]
  generalize (lg_sl ([.ref (ad 0), .int x1]) ++ List.replicate (4 - (lg_sl ([.ref (ad 0), .int x1])).length) Slot.unset).toArray = ls at hl ⊢
  have hlg : lgC S S 0 0 := lgC.rf
  have hak : adk ad ad S := adk.rf
  have hl : lv_has ls 4 [(0, .ref (ad 0)), (1, .int x1)] := hl
  have hsh : shx S S := shx.rf
  unfold wX12_verify at h
  refine lv_aload_n hx hb dX12_verify_0 rfl (lv_at hl 0 rfl) ?_
  refine lv_iconst (v := (-1)) hx hb dX12_verify_1 (by decide) ?_
  refine va_put (D := rD g) (ci := 11) (v := .int (-1)) (ty := .int) (C := RX12) (T := TX12) (N := 18) hx hb hts inX12 tyX12 tyX12_ok nmX12 hown hR.K hR.P hR.D hR.sS 0 (hR.at51 hR.w.1) rfl 15 (by decide) (hts _ kw_405) (fun _ h9 => h9) rfl (by decide +kernel) rfl rfl (Nat.le_of_ble_eq_true rfl) dX12_verify_2 (fun H locs hP hD hS => ?_)
  have hTk9 : qT S 0 = 51 := hR.w.1
  have hR : RepC g ad A s (wI S 0 15 (-1 : Int32)) H locs := hR.pI51 hR.w.1 FX12_s15 (fun q9 => absurd q9 (by decide)) hP hD hS
  obtain ⟨S1, eS1⟩ : ∃ z, z = wI S 0 15 (-1 : Int32) := ⟨_, rfl⟩
  rw [← eS1] at hR
  replace h := h S1 eS1 hTk9 hR.w
  have hsh : shx S S1 := by rw [eS1]; exact hsh
  have hlg : lgC S S1 (0) (0) := by rw [eS1]; exact hlg
  refine lv_aload_n hx hb dX12_verify_5 rfl (lv_at hl 0 rfl) ?_
  refine lv_iconst (v := (-1)) hx hb dX12_verify_6 (by decide) ?_
  refine va_put (D := rD g) (ci := 11) (v := .int (-1)) (ty := .int) (C := RX12) (T := TX12) (N := 18) hx hb hts inX12 tyX12 tyX12_ok nmX12 hown hR.K hR.P hR.D hR.sS 0 (hR.at51 hR.w.1) rfl 16 (by decide) (hts _ kw_295) (fun _ h9 => h9) rfl (by decide +kernel) rfl rfl (Nat.le_of_ble_eq_true rfl) dX12_verify_7 (fun H locs hP hD hS => ?_)
  have hTk9 : qT S1 0 = 51 := hR.w.1
  have hR : RepC g ad A s (wI S1 0 16 (-1 : Int32)) H locs := hR.pI51 hR.w.1 FX12_s16 (fun q9 => absurd q9 (by decide)) hP hD hS
  obtain ⟨S2, eS2⟩ : ∃ z, z = wI S1 0 16 (-1 : Int32) := ⟨_, rfl⟩
  rw [← eS2] at hR
  replace h := h S2 eS2 hTk9 hR.w
  have hsh : shx S S2 := by rw [eS2]; exact hsh
  have hlg : lgC S S2 (0) (0) := by rw [eS2]; exact hlg
  refine lv_aload_n hx hb dX12_verify_10 rfl (lv_at hl 0 rfl) ?_
  refine lv_iload_n hx hb dX12_verify_11 rfl (lv_at hl 1 rfl) ?_
  obtain ⟨Q3, h0, h⟩ := h
  have hFc := cfree hR hA
  refine va_callq (va_runV (As := [.int x1]) (rest := []) ⟨hx, hb, hml, hown, hts⟩ (rX12_unitAt l g ad H.size S2 x1 hR.w  Q3 h0) (cwV 1 hts (gd_V kw_431 kw_464 kw_465 kw_280 kw_463) rfl rfl rfl (by decide +kernel) ⟨Nat.le_of_ble_eq_true rfl, Nat.le_of_ble_eq_true rfl⟩) ⟨cblind, va_recv hR.K hR.P (ci := 11) (q0 := 0) rfl (hR.at51 hR.w.1), fun U hU hW9 => cmk hU hW9 hR hex hE hFc⟩ rfl rfl hl.1 rfl (lv_room (Nat.le_of_ble_eq_true rfl)) dX12_verify_12 ⟨(show 0 + 0 ≤ KCC - qn S from hlg.c), (show 0 + 0 ≤ KSC - qu S from hlg.s)⟩) hR.sS (fun q _ h => hFc q h) hFc (fun r4 S5 t9 H1 locs ht9 hvm9 hw9 hB9 hz9 hk9 hS => ?_)
  obtain ⟨b7, rfl, hq6, hw9, hs9, hO_b7⟩ := hw9
  have hR : RepC g ad A s S5 H1 locs := hR.call ht9 hB9 hw9 hS hFc
  have hsh := hsh.tr hs9.1
  have hlg : lgC S S5 (0) (0) := hlg.same hs9
  replace h := h b7 S5 hq6 hw9 hs9 hO_b7
  clear hB9 hz9 hk9 hvm9 ht9 hw9 hs9 hS
  generalize H1 = H at hR ⊢
  rcases hq_b8 : b7 with _ | b8
  · skip
    replace h := h.1 (hq_b8)
    refine lv_astore_nN (lv' := [(2, .null), (0, .ref (ad 0)), (1, .int x1)]) hx hb dX12_verify_15 rfl hl (by decide) rfl (fun ls hl => ?_)
    refine lv_aload_nN hx hb dX12_verify_16 rfl (lv_at hl 0 rfl) ?_
    refine lv_ifnonnullN hx hb dX12_verify_17 ?_
    refine lv_iconst (v := (-1)) hx hb dX12_verify_20 (by decide) ?_
    refine W_led2 (fun hLd => ?_)
    refine W.widen (k := KCC - qn S) (n := KSC - qu S) hlg.c hlg.s ?_
    exact W.iret (v := (-1)) hx hb hr (fun t9 ht9 hW9 => ⟨⟨_, (S5, ad), rfl, ⟨h, hR.w, hsh, hak⟩, ⟨⟨by rw [ht9]; exact hR.P, hR.D⟩, _, _, by rw [ht9]; exact hLd, hlg⟩⟩, hR.sS.F ht9⟩) hR.sS.2.2 dX12_verify_21
  · have hg_b8 : b8 = (b7).getD 0 := by rw [hq_b8]; rfl
    have hT_b8 : qT S5 ((b7).getD 0) = 49 := hg_b8 ▸ hO_b7 _ hq_b8
    subst hg_b8
    replace h := h.2 (fun q9 => Option.some_ne_none _ (hq_b8.symm.trans q9))
    refine lv_astore_n (lv' := [(2, .ref (ad ((b7).getD 0))), (0, .ref (ad 0)), (1, .int x1)]) hx hb dX12_verify_15 rfl hl (by decide) rfl (fun ls hl => ?_)
    refine lv_aload_n hx hb dX12_verify_16 rfl (lv_at hl 0 rfl) ?_
    refine lv_ifnonnull (tgt := 22) hx hb dX12_verify_17 (by decide) ?_
    refine lv_iconst (v := 0) hx hb dX12_verify_22 (by decide) ?_
    refine lv_istore_n (lv' := [(3, .int 0), (2, .ref (ad ((b7).getD 0))), (0, .ref (ad 0)), (1, .int x1)]) hx hb dX12_verify_23 rfl hl (by decide) rfl (fun ls hl => ?_)
    have J_24 : ∀ (n24 : Nat) (ad24 : Nat → Nat) (dc24 ds24 : Nat) (U24 : MS) (v24_2 : Nat) (v24_3 : Int32) (H : Heap) (locs : List Loc) (ls : Array Slot), w_X12_verify_L24 Q n24 U24 v24_2 v24_3 → qT U24 v24_2 = 49 → shx S U24 → lgC S U24 dc24 ds24 → adk ad ad24 S → ogC ad24 A s s.heap → RepC g ad24 A s U24 H locs → lv_has ls 4 [(0, .ref (ad24 0)), (2, .ref (ad24 v24_2)), (3, .int v24_3)] → W p l e (headSpec (wt yX12_verify cX12_verify 4 (some .int)) ({ frames := 7, cells := KCC - qn S, slots := KSC - qu S, locals := 157 })).room s m ([.ref (ad 0), .int x1] : List Value).toArray below meth c H locs dc24 ds24 (MQ below (va_Qi (fun (r : Int32) (u : MS × (Nat → Nat)) => Q r u.1 ∧ wfC u.1 ∧ shx S u.1 ∧ adk ad u.2 S) (fun (u : MS × (Nat → Nat)) (t : State) => qEHC g A S s.heap u t) A) ([.ref (ad 0), .int x1] : List Value).toArray s (KCC - qn S) (KSC - qu S) A) (F0 m 24 ls []) := by
      intro n24
      induction n24 with
      | zero => intro ad24 dc24 ds24 U24 v24_2 v24_3 H locs ls h hT_v24_2 hsh hlg hak hE hR hl; unfold w_X12_verify_L24 at h; exact h.elim
      | succ n24 ih_24 =>
        intro ad24 dc24 ds24 U24 v24_2 v24_3 H locs ls h hT_v24_2 hsh hlg hak hE hR hl
        unfold w_X12_verify_L24 at h
        replace h := h hR.w hT_v24_2
        refine lv_aload_n hx hb dX12_verify_24 rfl (lv_at hl 1 rfl) ?_
        refine va_get (D := rD g) (ci := 9) (v := .int (qI U24 v24_2 15)) (C := RX10) (T := TX10) (N := 18) hx hb hts inX10 hown hR.K hR.P v24_2 (hR.at49 hT_v24_2) rfl 15 (by decide) (hts _ kw_449) (fun _ h9 => h9) rfl dX12_verify_25 ?_
        have hz9 := hR.w.bit (b := v24_2) (j := 15) (hT_v24_2) (by decide)
        have J_85 : ∀ (ad85 : Nat → Nat) (dc85 ds85 : Nat) (U85 : MS) (v85_2 : Nat) (H : Heap) (locs : List Loc) (ls : Array Slot), w_X12_verify_J85 Q U85 v85_2 → qT U85 v85_2 = 49 → shx S U85 → lgC S U85 dc85 ds85 → adk ad ad85 S → ogC ad85 A s s.heap → RepC g ad85 A s U85 H locs → lv_has ls 4 [(0, .ref (ad85 0)), (2, .ref (ad85 v85_2))] → W p l e (headSpec (wt yX12_verify cX12_verify 4 (some .int)) ({ frames := 7, cells := KCC - qn S, slots := KSC - qu S, locals := 157 })).room s m ([.ref (ad 0), .int x1] : List Value).toArray below meth c H locs dc85 ds85 (MQ below (va_Qi (fun (r : Int32) (u : MS × (Nat → Nat)) => Q r u.1 ∧ wfC u.1 ∧ shx S u.1 ∧ adk ad u.2 S) (fun (u : MS × (Nat → Nat)) (t : State) => qEHC g A S s.heap u t) A) ([.ref (ad 0), .int x1] : List Value).toArray s (KCC - qn S) (KSC - qu S) A) (F0 m 85 ls []) := by
          intro ad85 dc85 ds85 U85 v85_2 H locs ls h hT_v85_2 hsh hlg hak hE hR hl
          unfold w_X12_verify_J85 at h
          replace h := h hR.w hT_v85_2
          refine lv_aload_n hx hb dX12_verify_85 rfl (lv_at hl 1 rfl) ?_
          refine lv_iconst (v := 1) hx hb dX12_verify_86 (by decide) ?_
          refine va_put (D := rD g) (ci := 9) (v := .int 1) (ty := .boolean) (C := RX10) (T := TX10) (N := 18) hx hb hts inX10 tyX10 tyX10_ok nmX10 hown hR.K hR.P hR.D hR.sS v85_2 (hR.at49 hT_v85_2) rfl 15 (by decide) (hts _ kw_449) (fun _ h9 => h9) rfl (by decide +kernel) rfl rfl (Nat.le_of_ble_eq_true rfl) dX12_verify_87 (fun H locs hP hD hS => ?_)
          have hTk9 : qT U85 v85_2 = 49 := hT_v85_2
          have hR : RepC g ad85 A s (wI U85 v85_2 15 (1 : Int32)) H locs := hR.pI49 hT_v85_2 FX10_s15 (fun _ => (Or.inr rfl)) hP hD hS
          obtain ⟨S10, eS10⟩ : ∃ z, z = wI U85 v85_2 15 (1 : Int32) := ⟨_, rfl⟩
          rw [← eS10] at hR
          replace h := h S10 eS10 hTk9 hR.w
          have hT_v85_2 : qT S10 v85_2 = 49 := (congrArg (fun z => qT z v85_2) eS10).trans hT_v85_2
          have hsh : shx S S10 := by rw [eS10]; exact hsh
          have hlg : lgC S S10 (dc85) (ds85) := by rw [eS10]; exact hlg
          refine lv_aload_n hx hb dX12_verify_90 rfl (lv_at hl 0 rfl) ?_
          refine lv_aload_n hx hb dX12_verify_91 rfl (lv_at hl 1 rfl) ?_
          refine va_get (D := rD g) (ci := 9) (v := .int (qI S10 v85_2 16)) (C := RX10) (T := TX10) (N := 18) hx hb hts inX10 hown hR.K hR.P v85_2 (hR.at49 hT_v85_2) rfl 16 (by decide) (hts _ kw_450) (fun _ h9 => h9) rfl dX12_verify_92 ?_
          refine va_put (D := rD g) (ci := 11) (v := .int (qI S10 v85_2 16)) (ty := .int) (C := RX12) (T := TX12) (N := 18) hx hb hts inX12 tyX12 tyX12_ok nmX12 hown hR.K hR.P hR.D hR.sS 0 (hR.at51 hR.w.1) rfl 15 (by decide) (hts _ kw_405) (fun _ h9 => h9) rfl (by decide +kernel) rfl rfl (Nat.le_of_ble_eq_true rfl) dX12_verify_95 (fun H locs hP hD hS => ?_)
          have hTk9 : qT S10 0 = 51 := hR.w.1
          have hR : RepC g ad85 A s (wI S10 0 15 (qI S10 v85_2 16)) H locs := hR.pI51 hR.w.1 FX12_s15 (fun q9 => absurd q9 (by decide)) hP hD hS
          obtain ⟨S11, eS11⟩ : ∃ z, z = wI S10 0 15 (qI S10 v85_2 16) := ⟨_, rfl⟩
          rw [← eS11] at hR
          replace h := h S11 eS11 hTk9 hR.w
          have hT_v85_2 : qT S11 v85_2 = 49 := (congrArg (fun z => qT z v85_2) eS11).trans hT_v85_2
          have hsh : shx S S11 := by rw [eS11]; exact hsh
          have hlg : lgC S S11 (dc85) (ds85) := by rw [eS11]; exact hlg
          refine lv_aload_n hx hb dX12_verify_98 rfl (lv_at hl 0 rfl) ?_
          refine lv_aload_n hx hb dX12_verify_99 rfl (lv_at hl 1 rfl) ?_
          refine va_get (D := rD g) (ci := 9) (v := .int (qI S11 v85_2 17)) (C := RX10) (T := TX10) (N := 18) hx hb hts inX10 hown hR.K hR.P v85_2 (hR.at49 hT_v85_2) rfl 17 (by decide) (hts _ kw_470) (fun _ h9 => h9) rfl dX12_verify_100 ?_
          refine va_put (D := rD g) (ci := 11) (v := .int (qI S11 v85_2 17)) (ty := .int) (C := RX12) (T := TX12) (N := 18) hx hb hts inX12 tyX12 tyX12_ok nmX12 hown hR.K hR.P hR.D hR.sS 0 (hR.at51 hR.w.1) rfl 16 (by decide) (hts _ kw_295) (fun _ h9 => h9) rfl (by decide +kernel) rfl rfl (Nat.le_of_ble_eq_true rfl) dX12_verify_103 (fun H locs hP hD hS => ?_)
          have hTk9 : qT S11 0 = 51 := hR.w.1
          have hR : RepC g ad85 A s (wI S11 0 16 (qI S11 v85_2 17)) H locs := hR.pI51 hR.w.1 FX12_s16 (fun q9 => absurd q9 (by decide)) hP hD hS
          obtain ⟨S12, eS12⟩ : ∃ z, z = wI S11 0 16 (qI S11 v85_2 17) := ⟨_, rfl⟩
          rw [← eS12] at hR
          replace h := h S12 eS12 hTk9 hR.w
          have hT_v85_2 : qT S12 v85_2 = 49 := (congrArg (fun z => qT z v85_2) eS12).trans hT_v85_2
          have hsh : shx S S12 := by rw [eS12]; exact hsh
          have hlg : lgC S S12 (dc85) (ds85) := by rw [eS12]; exact hlg
          refine lv_aload_n hx hb dX12_verify_106 rfl (lv_at hl 0 rfl) ?_
          refine va_get (D := rD g) (ci := 11) (v := .int (qI S12 0 15)) (C := RX12) (T := TX12) (N := 18) hx hb hts inX12 hown hR.K hR.P 0 (hR.at51 hR.w.1) rfl 15 (by decide) (hts _ kw_405) (fun _ h9 => h9) rfl dX12_verify_107 ?_
          refine lv_if_ge (tgt := 117) hx hb dX12_verify_110 (by decide) (fun c13 => ?_) (fun c13 => ?_)
          · replace h := h.1 (k_le (by decide) rfl c13)
            refine lv_iconst (v := 1) hx hb dX12_verify_117 (by decide) ?_
            refine W_led2 (fun hLd => ?_)
            refine W.widen (k := KCC - qn S) (n := KSC - qu S) hlg.c hlg.s ?_
            exact W.iret (v := 1) hx hb hr (fun t9 ht9 hW9 => ⟨⟨_, (S12, ad85), rfl, ⟨h, hR.w, hsh, hak⟩, ⟨⟨by rw [ht9]; exact hR.P, hR.D⟩, _, _, by rw [ht9]; exact hLd, hlg⟩⟩, hR.sS.F ht9⟩) hR.sS.2.2 dX12_verify_118
          · replace h := h.2 (k_nle (by decide) rfl c13)
            refine lv_iconst (v := 0) hx hb dX12_verify_113 (by decide) ?_
            refine lv_goto (tgt := 118) hx hb dX12_verify_114 (by decide) ?_
            refine W_led2 (fun hLd => ?_)
            refine W.widen (k := KCC - qn S) (n := KSC - qu S) hlg.c hlg.s ?_
            exact W.iret (v := 0) hx hb hr (fun t9 ht9 hW9 => ⟨⟨_, (S12, ad85), rfl, ⟨h, hR.w, hsh, hak⟩, ⟨⟨by rw [ht9]; exact hR.P, hR.D⟩, _, _, by rw [ht9]; exact hLd, hlg⟩⟩, hR.sS.F ht9⟩) hR.sS.2.2 dX12_verify_118
        refine lv_if_ne (tgt := 85) hx hb dX12_verify_28 (by decide) (fun c14 => ?_) (fun c14 => ?_)
        · replace h := h.2 (k_ne rfl (by decide) c14)
          exact J_85 ad24 (dc24) (ds24) U24 v24_2 _ _ ls h hT_v24_2 hsh hlg hak hE hR (lv_sub hl [0, 1] rfl)
        · replace h := h.1 (k_eq rfl (by decide) c14)
          refine lv_aload_n hx hb dX12_verify_31 rfl (lv_at hl 1 rfl) ?_
          refine va_get (D := rD g) (ci := 9) (v := .int (qI U24 v24_2 16)) (C := RX10) (T := TX10) (N := 18) hx hb hts inX10 hown hR.K hR.P v24_2 (hR.at49 hT_v24_2) rfl 16 (by decide) (hts _ kw_450) (fun _ h9 => h9) rfl dX12_verify_32 ?_
          refine lv_if_ge (tgt := 85) hx hb dX12_verify_35 (by decide) (fun c15 => ?_) (fun c15 => ?_)
          · replace h := h.1 (k_le (by decide) rfl c15)
            exact J_85 ad24 (dc24) (ds24) U24 v24_2 _ _ ls h hT_v24_2 hsh hlg hak hE hR (lv_sub hl [0, 1] rfl)
          · replace h := h.2 (k_nle (by decide) rfl c15)
            refine lv_iload_n hx hb dX12_verify_38 rfl (lv_at hl 2 rfl) ?_
            refine lv_aload_n hx hb dX12_verify_39 rfl (lv_at hl 1 rfl) ?_
            refine va_get (D := rD g) (ci := 9) (v := .int (qI U24 v24_2 8)) (C := RX10) (T := TX10) (N := 18) hx hb hts inX10 hown hR.K hR.P v24_2 (hR.at49 hT_v24_2) rfl 8 (by decide) (hts _ kw_323) (fun _ h9 => h9) rfl dX12_verify_40 ?_
            refine lv_icmp_ge (tgt := 85) hx hb dX12_verify_43 (by decide) (fun c16 => ?_) (fun c16 => ?_)
            · replace h := h.1 (k_le rfl rfl c16)
              exact J_85 ad24 (dc24) (ds24) U24 v24_2 _ _ ls h hT_v24_2 hsh hlg hak hE hR (lv_sub hl [0, 1] rfl)
            · replace h := h.2 (k_nle rfl rfl c16)
              refine lv_aload_n hx hb dX12_verify_46 rfl (lv_at hl 1 rfl) ?_
              refine lv_aload_n hx hb dX12_verify_47 rfl (lv_at hl 0 rfl) ?_
              refine va_get (D := rD g) (ci := 11) (v := .ref (ad24 16)) (C := RX12) (T := TX12) (N := 18) hx hb hts inX12 hown hR.K hR.P 0 (hR.at51 hR.w.1) rfl 5 (by decide) (hts _ kw_393) (fun _ h9 => h9) (congrArg (fun z => some (vf ad24 z)) (hR.w.2.1 _ finC_27).1) dX12_verify_48 ?_
              refine lv_aload_n hx hb dX12_verify_51 rfl (lv_at hl 1 rfl) ?_
              refine lv_aload_n hx hb dX12_verify_52 rfl (lv_at hl 1 rfl) ?_
              refine lv_iload_n hx hb dX12_verify_53 rfl (lv_at hl 2 rfl) ?_
              replace h := h (hT_v24_2)
              obtain ⟨Q17, h0, h⟩ := h
              have hFc := cfree hR hA
              refine va_callq (va_runV (As := [.int v24_3]) (rest := [.ref (ad24 v24_2), .ref (ad24 16), .ref (ad24 v24_2)]) ⟨hx, hb, hml, hown, hts⟩ (rX10_rowAt l g ad24 H.size U24 v24_2 v24_3 hR.w hT_v24_2 Q17 h0) (cwV 1 hts (gd_V kw_324 kw_70 kw_71 kw_34 kw_69) rfl rfl rfl (by decide +kernel) ⟨Nat.le_of_ble_eq_true rfl, Nat.le_of_ble_eq_true rfl⟩) ⟨cblind, va_recv hR.K hR.P (ci := 9) (q0 := v24_2) rfl (hR.at49 hT_v24_2), fun U hU hW9 => cmk hU hW9 hR hex hE hFc⟩ rfl rfl hl.1 rfl (lv_room (Nat.le_of_ble_eq_true rfl)) dX12_verify_54 ⟨(show dc24 + 0 ≤ KCC - qn S from hlg.c), (show ds24 + 0 ≤ KSC - qu S from hlg.s)⟩) hR.sS (fun q _ h => hFc q h) hFc (fun r18 S19 t9 H1 locs ht9 hvm9 hw9 hB9 hz9 hk9 hS => ?_)
              obtain ⟨b21, rfl, hq20, hw9, hs9, hO_b21⟩ := hw9
              have hR : RepC g ad24 A s S19 H1 locs := hR.call ht9 hB9 hw9 hS hFc
              have hsh := hsh.tr hs9.1
              have hlg : lgC S S19 (dc24) (ds24) := hlg.same hs9
              replace h := h b21 S19 hq20 hw9 hs9 hO_b21
              have hT_v24_2 := hs9.T hT_v24_2 (by decide)
              clear hB9 hz9 hk9 hvm9 ht9 hw9 hs9 hS
              generalize H1 = H at hR ⊢
              replace h := h (hT_v24_2)
              obtain ⟨Q22, h0, h⟩ := h
              have hFc := cfree hR hA
              refine W_led2 (fun hL0 => ?_)
              refine va_calli (va_runV (As := [.ref (ad24 v24_2), vf ad24 b21]) (rest := [.ref (ad24 v24_2)]) ⟨hx, hb, hml, hown, hts⟩ (rX1_firstFault l g ad24 H S19 v24_2 b21 hR.w hT_v24_2 hO_b21 Q22 h0) (cwV 2 hts (gd_V kw_469 kw_500 kw_501 kw_392 kw_499) rfl rfl rfl (by decide +kernel) ⟨Nat.le_of_ble_eq_true rfl, Nat.le_of_ble_eq_true rfl⟩) ⟨cblindH, va_recv hR.K hR.P (ci := 1) (q0 := 16) rfl (hR.at41 (hR.w.2.1 _ finC_27).2.1), fun U hU hW9 => cmkH hU hW9 hR hex hE hFc⟩ rfl rfl hl.1 rfl (lv_room (Nat.le_of_ble_eq_true rfl)) dX12_verify_57 ⟨(show dc24 + (KCC - qn S19) ≤ KCC - qn S from hlg.cm), (show ds24 + (KSC - qu S19) ≤ KSC - qu S from hlg.sm)⟩) hR.sS (fun q _ h => hFc q h) hFc (fun r23 S24 t9 H1 locs ht9 hvm9 hw9 hB9 hz9 hk9 hS => ?_)
              rcases S24 with ⟨S24, ak26⟩
              obtain ⟨hB9, dc9, ds9, hL9, hl9⟩ := hB9
              dsimp only at hw9 hB9 hl9
              rw [ht9] at hL9
              obtain ⟨hq25, hw9, hs9, hk8⟩ := hw9
              have hw8 := hR.w
              have hak := hak.tr hk8 hlg.2.2.1
              have hE := hE.ad hk8
              have hR : RepC g ak26 A s S24 H1 locs := hR.callH ht9 hB9 hw9 hS hFc
              have hsh := hsh.tr hs9
              refine W_tight2 (hL0.tr hL9).1 (hL0.tr hL9).2.1 ?_
              have hlg := hlg.call hl9
              replace h := h r23 S24 hq25 hw9 hs9
              have ea_0 : ak26 0 = ad24 0 := hk8 _ (hw8.hd hw8.1 (by decide) (by decide))
              have ea_1 : ak26 v24_2 = ad24 v24_2 := hk8 _ (hw8.hd hT_v24_2 (by decide) (by decide))
              have hl : lv_has ls 4 [(0, .ref (ak26 0)), (2, .ref (ak26 v24_2)), (3, .int v24_3)] := by simp only [ea_0, ea_1]; exact hl
              refine W.eq (g2 := F0 m 60 ls (.int r23 :: [.ref (ak26 v24_2)])) (by first | (simp only [ea_0, ea_1]; rfl) | simp only [ea_0, ea_1]) ?_
              have hT_v24_2 := hs9.T hT_v24_2 (by decide)
              clear hB9 hz9 hk9 hvm9 ht9 hw9 hs9 hS hL0 hL9
              generalize H1 = H at hR ⊢
              generalize dc9 = dc_ak26, ds9 = ds_ak26 at hlg ⊢
              refine va_put (D := rD g) (ci := 9) (v := .int r23) (ty := .int) (C := RX10) (T := TX10) (N := 18) hx hb hts inX10 tyX10 tyX10_ok nmX10 hown hR.K hR.P hR.D hR.sS v24_2 (hR.at49 hT_v24_2) rfl 17 (by decide) (hts _ kw_470) (fun _ h9 => h9) rfl (by decide +kernel) rfl rfl (Nat.le_of_ble_eq_true rfl) dX12_verify_60 (fun H locs hP hD hS => ?_)
              have hTk9 : qT S24 v24_2 = 49 := hT_v24_2
              have hR : RepC g ak26 A s (wI S24 v24_2 17 r23) H locs := hR.pI49 hT_v24_2 FX10_s17 (fun q9 => absurd q9 (by decide)) hP hD hS
              obtain ⟨S27, eS27⟩ : ∃ z, z = wI S24 v24_2 17 r23 := ⟨_, rfl⟩
              rw [← eS27] at hR
              replace h := h S27 eS27 hTk9 hR.w
              have hT_v24_2 : qT S27 v24_2 = 49 := (congrArg (fun z => qT z v24_2) eS27).trans hT_v24_2
              have hsh : shx S S27 := by rw [eS27]; exact hsh
              have hlg : lgC S S27 (dc24 + dc_ak26) (ds24 + ds_ak26) := by rw [eS27]; exact hlg
              refine lv_aload_n hx hb dX12_verify_63 rfl (lv_at hl 1 rfl) ?_
              refine lv_aload_n hx hb dX12_verify_64 rfl (lv_at hl 1 rfl) ?_
              refine va_get (D := rD g) (ci := 9) (v := .int (qI S27 v24_2 17)) (C := RX10) (T := TX10) (N := 18) hx hb hts inX10 hown hR.K hR.P v24_2 (hR.at49 hT_v24_2) rfl 17 (by decide) (hts _ kw_470) (fun _ h9 => h9) rfl dX12_verify_65 ?_
              have J_76 : ∀ (ad76 : Nat → Nat) (dc76 ds76 : Nat) (U76 : MS) (t76_0 : Int32) (t76_1 : Nat) (v76_2 : Nat) (v76_3 : Int32) (H : Heap) (locs : List Loc) (ls : Array Slot), w_X12_verify_J76 Q (w_X12_verify_L24 Q n24) U76 t76_0 t76_1 v76_2 v76_3 → qT U76 t76_1 = 49 → qT U76 v76_2 = 49 → shx S U76 → lgC S U76 dc76 ds76 → adk ad ad76 S → ogC ad76 A s s.heap → RepC g ad76 A s U76 H locs → lv_has ls 4 [(0, .ref (ad76 0)), (2, .ref (ad76 v76_2)), (3, .int v76_3)] → W p l e (headSpec (wt yX12_verify cX12_verify 4 (some .int)) ({ frames := 7, cells := KCC - qn S, slots := KSC - qu S, locals := 157 })).room s m ([.ref (ad 0), .int x1] : List Value).toArray below meth c H locs dc76 ds76 (MQ below (va_Qi (fun (r : Int32) (u : MS × (Nat → Nat)) => Q r u.1 ∧ wfC u.1 ∧ shx S u.1 ∧ adk ad u.2 S) (fun (u : MS × (Nat → Nat)) (t : State) => qEHC g A S s.heap u t) A) ([.ref (ad 0), .int x1] : List Value).toArray s (KCC - qn S) (KSC - qu S) A) (F0 m 76 ls [.int t76_0, .ref (ad76 t76_1)]) := by
                intro ad76 dc76 ds76 U76 t76_0 t76_1 v76_2 v76_3 H locs ls h hT_t76_1 hT_v76_2 hsh hlg hak hE hR hl
                unfold w_X12_verify_J76 at h
                replace h := h hR.w hT_t76_1 hT_v76_2
                refine va_put (D := rD g) (ci := 9) (v := .int t76_0) (ty := .int) (C := RX10) (T := TX10) (N := 18) hx hb hts inX10 tyX10 tyX10_ok nmX10 hown hR.K hR.P hR.D hR.sS t76_1 (hR.at49 hT_t76_1) rfl 16 (by decide) (hts _ kw_450) (fun _ h9 => h9) rfl (by decide +kernel) rfl rfl (Nat.le_of_ble_eq_true rfl) dX12_verify_76 (fun H locs hP hD hS => ?_)
                have hTk9 : qT U76 t76_1 = 49 := hT_t76_1
                have hR : RepC g ad76 A s (wI U76 t76_1 16 t76_0) H locs := hR.pI49 hT_t76_1 FX10_s16 (fun q9 => absurd q9 (by decide)) hP hD hS
                obtain ⟨S28, eS28⟩ : ∃ z, z = wI U76 t76_1 16 t76_0 := ⟨_, rfl⟩
                rw [← eS28] at hR
                replace h := h S28 eS28 hTk9 hR.w
                have hT_v76_2 : qT S28 v76_2 = 49 := (congrArg (fun z => qT z v76_2) eS28).trans hT_v76_2
                have hsh : shx S S28 := by rw [eS28]; exact hsh
                have hlg : lgC S S28 (dc76) (ds76) := by rw [eS28]; exact hlg
                obtain ⟨a29, ea29⟩ : ∃ z, z = (v76_3 + Int32.ofInt 1) := ⟨_, rfl⟩
                replace h := h a29 ea29
                refine lv_iinc (v := a29) (lv' := [(3, .int a29), (0, .ref (ad76 0)), (2, .ref (ad76 v76_2))]) hx hb dX12_verify_79 hl (k := 2) rfl ea29.symm (by decide) rfl (fun ls hl => ?_)
                refine lv_goto (tgt := 24) hx hb dX12_verify_82 (by decide) ?_
                exact ih_24 ad76 (dc76) (ds76) S28 v76_2 a29 _ _ ls h hT_v76_2 hsh hlg hak hE hR (lv_sub hl [1, 2, 0] rfl)
              refine lv_if_ge (tgt := 75) hx hb dX12_verify_68 (by decide) (fun c30 => ?_) (fun c30 => ?_)
              · replace h := h.1 (k_le (by decide) rfl c30)
                refine lv_iload_n hx hb dX12_verify_75 rfl (lv_at hl 2 rfl) ?_
                exact J_76 ak26 (dc24 + dc_ak26) (ds24 + ds_ak26) S27 v24_3 v24_2 v24_2 v24_3 _ _ ls h hT_v24_2 hT_v24_2 hsh hlg hak hE hR (lv_sub hl [0, 1, 2] rfl)
              · replace h := h.2 (k_nle (by decide) rfl c30)
                refine lv_iconst (v := (-1)) hx hb dX12_verify_71 (by decide) ?_
                refine lv_goto (tgt := 76) hx hb dX12_verify_72 (by decide) ?_
                exact J_76 ak26 (dc24 + dc_ak26) (ds24 + ds_ak26) S27 (-1) v24_2 v24_2 v24_3 _ _ ls h hT_v24_2 hT_v24_2 hsh hlg hak hE hR (lv_sub hl [0, 1, 2] rfl)
    obtain ⟨n9, h⟩ := h
    exact J_24 n9 ad (0) (0) S5 ((b7).getD 0) 0 _ _ ls h hT_b8 hsh hlg hak hE hR (lv_sub hl [2, 1, 0] rfl)
def w_X12_count_L81 (Q : Int32 → MS → Prop) : Nat → MS → Nat → Int32 → Int32 → Prop
  | 0, _, _, _, _ => False
  | n81 + 1, U81, v81_2, v81_4, v81_5 => (wfC U81 → qT U81 v81_2 = 49 → (((qI U81 v81_2 8).toInt ≤ v81_5.toInt → (d_X11_fits U81 ∧ (((fX11_fits U81).toInt = 0 → Q (-3 : Int32) U81) ∧ (¬ (fX11_fits U81).toInt = 0 → (qT U81 5 = 40 → (∃ Q28, wX11_finish U81 5 Q28 ∧ ∀ S29, Q28 S29 → wfC S29 → shx U81 S29 → (qT S29 5 = 40 → (∃ Q32, wX2_unitOf S29 5 Q32 ∧ ∀ b37 S34, Q32 b37 S34 → wfC S34 → shx S29 S34 → (∀ z, b37 = some z → qT S34 z = 49) → (∃ Q38, wX12_keep S34 b37 (-3 : Int32) Q38 ∧ ∀ r39 S40, Q38 r39 S40 → wfC S40 → shy S34 S40 → Q r39 S40))))))))) ∧ (¬ (qI U81 v81_2 8).toInt ≤ v81_5.toInt → (qT U81 v81_2 = 49 → (∃ Q42, wX10_rowAt U81 v81_2 v81_5 Q42 ∧ ∀ b46 S44, Q42 b46 S44 → wfC S44 → shy U81 S44 → (∀ z, b46 = some z → qT S44 z = 47) → ((b46 = none → (∃ Q48, wX3_draw S44 none Q48 ∧ ∀ S49, Q48 S49 → wfC S49 → shx S44 S49 → False)) ∧ (¬ b46 = none → (∃ Q52, wX3_draw S44 (some ((b46).getD 0)) Q52 ∧ ∀ S53, Q52 S53 → wfC S53 → shx S44 S53 → (qT S53 ((b46).getD 0) = 47 → (∃ Q56, wX9_putCounters S53 ((b46).getD 0) v81_4 Q56 ∧ ∀ S57, Q56 S57 → wfC S57 → shx S53 S57 → (∃ Q60, wX3_reachedCount S57 Q60 ∧ ∀ r61 S62, Q60 r61 S62 → wfC S62 → shy S57 S62 → (∀ a65 : Int32, a65 = (v81_4 + r61) → (∃ Q67, wX11_addMethod S62 (some (qO S62 66 0)) Q67 ∧ ∀ S68, Q67 S68 → wfC S68 → shx S62 S68 → (∀ a71 : Int32, a71 = (v81_5 + Int32.ofInt 1) → (w_X12_count_L81 Q n81) S68 v81_2 a65 a71))))))))))))))
def wX12_count (S : MS) (x1 : Int32) (Q : Int32 → MS → Prop) : Prop := (∃ Q1, wX12_soundUnitAt S x1 Q1 ∧ ∀ b5 S3, Q1 b5 S3 → wfC S3 → shy S S3 → (∀ z, b5 = some z → qT S3 z = 49) → ((b5 = none → Q (-1 : Int32) S3) ∧ (¬ b5 = none → ((12 ≤ (qI S3 0 11).toInt → Q (-2 : Int32) S3) ∧ (¬ 12 ≤ (qI S3 0 11).toInt → (((qI S3 0 12).toInt < 16 → (∀ S10, S10 = wI S3 0 12 ((qI S3 0 12) + (1 : Int32)) → qT S3 0 = 51 → wfC S10 → (qT S10 ((b5).getD 0) = 49 → (∃ Q11, wX12_countersOf S10 ((b5).getD 0) Q11 ∧ ∀ r12 S13, Q11 r12 S13 → wfC S13 → shx S10 S13 → ((((qI S13 ((b5).getD 0) 4) + r12).toInt ≤ 24 → (qT S13 ((b5).getD 0) = 49 → (∃ Q18, wX11_begin S13 ((b5).getD 0) r12 Q18 ∧ ∀ S19, Q18 S19 → wfC S19 → shx S13 S19 → (∀ a22 : Int32, a22 = (qI S19 ((b5).getD 0) 4) → (∃ n, w_X12_count_L81 Q n S19 ((b5).getD 0) a22 0))))) ∧ (¬ ((qI S13 ((b5).getD 0) 4) + r12).toInt ≤ 24 → Q (-3 : Int32) S13)))))) ∧ (¬ (qI S3 0 12).toInt < 16 → Q (-2 : Int32) S3)))))))
set_option maxHeartbeats 2000000 in
set_option maxRecDepth 100000 in
theorem rX12_count (l : Launch) (g : Gr) (ad : Nat → Nat) (H0 : Heap) (S : MS) (x1 : Int32) (hw : wfC S) (Q : Int32 → MS → Prop) (h : wX12_count S x1 Q) : Met l yX12_count (wt yX12_count cX12_count 7 (some .int)) ({ frames := 9, cells := KCC - qn S, slots := KSC - qu S, locals := 222 }) (va_Pc [.ref (ad 0), .int x1] (st_CH g ad H0 S)) (va_Qi (fun (r : Int32) (u : MS × (Nat → Nat)) => Q r u.1 ∧ wfC u.1 ∧ shx S u.1 ∧ adk ad u.2 S) (fun (u : MS × (Nat → Nat)) (t : State) => qEHC g (va_A (WdC g ad S) H0.size) S H0 u t) (va_A (WdC g ad S) H0.size)) (KCC - qn S) (KSC - qu S) (va_A (WdC g ad S) H0.size) := by
  refine Met.ofW (cc := cX12_count) (maxL := 7) (ret := (some .int)) (by decide) rfl ?_
  intro p e s m args below meth c s₁ B hml hv
  obtain ⟨rfl, hH0, hsz, hP, hK, hD0, hex, hE⟩ := hv
  have hx := B.exec
  have hb := B.bytes
  have hr := B.returns
  have hts0 := atoms_spec (ws := wt yX12_count cX12_count 7 (some .int)) B.pre
  have hts : ∀ w ∈ tb, w.before _ s = true := fun w h => hts0 w (List.mem_cons_of_mem _ h)
  have hown : s.vm.findClass RX12 = some m.cls := findClass_of_methodNamed B.named
  subst hH0
  have hD := hD0.self (sz := s.heap.size)
  generalize hAe : va_A (WdC g ad S) s.heap.size = A at hD hE ⊢
  have hA : ∀ q : Nat, s.heap.size ≤ q → A q := fun q h => by rw [← hAe]; exact Or.inr h
  have hR : RepC g ad A s S s.heap [] := ⟨hK, hP, hD, va_S.rf, hw⟩
  clear hK hP hD hD0
  have hl := lv_entry ([.ref (ad 0), .int x1]) (n := 7) (Nat.le_of_ble_eq_true rfl)
  rw [lg_entry_eq]
  generalize (lg_sl ([.ref (ad 0), .int x1]) ++ List.replicate (7 - (lg_sl ([.ref (ad 0), .int x1])).length) Slot.unset).toArray = ls at hl ⊢
  have hlg : lgC S S 0 0 := lgC.rf
  have hak : adk ad ad S := adk.rf
  have hl : lv_has ls 7 [(0, .ref (ad 0)), (1, .int x1)] := hl
  have hsh : shx S S := shx.rf
  unfold wX12_count at h
  refine lv_aload_n hx hb dX12_count_0 rfl (lv_at hl 0 rfl) ?_
  refine lv_iload_n hx hb dX12_count_1 rfl (lv_at hl 1 rfl) ?_
  obtain ⟨Q1, h0, h⟩ := h
  have hFc := cfree hR hA
  refine va_callq (va_runV (As := [.int x1]) (rest := []) ⟨hx, hb, hml, hown, hts⟩ (rX12_soundUnitAt l g ad s.heap.size S x1 hR.w  Q1 h0) (cwV 1 hts (gd_V kw_316 kw_447 kw_448 kw_280 kw_446) rfl rfl rfl (by decide +kernel) ⟨Nat.le_of_ble_eq_true rfl, Nat.le_of_ble_eq_true rfl⟩) ⟨cblind, va_recv hR.K hR.P (ci := 11) (q0 := 0) rfl (hR.at51 hR.w.1), fun U hU hW9 => cmk hU hW9 hR hex hE hFc⟩ rfl rfl hl.1 rfl (lv_room (Nat.le_of_ble_eq_true rfl)) dX12_count_2 ⟨(show 0 + 0 ≤ KCC - qn S from hlg.c), (show 0 + 0 ≤ KSC - qu S from hlg.s)⟩) hR.sS (fun q _ h => hFc q h) hFc (fun r2 S3 t9 H1 locs ht9 hvm9 hw9 hB9 hz9 hk9 hS => ?_)
  obtain ⟨b5, rfl, hq4, hw9, hs9, hO_b5⟩ := hw9
  have hR : RepC g ad A s S3 H1 locs := hR.call ht9 hB9 hw9 hS hFc
  have hsh := hsh.tr hs9.1
  have hlg : lgC S S3 (0) (0) := hlg.same hs9
  replace h := h b5 S3 hq4 hw9 hs9 hO_b5
  clear hB9 hz9 hk9 hvm9 ht9 hw9 hs9 hS
  generalize H1 = H at hR ⊢
  rcases hq_b6 : b5 with _ | b6
  · skip
    replace h := h.1 (hq_b6)
    refine lv_astore_nN (lv' := [(2, .null), (0, .ref (ad 0)), (1, .int x1)]) hx hb dX12_count_5 rfl hl (by decide) rfl (fun ls hl => ?_)
    refine lv_aload_nN hx hb dX12_count_6 rfl (lv_at hl 0 rfl) ?_
    refine lv_ifnonnullN hx hb dX12_count_7 ?_
    refine lv_iconst (v := (-1)) hx hb dX12_count_10 (by decide) ?_
    refine W_led2 (fun hLd => ?_)
    refine W.widen (k := KCC - qn S) (n := KSC - qu S) hlg.c hlg.s ?_
    exact W.iret (v := (-1)) hx hb hr (fun t9 ht9 hW9 => ⟨⟨_, (S3, ad), rfl, ⟨h, hR.w, hsh, hak⟩, ⟨⟨by rw [ht9]; exact hR.P, hR.D⟩, _, _, by rw [ht9]; exact hLd, hlg⟩⟩, hR.sS.F ht9⟩) hR.sS.2.2 dX12_count_11
  · have hg_b6 : b6 = (b5).getD 0 := by rw [hq_b6]; rfl
    have hT_b6 : qT S3 ((b5).getD 0) = 49 := hg_b6 ▸ hO_b5 _ hq_b6
    subst hg_b6
    replace h := h.2 (fun q9 => Option.some_ne_none _ (hq_b6.symm.trans q9))
    refine lv_astore_n (lv' := [(2, .ref (ad ((b5).getD 0))), (0, .ref (ad 0)), (1, .int x1)]) hx hb dX12_count_5 rfl hl (by decide) rfl (fun ls hl => ?_)
    refine lv_aload_n hx hb dX12_count_6 rfl (lv_at hl 0 rfl) ?_
    refine lv_ifnonnull (tgt := 12) hx hb dX12_count_7 (by decide) ?_
    refine lv_aload_n hx hb dX12_count_12 rfl (lv_at hl 1 rfl) ?_
    refine va_get (D := rD g) (ci := 11) (v := .int (qI S3 0 11)) (C := RX12) (T := TX12) (N := 18) hx hb hts inX12 hown hR.K hR.P 0 (hR.at51 hR.w.1) rfl 11 (by decide) (hts _ kw_317) (fun _ h9 => h9) rfl dX12_count_13 ?_
    refine lv_bipush (v := 12) hx hb dX12_count_16 (by decide) ?_
    refine lv_icmp_ge (tgt := 30) hx hb dX12_count_18 (by decide) (fun c7 => ?_) (fun c7 => ?_)
    · replace h := h.1 (k_le (by decide) rfl c7)
      refine lv_bipush (v := (-2)) hx hb dX12_count_30 (by decide) ?_
      refine W_led2 (fun hLd => ?_)
      refine W.widen (k := KCC - qn S) (n := KSC - qu S) hlg.c hlg.s ?_
      exact W.iret (v := (-2)) hx hb hr (fun t9 ht9 hW9 => ⟨⟨_, (S3, ad), rfl, ⟨h, hR.w, hsh, hak⟩, ⟨⟨by rw [ht9]; exact hR.P, hR.D⟩, _, _, by rw [ht9]; exact hLd, hlg⟩⟩, hR.sS.F ht9⟩) hR.sS.2.2 dX12_count_32
    · replace h := h.2 (k_nle (by decide) rfl c7)
      refine lv_aload_n hx hb dX12_count_21 rfl (lv_at hl 1 rfl) ?_
      refine va_get (D := rD g) (ci := 11) (v := .int (qI S3 0 12)) (C := RX12) (T := TX12) (N := 18) hx hb hts inX12 hown hR.K hR.P 0 (hR.at51 hR.w.1) rfl 12 (by decide) (hts _ kw_318) (fun _ h9 => h9) rfl dX12_count_22 ?_
      refine lv_bipush (v := 16) hx hb dX12_count_25 (by decide) ?_
      refine lv_icmp_lt (tgt := 33) hx hb dX12_count_27 (by decide) (fun c8 => ?_) (fun c8 => ?_)
      · replace h := h.1 (k_lt rfl (by decide) c8)
        refine lv_aload_n hx hb dX12_count_33 rfl (lv_at hl 1 rfl) ?_
        refine lv_dup hx hb dX12_count_34 rfl ?_
        refine va_get (D := rD g) (ci := 11) (v := .int (qI S3 0 12)) (C := RX12) (T := TX12) (N := 18) hx hb hts inX12 hown hR.K hR.P 0 (hR.at51 hR.w.1) rfl 12 (by decide) (hts _ kw_318) (fun _ h9 => h9) rfl dX12_count_35 ?_
        refine lv_iconst (v := 1) hx hb dX12_count_38 (by decide) ?_
        refine lv_iadd hx hb dX12_count_39 ?_
        refine lv_topi (fun z9 ez9 => ?_)
        obtain rfl : z9 = ((qI S3 0 12) + (1 : Int32)) := ez9
        refine va_put (D := rD g) (ci := 11) (v := .int ((qI S3 0 12) + (1 : Int32))) (ty := .int) (C := RX12) (T := TX12) (N := 18) hx hb hts inX12 tyX12 tyX12_ok nmX12 hown hR.K hR.P hR.D hR.sS 0 (hR.at51 hR.w.1) rfl 12 (by decide) (hts _ kw_318) (fun _ h9 => h9) rfl (by decide +kernel) rfl rfl (Nat.le_of_ble_eq_true rfl) dX12_count_40 (fun H locs hP hD hS => ?_)
        have hTk9 : qT S3 0 = 51 := hR.w.1
        have hR : RepC g ad A s (wI S3 0 12 ((qI S3 0 12) + (1 : Int32))) H locs := hR.pI51 hR.w.1 FX12_s12 (fun q9 => absurd q9 (by decide)) hP hD hS
        obtain ⟨S10, eS10⟩ : ∃ z, z = wI S3 0 12 ((qI S3 0 12) + (1 : Int32)) := ⟨_, rfl⟩
        rw [← eS10] at hR
        replace h := h S10 eS10 hTk9 hR.w
        have hT_b6 : qT S10 ((b5).getD 0) = 49 := (congrArg (fun z => qT z ((b5).getD 0)) eS10).trans hT_b6
        have hsh : shx S S10 := by rw [eS10]; exact hsh
        have hlg : lgC S S10 (0) (0) := by rw [eS10]; exact hlg
        refine lv_aload_n hx hb dX12_count_43 rfl (lv_at hl 1 rfl) ?_
        refine lv_aload_n hx hb dX12_count_44 rfl (lv_at hl 0 rfl) ?_
        replace h := h (hT_b6)
        obtain ⟨Q11, h0, h⟩ := h
        have hFc := cfree hR hA
        refine W_led2 (fun hL0 => ?_)
        refine va_calli (va_runV (As := [.ref (ad ((b5).getD 0))]) (rest := []) ⟨hx, hb, hml, hown, hts⟩ (rX12_countersOf l g ad H S10 ((b5).getD 0) hR.w hT_b6 Q11 h0) (cwV 1 hts (gd_V kw_319 kw_336 kw_337 kw_280 kw_335) rfl rfl rfl (by decide +kernel) ⟨Nat.le_of_ble_eq_true rfl, Nat.le_of_ble_eq_true rfl⟩) ⟨cblindH, va_recv hR.K hR.P (ci := 11) (q0 := 0) rfl (hR.at51 hR.w.1), fun U hU hW9 => cmkH hU hW9 hR hex hE hFc⟩ rfl rfl hl.1 rfl (lv_room (Nat.le_of_ble_eq_true rfl)) dX12_count_45 ⟨(show 0 + (KCC - qn S10) ≤ KCC - qn S from hlg.cm), (show 0 + (KSC - qu S10) ≤ KSC - qu S from hlg.sm)⟩) hR.sS (fun q _ h => hFc q h) hFc (fun r12 S13 t9 H1 locs ht9 hvm9 hw9 hB9 hz9 hk9 hS => ?_)
        rcases S13 with ⟨S13, ak15⟩
        obtain ⟨hB9, dc9, ds9, hL9, hl9⟩ := hB9
        dsimp only at hw9 hB9 hl9
        rw [ht9] at hL9
        obtain ⟨hq14, hw9, hs9, hk8⟩ := hw9
        have hw8 := hR.w
        have hak := hak.tr hk8 hlg.2.2.1
        have hE := hE.ad hk8
        have hR : RepC g ak15 A s S13 H1 locs := hR.callH ht9 hB9 hw9 hS hFc
        have hsh := hsh.tr hs9
        refine W_tight2 (hL0.tr hL9).1 (hL0.tr hL9).2.1 ?_
        have hlg := hlg.call hl9
        replace h := h r12 S13 hq14 hw9 hs9
        have ea_0 : ak15 ((b5).getD 0) = ad ((b5).getD 0) := hk8 _ (hw8.hd hT_b6 (by decide) (by decide))
        have ea_1 : ak15 0 = ad 0 := hk8 _ (hw8.hd hw8.1 (by decide) (by decide))
        have hl : lv_has ls 7 [(2, .ref (ak15 ((b5).getD 0))), (0, .ref (ak15 0)), (1, .int x1)] := by simp only [ea_0, ea_1]; exact hl
        have hT_b6 := hs9.T hT_b6 (by decide)
        clear hB9 hz9 hk9 hvm9 ht9 hw9 hs9 hS hL0 hL9
        generalize H1 = H at hR ⊢
        generalize dc9 = dc_ak15, ds9 = ds_ak15 at hlg ⊢
        refine lv_istore_n (lv' := [(3, .int r12), (2, .ref (ak15 ((b5).getD 0))), (0, .ref (ak15 0)), (1, .int x1)]) hx hb dX12_count_48 rfl hl (by decide) rfl (fun ls hl => ?_)
        refine lv_aload_n hx hb dX12_count_49 rfl (lv_at hl 1 rfl) ?_
        refine va_get (D := rD g) (ci := 9) (v := .int (qI S13 ((b5).getD 0) 4)) (C := RX10) (T := TX10) (N := 18) hx hb hts inX10 hown hR.K hR.P ((b5).getD 0) (hR.at49 hT_b6) rfl 4 (by decide) (hts _ kw_320) (fun _ h9 => h9) rfl dX12_count_50 ?_
        refine lv_iload_n hx hb dX12_count_53 rfl (lv_at hl 0 rfl) ?_
        refine lv_iadd hx hb dX12_count_54 ?_
        refine lv_topi (fun z16 ez16 => ?_)
        obtain rfl : z16 = ((qI S13 ((b5).getD 0) 4) + r12) := ez16
        refine lv_bipush (v := 24) hx hb dX12_count_55 (by decide) ?_
        refine lv_icmp_le (tgt := 63) hx hb dX12_count_57 (by decide) (fun c17 => ?_) (fun c17 => ?_)
        · replace h := h.1 (k_le rfl (by decide) c17)
          refine lv_aload_n hx hb dX12_count_63 rfl (lv_at hl 2 rfl) ?_
          refine va_get (D := rD g) (ci := 11) (v := .ref (ak15 25)) (C := RX12) (T := TX12) (N := 18) hx hb hts inX12 hown hR.K hR.P 0 (hR.at51 hR.w.1) rfl 6 (by decide) (hts _ kw_321) (fun _ h9 => h9) (congrArg (fun z => some (vf ak15 z)) (hR.w.2.1 _ finC_28).1) dX12_count_64 ?_
          refine lv_aload_n hx hb dX12_count_67 rfl (lv_at hl 1 rfl) ?_
          refine lv_iload_n hx hb dX12_count_68 rfl (lv_at hl 0 rfl) ?_
          replace h := h (hT_b6)
          obtain ⟨Q18, h0, h⟩ := h
          have hFc := cfree hR hA
          refine W_led2 (fun hL0 => ?_)
          refine va_callv (va_runV (As := [.ref (ak15 ((b5).getD 0)), .int r12]) (rest := []) ⟨hx, hb, hml, hown, hts⟩ (rX11_begin l g ak15 H S13 ((b5).getD 0) r12 hR.w hT_b6 Q18 h0) (cwV 2 hts (gd_V kw_322 kw_111 kw_112 kw_83 kw_110) rfl rfl rfl (by decide +kernel) ⟨Nat.le_of_ble_eq_true rfl, Nat.le_of_ble_eq_true rfl⟩) ⟨cblindH, va_recv hR.K hR.P (ci := 10) (q0 := 25) rfl (hR.at50 (hR.w.2.1 _ finC_28).2.1), fun U hU hW9 => cmkH hU hW9 hR hex hE hFc⟩ rfl rfl hl.1 rfl (lv_room (Nat.le_of_ble_eq_true rfl)) dX12_count_69 ⟨(show 0 + dc_ak15 + (KCC - qn S13) ≤ KCC - qn S from hlg.cm), (show 0 + ds_ak15 + (KSC - qu S13) ≤ KSC - qu S from hlg.sm)⟩) hR.sS (fun q _ h => hFc q h) hFc (fun  S19 t9 H1 locs ht9 hvm9 hw9 hB9 hz9 hk9 hS => ?_)
          rcases S19 with ⟨S19, ak21⟩
          obtain ⟨hB9, dc9, ds9, hL9, hl9⟩ := hB9
          dsimp only at hw9 hB9 hl9
          rw [ht9] at hL9
          obtain ⟨hq20, hw9, hs9, hk8⟩ := hw9
          have hw8 := hR.w
          have hak := hak.tr hk8 hlg.2.2.1
          have hE := hE.ad hk8
          have hR : RepC g ak21 A s S19 H1 locs := hR.callH ht9 hB9 hw9 hS hFc
          have hsh := hsh.tr hs9
          refine W_tight2 (hL0.tr hL9).1 (hL0.tr hL9).2.1 ?_
          have hlg := hlg.call hl9
          replace h := h  S19 hq20 hw9 hs9
          have ea_0 : ak21 ((b5).getD 0) = ak15 ((b5).getD 0) := hk8 _ (hw8.hd hT_b6 (by decide) (by decide))
          have ea_1 : ak21 0 = ak15 0 := hk8 _ (hw8.hd hw8.1 (by decide) (by decide))
          have hl : lv_has ls 7 [(3, .int r12), (2, .ref (ak21 ((b5).getD 0))), (0, .ref (ak21 0)), (1, .int x1)] := by simp only [ea_0, ea_1]; exact hl
          have hT_b6 := hs9.T hT_b6 (by decide)
          clear hB9 hz9 hk9 hvm9 ht9 hw9 hs9 hS hL0 hL9
          generalize H1 = H at hR ⊢
          generalize dc9 = dc_ak21, ds9 = ds_ak21 at hlg ⊢
          refine lv_aload_n hx hb dX12_count_72 rfl (lv_at hl 1 rfl) ?_
          refine va_get (D := rD g) (ci := 9) (v := .int (qI S19 ((b5).getD 0) 4)) (C := RX10) (T := TX10) (N := 18) hx hb hts inX10 hown hR.K hR.P ((b5).getD 0) (hR.at49 hT_b6) rfl 4 (by decide) (hts _ kw_320) (fun _ h9 => h9) rfl dX12_count_73 ?_
          obtain ⟨a22, ea22⟩ : ∃ z, z = (qI S19 ((b5).getD 0) 4) := ⟨_, rfl⟩
          rw [← ea22]
          replace h := h a22 ea22
          refine lv_istore (lv' := [(4, .int a22), (3, .int r12), (2, .ref (ak21 ((b5).getD 0))), (0, .ref (ak21 0)), (1, .int x1)]) hx hb dX12_count_76 hl (by decide) rfl (fun ls hl => ?_)
          refine lv_iconst (v := 0) hx hb dX12_count_78 (by decide) ?_
          refine lv_istore (lv' := [(5, .int 0), (4, .int a22), (3, .int r12), (2, .ref (ak21 ((b5).getD 0))), (0, .ref (ak21 0)), (1, .int x1)]) hx hb dX12_count_79 hl (by decide) rfl (fun ls hl => ?_)
          have J_81 : ∀ (n81 : Nat) (ad81 : Nat → Nat) (dc81 ds81 : Nat) (U81 : MS) (v81_2 : Nat) (v81_4 : Int32) (v81_5 : Int32) (H : Heap) (locs : List Loc) (ls : Array Slot), w_X12_count_L81 Q n81 U81 v81_2 v81_4 v81_5 → qT U81 v81_2 = 49 → shx S U81 → lgC S U81 dc81 ds81 → adk ad ad81 S → ogC ad81 A s s.heap → RepC g ad81 A s U81 H locs → lv_has ls 7 [(0, .ref (ad81 0)), (2, .ref (ad81 v81_2)), (4, .int v81_4), (5, .int v81_5)] → W p l e (headSpec (wt yX12_count cX12_count 7 (some .int)) ({ frames := 9, cells := KCC - qn S, slots := KSC - qu S, locals := 222 })).room s m ([.ref (ad 0), .int x1] : List Value).toArray below meth c H locs dc81 ds81 (MQ below (va_Qi (fun (r : Int32) (u : MS × (Nat → Nat)) => Q r u.1 ∧ wfC u.1 ∧ shx S u.1 ∧ adk ad u.2 S) (fun (u : MS × (Nat → Nat)) (t : State) => qEHC g A S s.heap u t) A) ([.ref (ad 0), .int x1] : List Value).toArray s (KCC - qn S) (KSC - qu S) A) (F0 m 81 ls []) := by
            intro n81
            induction n81 with
            | zero => intro ad81 dc81 ds81 U81 v81_2 v81_4 v81_5 H locs ls h hT_v81_2 hsh hlg hak hE hR hl; unfold w_X12_count_L81 at h; exact h.elim
            | succ n81 ih_81 =>
              intro ad81 dc81 ds81 U81 v81_2 v81_4 v81_5 H locs ls h hT_v81_2 hsh hlg hak hE hR hl
              unfold w_X12_count_L81 at h
              replace h := h hR.w hT_v81_2
              refine lv_iload hx hb dX12_count_81 (lv_at hl 3 rfl) ?_
              refine lv_aload_n hx hb dX12_count_83 rfl (lv_at hl 1 rfl) ?_
              refine va_get (D := rD g) (ci := 9) (v := .int (qI U81 v81_2 8)) (C := RX10) (T := TX10) (N := 18) hx hb hts inX10 hown hR.K hR.P v81_2 (hR.at49 hT_v81_2) rfl 8 (by decide) (hts _ kw_323) (fun _ h9 => h9) rfl dX12_count_84 ?_
              refine lv_icmp_ge (tgt := 154) hx hb dX12_count_87 (by decide) (fun c23 => ?_) (fun c23 => ?_)
              · replace h := h.1 (k_le rfl rfl c23)
                refine lv_aload_n hx hb dX12_count_154 rfl (lv_at hl 0 rfl) ?_
                refine va_get (D := rD g) (ci := 11) (v := .ref (ad81 25)) (C := RX12) (T := TX12) (N := 18) hx hb hts inX12 hown hR.K hR.P 0 (hR.at51 hR.w.1) rfl 6 (by decide) (hts _ kw_321) (fun _ h9 => h9) (congrArg (fun z => some (vf ad81 z)) (hR.w.2.1 _ finC_28).1) dX12_count_155 ?_
                obtain ⟨hv24, h⟩ := h
                have hFc := cfree hR hA
                refine va_calli (va_runV (As := []) (rest := []) ⟨hx, hb, hml, hown, hts⟩ (rX11_fits l g ad81 H.size U81 hR.w  hv24) (cwV 0 hts (gd_V kw_329 kw_158 kw_159 kw_83 kw_157) rfl rfl rfl (by decide +kernel) ⟨Nat.le_of_ble_eq_true rfl, Nat.le_of_ble_eq_true rfl⟩) ⟨cblind, va_recv hR.K hR.P (ci := 10) (q0 := 25) rfl (hR.at50 (hR.w.2.1 _ finC_28).2.1), fun U hU hW9 => cmk hU hW9 hR hex hE hFc⟩ rfl rfl hl.1 rfl (lv_room (Nat.le_of_ble_eq_true rfl)) dX12_count_158 ⟨(show dc81 + 0 ≤ KCC - qn S from hlg.c), (show ds81 + 0 ≤ KSC - qu S from hlg.s)⟩) hR.sS (fun q _ h => hFc q h) hFc (fun r25 u9 t9 H1 locs ht9 hvm9 hw9 hB9 hz9 hk9 hS => ?_)
                have hR : RepC g ad81 A s U81 H1 locs := hR.call ht9 hB9 hR.w hS hFc
                obtain ⟨rfl, hz_r25⟩ := hw9
                clear hB9 hz9 hk9 hvm9 ht9 hS
                generalize H1 = H at hR ⊢
                refine lv_if_ne (tgt := 167) hx hb dX12_count_161 (by decide) (fun c27 => ?_) (fun c27 => ?_)
                · replace h := h.2 (k_ne rfl (by decide) c27)
                  refine lv_aload_n hx hb dX12_count_167 rfl (lv_at hl 0 rfl) ?_
                  refine va_get (D := rD g) (ci := 11) (v := .ref (ad81 25)) (C := RX12) (T := TX12) (N := 18) hx hb hts inX12 hown hR.K hR.P 0 (hR.at51 hR.w.1) rfl 6 (by decide) (hts _ kw_321) (fun _ h9 => h9) (congrArg (fun z => some (vf ad81 z)) (hR.w.2.1 _ finC_28).1) dX12_count_168 ?_
                  refine lv_aload_n hx hb dX12_count_171 rfl (lv_at hl 0 rfl) ?_
                  refine va_get (D := rD g) (ci := 11) (v := .ref (ad81 5)) (C := RX12) (T := TX12) (N := 18) hx hb hts inX12 hown hR.K hR.P 0 (hR.at51 hR.w.1) rfl 2 (by decide) (hts _ kw_330) (fun _ h9 => h9) (congrArg (fun z => some (vf ad81 z)) (hR.w.2.1 _ finC_24).1) dX12_count_172 ?_
                  replace h := h ((hR.w.2.1 _ finC_24).2.1)
                  obtain ⟨Q28, h0, h⟩ := h
                  have hFc := cfree hR hA
                  refine W_led2 (fun hL0 => ?_)
                  refine va_callv (va_runV (As := [.ref (ad81 5)]) (rest := []) ⟨hx, hb, hml, hown, hts⟩ (rX11_finish l g ad81 H U81 5 hR.w (hR.w.2.1 _ finC_24).2.1 Q28 h0) (cwV 1 hts (gd_V kw_331 kw_155 kw_156 kw_83 kw_154) rfl rfl rfl (by decide +kernel) ⟨Nat.le_of_ble_eq_true rfl, Nat.le_of_ble_eq_true rfl⟩) ⟨cblindH, va_recv hR.K hR.P (ci := 10) (q0 := 25) rfl (hR.at50 (hR.w.2.1 _ finC_28).2.1), fun U hU hW9 => cmkH hU hW9 hR hex hE hFc⟩ rfl rfl hl.1 rfl (lv_room (Nat.le_of_ble_eq_true rfl)) dX12_count_175 ⟨(show dc81 + (KCC - qn U81) ≤ KCC - qn S from hlg.cm), (show ds81 + (KSC - qu U81) ≤ KSC - qu S from hlg.sm)⟩) hR.sS (fun q _ h => hFc q h) hFc (fun  S29 t9 H1 locs ht9 hvm9 hw9 hB9 hz9 hk9 hS => ?_)
                  rcases S29 with ⟨S29, ak31⟩
                  obtain ⟨hB9, dc9, ds9, hL9, hl9⟩ := hB9
                  dsimp only at hw9 hB9 hl9
                  rw [ht9] at hL9
                  obtain ⟨hq30, hw9, hs9, hk8⟩ := hw9
                  have hw8 := hR.w
                  have hak := hak.tr hk8 hlg.2.2.1
                  have hE := hE.ad hk8
                  have hR : RepC g ak31 A s S29 H1 locs := hR.callH ht9 hB9 hw9 hS hFc
                  have hsh := hsh.tr hs9
                  refine W_tight2 (hL0.tr hL9).1 (hL0.tr hL9).2.1 ?_
                  have hlg := hlg.call hl9
                  replace h := h  S29 hq30 hw9 hs9
                  have ea_0 : ak31 0 = ad81 0 := hk8 _ (hw8.hd hw8.1 (by decide) (by decide))
                  have ea_1 : ak31 v81_2 = ad81 v81_2 := hk8 _ (hw8.hd hT_v81_2 (by decide) (by decide))
                  have hl : lv_has ls 7 [(0, .ref (ak31 0)), (2, .ref (ak31 v81_2)), (4, .int v81_4), (5, .int v81_5)] := by simp only [ea_0, ea_1]; exact hl
                  have hT_v81_2 := hs9.T hT_v81_2 (by decide)
                  clear hB9 hz9 hk9 hvm9 ht9 hw9 hs9 hS hL0 hL9
                  generalize H1 = H at hR ⊢
                  generalize dc9 = dc_ak31, ds9 = ds_ak31 at hlg ⊢
                  refine lv_aload_n hx hb dX12_count_178 rfl (lv_at hl 0 rfl) ?_
                  refine lv_aload_n hx hb dX12_count_179 rfl (lv_at hl 0 rfl) ?_
                  refine va_get (D := rD g) (ci := 11) (v := .ref (ak31 8)) (C := RX12) (T := TX12) (N := 18) hx hb hts inX12 hown hR.K hR.P 0 (hR.at51 hR.w.1) rfl 4 (by decide) (hts _ kw_332) (fun _ h9 => h9) (congrArg (fun z => some (vf ak31 z)) (hR.w.2.1 _ finC_26).1) dX12_count_180 ?_
                  refine lv_aload_n hx hb dX12_count_183 rfl (lv_at hl 0 rfl) ?_
                  refine va_get (D := rD g) (ci := 11) (v := .ref (ak31 5)) (C := RX12) (T := TX12) (N := 18) hx hb hts inX12 hown hR.K hR.P 0 (hR.at51 hR.w.1) rfl 2 (by decide) (hts _ kw_330) (fun _ h9 => h9) (congrArg (fun z => some (vf ak31 z)) (hR.w.2.1 _ finC_24).1) dX12_count_184 ?_
                  replace h := h ((hR.w.2.1 _ finC_24).2.1)
                  obtain ⟨Q32, h0, h⟩ := h
                  have hFc := cfree hR hA
                  refine W_led2 (fun hL0 => ?_)
                  refine va_callq (va_runV (As := [.ref (ak31 5)]) (rest := [.ref (ak31 0)]) ⟨hx, hb, hml, hown, hts⟩ (rX2_unitOf l g ak31 H S29 5 hR.w (hR.w.2.1 _ finC_24).2.1 Q32 h0) (cwV 1 hts (gd_V kw_333 kw_819 kw_820 kw_389 kw_818) rfl rfl rfl (by decide +kernel) ⟨Nat.le_of_ble_eq_true rfl, Nat.le_of_ble_eq_true rfl⟩) ⟨cblindH, va_recv hR.K hR.P (ci := 2) (q0 := 8) rfl (hR.at42 (hR.w.2.1 _ finC_26).2.1), fun U hU hW9 => cmkH hU hW9 hR hex hE hFc⟩ rfl rfl hl.1 rfl (lv_room (Nat.le_of_ble_eq_true rfl)) dX12_count_187 ⟨(show dc81 + dc_ak31 + (KCC - qn S29) ≤ KCC - qn S from hlg.cm), (show ds81 + ds_ak31 + (KSC - qu S29) ≤ KSC - qu S from hlg.sm)⟩) hR.sS (fun q _ h => hFc q h) hFc (fun r33 S34 t9 H1 locs ht9 hvm9 hw9 hB9 hz9 hk9 hS => ?_)
                  rcases S34 with ⟨S34, ak36⟩
                  obtain ⟨hB9, dc9, ds9, hL9, hl9⟩ := hB9
                  dsimp only at hw9 hB9 hl9
                  rw [ht9] at hL9
                  obtain ⟨b37, rfl, hq35, hw9, hs9, hk8, hO_b37⟩ := hw9
                  have hw8 := hR.w
                  have hak := hak.tr hk8 hlg.2.2.1
                  have hE := hE.ad hk8
                  have hR : RepC g ak36 A s S34 H1 locs := hR.callH ht9 hB9 hw9 hS hFc
                  have hsh := hsh.tr hs9
                  refine W_tight2 (hL0.tr hL9).1 (hL0.tr hL9).2.1 ?_
                  have hlg := hlg.call hl9
                  replace h := h b37 S34 hq35 hw9 hs9 hO_b37
                  have ea_0 : ak36 0 = ak31 0 := hk8 _ (hw8.hd hw8.1 (by decide) (by decide))
                  have ea_1 : ak36 v81_2 = ak31 v81_2 := hk8 _ (hw8.hd hT_v81_2 (by decide) (by decide))
                  have hl : lv_has ls 7 [(0, .ref (ak36 0)), (2, .ref (ak36 v81_2)), (4, .int v81_4), (5, .int v81_5)] := by simp only [ea_0, ea_1]; exact hl
                  refine W.eq (g2 := F0 m 190 ls (vf ak36 b37 :: [.ref (ak36 0)])) (by first | (simp only [ea_0, ea_1]; rfl) | simp only [ea_0, ea_1]) ?_
                  have hT_v81_2 := hs9.T hT_v81_2 (by decide)
                  clear hB9 hz9 hk9 hvm9 ht9 hw9 hs9 hS hL0 hL9
                  generalize H1 = H at hR ⊢
                  generalize dc9 = dc_ak36, ds9 = ds_ak36 at hlg ⊢
                  refine lv_bipush (v := (-3)) hx hb dX12_count_190 (by decide) ?_
                  obtain ⟨Q38, h0, h⟩ := h
                  have hFc := cfree hR hA
                  refine va_calli (va_runV (As := [vf ak36 b37, .int (-3)]) (rest := []) ⟨hx, hb, hml, hown, hts⟩ (rX12_keep l g ak36 H.size S34 b37 (-3 : Int32) hR.w hO_b37 Q38 h0) (cwV 2 hts (gd_V kw_334 kw_408 kw_409 kw_280 kw_407) rfl rfl rfl (by decide +kernel) ⟨Nat.le_of_ble_eq_true rfl, Nat.le_of_ble_eq_true rfl⟩) ⟨cblind, va_recv hR.K hR.P (ci := 11) (q0 := 0) rfl (hR.at51 hR.w.1), fun U hU hW9 => cmk hU hW9 hR hex hE hFc⟩ rfl rfl hl.1 rfl (lv_room (Nat.le_of_ble_eq_true rfl)) dX12_count_192 ⟨(show dc81 + dc_ak31 + dc_ak36 + 0 ≤ KCC - qn S from hlg.c), (show ds81 + ds_ak31 + ds_ak36 + 0 ≤ KSC - qu S from hlg.s)⟩) hR.sS (fun q _ h => hFc q h) hFc (fun r39 S40 t9 H1 locs ht9 hvm9 hw9 hB9 hz9 hk9 hS => ?_)
                  obtain ⟨hq41, hw9, hs9⟩ := hw9
                  have hR : RepC g ak36 A s S40 H1 locs := hR.call ht9 hB9 hw9 hS hFc
                  have hsh := hsh.tr hs9.1
                  have hlg : lgC S S40 (dc81 + dc_ak31 + dc_ak36) (ds81 + ds_ak31 + ds_ak36) := hlg.same hs9
                  replace h := h r39 S40 hq41 hw9 hs9
                  have hT_v81_2 := hs9.T hT_v81_2 (by decide)
                  clear hB9 hz9 hk9 hvm9 ht9 hw9 hs9 hS
                  generalize H1 = H at hR ⊢
                  refine W_led2 (fun hLd => ?_)
                  refine W.widen (k := KCC - qn S) (n := KSC - qu S) hlg.c hlg.s ?_
                  exact W.iret (v := r39) hx hb hr (fun t9 ht9 hW9 => ⟨⟨_, (S40, ak36), rfl, ⟨h, hR.w, hsh, hak⟩, ⟨⟨by rw [ht9]; exact hR.P, hR.D⟩, _, _, by rw [ht9]; exact hLd, hlg⟩⟩, hR.sS.F ht9⟩) hR.sS.2.2 dX12_count_195
                · replace h := h.1 (k_eq rfl (by decide) c27)
                  refine lv_bipush (v := (-3)) hx hb dX12_count_164 (by decide) ?_
                  refine W_led2 (fun hLd => ?_)
                  refine W.widen (k := KCC - qn S) (n := KSC - qu S) hlg.c hlg.s ?_
                  exact W.iret (v := (-3)) hx hb hr (fun t9 ht9 hW9 => ⟨⟨_, (U81, ad81), rfl, ⟨h, hR.w, hsh, hak⟩, ⟨⟨by rw [ht9]; exact hR.P, hR.D⟩, _, _, by rw [ht9]; exact hLd, hlg⟩⟩, hR.sS.F ht9⟩) hR.sS.2.2 dX12_count_166
              · replace h := h.2 (k_nle rfl rfl c23)
                refine lv_aload_n hx hb dX12_count_90 rfl (lv_at hl 1 rfl) ?_
                refine lv_iload hx hb dX12_count_91 (lv_at hl 3 rfl) ?_
                replace h := h (hT_v81_2)
                obtain ⟨Q42, h0, h⟩ := h
                have hFc := cfree hR hA
                refine va_callq (va_runV (As := [.int v81_5]) (rest := []) ⟨hx, hb, hml, hown, hts⟩ (rX10_rowAt l g ad81 H.size U81 v81_2 v81_5 hR.w hT_v81_2 Q42 h0) (cwV 1 hts (gd_V kw_324 kw_70 kw_71 kw_34 kw_69) rfl rfl rfl (by decide +kernel) ⟨Nat.le_of_ble_eq_true rfl, Nat.le_of_ble_eq_true rfl⟩) ⟨cblind, va_recv hR.K hR.P (ci := 9) (q0 := v81_2) rfl (hR.at49 hT_v81_2), fun U hU hW9 => cmk hU hW9 hR hex hE hFc⟩ rfl rfl hl.1 rfl (lv_room (Nat.le_of_ble_eq_true rfl)) dX12_count_93 ⟨(show dc81 + 0 ≤ KCC - qn S from hlg.c), (show ds81 + 0 ≤ KSC - qu S from hlg.s)⟩) hR.sS (fun q _ h => hFc q h) hFc (fun r43 S44 t9 H1 locs ht9 hvm9 hw9 hB9 hz9 hk9 hS => ?_)
                obtain ⟨b46, rfl, hq45, hw9, hs9, hO_b46⟩ := hw9
                have hR : RepC g ad81 A s S44 H1 locs := hR.call ht9 hB9 hw9 hS hFc
                have hsh := hsh.tr hs9.1
                have hlg : lgC S S44 (dc81) (ds81) := hlg.same hs9
                replace h := h b46 S44 hq45 hw9 hs9 hO_b46
                have hT_v81_2 := hs9.T hT_v81_2 (by decide)
                clear hB9 hz9 hk9 hvm9 ht9 hw9 hs9 hS
                generalize H1 = H at hR ⊢
                rcases hq_b47 : b46 with _ | b47
                · skip
                  replace h := h.1 (hq_b47)
                  refine lv_astoreN (lv' := [(6, .null), (0, .ref (ad81 0)), (2, .ref (ad81 v81_2)), (4, .int v81_4), (5, .int v81_5)]) hx hb dX12_count_96 hl (by decide) rfl (fun ls hl => ?_)
                  refine lv_aload_n hx hb dX12_count_98 rfl (lv_at hl 1 rfl) ?_
                  refine va_get (D := rD g) (ci := 11) (v := .ref (ad81 52)) (C := RX12) (T := TX12) (N := 18) hx hb hts inX12 hown hR.K hR.P 0 (hR.at51 hR.w.1) rfl 8 (by decide) (hts _ kw_300) (fun _ h9 => h9) (congrArg (fun z => some (vf ad81 z)) (hR.w.2.1 _ finC_30).1) dX12_count_99 ?_
                  refine lv_aloadN hx hb dX12_count_102 (lv_at hl 0 rfl) ?_
                  obtain ⟨Q48, h0, h⟩ := h
                  have hFc := cfree hR hA
                  refine W_led2 (fun hL0 => ?_)
                  refine va_callv (va_runV (As := [.null]) (rest := []) ⟨hx, hb, hml, hown, hts⟩ (rX3_draw l g ad81 H S44 none hR.w (fun z q9 => by cases q9) Q48 h0) (cwV 1 hts (gd_V kw_301 kw_873 kw_874 kw_401 kw_872) rfl rfl rfl (by decide +kernel) ⟨Nat.le_of_ble_eq_true rfl, Nat.le_of_ble_eq_true rfl⟩) ⟨cblindH, va_recv hR.K hR.P (ci := 3) (q0 := 52) rfl (hR.at43 (hR.w.2.1 _ finC_30).2.1), fun U hU hW9 => cmkH hU hW9 hR hex hE hFc⟩ rfl rfl hl.1 rfl (lv_room (Nat.le_of_ble_eq_true rfl)) dX12_count_104 ⟨(show dc81 + (KCC - qn S44) ≤ KCC - qn S from hlg.cm), (show ds81 + (KSC - qu S44) ≤ KSC - qu S from hlg.sm)⟩) hR.sS (fun q _ h => hFc q h) hFc (fun  S49 t9 H1 locs ht9 hvm9 hw9 hB9 hz9 hk9 hS => ?_)
                  rcases S49 with ⟨S49, ak51⟩
                  obtain ⟨hB9, dc9, ds9, hL9, hl9⟩ := hB9
                  dsimp only at hw9 hB9 hl9
                  rw [ht9] at hL9
                  obtain ⟨hq50, hw9, hs9, hk8⟩ := hw9
                  have hw8 := hR.w
                  have hak := hak.tr hk8 hlg.2.2.1
                  have hE := hE.ad hk8
                  have hR : RepC g ak51 A s S49 H1 locs := hR.callH ht9 hB9 hw9 hS hFc
                  have hsh := hsh.tr hs9
                  refine W_tight2 (hL0.tr hL9).1 (hL0.tr hL9).2.1 ?_
                  have hlg := hlg.call hl9
                  replace h := h  S49 hq50 hw9 hs9
                  have ea_0 : ak51 0 = ad81 0 := hk8 _ (hw8.hd hw8.1 (by decide) (by decide))
                  have ea_1 : ak51 v81_2 = ad81 v81_2 := hk8 _ (hw8.hd hT_v81_2 (by decide) (by decide))
                  have hl : lv_has ls 7 [(6, .null), (0, .ref (ak51 0)), (2, .ref (ak51 v81_2)), (4, .int v81_4), (5, .int v81_5)] := by simp only [ea_0, ea_1]; exact hl
                  have hT_v81_2 := hs9.T hT_v81_2 (by decide)
                  clear hB9 hz9 hk9 hvm9 ht9 hw9 hs9 hS hL0 hL9
                  generalize H1 = H at hR ⊢
                  generalize dc9 = dc_ak51, ds9 = ds_ak51 at hlg ⊢
                  refine lv_aload_n hx hb dX12_count_107 rfl (lv_at hl 1 rfl) ?_
                  refine va_get (D := rD g) (ci := 11) (v := .ref (ak51 66)) (C := RX12) (T := TX12) (N := 18) hx hb hts inX12 hown hR.K hR.P 0 (hR.at51 hR.w.1) rfl 9 (by decide) (hts _ kw_281) (fun _ h9 => h9) (congrArg (fun z => some (vf ak51 z)) (hR.w.2.1 _ finC_31).1) dX12_count_108 ?_
                  refine lv_aloadN hx hb dX12_count_111 (lv_at hl 0 rfl) ?_
                  refine lv_aload_n hx hb dX12_count_113 rfl (lv_at hl 1 rfl) ?_
                  refine va_get (D := rD g) (ci := 11) (v := .ref (ak51 52)) (C := RX12) (T := TX12) (N := 18) hx hb hts inX12 hown hR.K hR.P 0 (hR.at51 hR.w.1) rfl 8 (by decide) (hts _ kw_300) (fun _ h9 => h9) (congrArg (fun z => some (vf ak51 z)) (hR.w.2.1 _ finC_30).1) dX12_count_114 ?_
                  refine lv_iload hx hb dX12_count_117 (lv_at hl 3 rfl) ?_
                  exact h.elim
                · have hg_b47 : b47 = (b46).getD 0 := by rw [hq_b47]; rfl
                  have hT_b47 : qT S44 ((b46).getD 0) = 47 := hg_b47 ▸ hO_b46 _ hq_b47
                  subst hg_b47
                  replace h := h.2 (fun q9 => Option.some_ne_none _ (hq_b47.symm.trans q9))
                  refine lv_astore (lv' := [(6, .ref (ad81 ((b46).getD 0))), (0, .ref (ad81 0)), (2, .ref (ad81 v81_2)), (4, .int v81_4), (5, .int v81_5)]) hx hb dX12_count_96 hl (by decide) rfl (fun ls hl => ?_)
                  refine lv_aload_n hx hb dX12_count_98 rfl (lv_at hl 1 rfl) ?_
                  refine va_get (D := rD g) (ci := 11) (v := .ref (ad81 52)) (C := RX12) (T := TX12) (N := 18) hx hb hts inX12 hown hR.K hR.P 0 (hR.at51 hR.w.1) rfl 8 (by decide) (hts _ kw_300) (fun _ h9 => h9) (congrArg (fun z => some (vf ad81 z)) (hR.w.2.1 _ finC_30).1) dX12_count_99 ?_
                  refine lv_aload hx hb dX12_count_102 (lv_at hl 0 rfl) ?_
                  obtain ⟨Q52, h0, h⟩ := h
                  have hFc := cfree hR hA
                  refine W_led2 (fun hL0 => ?_)
                  refine va_callv (va_runV (As := [.ref (ad81 ((b46).getD 0))]) (rest := []) ⟨hx, hb, hml, hown, hts⟩ (rX3_draw l g ad81 H S44 (some ((b46).getD 0)) hR.w (fun z q9 => by cases q9; exact hT_b47) Q52 h0) (cwV 1 hts (gd_V kw_301 kw_873 kw_874 kw_401 kw_872) rfl rfl rfl (by decide +kernel) ⟨Nat.le_of_ble_eq_true rfl, Nat.le_of_ble_eq_true rfl⟩) ⟨cblindH, va_recv hR.K hR.P (ci := 3) (q0 := 52) rfl (hR.at43 (hR.w.2.1 _ finC_30).2.1), fun U hU hW9 => cmkH hU hW9 hR hex hE hFc⟩ rfl rfl hl.1 rfl (lv_room (Nat.le_of_ble_eq_true rfl)) dX12_count_104 ⟨(show dc81 + (KCC - qn S44) ≤ KCC - qn S from hlg.cm), (show ds81 + (KSC - qu S44) ≤ KSC - qu S from hlg.sm)⟩) hR.sS (fun q _ h => hFc q h) hFc (fun  S53 t9 H1 locs ht9 hvm9 hw9 hB9 hz9 hk9 hS => ?_)
                  rcases S53 with ⟨S53, ak55⟩
                  obtain ⟨hB9, dc9, ds9, hL9, hl9⟩ := hB9
                  dsimp only at hw9 hB9 hl9
                  rw [ht9] at hL9
                  obtain ⟨hq54, hw9, hs9, hk8⟩ := hw9
                  have hw8 := hR.w
                  have hak := hak.tr hk8 hlg.2.2.1
                  have hE := hE.ad hk8
                  have hR : RepC g ak55 A s S53 H1 locs := hR.callH ht9 hB9 hw9 hS hFc
                  have hsh := hsh.tr hs9
                  refine W_tight2 (hL0.tr hL9).1 (hL0.tr hL9).2.1 ?_
                  have hlg := hlg.call hl9
                  replace h := h  S53 hq54 hw9 hs9
                  have ea_0 : ak55 ((b46).getD 0) = ad81 ((b46).getD 0) := hk8 _ (hw8.hd hT_b47 (by decide) (by decide))
                  have ea_1 : ak55 0 = ad81 0 := hk8 _ (hw8.hd hw8.1 (by decide) (by decide))
                  have ea_2 : ak55 v81_2 = ad81 v81_2 := hk8 _ (hw8.hd hT_v81_2 (by decide) (by decide))
                  have hl : lv_has ls 7 [(6, .ref (ak55 ((b46).getD 0))), (0, .ref (ak55 0)), (2, .ref (ak55 v81_2)), (4, .int v81_4), (5, .int v81_5)] := by simp only [ea_0, ea_1, ea_2]; exact hl
                  have hT_b47 := hs9.T hT_b47 (by decide)
                  have hT_v81_2 := hs9.T hT_v81_2 (by decide)
                  clear hB9 hz9 hk9 hvm9 ht9 hw9 hs9 hS hL0 hL9
                  generalize H1 = H at hR ⊢
                  generalize dc9 = dc_ak55, ds9 = ds_ak55 at hlg ⊢
                  refine lv_aload_n hx hb dX12_count_107 rfl (lv_at hl 1 rfl) ?_
                  refine va_get (D := rD g) (ci := 11) (v := .ref (ak55 66)) (C := RX12) (T := TX12) (N := 18) hx hb hts inX12 hown hR.K hR.P 0 (hR.at51 hR.w.1) rfl 9 (by decide) (hts _ kw_281) (fun _ h9 => h9) (congrArg (fun z => some (vf ak55 z)) (hR.w.2.1 _ finC_31).1) dX12_count_108 ?_
                  refine lv_aload hx hb dX12_count_111 (lv_at hl 0 rfl) ?_
                  refine lv_aload_n hx hb dX12_count_113 rfl (lv_at hl 1 rfl) ?_
                  refine va_get (D := rD g) (ci := 11) (v := .ref (ak55 52)) (C := RX12) (T := TX12) (N := 18) hx hb hts inX12 hown hR.K hR.P 0 (hR.at51 hR.w.1) rfl 8 (by decide) (hts _ kw_300) (fun _ h9 => h9) (congrArg (fun z => some (vf ak55 z)) (hR.w.2.1 _ finC_30).1) dX12_count_114 ?_
                  refine lv_iload hx hb dX12_count_117 (lv_at hl 3 rfl) ?_
                  replace h := h (hT_b47)
                  obtain ⟨Q56, h0, h⟩ := h
                  have hFc := cfree hR hA
                  refine W_led2 (fun hL0 => ?_)
                  refine va_callv (va_runV (As := [.ref (ak55 ((b46).getD 0)), .ref (ak55 52), .int v81_4]) (rest := []) ⟨hx, hb, hml, hown, hts⟩ (rX9_putCounters l g ak55 H S53 ((b46).getD 0) v81_4 hR.w hT_b47 Q56 h0) (cwV 3 hts (gd_V kw_325 kw_1699 kw_1700 kw_404 kw_1698) rfl rfl rfl (by decide +kernel) ⟨Nat.le_of_ble_eq_true rfl, Nat.le_of_ble_eq_true rfl⟩) ⟨cblindH, va_recv hR.K hR.P (ci := 8) (q0 := 66) rfl (hR.at48 (hR.w.2.1 _ finC_31).2.1), fun U hU hW9 => cmkH hU hW9 hR hex hE hFc⟩ rfl rfl hl.1 rfl (lv_room (Nat.le_of_ble_eq_true rfl)) dX12_count_119 ⟨(show dc81 + dc_ak55 + (KCC - qn S53) ≤ KCC - qn S from hlg.cm), (show ds81 + ds_ak55 + (KSC - qu S53) ≤ KSC - qu S from hlg.sm)⟩) hR.sS (fun q _ h => hFc q h) hFc (fun  S57 t9 H1 locs ht9 hvm9 hw9 hB9 hz9 hk9 hS => ?_)
                  rcases S57 with ⟨S57, ak59⟩
                  obtain ⟨hB9, dc9, ds9, hL9, hl9⟩ := hB9
                  dsimp only at hw9 hB9 hl9
                  rw [ht9] at hL9
                  obtain ⟨hq58, hw9, hs9, hk8⟩ := hw9
                  have hw8 := hR.w
                  have hak := hak.tr hk8 hlg.2.2.1
                  have hE := hE.ad hk8
                  have hR : RepC g ak59 A s S57 H1 locs := hR.callH ht9 hB9 hw9 hS hFc
                  have hsh := hsh.tr hs9
                  refine W_tight2 (hL0.tr hL9).1 (hL0.tr hL9).2.1 ?_
                  have hlg := hlg.call hl9
                  replace h := h  S57 hq58 hw9 hs9
                  have ea_0 : ak59 ((b46).getD 0) = ak55 ((b46).getD 0) := hk8 _ (hw8.hd hT_b47 (by decide) (by decide))
                  have ea_1 : ak59 0 = ak55 0 := hk8 _ (hw8.hd hw8.1 (by decide) (by decide))
                  have ea_2 : ak59 v81_2 = ak55 v81_2 := hk8 _ (hw8.hd hT_v81_2 (by decide) (by decide))
                  have hl : lv_has ls 7 [(6, .ref (ak59 ((b46).getD 0))), (0, .ref (ak59 0)), (2, .ref (ak59 v81_2)), (4, .int v81_4), (5, .int v81_5)] := by simp only [ea_0, ea_1, ea_2]; exact hl
                  have hT_b47 := hs9.T hT_b47 (by decide)
                  have hT_v81_2 := hs9.T hT_v81_2 (by decide)
                  clear hB9 hz9 hk9 hvm9 ht9 hw9 hs9 hS hL0 hL9
                  generalize H1 = H at hR ⊢
                  generalize dc9 = dc_ak59, ds9 = ds_ak59 at hlg ⊢
                  refine lv_iload hx hb dX12_count_122 (lv_at hl 3 rfl) ?_
                  refine lv_aload_n hx hb dX12_count_124 rfl (lv_at hl 1 rfl) ?_
                  refine va_get (D := rD g) (ci := 11) (v := .ref (ak59 52)) (C := RX12) (T := TX12) (N := 18) hx hb hts inX12 hown hR.K hR.P 0 (hR.at51 hR.w.1) rfl 8 (by decide) (hts _ kw_300) (fun _ h9 => h9) (congrArg (fun z => some (vf ak59 z)) (hR.w.2.1 _ finC_30).1) dX12_count_125 ?_
                  obtain ⟨Q60, h0, h⟩ := h
                  have hFc := cfree hR hA
                  refine va_calli (va_runV (As := []) (rest := [.int v81_4]) ⟨hx, hb, hml, hown, hts⟩ (rX3_reachedCount l g ak59 H.size S57 hR.w  Q60 h0) (cwV 0 hts (gd_V kw_326 kw_946 kw_947 kw_401 kw_945) rfl rfl rfl (by decide +kernel) ⟨Nat.le_of_ble_eq_true rfl, Nat.le_of_ble_eq_true rfl⟩) ⟨cblind, va_recv hR.K hR.P (ci := 3) (q0 := 52) rfl (hR.at43 (hR.w.2.1 _ finC_30).2.1), fun U hU hW9 => cmk hU hW9 hR hex hE hFc⟩ rfl rfl hl.1 rfl (lv_room (Nat.le_of_ble_eq_true rfl)) dX12_count_128 ⟨(show dc81 + dc_ak55 + dc_ak59 + 0 ≤ KCC - qn S from hlg.c), (show ds81 + ds_ak55 + ds_ak59 + 0 ≤ KSC - qu S from hlg.s)⟩) hR.sS (fun q _ h => hFc q h) hFc (fun r61 S62 t9 H1 locs ht9 hvm9 hw9 hB9 hz9 hk9 hS => ?_)
                  obtain ⟨hq63, hw9, hs9⟩ := hw9
                  have hR : RepC g ak59 A s S62 H1 locs := hR.call ht9 hB9 hw9 hS hFc
                  have hsh := hsh.tr hs9.1
                  have hlg : lgC S S62 (dc81 + dc_ak55 + dc_ak59) (ds81 + ds_ak55 + ds_ak59) := hlg.same hs9
                  replace h := h r61 S62 hq63 hw9 hs9
                  have hT_b47 := hs9.T hT_b47 (by decide)
                  have hT_v81_2 := hs9.T hT_v81_2 (by decide)
                  clear hB9 hz9 hk9 hvm9 ht9 hw9 hs9 hS
                  generalize H1 = H at hR ⊢
                  refine lv_iadd hx hb dX12_count_131 ?_
                  refine lv_topi (fun z64 ez64 => ?_)
                  obtain rfl : z64 = (v81_4 + r61) := ez64
                  obtain ⟨a65, ea65⟩ : ∃ z, z = (v81_4 + r61) := ⟨_, rfl⟩
                  rw [← ea65]
                  replace h := h a65 ea65
                  refine lv_istore (lv' := [(4, .int a65), (6, .ref (ak59 ((b46).getD 0))), (0, .ref (ak59 0)), (2, .ref (ak59 v81_2)), (5, .int v81_5)]) hx hb dX12_count_132 hl (by decide) rfl (fun ls hl => ?_)
                  refine lv_aload_n hx hb dX12_count_134 rfl (lv_at hl 2 rfl) ?_
                  refine va_get (D := rD g) (ci := 11) (v := .ref (ak59 25)) (C := RX12) (T := TX12) (N := 18) hx hb hts inX12 hown hR.K hR.P 0 (hR.at51 hR.w.1) rfl 6 (by decide) (hts _ kw_321) (fun _ h9 => h9) (congrArg (fun z => some (vf ak59 z)) (hR.w.2.1 _ finC_28).1) dX12_count_135 ?_
                  refine lv_aload_n hx hb dX12_count_138 rfl (lv_at hl 2 rfl) ?_
                  refine va_get (D := rD g) (ci := 11) (v := .ref (ak59 66)) (C := RX12) (T := TX12) (N := 18) hx hb hts inX12 hown hR.K hR.P 0 (hR.at51 hR.w.1) rfl 9 (by decide) (hts _ kw_281) (fun _ h9 => h9) (congrArg (fun z => some (vf ak59 z)) (hR.w.2.1 _ finC_31).1) dX12_count_139 ?_
                  have hT_b66 : qT S62 (qO S62 66 0) = 47 := hR.w.ref (hR.w.ptr ptrC_39) (hR.w.2.1 _ finC_31).2.1
                  refine va_get (D := rD g) (ci := 8) (v := .ref (ak59 (qO S62 66 0))) (C := RX9) (T := TX9) (N := 6) hx hb hts inX9 hown hR.K hR.P 66 (hR.at48 (hR.w.2.1 _ finC_31).2.1) rfl 0 (by decide) (hts _ kw_327) (fun _ h9 => h9) (congrArg (fun z => some (vf ak59 z)) (hR.w.ptr ptrC_39)) dX12_count_142 ?_
                  obtain ⟨Q67, h0, h⟩ := h
                  have hFc := cfree hR hA
                  refine W_led2 (fun hL0 => ?_)
                  refine va_callv (va_runV (As := [.ref (ak59 (qO S62 66 0))]) (rest := []) ⟨hx, hb, hml, hown, hts⟩ (rX11_addMethod l g ak59 H S62 (some (qO S62 66 0)) hR.w (fun z q9 => by cases q9; exact hT_b66) Q67 h0) (cwV 1 hts (gd_V kw_328 kw_81 kw_82 kw_83 kw_80) rfl rfl rfl (by decide +kernel) ⟨Nat.le_of_ble_eq_true rfl, Nat.le_of_ble_eq_true rfl⟩) ⟨cblindH, va_recv hR.K hR.P (ci := 10) (q0 := 25) rfl (hR.at50 (hR.w.2.1 _ finC_28).2.1), fun U hU hW9 => cmkH hU hW9 hR hex hE hFc⟩ rfl rfl hl.1 rfl (lv_room (Nat.le_of_ble_eq_true rfl)) dX12_count_145 ⟨(show dc81 + dc_ak55 + dc_ak59 + (KCC - qn S62) ≤ KCC - qn S from hlg.cm), (show ds81 + ds_ak55 + ds_ak59 + (KSC - qu S62) ≤ KSC - qu S from hlg.sm)⟩) hR.sS (fun q _ h => hFc q h) hFc (fun  S68 t9 H1 locs ht9 hvm9 hw9 hB9 hz9 hk9 hS => ?_)
                  rcases S68 with ⟨S68, ak70⟩
                  obtain ⟨hB9, dc9, ds9, hL9, hl9⟩ := hB9
                  dsimp only at hw9 hB9 hl9
                  rw [ht9] at hL9
                  obtain ⟨hq69, hw9, hs9, hk8⟩ := hw9
                  have hw8 := hR.w
                  have hak := hak.tr hk8 hlg.2.2.1
                  have hE := hE.ad hk8
                  have hR : RepC g ak70 A s S68 H1 locs := hR.callH ht9 hB9 hw9 hS hFc
                  have hsh := hsh.tr hs9
                  refine W_tight2 (hL0.tr hL9).1 (hL0.tr hL9).2.1 ?_
                  have hlg := hlg.call hl9
                  replace h := h  S68 hq69 hw9 hs9
                  have ea_0 : ak70 ((b46).getD 0) = ak59 ((b46).getD 0) := hk8 _ (hw8.hd hT_b47 (by decide) (by decide))
                  have ea_1 : ak70 0 = ak59 0 := hk8 _ (hw8.hd hw8.1 (by decide) (by decide))
                  have ea_2 : ak70 v81_2 = ak59 v81_2 := hk8 _ (hw8.hd hT_v81_2 (by decide) (by decide))
                  have hl : lv_has ls 7 [(4, .int a65), (6, .ref (ak70 ((b46).getD 0))), (0, .ref (ak70 0)), (2, .ref (ak70 v81_2)), (5, .int v81_5)] := by simp only [ea_0, ea_1, ea_2]; exact hl
                  have hT_b47 := hs9.T hT_b47 (by decide)
                  have hT_v81_2 := hs9.T hT_v81_2 (by decide)
                  clear hB9 hz9 hk9 hvm9 ht9 hw9 hs9 hS hL0 hL9
                  generalize H1 = H at hR ⊢
                  generalize dc9 = dc_ak70, ds9 = ds_ak70 at hlg ⊢
                  obtain ⟨a71, ea71⟩ : ∃ z, z = (v81_5 + Int32.ofInt 1) := ⟨_, rfl⟩
                  replace h := h a71 ea71
                  refine lv_iinc (v := a71) (lv' := [(5, .int a71), (4, .int a65), (6, .ref (ak70 ((b46).getD 0))), (0, .ref (ak70 0)), (2, .ref (ak70 v81_2))]) hx hb dX12_count_148 hl (k := 4) rfl ea71.symm (by decide) rfl (fun ls hl => ?_)
                  refine lv_goto (tgt := 81) hx hb dX12_count_151 (by decide) ?_
                  exact ih_81 ak70 (dc81 + dc_ak55 + dc_ak59 + dc_ak70) (ds81 + ds_ak55 + ds_ak59 + ds_ak70) S68 v81_2 a65 a71 _ _ ls h hT_v81_2 hsh hlg hak hE hR (lv_sub hl [3, 4, 1, 0] rfl)
          obtain ⟨n9, h⟩ := h
          exact J_81 n9 ak21 (0 + dc_ak15 + dc_ak21) (0 + ds_ak15 + ds_ak21) S19 ((b5).getD 0) a22 0 _ _ ls h hT_b6 hsh hlg hak hE hR (lv_sub hl [4, 3, 1, 0] rfl)
        · replace h := h.2 (k_nle rfl (by decide) c17)
          refine lv_bipush (v := (-3)) hx hb dX12_count_60 (by decide) ?_
          refine W_led2 (fun hLd => ?_)
          refine W.widen (k := KCC - qn S) (n := KSC - qu S) hlg.c hlg.s ?_
          exact W.iret (v := (-3)) hx hb hr (fun t9 ht9 hW9 => ⟨⟨_, (S13, ak15), rfl, ⟨h, hR.w, hsh, hak⟩, ⟨⟨by rw [ht9]; exact hR.P, hR.D⟩, _, _, by rw [ht9]; exact hLd, hlg⟩⟩, hR.sS.F ht9⟩) hR.sS.2.2 dX12_count_62
      · replace h := h.2 (k_nlt rfl (by decide) c8)
        refine lv_bipush (v := (-2)) hx hb dX12_count_30 (by decide) ?_
        refine W_led2 (fun hLd => ?_)
        refine W.widen (k := KCC - qn S) (n := KSC - qu S) hlg.c hlg.s ?_
        exact W.iret (v := (-2)) hx hb hr (fun t9 ht9 hW9 => ⟨⟨_, (S3, ad), rfl, ⟨h, hR.w, hsh, hak⟩, ⟨⟨by rw [ht9]; exact hR.P, hR.D⟩, _, _, by rw [ht9]; exact hLd, hlg⟩⟩, hR.sS.F ht9⟩) hR.sS.2.2 dX12_count_32
def w_X5_step_J244 (Q : MS → Prop) (U244 : MS) (v244_1 : Int32) : Prop := (wfC U244 → (∃ Q33, wX5_useStage U244 v244_1 Q33 ∧ ∀ S34, Q33 S34 → wfC S34 → shx U244 S34 → Q S34))
def w_X5_step_J225 (Q : MS → Prop) (U225 : MS) (v225_1 : Int32) : Prop := (wfC U225 → ((178 ≤ v225_1.toInt → w_X5_step_J244 Q U225 v225_1) ∧ (¬ 178 ≤ v225_1.toInt → ((v225_1.toInt = 46 → w_X5_step_J244 Q U225 v225_1) ∧ (¬ v225_1.toInt = 46 → ((v225_1.toInt = 79 → w_X5_step_J244 Q U225 v225_1) ∧ (¬ v225_1.toInt = 79 → (∃ Q40, wX5_move U225 v225_1 Q40 ∧ ∀ S41, Q40 S41 → wfC S41 → shy U225 S41 → (∀ S44, S44 = wI S41 44 13 ((qI S41 44 13) + (1 : Int32)) → qT S41 44 = 45 → wfC S44 → Q S44)))))))))
def w_X5_step_J203 (Q : MS → Prop) (U203 : MS) (v203_1 : Int32) : Prop := (wfC U203 → ((v203_1.toInt < 172 → w_X5_step_J225 Q U203 v203_1) ∧ (¬ v203_1.toInt < 172 → ((177 < v203_1.toInt → w_X5_step_J225 Q U203 v203_1) ∧ (¬ 177 < v203_1.toInt → (∃ Q47, wX5_leave U203 v203_1 Q47 ∧ ∀ S48, Q47 S48 → wfC S48 → shy U203 S48 → Q S48))))))
def w_X5_step_J132 (Q : MS → Prop) (U132 : MS) (t132_0 : Int32) : Prop := (wfC U132 → (∀ S76, S76 = wI U132 44 13 t132_0 → qT U132 44 = 45 → wfC S76 → Q S76))
def w_X5_step_J40 (Q : MS → Prop) (U40 : MS) (v40_1 : Int32) : Prop := (wfC U40 → (d_X6_isBinary U40 v40_1 ∧ (∀ a16 : Int32, a16 = (fX6_isBinary U40 v40_1) → ((a16.toInt = 0 → (d_X6_isUnary U40 v40_1 ∧ (∀ a21 : Int32, a21 = (fX6_isUnary U40 v40_1) → ((a21.toInt = 0 → (d_X6_isJump U40 v40_1 ∧ (∀ a26 : Int32, a26 = (fX6_isJump U40 v40_1) → ((a26.toInt = 0 → (d_X6_isSwitch U40 v40_1 ∧ (∀ a31 : Int32, a31 = (fX6_isSwitch U40 v40_1) → ((a31.toInt = 0 → ((v40_1.toInt < 87 → w_X5_step_J203 Q U40 v40_1) ∧ (¬ v40_1.toInt < 87 → ((95 < v40_1.toInt → w_X5_step_J203 Q U40 v40_1) ∧ (¬ 95 < v40_1.toInt → (∃ Q52, wX5_shuffle U40 v40_1 Q52 ∧ ∀ S53, Q52 S53 → wfC S53 → shy U40 S53 → (∀ S56, S56 = wI S53 44 13 ((qI S53 44 13) + (1 : Int32)) → qT S53 44 = 45 → wfC S56 → Q S56))))))) ∧ (¬ a31.toInt = 0 → ((qR U40 44 12 = some (qO U40 44 12)) ∧ (∃ Q59, wX5_pop U40 Q59 ∧ ∀ r60 S61, Q59 r60 S61 → wfC S61 → shy U40 S61 → (∃ Q63, wX5_switchChoice S61 v40_1 (r60.toInt32) Q63 ∧ ∀ r64 S65, Q63 r64 S65 → wfC S65 → shy S61 S65 → (d_X8_targetAt S65 (qO U40 44 12) (qI U40 44 13) r64 ∧ (∀ a70 : Int32, a70 = (fX8_targetAt S65 (qO U40 44 12) (qI U40 44 13) r64) → (∀ S71, S71 = wI S65 44 13 a70 → qT S65 44 = 45 → wfC S71 → Q S71))))))))))) ∧ (¬ a26.toInt = 0 → (∃ Q72, wX5_isJumpTaken U40 v40_1 Q72 ∧ ∀ r73 S74, Q72 r73 S74 → wfC S74 → shy U40 S74 → ((r73.toInt = 0 → w_X5_step_J132 Q S74 ((qI S74 44 13) + (1 : Int32))) ∧ (¬ r73.toInt = 0 → ((qR S74 44 12 = some (qO S74 44 12)) ∧ (d_X8_argAt S74 (qO S74 44 12) (qI S74 44 13) ∧ (∀ a84 : Int64, a84 = (fX8_argAt S74 (qO S74 44 12) (qI S74 44 13)) → w_X5_step_J132 Q S74 (a84.toInt32)))))))))))) ∧ (¬ a21.toInt = 0 → (d_X6_gives U40 v40_1 ∧ (∀ a88 : Int32, a88 = (fX6_gives U40 v40_1) → (d_X6_takes U40 v40_1 ∧ (∀ a92 : Int32, a92 = (fX6_takes U40 v40_1) → (∃ Q93, wX5_pop_ U40 a92 Q93 ∧ ∀ r94 S95, Q93 r94 S95 → wfC S95 → shy U40 S95 → (d_X6_unary S95 v40_1 r94 ∧ (∀ a100 : Int64, a100 = (fX6_unary S95 v40_1 r94) → (∃ Q101, wX5_push_ S95 a88 a100 Q101 ∧ ∀ S102, Q101 S102 → wfC S102 → shy S95 S102 → (∀ S105, S105 = wI S102 44 13 ((qI S102 44 13) + (1 : Int32)) → qT S102 44 = 45 → wfC S105 → Q S105)))))))))))))) ∧ (¬ a16.toInt = 0 → (∃ Q106, wX5_calculate U40 v40_1 Q106 ∧ ∀ S107, Q106 S107 → wfC S107 → shy U40 S107 → Q S107))))))
def wX5_step (S : MS) (Q : MS → Prop) : Prop := ((qR S 44 12 = some (qO S 44 12)) ∧ (d_X8_opAt S (qO S 44 12) (qI S 44 13) ∧ (∀ a6 : Int32, a6 = (fX8_opAt S (qO S 44 12) (qI S 44 13)) → ((qR S 44 12 = some (qO S 44 12)) ∧ (d_X8_heightAt S (qO S 44 12) (qI S 44 13) ∧ (∀ a12 : Int32, a12 = (fX8_heightAt S (qO S 44 12) (qI S 44 13)) → ((a12.toInt = (qI S 44 14).toInt → w_X5_step_J40 Q S a6) ∧ (¬ a12.toInt = (qI S 44 14).toInt → (∀ S111, S111 = wI S 44 19 ((qI S 44 19) + (1 : Int32)) → qT S 44 = 45 → wfC S111 → w_X5_step_J40 Q S111 a6)))))))))
set_option maxHeartbeats 2000000 in
set_option maxRecDepth 100000 in
theorem rX5_step (l : Launch) (g : Gr) (ad : Nat → Nat) (H0 : Heap) (S : MS) (hw : wfC S) (Q : MS → Prop) (h : wX5_step S Q) : Met l yX5_step (wt yX5_step cX5_step 2 none) ({ frames := 5, cells := KCC - qn S, slots := KSC - qu S, locals := 114 }) (va_Pc [.ref (ad 44)] (st_CH g ad H0 S)) (va_Qv (fun (u : MS × (Nat → Nat)) => Q u.1 ∧ wfC u.1 ∧ shx S u.1 ∧ adk ad u.2 S) (fun (u : MS × (Nat → Nat)) (t : State) => qEHC g (va_A (WdC g ad S) H0.size) S H0 u t) (va_A (WdC g ad S) H0.size)) (KCC - qn S) (KSC - qu S) (va_A (WdC g ad S) H0.size) := by
  refine Met.ofW (cc := cX5_step) (maxL := 2) (ret := none) (by decide) rfl ?_
  intro p e s m args below meth c s₁ B hml hv
  obtain ⟨rfl, hH0, hsz, hP, hK, hD0, hex, hE⟩ := hv
  have hx := B.exec
  have hb := B.bytes
  have hr := B.returns
  have hts0 := atoms_spec (ws := wt yX5_step cX5_step 2 none) B.pre
  have hts : ∀ w ∈ tb, w.before _ s = true := fun w h => hts0 w (List.mem_cons_of_mem _ h)
  have hown : s.vm.findClass RX5 = some m.cls := findClass_of_methodNamed B.named
  subst hH0
  have hD := hD0.self (sz := s.heap.size)
  generalize hAe : va_A (WdC g ad S) s.heap.size = A at hD hE ⊢
  have hA : ∀ q : Nat, s.heap.size ≤ q → A q := fun q h => by rw [← hAe]; exact Or.inr h
  have hR : RepC g ad A s S s.heap [] := ⟨hK, hP, hD, va_S.rf, hw⟩
  clear hK hP hD hD0
  have hl := lv_entry ([.ref (ad 44)]) (n := 2) (Nat.le_of_ble_eq_true rfl)
  rw [lg_entry_eq]
  generalize (lg_sl ([.ref (ad 44)]) ++ List.replicate (2 - (lg_sl ([.ref (ad 44)])).length) Slot.unset).toArray = ls at hl ⊢
  have hlg : lgC S S 0 0 := lgC.rf
  have hak : adk ad ad S := adk.rf
  have hl : lv_has ls 2 [(0, .ref (ad 44))] := hl
  have hsh : shx S S := shx.rf
  unfold wX5_step at h
  refine lv_aload_n hx hb dX5_step_0 rfl (lv_at hl 0 rfl) ?_
  obtain ⟨hv2, h⟩ := h
  have hT_b1 : qT S (qO S 44 12) = 47 := hR.w.ref hv2 (hR.w.2.1 _ finC_29).2.1
  refine va_get (D := rD g) (ci := 5) (v := .ref (ad (qO S 44 12))) (C := RX5) (T := TX5) (N := 20) hx hb hts inX5 hown hR.K hR.P 44 (hR.at45 (hR.w.2.1 _ finC_29).2.1) rfl 12 (by decide) (hts _ kw_1030) (fun _ h9 => h9) (congrArg (fun z => some (vf ad z)) hv2) dX5_step_1 ?_
  refine lv_aload_n hx hb dX5_step_4 rfl (lv_at hl 0 rfl) ?_
  refine va_get (D := rD g) (ci := 5) (v := .int (qI S 44 13)) (C := RX5) (T := TX5) (N := 20) hx hb hts inX5 hown hR.K hR.P 44 (hR.at45 (hR.w.2.1 _ finC_29).2.1) rfl 13 (by decide) (hts _ kw_1021) (fun _ h9 => h9) rfl dX5_step_5 ?_
  obtain ⟨hv3, h⟩ := h
  have hFc := cfree hR hA
  refine va_calli (va_runV (As := [.int (qI S 44 13)]) (rest := []) ⟨hx, hb, hml, hown, hts⟩ (rX8_opAt l g ad s.heap.size S (qO S 44 12) (qI S 44 13) hR.w hT_b1 hv3) (cwV 1 hts (gd_V kw_1163 kw_1513 kw_1514 kw_782 kw_1512) rfl rfl rfl (by decide +kernel) ⟨Nat.le_of_ble_eq_true rfl, Nat.le_of_ble_eq_true rfl⟩) ⟨cblind, va_recv hR.K hR.P (ci := 7) (q0 := (qO S 44 12)) rfl (hR.at47 hT_b1), fun U hU hW9 => cmk hU hW9 hR hex hE hFc⟩ rfl rfl hl.1 rfl (lv_room (Nat.le_of_ble_eq_true rfl)) dX5_step_8 ⟨(show 0 + 0 ≤ KCC - qn S from hlg.c), (show 0 + 0 ≤ KSC - qu S from hlg.s)⟩) hR.sS (fun q _ h => hFc q h) hFc (fun r4 u9 t9 H1 locs ht9 hvm9 hw9 hB9 hz9 hk9 hS => ?_)
  have hR : RepC g ad A s S H1 locs := hR.call ht9 hB9 hR.w hS hFc
  obtain rfl : r4 = (fX8_opAt S (qO S 44 12) (qI S 44 13)) := hw9
  clear hB9 hz9 hk9 hvm9 ht9 hS
  generalize H1 = H at hR ⊢
  obtain ⟨a6, ea6⟩ : ∃ z, z = (fX8_opAt S (qO S 44 12) (qI S 44 13)) := ⟨_, rfl⟩
  rw [← ea6]
  replace h := h a6 ea6
  refine lv_istore_n (lv' := [(1, .int a6), (0, .ref (ad 44))]) hx hb dX5_step_11 rfl hl (by decide) rfl (fun ls hl => ?_)
  refine lv_aload_n hx hb dX5_step_12 rfl (lv_at hl 1 rfl) ?_
  obtain ⟨hv8, h⟩ := h
  have hT_b7 : qT S (qO S 44 12) = 47 := hR.w.ref hv8 (hR.w.2.1 _ finC_29).2.1
  refine va_get (D := rD g) (ci := 5) (v := .ref (ad (qO S 44 12))) (C := RX5) (T := TX5) (N := 20) hx hb hts inX5 hown hR.K hR.P 44 (hR.at45 (hR.w.2.1 _ finC_29).2.1) rfl 12 (by decide) (hts _ kw_1030) (fun _ h9 => h9) (congrArg (fun z => some (vf ad z)) hv8) dX5_step_13 ?_
  refine lv_aload_n hx hb dX5_step_16 rfl (lv_at hl 1 rfl) ?_
  refine va_get (D := rD g) (ci := 5) (v := .int (qI S 44 13)) (C := RX5) (T := TX5) (N := 20) hx hb hts inX5 hown hR.K hR.P 44 (hR.at45 (hR.w.2.1 _ finC_29).2.1) rfl 13 (by decide) (hts _ kw_1021) (fun _ h9 => h9) rfl dX5_step_17 ?_
  obtain ⟨hv9, h⟩ := h
  have hFc := cfree hR hA
  refine va_calli (va_runV (As := [.int (qI S 44 13)]) (rest := []) ⟨hx, hb, hml, hown, hts⟩ (rX8_heightAt l g ad H.size S (qO S 44 12) (qI S 44 13) hR.w hT_b7 hv9) (cwV 1 hts (gd_V kw_1164 kw_1493 kw_1494 kw_782 kw_1492) rfl rfl rfl (by decide +kernel) ⟨Nat.le_of_ble_eq_true rfl, Nat.le_of_ble_eq_true rfl⟩) ⟨cblind, va_recv hR.K hR.P (ci := 7) (q0 := (qO S 44 12)) rfl (hR.at47 hT_b7), fun U hU hW9 => cmk hU hW9 hR hex hE hFc⟩ rfl rfl hl.1 rfl (lv_room (Nat.le_of_ble_eq_true rfl)) dX5_step_20 ⟨(show 0 + 0 ≤ KCC - qn S from hlg.c), (show 0 + 0 ≤ KSC - qu S from hlg.s)⟩) hR.sS (fun q _ h => hFc q h) hFc (fun r10 u9 t9 H1 locs ht9 hvm9 hw9 hB9 hz9 hk9 hS => ?_)
  have hR : RepC g ad A s S H1 locs := hR.call ht9 hB9 hR.w hS hFc
  obtain rfl : r10 = (fX8_heightAt S (qO S 44 12) (qI S 44 13)) := hw9
  clear hB9 hz9 hk9 hvm9 ht9 hS
  generalize H1 = H at hR ⊢
  obtain ⟨a12, ea12⟩ : ∃ z, z = (fX8_heightAt S (qO S 44 12) (qI S 44 13)) := ⟨_, rfl⟩
  rw [← ea12]
  replace h := h a12 ea12
  refine lv_aload_n hx hb dX5_step_23 rfl (lv_at hl 1 rfl) ?_
  refine va_get (D := rD g) (ci := 5) (v := .int (qI S 44 14)) (C := RX5) (T := TX5) (N := 20) hx hb hts inX5 hown hR.K hR.P 44 (hR.at45 (hR.w.2.1 _ finC_29).2.1) rfl 14 (by decide) (hts _ kw_1031) (fun _ h9 => h9) rfl dX5_step_24 ?_
  have J_40 : ∀ (ad40 : Nat → Nat) (dc40 ds40 : Nat) (U40 : MS) (v40_1 : Int32) (H : Heap) (locs : List Loc) (ls : Array Slot), w_X5_step_J40 Q U40 v40_1 → shx S U40 → lgC S U40 dc40 ds40 → adk ad ad40 S → ogC ad40 A s s.heap → RepC g ad40 A s U40 H locs → lv_has ls 2 [(0, .ref (ad40 44)), (1, .int v40_1)] → W p l e (headSpec (wt yX5_step cX5_step 2 none) ({ frames := 5, cells := KCC - qn S, slots := KSC - qu S, locals := 114 })).room s m ([.ref (ad 44)] : List Value).toArray below meth c H locs dc40 ds40 (MQ below (va_Qv (fun (u : MS × (Nat → Nat)) => Q u.1 ∧ wfC u.1 ∧ shx S u.1 ∧ adk ad u.2 S) (fun (u : MS × (Nat → Nat)) (t : State) => qEHC g A S s.heap u t) A) ([.ref (ad 44)] : List Value).toArray s (KCC - qn S) (KSC - qu S) A) (F0 m 40 ls []) := by
    intro ad40 dc40 ds40 U40 v40_1 H locs ls h hsh hlg hak hE hR hl
    unfold w_X5_step_J40 at h
    replace h := h hR.w
    refine lv_iload_n hx hb dX5_step_40 rfl (lv_at hl 1 rfl) ?_
    obtain ⟨hv13, h⟩ := h
    have hFc := cfree hR hA
    refine va_calli (va_runS (As := [.int v40_1]) (rest := []) ⟨hx, hb, hml, hown, hts⟩ (rX6_isBinary l g ad40 H.size U40 v40_1 hR.w  hv13) (va_cwS 1 hts (gd_S kw_1165 kw_1221 kw_1207 kw_1220) rfl rfl rfl (by decide +kernel) ⟨Nat.le_of_ble_eq_true rfl, Nat.le_of_ble_eq_true rfl⟩) ⟨cblind, fun U hU hW9 => cmk hU hW9 hR hex hE hFc⟩ rfl rfl hl.1 rfl (lv_room (Nat.le_of_ble_eq_true rfl)) dX5_step_41 ⟨(show dc40 + 0 ≤ KCC - qn S from hlg.c), (show ds40 + 0 ≤ KSC - qu S from hlg.s)⟩) hR.sS (fun q _ h => hFc q h) hFc (fun r14 u9 t9 H1 locs ht9 hvm9 hw9 hB9 hz9 hk9 hS => ?_)
    have hR : RepC g ad40 A s U40 H1 locs := hR.call ht9 hB9 hR.w hS hFc
    obtain ⟨rfl, hz_r14⟩ := hw9
    clear hB9 hz9 hk9 hvm9 ht9 hS
    generalize H1 = H at hR ⊢
    obtain ⟨a16, ea16⟩ : ∃ z, z = (fX6_isBinary U40 v40_1) := ⟨_, rfl⟩
    rw [← ea16]
    replace h := h a16 ea16
    rw [← ea16] at hz_r14
    refine lv_if_eq (tgt := 55) hx hb dX5_step_44 (by decide) (fun c17 => ?_) (fun c17 => ?_)
    · replace h := h.1 (k_eq rfl (by decide) c17)
      refine lv_iload_n hx hb dX5_step_55 rfl (lv_at hl 1 rfl) ?_
      obtain ⟨hv18, h⟩ := h
      have hFc := cfree hR hA
      refine va_calli (va_runS (As := [.int v40_1]) (rest := []) ⟨hx, hb, hml, hown, hts⟩ (rX6_isUnary l g ad40 H.size U40 v40_1 hR.w  hv18) (va_cwS 1 hts (gd_S kw_1167 kw_1237 kw_1207 kw_1236) rfl rfl rfl (by decide +kernel) ⟨Nat.le_of_ble_eq_true rfl, Nat.le_of_ble_eq_true rfl⟩) ⟨cblind, fun U hU hW9 => cmk hU hW9 hR hex hE hFc⟩ rfl rfl hl.1 rfl (lv_room (Nat.le_of_ble_eq_true rfl)) dX5_step_56 ⟨(show dc40 + 0 ≤ KCC - qn S from hlg.c), (show ds40 + 0 ≤ KSC - qu S from hlg.s)⟩) hR.sS (fun q _ h => hFc q h) hFc (fun r19 u9 t9 H1 locs ht9 hvm9 hw9 hB9 hz9 hk9 hS => ?_)
      have hR : RepC g ad40 A s U40 H1 locs := hR.call ht9 hB9 hR.w hS hFc
      obtain ⟨rfl, hz_r19⟩ := hw9
      clear hB9 hz9 hk9 hvm9 ht9 hS
      generalize H1 = H at hR ⊢
      obtain ⟨a21, ea21⟩ : ∃ z, z = (fX6_isUnary U40 v40_1) := ⟨_, rfl⟩
      rw [← ea21]
      replace h := h a21 ea21
      rw [← ea21] at hz_r19
      refine lv_if_eq (tgt := 95) hx hb dX5_step_59 (by decide) (fun c22 => ?_) (fun c22 => ?_)
      · replace h := h.1 (k_eq rfl (by decide) c22)
        refine lv_iload_n hx hb dX5_step_95 rfl (lv_at hl 1 rfl) ?_
        obtain ⟨hv23, h⟩ := h
        have hFc := cfree hR hA
        refine va_calli (va_runS (As := [.int v40_1]) (rest := []) ⟨hx, hb, hml, hown, hts⟩ (rX6_isJump l g ad40 H.size U40 v40_1 hR.w  hv23) (va_cwS 1 hts (gd_S kw_1169 kw_1225 kw_1207 kw_1224) rfl rfl rfl (by decide +kernel) ⟨Nat.le_of_ble_eq_true rfl, Nat.le_of_ble_eq_true rfl⟩) ⟨cblind, fun U hU hW9 => cmk hU hW9 hR hex hE hFc⟩ rfl rfl hl.1 rfl (lv_room (Nat.le_of_ble_eq_true rfl)) dX5_step_96 ⟨(show dc40 + 0 ≤ KCC - qn S from hlg.c), (show ds40 + 0 ≤ KSC - qu S from hlg.s)⟩) hR.sS (fun q _ h => hFc q h) hFc (fun r24 u9 t9 H1 locs ht9 hvm9 hw9 hB9 hz9 hk9 hS => ?_)
        have hR : RepC g ad40 A s U40 H1 locs := hR.call ht9 hB9 hR.w hS hFc
        obtain ⟨rfl, hz_r24⟩ := hw9
        clear hB9 hz9 hk9 hvm9 ht9 hS
        generalize H1 = H at hR ⊢
        obtain ⟨a26, ea26⟩ : ∃ z, z = (fX6_isJump U40 v40_1) := ⟨_, rfl⟩
        rw [← ea26]
        replace h := h a26 ea26
        rw [← ea26] at hz_r24
        refine lv_if_eq (tgt := 138) hx hb dX5_step_99 (by decide) (fun c27 => ?_) (fun c27 => ?_)
        · replace h := h.1 (k_eq rfl (by decide) c27)
          refine lv_iload_n hx hb dX5_step_138 rfl (lv_at hl 1 rfl) ?_
          obtain ⟨hv28, h⟩ := h
          have hFc := cfree hR hA
          refine va_calli (va_runS (As := [.int v40_1]) (rest := []) ⟨hx, hb, hml, hown, hts⟩ (rX6_isSwitch l g ad40 H.size U40 v40_1 hR.w  hv28) (va_cwS 1 hts (gd_S kw_1171 kw_1233 kw_1207 kw_1232) rfl rfl rfl (by decide +kernel) ⟨Nat.le_of_ble_eq_true rfl, Nat.le_of_ble_eq_true rfl⟩) ⟨cblind, fun U hU hW9 => cmk hU hW9 hR hex hE hFc⟩ rfl rfl hl.1 rfl (lv_room (Nat.le_of_ble_eq_true rfl)) dX5_step_139 ⟨(show dc40 + 0 ≤ KCC - qn S from hlg.c), (show ds40 + 0 ≤ KSC - qu S from hlg.s)⟩) hR.sS (fun q _ h => hFc q h) hFc (fun r29 u9 t9 H1 locs ht9 hvm9 hw9 hB9 hz9 hk9 hS => ?_)
          have hR : RepC g ad40 A s U40 H1 locs := hR.call ht9 hB9 hR.w hS hFc
          obtain ⟨rfl, hz_r29⟩ := hw9
          clear hB9 hz9 hk9 hvm9 ht9 hS
          generalize H1 = H at hR ⊢
          obtain ⟨a31, ea31⟩ : ∃ z, z = (fX6_isSwitch U40 v40_1) := ⟨_, rfl⟩
          rw [← ea31]
          replace h := h a31 ea31
          rw [← ea31] at hz_r29
          refine lv_if_eq (tgt := 173) hx hb dX5_step_142 (by decide) (fun c32 => ?_) (fun c32 => ?_)
          · replace h := h.1 (k_eq rfl (by decide) c32)
            refine lv_iload_n hx hb dX5_step_173 rfl (lv_at hl 1 rfl) ?_
            refine lv_bipush (v := 87) hx hb dX5_step_174 (by decide) ?_
            have J_203 : ∀ (ad203 : Nat → Nat) (dc203 ds203 : Nat) (U203 : MS) (v203_1 : Int32) (H : Heap) (locs : List Loc) (ls : Array Slot), w_X5_step_J203 Q U203 v203_1 → shx S U203 → lgC S U203 dc203 ds203 → adk ad ad203 S → ogC ad203 A s s.heap → RepC g ad203 A s U203 H locs → lv_has ls 2 [(0, .ref (ad203 44)), (1, .int v203_1)] → W p l e (headSpec (wt yX5_step cX5_step 2 none) ({ frames := 5, cells := KCC - qn S, slots := KSC - qu S, locals := 114 })).room s m ([.ref (ad 44)] : List Value).toArray below meth c H locs dc203 ds203 (MQ below (va_Qv (fun (u : MS × (Nat → Nat)) => Q u.1 ∧ wfC u.1 ∧ shx S u.1 ∧ adk ad u.2 S) (fun (u : MS × (Nat → Nat)) (t : State) => qEHC g A S s.heap u t) A) ([.ref (ad 44)] : List Value).toArray s (KCC - qn S) (KSC - qu S) A) (F0 m 203 ls []) := by
              intro ad203 dc203 ds203 U203 v203_1 H locs ls h hsh hlg hak hE hR hl
              unfold w_X5_step_J203 at h
              replace h := h hR.w
              refine lv_iload_n hx hb dX5_step_203 rfl (lv_at hl 1 rfl) ?_
              refine lv_sipush (v := 172) hx hb dX5_step_204 (by decide) ?_
              have J_225 : ∀ (ad225 : Nat → Nat) (dc225 ds225 : Nat) (U225 : MS) (v225_1 : Int32) (H : Heap) (locs : List Loc) (ls : Array Slot), w_X5_step_J225 Q U225 v225_1 → shx S U225 → lgC S U225 dc225 ds225 → adk ad ad225 S → ogC ad225 A s s.heap → RepC g ad225 A s U225 H locs → lv_has ls 2 [(0, .ref (ad225 44)), (1, .int v225_1)] → W p l e (headSpec (wt yX5_step cX5_step 2 none) ({ frames := 5, cells := KCC - qn S, slots := KSC - qu S, locals := 114 })).room s m ([.ref (ad 44)] : List Value).toArray below meth c H locs dc225 ds225 (MQ below (va_Qv (fun (u : MS × (Nat → Nat)) => Q u.1 ∧ wfC u.1 ∧ shx S u.1 ∧ adk ad u.2 S) (fun (u : MS × (Nat → Nat)) (t : State) => qEHC g A S s.heap u t) A) ([.ref (ad 44)] : List Value).toArray s (KCC - qn S) (KSC - qu S) A) (F0 m 225 ls []) := by
                intro ad225 dc225 ds225 U225 v225_1 H locs ls h hsh hlg hak hE hR hl
                unfold w_X5_step_J225 at h
                replace h := h hR.w
                refine lv_iload_n hx hb dX5_step_225 rfl (lv_at hl 1 rfl) ?_
                refine lv_sipush (v := 178) hx hb dX5_step_226 (by decide) ?_
                have J_244 : ∀ (ad244 : Nat → Nat) (dc244 ds244 : Nat) (U244 : MS) (v244_1 : Int32) (H : Heap) (locs : List Loc) (ls : Array Slot), w_X5_step_J244 Q U244 v244_1 → shx S U244 → lgC S U244 dc244 ds244 → adk ad ad244 S → ogC ad244 A s s.heap → RepC g ad244 A s U244 H locs → lv_has ls 2 [(0, .ref (ad244 44)), (1, .int v244_1)] → W p l e (headSpec (wt yX5_step cX5_step 2 none) ({ frames := 5, cells := KCC - qn S, slots := KSC - qu S, locals := 114 })).room s m ([.ref (ad 44)] : List Value).toArray below meth c H locs dc244 ds244 (MQ below (va_Qv (fun (u : MS × (Nat → Nat)) => Q u.1 ∧ wfC u.1 ∧ shx S u.1 ∧ adk ad u.2 S) (fun (u : MS × (Nat → Nat)) (t : State) => qEHC g A S s.heap u t) A) ([.ref (ad 44)] : List Value).toArray s (KCC - qn S) (KSC - qu S) A) (F0 m 244 ls []) := by
                  intro ad244 dc244 ds244 U244 v244_1 H locs ls h hsh hlg hak hE hR hl
                  unfold w_X5_step_J244 at h
                  replace h := h hR.w
                  refine lv_aload_n hx hb dX5_step_244 rfl (lv_at hl 0 rfl) ?_
                  refine lv_iload_n hx hb dX5_step_245 rfl (lv_at hl 1 rfl) ?_
                  obtain ⟨Q33, h0, h⟩ := h
                  have hFc := cfree hR hA
                  refine W_led2 (fun hL0 => ?_)
                  refine va_callv (va_runV (As := [.int v244_1]) (rest := []) ⟨hx, hb, hml, hown, hts⟩ (rX5_useStage l g ad244 H U244 v244_1 hR.w  Q33 h0) (cwV 1 hts (gd_V kw_1176 kw_1195 kw_1196 kw_398 kw_1194) rfl rfl rfl (by decide +kernel) ⟨Nat.le_of_ble_eq_true rfl, Nat.le_of_ble_eq_true rfl⟩) ⟨cblindH, va_recv hR.K hR.P (ci := 5) (q0 := 44) rfl (hR.at45 (hR.w.2.1 _ finC_29).2.1), fun U hU hW9 => cmkH hU hW9 hR hex hE hFc⟩ rfl rfl hl.1 rfl (lv_room (Nat.le_of_ble_eq_true rfl)) dX5_step_246 ⟨(show dc244 + (KCC - qn U244) ≤ KCC - qn S from hlg.cm), (show ds244 + (KSC - qu U244) ≤ KSC - qu S from hlg.sm)⟩) hR.sS (fun q _ h => hFc q h) hFc (fun  S34 t9 H1 locs ht9 hvm9 hw9 hB9 hz9 hk9 hS => ?_)
                  rcases S34 with ⟨S34, ak36⟩
                  obtain ⟨hB9, dc9, ds9, hL9, hl9⟩ := hB9
                  dsimp only at hw9 hB9 hl9
                  rw [ht9] at hL9
                  obtain ⟨hq35, hw9, hs9, hk8⟩ := hw9
                  have hw8 := hR.w
                  have hak := hak.tr hk8 hlg.2.2.1
                  have hE := hE.ad hk8
                  have hR : RepC g ak36 A s S34 H1 locs := hR.callH ht9 hB9 hw9 hS hFc
                  have hsh := hsh.tr hs9
                  refine W_tight2 (hL0.tr hL9).1 (hL0.tr hL9).2.1 ?_
                  have hlg := hlg.call hl9
                  replace h := h  S34 hq35 hw9 hs9
                  have ea_0 : ak36 44 = ad244 44 := hk8 _ (hw8.hd (hw8.2.1 _ finC_29).2.1 (by decide) (by decide))
                  have hl : lv_has ls 2 [(0, .ref (ak36 44)), (1, .int v244_1)] := by simp only [ea_0]; exact hl
                  clear hB9 hz9 hk9 hvm9 ht9 hw9 hs9 hS hL0 hL9
                  generalize H1 = H at hR ⊢
                  generalize dc9 = dc_ak36, ds9 = ds_ak36 at hlg ⊢
                  refine lv_goto (tgt := 267) hx hb dX5_step_249 (by decide) ?_
                  refine W_led2 (fun hLd => ?_)
                  refine W.widen (k := KCC - qn S) (n := KSC - qu S) hlg.c hlg.s ?_
                  exact W.vret hx hb hr (fun t9 ht9 hW9 => ⟨⟨(S34, ak36), rfl, ⟨h, hR.w, hsh, hak⟩, ⟨⟨by rw [ht9]; exact hR.P, hR.D⟩, _, _, by rw [ht9]; exact hLd, hlg⟩⟩, hR.sS.F ht9⟩) hR.sS.2.2 dX5_step_267
                refine lv_icmp_ge (tgt := 244) hx hb dX5_step_229 (by decide) (fun c37 => ?_) (fun c37 => ?_)
                · replace h := h.1 (k_le (by decide) rfl c37)
                  exact J_244 ad225 (dc225) (ds225) U225 v225_1 _ _ ls h  hsh hlg hak hE hR (lv_sub hl [0, 1] rfl)
                · replace h := h.2 (k_nle (by decide) rfl c37)
                  refine lv_iload_n hx hb dX5_step_232 rfl (lv_at hl 1 rfl) ?_
                  refine lv_bipush (v := 46) hx hb dX5_step_233 (by decide) ?_
                  refine lv_icmp_eq (tgt := 244) hx hb dX5_step_235 (by decide) (fun c38 => ?_) (fun c38 => ?_)
                  · replace h := h.1 (k_eq rfl (by decide) c38)
                    exact J_244 ad225 (dc225) (ds225) U225 v225_1 _ _ ls h  hsh hlg hak hE hR (lv_sub hl [0, 1] rfl)
                  · replace h := h.2 (k_ne rfl (by decide) c38)
                    refine lv_iload_n hx hb dX5_step_238 rfl (lv_at hl 1 rfl) ?_
                    refine lv_bipush (v := 79) hx hb dX5_step_239 (by decide) ?_
                    refine lv_icmp_ne (tgt := 252) hx hb dX5_step_241 (by decide) (fun c39 => ?_) (fun c39 => ?_)
                    · replace h := h.2 (k_ne rfl (by decide) c39)
                      refine lv_aload_n hx hb dX5_step_252 rfl (lv_at hl 0 rfl) ?_
                      refine lv_iload_n hx hb dX5_step_253 rfl (lv_at hl 1 rfl) ?_
                      obtain ⟨Q40, h0, h⟩ := h
                      have hFc := cfree hR hA
                      refine va_callv (va_runV (As := [.int v225_1]) (rest := []) ⟨hx, hb, hml, hown, hts⟩ (rX5_move l g ad225 H.size U225 v225_1 hR.w  Q40 h0) (cwV 1 hts (gd_V kw_1177 kw_1101 kw_1102 kw_398 kw_1100) rfl rfl rfl (by decide +kernel) ⟨Nat.le_of_ble_eq_true rfl, Nat.le_of_ble_eq_true rfl⟩) ⟨cblind, va_recv hR.K hR.P (ci := 5) (q0 := 44) rfl (hR.at45 (hR.w.2.1 _ finC_29).2.1), fun U hU hW9 => cmk hU hW9 hR hex hE hFc⟩ rfl rfl hl.1 rfl (lv_room (Nat.le_of_ble_eq_true rfl)) dX5_step_254 ⟨(show dc225 + 0 ≤ KCC - qn S from hlg.c), (show ds225 + 0 ≤ KSC - qu S from hlg.s)⟩) hR.sS (fun q _ h => hFc q h) hFc (fun  S41 t9 H1 locs ht9 hvm9 hw9 hB9 hz9 hk9 hS => ?_)
                      obtain ⟨hq42, hw9, hs9⟩ := hw9
                      have hR : RepC g ad225 A s S41 H1 locs := hR.call ht9 hB9 hw9 hS hFc
                      have hsh := hsh.tr hs9.1
                      have hlg : lgC S S41 (dc225) (ds225) := hlg.same hs9
                      replace h := h  S41 hq42 hw9 hs9
                      clear hB9 hz9 hk9 hvm9 ht9 hw9 hs9 hS
                      generalize H1 = H at hR ⊢
                      refine lv_aload_n hx hb dX5_step_257 rfl (lv_at hl 0 rfl) ?_
                      refine lv_dup hx hb dX5_step_258 rfl ?_
                      refine va_get (D := rD g) (ci := 5) (v := .int (qI S41 44 13)) (C := RX5) (T := TX5) (N := 20) hx hb hts inX5 hown hR.K hR.P 44 (hR.at45 (hR.w.2.1 _ finC_29).2.1) rfl 13 (by decide) (hts _ kw_1021) (fun _ h9 => h9) rfl dX5_step_259 ?_
                      refine lv_iconst (v := 1) hx hb dX5_step_262 (by decide) ?_
                      refine lv_iadd hx hb dX5_step_263 ?_
                      refine lv_topi (fun z43 ez43 => ?_)
                      obtain rfl : z43 = ((qI S41 44 13) + (1 : Int32)) := ez43
                      refine va_put (D := rD g) (ci := 5) (v := .int ((qI S41 44 13) + (1 : Int32))) (ty := .int) (C := RX5) (T := TX5) (N := 20) hx hb hts inX5 tyX5 tyX5_ok nmX5 hown hR.K hR.P hR.D hR.sS 44 (hR.at45 (hR.w.2.1 _ finC_29).2.1) rfl 13 (by decide) (hts _ kw_1021) (fun _ h9 => h9) rfl (by decide +kernel) rfl rfl (Nat.le_of_ble_eq_true rfl) dX5_step_264 (fun H locs hP hD hS => ?_)
                      have hTk9 : qT S41 44 = 45 := (hR.w.2.1 _ finC_29).2.1
                      have hR : RepC g ad225 A s (wI S41 44 13 ((qI S41 44 13) + (1 : Int32))) H locs := hR.pI45 (hR.w.2.1 _ finC_29).2.1 FX5_s13 (fun q9 => absurd q9 (by decide)) hP hD hS
                      obtain ⟨S44, eS44⟩ : ∃ z, z = wI S41 44 13 ((qI S41 44 13) + (1 : Int32)) := ⟨_, rfl⟩
                      rw [← eS44] at hR
                      replace h := h S44 eS44 hTk9 hR.w
                      have hsh : shx S S44 := by rw [eS44]; exact hsh
                      have hlg : lgC S S44 (dc225) (ds225) := by rw [eS44]; exact hlg
                      refine W_led2 (fun hLd => ?_)
                      refine W.widen (k := KCC - qn S) (n := KSC - qu S) hlg.c hlg.s ?_
                      exact W.vret hx hb hr (fun t9 ht9 hW9 => ⟨⟨(S44, ad225), rfl, ⟨h, hR.w, hsh, hak⟩, ⟨⟨by rw [ht9]; exact hR.P, hR.D⟩, _, _, by rw [ht9]; exact hLd, hlg⟩⟩, hR.sS.F ht9⟩) hR.sS.2.2 dX5_step_267
                    · replace h := h.1 (k_eq rfl (by decide) c39)
                      exact J_244 ad225 (dc225) (ds225) U225 v225_1 _ _ ls h  hsh hlg hak hE hR (lv_sub hl [0, 1] rfl)
              refine lv_icmp_lt (tgt := 225) hx hb dX5_step_207 (by decide) (fun c45 => ?_) (fun c45 => ?_)
              · replace h := h.1 (k_lt rfl (by decide) c45)
                exact J_225 ad203 (dc203) (ds203) U203 v203_1 _ _ ls h  hsh hlg hak hE hR (lv_sub hl [0, 1] rfl)
              · replace h := h.2 (k_nlt rfl (by decide) c45)
                refine lv_iload_n hx hb dX5_step_210 rfl (lv_at hl 1 rfl) ?_
                refine lv_sipush (v := 177) hx hb dX5_step_211 (by decide) ?_
                refine lv_icmp_gt (tgt := 225) hx hb dX5_step_214 (by decide) (fun c46 => ?_) (fun c46 => ?_)
                · replace h := h.1 (k_lt (by decide) rfl c46)
                  exact J_225 ad203 (dc203) (ds203) U203 v203_1 _ _ ls h  hsh hlg hak hE hR (lv_sub hl [0, 1] rfl)
                · replace h := h.2 (k_nlt (by decide) rfl c46)
                  refine lv_aload_n hx hb dX5_step_217 rfl (lv_at hl 0 rfl) ?_
                  refine lv_iload_n hx hb dX5_step_218 rfl (lv_at hl 1 rfl) ?_
                  obtain ⟨Q47, h0, h⟩ := h
                  have hFc := cfree hR hA
                  refine va_callv (va_runV (As := [.int v203_1]) (rest := []) ⟨hx, hb, hml, hown, hts⟩ (rX5_leave l g ad203 H.size U203 v203_1 hR.w  Q47 h0) (cwV 1 hts (gd_V kw_1175 kw_1083 kw_1084 kw_398 kw_1082) rfl rfl rfl (by decide +kernel) ⟨Nat.le_of_ble_eq_true rfl, Nat.le_of_ble_eq_true rfl⟩) ⟨cblind, va_recv hR.K hR.P (ci := 5) (q0 := 44) rfl (hR.at45 (hR.w.2.1 _ finC_29).2.1), fun U hU hW9 => cmk hU hW9 hR hex hE hFc⟩ rfl rfl hl.1 rfl (lv_room (Nat.le_of_ble_eq_true rfl)) dX5_step_219 ⟨(show dc203 + 0 ≤ KCC - qn S from hlg.c), (show ds203 + 0 ≤ KSC - qu S from hlg.s)⟩) hR.sS (fun q _ h => hFc q h) hFc (fun  S48 t9 H1 locs ht9 hvm9 hw9 hB9 hz9 hk9 hS => ?_)
                  obtain ⟨hq49, hw9, hs9⟩ := hw9
                  have hR : RepC g ad203 A s S48 H1 locs := hR.call ht9 hB9 hw9 hS hFc
                  have hsh := hsh.tr hs9.1
                  have hlg : lgC S S48 (dc203) (ds203) := hlg.same hs9
                  replace h := h  S48 hq49 hw9 hs9
                  clear hB9 hz9 hk9 hvm9 ht9 hw9 hs9 hS
                  generalize H1 = H at hR ⊢
                  refine lv_goto (tgt := 267) hx hb dX5_step_222 (by decide) ?_
                  refine W_led2 (fun hLd => ?_)
                  refine W.widen (k := KCC - qn S) (n := KSC - qu S) hlg.c hlg.s ?_
                  exact W.vret hx hb hr (fun t9 ht9 hW9 => ⟨⟨(S48, ad203), rfl, ⟨h, hR.w, hsh, hak⟩, ⟨⟨by rw [ht9]; exact hR.P, hR.D⟩, _, _, by rw [ht9]; exact hLd, hlg⟩⟩, hR.sS.F ht9⟩) hR.sS.2.2 dX5_step_267
            refine lv_icmp_lt (tgt := 203) hx hb dX5_step_176 (by decide) (fun c50 => ?_) (fun c50 => ?_)
            · replace h := h.1 (k_lt rfl (by decide) c50)
              exact J_203 ad40 (dc40) (ds40) U40 v40_1 _ _ ls h  hsh hlg hak hE hR (lv_sub hl [0, 1] rfl)
            · replace h := h.2 (k_nlt rfl (by decide) c50)
              refine lv_iload_n hx hb dX5_step_179 rfl (lv_at hl 1 rfl) ?_
              refine lv_bipush (v := 95) hx hb dX5_step_180 (by decide) ?_
              refine lv_icmp_gt (tgt := 203) hx hb dX5_step_182 (by decide) (fun c51 => ?_) (fun c51 => ?_)
              · replace h := h.1 (k_lt (by decide) rfl c51)
                exact J_203 ad40 (dc40) (ds40) U40 v40_1 _ _ ls h  hsh hlg hak hE hR (lv_sub hl [0, 1] rfl)
              · replace h := h.2 (k_nlt (by decide) rfl c51)
                refine lv_aload_n hx hb dX5_step_185 rfl (lv_at hl 0 rfl) ?_
                refine lv_iload_n hx hb dX5_step_186 rfl (lv_at hl 1 rfl) ?_
                obtain ⟨Q52, h0, h⟩ := h
                have hFc := cfree hR hA
                refine va_callv (va_runV (As := [.int v40_1]) (rest := []) ⟨hx, hb, hml, hown, hts⟩ (rX5_shuffle l g ad40 H.size U40 v40_1 hR.w  Q52 h0) (cwV 1 hts (gd_V kw_1174 kw_1158 kw_1159 kw_398 kw_1157) rfl rfl rfl (by decide +kernel) ⟨Nat.le_of_ble_eq_true rfl, Nat.le_of_ble_eq_true rfl⟩) ⟨cblind, va_recv hR.K hR.P (ci := 5) (q0 := 44) rfl (hR.at45 (hR.w.2.1 _ finC_29).2.1), fun U hU hW9 => cmk hU hW9 hR hex hE hFc⟩ rfl rfl hl.1 rfl (lv_room (Nat.le_of_ble_eq_true rfl)) dX5_step_187 ⟨(show dc40 + 0 ≤ KCC - qn S from hlg.c), (show ds40 + 0 ≤ KSC - qu S from hlg.s)⟩) hR.sS (fun q _ h => hFc q h) hFc (fun  S53 t9 H1 locs ht9 hvm9 hw9 hB9 hz9 hk9 hS => ?_)
                obtain ⟨hq54, hw9, hs9⟩ := hw9
                have hR : RepC g ad40 A s S53 H1 locs := hR.call ht9 hB9 hw9 hS hFc
                have hsh := hsh.tr hs9.1
                have hlg : lgC S S53 (dc40) (ds40) := hlg.same hs9
                replace h := h  S53 hq54 hw9 hs9
                clear hB9 hz9 hk9 hvm9 ht9 hw9 hs9 hS
                generalize H1 = H at hR ⊢
                refine lv_aload_n hx hb dX5_step_190 rfl (lv_at hl 0 rfl) ?_
                refine lv_dup hx hb dX5_step_191 rfl ?_
                refine va_get (D := rD g) (ci := 5) (v := .int (qI S53 44 13)) (C := RX5) (T := TX5) (N := 20) hx hb hts inX5 hown hR.K hR.P 44 (hR.at45 (hR.w.2.1 _ finC_29).2.1) rfl 13 (by decide) (hts _ kw_1021) (fun _ h9 => h9) rfl dX5_step_192 ?_
                refine lv_iconst (v := 1) hx hb dX5_step_195 (by decide) ?_
                refine lv_iadd hx hb dX5_step_196 ?_
                refine lv_topi (fun z55 ez55 => ?_)
                obtain rfl : z55 = ((qI S53 44 13) + (1 : Int32)) := ez55
                refine va_put (D := rD g) (ci := 5) (v := .int ((qI S53 44 13) + (1 : Int32))) (ty := .int) (C := RX5) (T := TX5) (N := 20) hx hb hts inX5 tyX5 tyX5_ok nmX5 hown hR.K hR.P hR.D hR.sS 44 (hR.at45 (hR.w.2.1 _ finC_29).2.1) rfl 13 (by decide) (hts _ kw_1021) (fun _ h9 => h9) rfl (by decide +kernel) rfl rfl (Nat.le_of_ble_eq_true rfl) dX5_step_197 (fun H locs hP hD hS => ?_)
                have hTk9 : qT S53 44 = 45 := (hR.w.2.1 _ finC_29).2.1
                have hR : RepC g ad40 A s (wI S53 44 13 ((qI S53 44 13) + (1 : Int32))) H locs := hR.pI45 (hR.w.2.1 _ finC_29).2.1 FX5_s13 (fun q9 => absurd q9 (by decide)) hP hD hS
                obtain ⟨S56, eS56⟩ : ∃ z, z = wI S53 44 13 ((qI S53 44 13) + (1 : Int32)) := ⟨_, rfl⟩
                rw [← eS56] at hR
                replace h := h S56 eS56 hTk9 hR.w
                have hsh : shx S S56 := by rw [eS56]; exact hsh
                have hlg : lgC S S56 (dc40) (ds40) := by rw [eS56]; exact hlg
                refine lv_goto (tgt := 267) hx hb dX5_step_200 (by decide) ?_
                refine W_led2 (fun hLd => ?_)
                refine W.widen (k := KCC - qn S) (n := KSC - qu S) hlg.c hlg.s ?_
                exact W.vret hx hb hr (fun t9 ht9 hW9 => ⟨⟨(S56, ad40), rfl, ⟨h, hR.w, hsh, hak⟩, ⟨⟨by rw [ht9]; exact hR.P, hR.D⟩, _, _, by rw [ht9]; exact hLd, hlg⟩⟩, hR.sS.F ht9⟩) hR.sS.2.2 dX5_step_267
          · replace h := h.2 (k_ne rfl (by decide) c32)
            refine lv_aload_n hx hb dX5_step_145 rfl (lv_at hl 0 rfl) ?_
            refine lv_aload_n hx hb dX5_step_146 rfl (lv_at hl 0 rfl) ?_
            obtain ⟨hv58, h⟩ := h
            have hT_b57 : qT U40 (qO U40 44 12) = 47 := hR.w.ref hv58 (hR.w.2.1 _ finC_29).2.1
            refine va_get (D := rD g) (ci := 5) (v := .ref (ad40 (qO U40 44 12))) (C := RX5) (T := TX5) (N := 20) hx hb hts inX5 hown hR.K hR.P 44 (hR.at45 (hR.w.2.1 _ finC_29).2.1) rfl 12 (by decide) (hts _ kw_1030) (fun _ h9 => h9) (congrArg (fun z => some (vf ad40 z)) hv58) dX5_step_147 ?_
            refine lv_aload_n hx hb dX5_step_150 rfl (lv_at hl 0 rfl) ?_
            refine va_get (D := rD g) (ci := 5) (v := .int (qI U40 44 13)) (C := RX5) (T := TX5) (N := 20) hx hb hts inX5 hown hR.K hR.P 44 (hR.at45 (hR.w.2.1 _ finC_29).2.1) rfl 13 (by decide) (hts _ kw_1021) (fun _ h9 => h9) rfl dX5_step_151 ?_
            refine lv_aload_n hx hb dX5_step_154 rfl (lv_at hl 0 rfl) ?_
            refine lv_iload_n hx hb dX5_step_155 rfl (lv_at hl 1 rfl) ?_
            refine lv_aload_n hx hb dX5_step_156 rfl (lv_at hl 0 rfl) ?_
            obtain ⟨Q59, h0, h⟩ := h
            have hFc := cfree hR hA
            refine va_calll (va_runV (As := []) (rest := [.int v40_1, .ref (ad40 44), .int (qI U40 44 13), .ref (ad40 (qO U40 44 12)), .ref (ad40 44)]) ⟨hx, hb, hml, hown, hts⟩ (rX5_pop l g ad40 H.size U40 hR.w  Q59 h0) (cwV 0 hts (gd_V kw_1080 kw_1124 kw_1125 kw_398 kw_1123) rfl rfl rfl (by decide +kernel) ⟨Nat.le_of_ble_eq_true rfl, Nat.le_of_ble_eq_true rfl⟩) ⟨cblind, va_recv hR.K hR.P (ci := 5) (q0 := 44) rfl (hR.at45 (hR.w.2.1 _ finC_29).2.1), fun U hU hW9 => cmk hU hW9 hR hex hE hFc⟩ rfl rfl hl.1 rfl (lv_room (Nat.le_of_ble_eq_true rfl)) dX5_step_157 ⟨(show dc40 + 0 ≤ KCC - qn S from hlg.c), (show ds40 + 0 ≤ KSC - qu S from hlg.s)⟩) hR.sS (fun q _ h => hFc q h) hFc (fun r60 S61 t9 H1 locs ht9 hvm9 hw9 hB9 hz9 hk9 hS => ?_)
            obtain ⟨hq62, hw9, hs9⟩ := hw9
            have hR : RepC g ad40 A s S61 H1 locs := hR.call ht9 hB9 hw9 hS hFc
            have hsh := hsh.tr hs9.1
            have hlg : lgC S S61 (dc40) (ds40) := hlg.same hs9
            replace h := h r60 S61 hq62 hw9 hs9
            have hT_b57 := hs9.T hT_b57 (by decide)
            clear hB9 hz9 hk9 hvm9 ht9 hw9 hs9 hS
            generalize H1 = H at hR ⊢
            refine lv_l2i (v := (r60.toInt32)) hx hb dX5_step_160 rfl ?_
            obtain ⟨Q63, h0, h⟩ := h
            have hFc := cfree hR hA
            refine va_calli (va_runV (As := [.int v40_1, .int (r60.toInt32)]) (rest := [.int (qI U40 44 13), .ref (ad40 (qO U40 44 12)), .ref (ad40 44)]) ⟨hx, hb, hml, hown, hts⟩ (rX5_switchChoice l g ad40 H.size S61 v40_1 (r60.toInt32) hR.w  Q63 h0) (cwV 2 hts (gd_V kw_1172 kw_1179 kw_1180 kw_398 kw_1178) rfl rfl rfl (by decide +kernel) ⟨Nat.le_of_ble_eq_true rfl, Nat.le_of_ble_eq_true rfl⟩) ⟨cblind, va_recv hR.K hR.P (ci := 5) (q0 := 44) rfl (hR.at45 (hR.w.2.1 _ finC_29).2.1), fun U hU hW9 => cmk hU hW9 hR hex hE hFc⟩ rfl rfl hl.1 rfl (lv_room (Nat.le_of_ble_eq_true rfl)) dX5_step_161 ⟨(show dc40 + 0 ≤ KCC - qn S from hlg.c), (show ds40 + 0 ≤ KSC - qu S from hlg.s)⟩) hR.sS (fun q _ h => hFc q h) hFc (fun r64 S65 t9 H1 locs ht9 hvm9 hw9 hB9 hz9 hk9 hS => ?_)
            obtain ⟨hq66, hw9, hs9⟩ := hw9
            have hR : RepC g ad40 A s S65 H1 locs := hR.call ht9 hB9 hw9 hS hFc
            have hsh := hsh.tr hs9.1
            have hlg : lgC S S65 (dc40) (ds40) := hlg.same hs9
            replace h := h r64 S65 hq66 hw9 hs9
            have hT_b57 := hs9.T hT_b57 (by decide)
            clear hB9 hz9 hk9 hvm9 ht9 hw9 hs9 hS
            generalize H1 = H at hR ⊢
            obtain ⟨hv67, h⟩ := h
            have hFc := cfree hR hA
            refine va_calli (va_runV (As := [.int (qI U40 44 13), .int r64]) (rest := [.ref (ad40 44)]) ⟨hx, hb, hml, hown, hts⟩ (rX8_targetAt l g ad40 H.size S65 (qO U40 44 12) (qI U40 44 13) r64 hR.w hT_b57 hv67) (cwV 2 hts (gd_V kw_1173 kw_1537 kw_1538 kw_782 kw_1536) rfl rfl rfl (by decide +kernel) ⟨Nat.le_of_ble_eq_true rfl, Nat.le_of_ble_eq_true rfl⟩) ⟨cblind, va_recv hR.K hR.P (ci := 7) (q0 := (qO U40 44 12)) rfl (hR.at47 hT_b57), fun U hU hW9 => cmk hU hW9 hR hex hE hFc⟩ rfl rfl hl.1 rfl (lv_room (Nat.le_of_ble_eq_true rfl)) dX5_step_164 ⟨(show dc40 + 0 ≤ KCC - qn S from hlg.c), (show ds40 + 0 ≤ KSC - qu S from hlg.s)⟩) hR.sS (fun q _ h => hFc q h) hFc (fun r68 u9 t9 H1 locs ht9 hvm9 hw9 hB9 hz9 hk9 hS => ?_)
            have hR : RepC g ad40 A s S65 H1 locs := hR.call ht9 hB9 hR.w hS hFc
            obtain rfl : r68 = (fX8_targetAt S65 (qO U40 44 12) (qI U40 44 13) r64) := hw9
            clear hB9 hz9 hk9 hvm9 ht9 hS
            generalize H1 = H at hR ⊢
            obtain ⟨a70, ea70⟩ : ∃ z, z = (fX8_targetAt S65 (qO U40 44 12) (qI U40 44 13) r64) := ⟨_, rfl⟩
            rw [← ea70]
            replace h := h a70 ea70
            refine va_put (D := rD g) (ci := 5) (v := .int a70) (ty := .int) (C := RX5) (T := TX5) (N := 20) hx hb hts inX5 tyX5 tyX5_ok nmX5 hown hR.K hR.P hR.D hR.sS 44 (hR.at45 (hR.w.2.1 _ finC_29).2.1) rfl 13 (by decide) (hts _ kw_1021) (fun _ h9 => h9) rfl (by decide +kernel) rfl rfl (Nat.le_of_ble_eq_true rfl) dX5_step_167 (fun H locs hP hD hS => ?_)
            have hTk9 : qT S65 44 = 45 := (hR.w.2.1 _ finC_29).2.1
            have hR : RepC g ad40 A s (wI S65 44 13 a70) H locs := hR.pI45 (hR.w.2.1 _ finC_29).2.1 FX5_s13 (fun q9 => absurd q9 (by decide)) hP hD hS
            obtain ⟨S71, eS71⟩ : ∃ z, z = wI S65 44 13 a70 := ⟨_, rfl⟩
            rw [← eS71] at hR
            replace h := h S71 eS71 hTk9 hR.w
            have hsh : shx S S71 := by rw [eS71]; exact hsh
            have hlg : lgC S S71 (dc40) (ds40) := by rw [eS71]; exact hlg
            refine lv_goto (tgt := 267) hx hb dX5_step_170 (by decide) ?_
            refine W_led2 (fun hLd => ?_)
            refine W.widen (k := KCC - qn S) (n := KSC - qu S) hlg.c hlg.s ?_
            exact W.vret hx hb hr (fun t9 ht9 hW9 => ⟨⟨(S71, ad40), rfl, ⟨h, hR.w, hsh, hak⟩, ⟨⟨by rw [ht9]; exact hR.P, hR.D⟩, _, _, by rw [ht9]; exact hLd, hlg⟩⟩, hR.sS.F ht9⟩) hR.sS.2.2 dX5_step_267
        · replace h := h.2 (k_ne rfl (by decide) c27)
          refine lv_aload_n hx hb dX5_step_102 rfl (lv_at hl 0 rfl) ?_
          refine lv_aload_n hx hb dX5_step_103 rfl (lv_at hl 0 rfl) ?_
          refine lv_iload_n hx hb dX5_step_104 rfl (lv_at hl 1 rfl) ?_
          obtain ⟨Q72, h0, h⟩ := h
          have hFc := cfree hR hA
          refine va_calli (va_runV (As := [.int v40_1]) (rest := [.ref (ad40 44)]) ⟨hx, hb, hml, hown, hts⟩ (rX5_isJumpTaken l g ad40 H.size U40 v40_1 hR.w  Q72 h0) (cwV 1 hts (gd_V kw_1170 kw_1078 kw_1079 kw_398 kw_1077) rfl rfl rfl (by decide +kernel) ⟨Nat.le_of_ble_eq_true rfl, Nat.le_of_ble_eq_true rfl⟩) ⟨cblind, va_recv hR.K hR.P (ci := 5) (q0 := 44) rfl (hR.at45 (hR.w.2.1 _ finC_29).2.1), fun U hU hW9 => cmk hU hW9 hR hex hE hFc⟩ rfl rfl hl.1 rfl (lv_room (Nat.le_of_ble_eq_true rfl)) dX5_step_105 ⟨(show dc40 + 0 ≤ KCC - qn S from hlg.c), (show ds40 + 0 ≤ KSC - qu S from hlg.s)⟩) hR.sS (fun q _ h => hFc q h) hFc (fun r73 S74 t9 H1 locs ht9 hvm9 hw9 hB9 hz9 hk9 hS => ?_)
          obtain ⟨hq75, hw9, hs9, hz_r73⟩ := hw9
          have hR : RepC g ad40 A s S74 H1 locs := hR.call ht9 hB9 hw9 hS hFc
          have hsh := hsh.tr hs9.1
          have hlg : lgC S S74 (dc40) (ds40) := hlg.same hs9
          replace h := h r73 S74 hq75 hw9 hs9
          clear hB9 hz9 hk9 hvm9 ht9 hw9 hs9 hS
          generalize H1 = H at hR ⊢
          have J_132 : ∀ (ad132 : Nat → Nat) (dc132 ds132 : Nat) (U132 : MS) (t132_0 : Int32) (H : Heap) (locs : List Loc) (ls : Array Slot), w_X5_step_J132 Q U132 t132_0 → shx S U132 → lgC S U132 dc132 ds132 → adk ad ad132 S → ogC ad132 A s s.heap → RepC g ad132 A s U132 H locs → lv_has ls 2 [] → W p l e (headSpec (wt yX5_step cX5_step 2 none) ({ frames := 5, cells := KCC - qn S, slots := KSC - qu S, locals := 114 })).room s m ([.ref (ad 44)] : List Value).toArray below meth c H locs dc132 ds132 (MQ below (va_Qv (fun (u : MS × (Nat → Nat)) => Q u.1 ∧ wfC u.1 ∧ shx S u.1 ∧ adk ad u.2 S) (fun (u : MS × (Nat → Nat)) (t : State) => qEHC g A S s.heap u t) A) ([.ref (ad 44)] : List Value).toArray s (KCC - qn S) (KSC - qu S) A) (F0 m 132 ls [.int t132_0, .ref (ad132 44)]) := by
            intro ad132 dc132 ds132 U132 t132_0 H locs ls h hsh hlg hak hE hR hl
            unfold w_X5_step_J132 at h
            replace h := h hR.w
            refine va_put (D := rD g) (ci := 5) (v := .int t132_0) (ty := .int) (C := RX5) (T := TX5) (N := 20) hx hb hts inX5 tyX5 tyX5_ok nmX5 hown hR.K hR.P hR.D hR.sS 44 (hR.at45 (hR.w.2.1 _ finC_29).2.1) rfl 13 (by decide) (hts _ kw_1021) (fun _ h9 => h9) rfl (by decide +kernel) rfl rfl (Nat.le_of_ble_eq_true rfl) dX5_step_132 (fun H locs hP hD hS => ?_)
            have hTk9 : qT U132 44 = 45 := (hR.w.2.1 _ finC_29).2.1
            have hR : RepC g ad132 A s (wI U132 44 13 t132_0) H locs := hR.pI45 (hR.w.2.1 _ finC_29).2.1 FX5_s13 (fun q9 => absurd q9 (by decide)) hP hD hS
            obtain ⟨S76, eS76⟩ : ∃ z, z = wI U132 44 13 t132_0 := ⟨_, rfl⟩
            rw [← eS76] at hR
            replace h := h S76 eS76 hTk9 hR.w
            have hsh : shx S S76 := by rw [eS76]; exact hsh
            have hlg : lgC S S76 (dc132) (ds132) := by rw [eS76]; exact hlg
            refine lv_goto (tgt := 267) hx hb dX5_step_135 (by decide) ?_
            refine W_led2 (fun hLd => ?_)
            refine W.widen (k := KCC - qn S) (n := KSC - qu S) hlg.c hlg.s ?_
            exact W.vret hx hb hr (fun t9 ht9 hW9 => ⟨⟨(S76, ad132), rfl, ⟨h, hR.w, hsh, hak⟩, ⟨⟨by rw [ht9]; exact hR.P, hR.D⟩, _, _, by rw [ht9]; exact hLd, hlg⟩⟩, hR.sS.F ht9⟩) hR.sS.2.2 dX5_step_267
          refine lv_if_eq (tgt := 126) hx hb dX5_step_108 (by decide) (fun c77 => ?_) (fun c77 => ?_)
          · replace h := h.1 (k_eq rfl (by decide) c77)
            refine lv_aload_n hx hb dX5_step_126 rfl (lv_at hl 0 rfl) ?_
            refine va_get (D := rD g) (ci := 5) (v := .int (qI S74 44 13)) (C := RX5) (T := TX5) (N := 20) hx hb hts inX5 hown hR.K hR.P 44 (hR.at45 (hR.w.2.1 _ finC_29).2.1) rfl 13 (by decide) (hts _ kw_1021) (fun _ h9 => h9) rfl dX5_step_127 ?_
            refine lv_iconst (v := 1) hx hb dX5_step_130 (by decide) ?_
            refine lv_iadd hx hb dX5_step_131 ?_
            refine lv_topi (fun z78 ez78 => ?_)
            obtain rfl : z78 = ((qI S74 44 13) + (1 : Int32)) := ez78
            exact J_132 ad40 (dc40) (ds40) S74 ((qI S74 44 13) + (1 : Int32)) _ _ ls h  hsh hlg hak hE hR (lv_sub hl [] rfl)
          · replace h := h.2 (k_ne rfl (by decide) c77)
            refine lv_aload_n hx hb dX5_step_111 rfl (lv_at hl 0 rfl) ?_
            obtain ⟨hv80, h⟩ := h
            have hT_b79 : qT S74 (qO S74 44 12) = 47 := hR.w.ref hv80 (hR.w.2.1 _ finC_29).2.1
            refine va_get (D := rD g) (ci := 5) (v := .ref (ad40 (qO S74 44 12))) (C := RX5) (T := TX5) (N := 20) hx hb hts inX5 hown hR.K hR.P 44 (hR.at45 (hR.w.2.1 _ finC_29).2.1) rfl 12 (by decide) (hts _ kw_1030) (fun _ h9 => h9) (congrArg (fun z => some (vf ad40 z)) hv80) dX5_step_112 ?_
            refine lv_aload_n hx hb dX5_step_115 rfl (lv_at hl 0 rfl) ?_
            refine va_get (D := rD g) (ci := 5) (v := .int (qI S74 44 13)) (C := RX5) (T := TX5) (N := 20) hx hb hts inX5 hown hR.K hR.P 44 (hR.at45 (hR.w.2.1 _ finC_29).2.1) rfl 13 (by decide) (hts _ kw_1021) (fun _ h9 => h9) rfl dX5_step_116 ?_
            obtain ⟨hv81, h⟩ := h
            have hFc := cfree hR hA
            refine va_calll (va_runV (As := [.int (qI S74 44 13)]) (rest := [.ref (ad40 44)]) ⟨hx, hb, hml, hown, hts⟩ (rX8_argAt l g ad40 H.size S74 (qO S74 44 12) (qI S74 44 13) hR.w hT_b79 hv81) (cwV 1 hts (gd_V kw_1104 kw_1476 kw_1477 kw_782 kw_1475) rfl rfl rfl (by decide +kernel) ⟨Nat.le_of_ble_eq_true rfl, Nat.le_of_ble_eq_true rfl⟩) ⟨cblind, va_recv hR.K hR.P (ci := 7) (q0 := (qO S74 44 12)) rfl (hR.at47 hT_b79), fun U hU hW9 => cmk hU hW9 hR hex hE hFc⟩ rfl rfl hl.1 rfl (lv_room (Nat.le_of_ble_eq_true rfl)) dX5_step_119 ⟨(show dc40 + 0 ≤ KCC - qn S from hlg.c), (show ds40 + 0 ≤ KSC - qu S from hlg.s)⟩) hR.sS (fun q _ h => hFc q h) hFc (fun r82 u9 t9 H1 locs ht9 hvm9 hw9 hB9 hz9 hk9 hS => ?_)
            have hR : RepC g ad40 A s S74 H1 locs := hR.call ht9 hB9 hR.w hS hFc
            obtain rfl : r82 = (fX8_argAt S74 (qO S74 44 12) (qI S74 44 13)) := hw9
            clear hB9 hz9 hk9 hvm9 ht9 hS
            generalize H1 = H at hR ⊢
            obtain ⟨a84, ea84⟩ : ∃ z, z = (fX8_argAt S74 (qO S74 44 12) (qI S74 44 13)) := ⟨_, rfl⟩
            rw [← ea84]
            replace h := h a84 ea84
            refine lv_l2i (v := (a84.toInt32)) hx hb dX5_step_122 rfl ?_
            refine lv_goto (tgt := 132) hx hb dX5_step_123 (by decide) ?_
            exact J_132 ad40 (dc40) (ds40) S74 (a84.toInt32) _ _ ls h  hsh hlg hak hE hR (lv_sub hl [] rfl)
      · replace h := h.2 (k_ne rfl (by decide) c22)
        refine lv_aload_n hx hb dX5_step_62 rfl (lv_at hl 0 rfl) ?_
        refine lv_iload_n hx hb dX5_step_63 rfl (lv_at hl 1 rfl) ?_
        obtain ⟨hv85, h⟩ := h
        have hFc := cfree hR hA
        refine va_calli (va_runS (As := [.int v40_1]) (rest := [.ref (ad40 44)]) ⟨hx, hb, hml, hown, hts⟩ (rX6_gives l g ad40 H.size U40 v40_1 hR.w  hv85) (va_cwS 1 hts (gd_S kw_1018 kw_1216 kw_1207 kw_1215) rfl rfl rfl (by decide +kernel) ⟨Nat.le_of_ble_eq_true rfl, Nat.le_of_ble_eq_true rfl⟩) ⟨cblind, fun U hU hW9 => cmk hU hW9 hR hex hE hFc⟩ rfl rfl hl.1 rfl (lv_room (Nat.le_of_ble_eq_true rfl)) dX5_step_64 ⟨(show dc40 + 0 ≤ KCC - qn S from hlg.c), (show ds40 + 0 ≤ KSC - qu S from hlg.s)⟩) hR.sS (fun q _ h => hFc q h) hFc (fun r86 u9 t9 H1 locs ht9 hvm9 hw9 hB9 hz9 hk9 hS => ?_)
        have hR : RepC g ad40 A s U40 H1 locs := hR.call ht9 hB9 hR.w hS hFc
        obtain rfl : r86 = (fX6_gives U40 v40_1) := hw9
        clear hB9 hz9 hk9 hvm9 ht9 hS
        generalize H1 = H at hR ⊢
        obtain ⟨a88, ea88⟩ : ∃ z, z = (fX6_gives U40 v40_1) := ⟨_, rfl⟩
        rw [← ea88]
        replace h := h a88 ea88
        refine lv_iload_n hx hb dX5_step_67 rfl (lv_at hl 1 rfl) ?_
        refine lv_aload_n hx hb dX5_step_68 rfl (lv_at hl 0 rfl) ?_
        refine lv_iload_n hx hb dX5_step_69 rfl (lv_at hl 1 rfl) ?_
        obtain ⟨hv89, h⟩ := h
        have hFc := cfree hR hA
        refine va_calli (va_runS (As := [.int v40_1]) (rest := [.ref (ad40 44), .int v40_1, .int a88, .ref (ad40 44)]) ⟨hx, hb, hml, hown, hts⟩ (rX6_takes l g ad40 H.size U40 v40_1 hR.w  hv89) (va_cwS 1 hts (gd_S kw_1014 kw_1255 kw_1207 kw_1254) rfl rfl rfl (by decide +kernel) ⟨Nat.le_of_ble_eq_true rfl, Nat.le_of_ble_eq_true rfl⟩) ⟨cblind, fun U hU hW9 => cmk hU hW9 hR hex hE hFc⟩ rfl rfl hl.1 rfl (lv_room (Nat.le_of_ble_eq_true rfl)) dX5_step_70 ⟨(show dc40 + 0 ≤ KCC - qn S from hlg.c), (show ds40 + 0 ≤ KSC - qu S from hlg.s)⟩) hR.sS (fun q _ h => hFc q h) hFc (fun r90 u9 t9 H1 locs ht9 hvm9 hw9 hB9 hz9 hk9 hS => ?_)
        have hR : RepC g ad40 A s U40 H1 locs := hR.call ht9 hB9 hR.w hS hFc
        obtain rfl : r90 = (fX6_takes U40 v40_1) := hw9
        clear hB9 hz9 hk9 hvm9 ht9 hS
        generalize H1 = H at hR ⊢
        obtain ⟨a92, ea92⟩ : ∃ z, z = (fX6_takes U40 v40_1) := ⟨_, rfl⟩
        rw [← ea92]
        replace h := h a92 ea92
        obtain ⟨Q93, h0, h⟩ := h
        have hFc := cfree hR hA
        refine va_calll (va_runV (As := [.int a92]) (rest := [.int v40_1, .int a88, .ref (ad40 44)]) ⟨hx, hb, hml, hown, hts⟩ (rX5_pop_ l g ad40 H.size U40 a92 hR.w  Q93 h0) (cwV 1 hts (gd_V kw_1015 kw_1127 kw_1128 kw_398 kw_1126) rfl rfl rfl (by decide +kernel) ⟨Nat.le_of_ble_eq_true rfl, Nat.le_of_ble_eq_true rfl⟩) ⟨cblind, va_recv hR.K hR.P (ci := 5) (q0 := 44) rfl (hR.at45 (hR.w.2.1 _ finC_29).2.1), fun U hU hW9 => cmk hU hW9 hR hex hE hFc⟩ rfl rfl hl.1 rfl (lv_room (Nat.le_of_ble_eq_true rfl)) dX5_step_73 ⟨(show dc40 + 0 ≤ KCC - qn S from hlg.c), (show ds40 + 0 ≤ KSC - qu S from hlg.s)⟩) hR.sS (fun q _ h => hFc q h) hFc (fun r94 S95 t9 H1 locs ht9 hvm9 hw9 hB9 hz9 hk9 hS => ?_)
        obtain ⟨hq96, hw9, hs9⟩ := hw9
        have hR : RepC g ad40 A s S95 H1 locs := hR.call ht9 hB9 hw9 hS hFc
        have hsh := hsh.tr hs9.1
        have hlg : lgC S S95 (dc40) (ds40) := hlg.same hs9
        replace h := h r94 S95 hq96 hw9 hs9
        clear hB9 hz9 hk9 hvm9 ht9 hw9 hs9 hS
        generalize H1 = H at hR ⊢
        obtain ⟨hv97, h⟩ := h
        have hFc := cfree hR hA
        refine va_calll (va_runS (As := [.int v40_1, .long r94]) (rest := [.int a88, .ref (ad40 44)]) ⟨hx, hb, hml, hown, hts⟩ (rX6_unary l g ad40 H.size S95 v40_1 r94 hR.w  hv97) (va_cwS 2 hts (gd_S kw_1168 kw_1258 kw_1207 kw_1257) rfl rfl rfl (by decide +kernel) ⟨Nat.le_of_ble_eq_true rfl, Nat.le_of_ble_eq_true rfl⟩) ⟨cblind, fun U hU hW9 => cmk hU hW9 hR hex hE hFc⟩ rfl rfl hl.1 rfl (lv_room (Nat.le_of_ble_eq_true rfl)) dX5_step_76 ⟨(show dc40 + 0 ≤ KCC - qn S from hlg.c), (show ds40 + 0 ≤ KSC - qu S from hlg.s)⟩) hR.sS (fun q _ h => hFc q h) hFc (fun r98 u9 t9 H1 locs ht9 hvm9 hw9 hB9 hz9 hk9 hS => ?_)
        have hR : RepC g ad40 A s S95 H1 locs := hR.call ht9 hB9 hR.w hS hFc
        obtain rfl : r98 = (fX6_unary S95 v40_1 r94) := hw9
        clear hB9 hz9 hk9 hvm9 ht9 hS
        generalize H1 = H at hR ⊢
        obtain ⟨a100, ea100⟩ : ∃ z, z = (fX6_unary S95 v40_1 r94) := ⟨_, rfl⟩
        rw [← ea100]
        replace h := h a100 ea100
        obtain ⟨Q101, h0, h⟩ := h
        have hFc := cfree hR hA
        refine va_callv (va_runV (As := [.int a88, .long a100]) (rest := []) ⟨hx, hb, hml, hown, hts⟩ (rX5_push_ l g ad40 H.size S95 a88 a100 hR.w  Q101 h0) (cwV 2 hts (gd_V kw_1020 kw_1133 kw_1134 kw_398 kw_1132) rfl rfl rfl (by decide +kernel) ⟨Nat.le_of_ble_eq_true rfl, Nat.le_of_ble_eq_true rfl⟩) ⟨cblind, va_recv hR.K hR.P (ci := 5) (q0 := 44) rfl (hR.at45 (hR.w.2.1 _ finC_29).2.1), fun U hU hW9 => cmk hU hW9 hR hex hE hFc⟩ rfl rfl hl.1 rfl (lv_room (Nat.le_of_ble_eq_true rfl)) dX5_step_79 ⟨(show dc40 + 0 ≤ KCC - qn S from hlg.c), (show ds40 + 0 ≤ KSC - qu S from hlg.s)⟩) hR.sS (fun q _ h => hFc q h) hFc (fun  S102 t9 H1 locs ht9 hvm9 hw9 hB9 hz9 hk9 hS => ?_)
        obtain ⟨hq103, hw9, hs9⟩ := hw9
        have hR : RepC g ad40 A s S102 H1 locs := hR.call ht9 hB9 hw9 hS hFc
        have hsh := hsh.tr hs9.1
        have hlg : lgC S S102 (dc40) (ds40) := hlg.same hs9
        replace h := h  S102 hq103 hw9 hs9
        clear hB9 hz9 hk9 hvm9 ht9 hw9 hs9 hS
        generalize H1 = H at hR ⊢
        refine lv_aload_n hx hb dX5_step_82 rfl (lv_at hl 0 rfl) ?_
        refine lv_dup hx hb dX5_step_83 rfl ?_
        refine va_get (D := rD g) (ci := 5) (v := .int (qI S102 44 13)) (C := RX5) (T := TX5) (N := 20) hx hb hts inX5 hown hR.K hR.P 44 (hR.at45 (hR.w.2.1 _ finC_29).2.1) rfl 13 (by decide) (hts _ kw_1021) (fun _ h9 => h9) rfl dX5_step_84 ?_
        refine lv_iconst (v := 1) hx hb dX5_step_87 (by decide) ?_
        refine lv_iadd hx hb dX5_step_88 ?_
        refine lv_topi (fun z104 ez104 => ?_)
        obtain rfl : z104 = ((qI S102 44 13) + (1 : Int32)) := ez104
        refine va_put (D := rD g) (ci := 5) (v := .int ((qI S102 44 13) + (1 : Int32))) (ty := .int) (C := RX5) (T := TX5) (N := 20) hx hb hts inX5 tyX5 tyX5_ok nmX5 hown hR.K hR.P hR.D hR.sS 44 (hR.at45 (hR.w.2.1 _ finC_29).2.1) rfl 13 (by decide) (hts _ kw_1021) (fun _ h9 => h9) rfl (by decide +kernel) rfl rfl (Nat.le_of_ble_eq_true rfl) dX5_step_89 (fun H locs hP hD hS => ?_)
        have hTk9 : qT S102 44 = 45 := (hR.w.2.1 _ finC_29).2.1
        have hR : RepC g ad40 A s (wI S102 44 13 ((qI S102 44 13) + (1 : Int32))) H locs := hR.pI45 (hR.w.2.1 _ finC_29).2.1 FX5_s13 (fun q9 => absurd q9 (by decide)) hP hD hS
        obtain ⟨S105, eS105⟩ : ∃ z, z = wI S102 44 13 ((qI S102 44 13) + (1 : Int32)) := ⟨_, rfl⟩
        rw [← eS105] at hR
        replace h := h S105 eS105 hTk9 hR.w
        have hsh : shx S S105 := by rw [eS105]; exact hsh
        have hlg : lgC S S105 (dc40) (ds40) := by rw [eS105]; exact hlg
        refine lv_goto (tgt := 267) hx hb dX5_step_92 (by decide) ?_
        refine W_led2 (fun hLd => ?_)
        refine W.widen (k := KCC - qn S) (n := KSC - qu S) hlg.c hlg.s ?_
        exact W.vret hx hb hr (fun t9 ht9 hW9 => ⟨⟨(S105, ad40), rfl, ⟨h, hR.w, hsh, hak⟩, ⟨⟨by rw [ht9]; exact hR.P, hR.D⟩, _, _, by rw [ht9]; exact hLd, hlg⟩⟩, hR.sS.F ht9⟩) hR.sS.2.2 dX5_step_267
    · replace h := h.2 (k_ne rfl (by decide) c17)
      refine lv_aload_n hx hb dX5_step_47 rfl (lv_at hl 0 rfl) ?_
      refine lv_iload_n hx hb dX5_step_48 rfl (lv_at hl 1 rfl) ?_
      obtain ⟨Q106, h0, h⟩ := h
      have hFc := cfree hR hA
      refine va_callv (va_runV (As := [.int v40_1]) (rest := []) ⟨hx, hb, hml, hown, hts⟩ (rX5_calculate l g ad40 H.size U40 v40_1 hR.w  Q106 h0) (cwV 1 hts (gd_V kw_1166 kw_1012 kw_1013 kw_398 kw_1011) rfl rfl rfl (by decide +kernel) ⟨Nat.le_of_ble_eq_true rfl, Nat.le_of_ble_eq_true rfl⟩) ⟨cblind, va_recv hR.K hR.P (ci := 5) (q0 := 44) rfl (hR.at45 (hR.w.2.1 _ finC_29).2.1), fun U hU hW9 => cmk hU hW9 hR hex hE hFc⟩ rfl rfl hl.1 rfl (lv_room (Nat.le_of_ble_eq_true rfl)) dX5_step_49 ⟨(show dc40 + 0 ≤ KCC - qn S from hlg.c), (show ds40 + 0 ≤ KSC - qu S from hlg.s)⟩) hR.sS (fun q _ h => hFc q h) hFc (fun  S107 t9 H1 locs ht9 hvm9 hw9 hB9 hz9 hk9 hS => ?_)
      obtain ⟨hq108, hw9, hs9⟩ := hw9
      have hR : RepC g ad40 A s S107 H1 locs := hR.call ht9 hB9 hw9 hS hFc
      have hsh := hsh.tr hs9.1
      have hlg : lgC S S107 (dc40) (ds40) := hlg.same hs9
      replace h := h  S107 hq108 hw9 hs9
      clear hB9 hz9 hk9 hvm9 ht9 hw9 hs9 hS
      generalize H1 = H at hR ⊢
      refine lv_goto (tgt := 267) hx hb dX5_step_52 (by decide) ?_
      refine W_led2 (fun hLd => ?_)
      refine W.widen (k := KCC - qn S) (n := KSC - qu S) hlg.c hlg.s ?_
      exact W.vret hx hb hr (fun t9 ht9 hW9 => ⟨⟨(S107, ad40), rfl, ⟨h, hR.w, hsh, hak⟩, ⟨⟨by rw [ht9]; exact hR.P, hR.D⟩, _, _, by rw [ht9]; exact hLd, hlg⟩⟩, hR.sS.F ht9⟩) hR.sS.2.2 dX5_step_267
  refine lv_icmp_eq (tgt := 40) hx hb dX5_step_27 (by decide) (fun c109 => ?_) (fun c109 => ?_)
  · replace h := h.1 (k_eq rfl rfl c109)
    exact J_40 ad (0) (0) S a6 _ _ ls h  hsh hlg hak hE hR (lv_sub hl [1, 0] rfl)
  · replace h := h.2 (k_ne rfl rfl c109)
    refine lv_aload_n hx hb dX5_step_30 rfl (lv_at hl 1 rfl) ?_
    refine lv_dup hx hb dX5_step_31 rfl ?_
    refine va_get (D := rD g) (ci := 5) (v := .int (qI S 44 19)) (C := RX5) (T := TX5) (N := 20) hx hb hts inX5 hown hR.K hR.P 44 (hR.at45 (hR.w.2.1 _ finC_29).2.1) rfl 19 (by decide) (hts _ kw_1045) (fun _ h9 => h9) rfl dX5_step_32 ?_
    refine lv_iconst (v := 1) hx hb dX5_step_35 (by decide) ?_
    refine lv_iadd hx hb dX5_step_36 ?_
    refine lv_topi (fun z110 ez110 => ?_)
    obtain rfl : z110 = ((qI S 44 19) + (1 : Int32)) := ez110
    refine va_put (D := rD g) (ci := 5) (v := .int ((qI S 44 19) + (1 : Int32))) (ty := .int) (C := RX5) (T := TX5) (N := 20) hx hb hts inX5 tyX5 tyX5_ok nmX5 hown hR.K hR.P hR.D hR.sS 44 (hR.at45 (hR.w.2.1 _ finC_29).2.1) rfl 19 (by decide) (hts _ kw_1045) (fun _ h9 => h9) rfl (by decide +kernel) rfl rfl (Nat.le_of_ble_eq_true rfl) dX5_step_37 (fun H locs hP hD hS => ?_)
    have hTk9 : qT S 44 = 45 := (hR.w.2.1 _ finC_29).2.1
    have hR : RepC g ad A s (wI S 44 19 ((qI S 44 19) + (1 : Int32))) H locs := hR.pI45 (hR.w.2.1 _ finC_29).2.1 FX5_s19 (fun q9 => absurd q9 (by decide)) hP hD hS
    obtain ⟨S111, eS111⟩ : ∃ z, z = wI S 44 19 ((qI S 44 19) + (1 : Int32)) := ⟨_, rfl⟩
    rw [← eS111] at hR
    replace h := h S111 eS111 hTk9 hR.w
    have hsh : shx S S111 := by rw [eS111]; exact hsh
    have hlg : lgC S S111 (0) (0) := by rw [eS111]; exact hlg
    exact J_40 ad (0) (0) S111 a6 _ _ ls h  hsh hlg hak hE hR (lv_sub hl [1, 0] rfl)
