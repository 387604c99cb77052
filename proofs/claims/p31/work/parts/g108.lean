def w_move_J194 (Q : MS → Prop) (U194 : MS) (v194_2 : Int32) : Prop := (∃ Q13, w_push U194 v194_2 Q13 ∧ ∀ S14, Q13 S14 → Q S14)
def w_move_J182 (Q : MS → Prop) (U182 : MS) (v182_1 : Int32) (v182_2 : Int32) : Prop := ((v182_1.toInt = 92 → w_move_J194 Q U182 v182_2) ∧ (¬ v182_1.toInt = 92 → ((v182_1.toInt = 89 → w_move_J194 Q U182 v182_2) ∧ (¬ v182_1.toInt = 89 → Q U182))))
def w_move_J171 (Q : MS → Prop) (U171 : MS) (v171_1 : Int32) (v171_2 : Int32) (v171_3 : Int32) : Prop := ((v171_1.toInt = 92 → (∃ Q19, w_push U171 v171_3 Q19 ∧ ∀ S20, Q19 S20 → w_move_J182 Q S20 v171_1 v171_2)) ∧ (¬ v171_1.toInt = 92 → w_move_J182 Q U171 v171_1 v171_2))
def w_move_J160 (Q : MS → Prop) (U160 : MS) (v160_1 : Int32) (v160_2 : Int32) (v160_3 : Int32) : Prop := ((v160_1.toInt = 95 → w_move_J171 Q U160 v160_1 v160_2 v160_3) ∧ (¬ v160_1.toInt = 95 → (∃ Q23, w_push U160 v160_2 Q23 ∧ ∀ S24, Q23 S24 → w_move_J171 Q S24 v160_1 v160_2 v160_3)))
def w_move_J155 (Q : MS → Prop) (U155 : MS) (v155_1 : Int32) (v155_2 : Int32) (v155_3 : Int32) : Prop := (∃ Q26, w_push U155 v155_3 Q26 ∧ ∀ S27, Q26 S27 → w_move_J160 Q S27 v155_1 v155_2 v155_3)
def w_move_J137 (Q : MS → Prop) (U137 : MS) (v137_1 : Int32) (v137_2 : Int32) (v137_3 : Int32) : Prop := ((v137_1.toInt = 92 → w_move_J155 Q U137 v137_1 v137_2 v137_3) ∧ (¬ v137_1.toInt = 92 → ((v137_1.toInt = 90 → w_move_J155 Q U137 v137_1 v137_2 v137_3) ∧ (¬ v137_1.toInt = 90 → ((v137_1.toInt = 95 → w_move_J155 Q U137 v137_1 v137_2 v137_3) ∧ (¬ v137_1.toInt = 95 → w_move_J160 Q U137 v137_1 v137_2 v137_3))))))
def w_move_J132 (Q : MS → Prop) (U132 : MS) (v132_1 : Int32) (v132_2 : Int32) (v132_3 : Int32) : Prop := (∃ Q32, w_push U132 v132_2 Q32 ∧ ∀ S33, Q32 S33 → w_move_J137 Q S33 v132_1 v132_2 v132_3)
def w_move_J107 (Q : MS → Prop) (U107 : MS) (v107_1 : Int32) (v107_2 : Int32) (v107_3 : Int32) : Prop := ((v107_1.toInt = 87 → Q U107) ∧ (¬ v107_1.toInt = 87 → ((v107_1.toInt = 88 → Q U107) ∧ (¬ v107_1.toInt = 88 → ((v107_1.toInt = 90 → w_move_J132 Q U107 v107_1 v107_2 v107_3) ∧ (¬ v107_1.toInt = 90 → ((v107_1.toInt = 95 → w_move_J132 Q U107 v107_1 v107_2 v107_3) ∧ (¬ v107_1.toInt = 95 → w_move_J137 Q U107 v107_1 v107_2 v107_3))))))))
def w_move_J93 (Q : MS → Prop) (U93 : MS) (v93_1 : Int32) (v93_2 : Int32) (v93_3 : Int32) (v93_4 : Int32) : Prop := ((v93_4.toInt = 0 → (d_isOne U93 v93_2 ∧ (((f_isOne U93 v93_2).toInt = 0 → w_move_J107 Q U93 v93_1 0 v93_3) ∧ (¬ (f_isOne U93 v93_2).toInt = 0 → w_move_J107 Q U93 v93_1 v93_2 v93_3)))) ∧ (¬ v93_4.toInt = 0 → w_move_J107 Q U93 v93_1 v93_2 v93_3))
def w_move_J76 (Q : MS → Prop) (U76 : MS) (t76_0 : Int32) (v76_1 : Int32) (v76_2 : Int32) (v76_3 : Int32) (v76_4 : Int32) : Prop := (∃ Q8, w_need U76 t76_0 Q8 ∧ ∀ S9, Q8 S9 → ((v76_4.toInt = 0 → (d_isOne S9 v76_3 ∧ (((f_isOne S9 v76_3).toInt = 0 → w_move_J93 Q S9 v76_1 v76_2 0 v76_4) ∧ (¬ (f_isOne S9 v76_3).toInt = 0 → w_move_J93 Q S9 v76_1 v76_2 v76_3 v76_4)))) ∧ (¬ v76_4.toInt = 0 → w_move_J93 Q S9 v76_1 v76_2 v76_3 v76_4)))
def w_move_J71 (Q : MS → Prop) (U71 : MS) (v71_1 : Int32) (v71_2 : Int32) (v71_3 : Int32) (v71_4 : Int32) : Prop := w_move_J76 Q U71 1 v71_1 v71_2 v71_3 v71_4
def w_move_J75 (Q : MS → Prop) (U75 : MS) (v75_1 : Int32) (v75_2 : Int32) (v75_3 : Int32) (v75_4 : Int32) : Prop := w_move_J76 Q U75 0 v75_1 v75_2 v75_3 v75_4
def w_move_J49 (Q : MS → Prop) (U49 : MS) (t49_0 : Int32) (v49_1 : Int32) (v49_2 : Int32) (v49_3 : Int32) : Prop := ((t49_0.toInt = 0 → (d_isOne U49 v49_3 ∧ (((f_isOne U49 v49_3).toInt = 0 → w_move_J75 Q U49 v49_1 v49_2 v49_3 t49_0) ∧ (¬ (f_isOne U49 v49_3).toInt = 0 → (d_isOne U49 v49_2 ∧ (((f_isOne U49 v49_2).toInt = 0 → w_move_J75 Q U49 v49_1 v49_2 v49_3 t49_0) ∧ (¬ (f_isOne U49 v49_2).toInt = 0 → w_move_J71 Q U49 v49_1 v49_2 v49_3 t49_0))))))) ∧ (¬ t49_0.toInt = 0 → w_move_J71 Q U49 v49_1 v49_2 v49_3 t49_0))
def w_move_J48 (Q : MS → Prop) (U48 : MS) (v48_1 : Int32) (v48_2 : Int32) (v48_3 : Int32) : Prop := w_move_J49 Q U48 0 v48_1 v48_2 v48_3
def w_move_J34 (Q : MS → Prop) (U34 : MS) (v34_1 : Int32) (v34_2 : Int32) (v34_3 : Int32) : Prop := ((v34_3.toInt = 2 → ((v34_2.toInt = 3 → w_move_J49 Q U34 1 v34_1 v34_2 v34_3) ∧ (¬ v34_2.toInt = 3 → w_move_J48 Q U34 v34_1 v34_2 v34_3))) ∧ (¬ v34_3.toInt = 2 → w_move_J48 Q U34 v34_1 v34_2 v34_3))
def w_move_J21 (Q : MS → Prop) (U21 : MS) (t21_0 : Int32) (v21_1 : Int32) (v21_2 : Int32) : Prop := ((v21_1.toInt = 88 → w_move_J34 Q U21 v21_1 v21_2 t21_0) ∧ (¬ v21_1.toInt = 88 → ((v21_1.toInt = 92 → w_move_J34 Q U21 v21_1 v21_2 t21_0) ∧ (¬ v21_1.toInt = 92 → w_move_J48 Q U21 v21_1 v21_2 t21_0))))
def w_move (S : MS) (x1 : Int32) (Q : MS → Prop) : Prop := (∃ Q1, w_pull S Q1 ∧ ∀ r2 S3, Q1 r2 S3 → (d_moved S3 x1 ∧ (((f_moved S3 x1).toInt = 2 → (∃ Q61, w_pull S3 Q61 ∧ ∀ r62 S63, Q61 r62 S63 → w_move_J21 Q S63 r62 x1 r2)) ∧ (¬ (f_moved S3 x1).toInt = 2 → w_move_J21 Q S3 1 x1 r2))))
set_option maxHeartbeats 2000000 in
set_option maxRecDepth 100000 in
theorem r_move (l : Launch) (g : Gr) (ad : Nat → Nat) (sz : Nat) (S : MS) (x1 : Int32) (hw : wfM S) (Q : MS → Prop) (h : w_move S x1 Q) : Met l yX14_move (wt2 yX14_move cX14_move 5 none) ({ frames := 2, cells := 0, slots := 0, locals := 40 }) (va_Pc [.ref (ad 0), .int x1] (st_R g ad sz S)) (va_Qv (fun (u : MS) => Q u ∧ wfM u ∧ shy S u) (fun (u : MS) (t : State) => qE g ad (va_A (Wd g ad S) sz) u t) (va_A (Wd g ad S) sz)) 0 0 (va_A (Wd g ad S) sz) := by
  refine Met.ofW (cc := cX14_move) (maxL := 5) (ret := none) (by decide) rfl ?_
  intro p e s m args below meth c s₁ B hml hv
  obtain ⟨rfl, hsz, hP, hK, hD0, hex, hE⟩ := hv
  have hx := B.exec
  have hb := B.bytes
  have hr := B.returns
  have hts0 := atoms_spec (ws := wt2 yX14_move cX14_move 5 none) B.pre
  have hts : ∀ w ∈ tb2, w.before _ s = true := fun w h => hts0 w (List.mem_cons_of_mem _ h)
  have hown : s.vm.findClass RX14 = some m.cls := findClass_of_methodNamed B.named
  subst hsz
  have hD := hD0.self (sz := s.heap.size)
  generalize hAe : va_A (Wd g ad S) s.heap.size = A at hD hE ⊢
  have hA : ∀ q : Nat, s.heap.size ≤ q → A q := fun q h => by rw [← hAe]; exact Or.inr h
  have hR : Rep g ad A s S s.heap [] := ⟨hK, hP, hD, va_S.rf, hw⟩
  clear hK hP hD hD0
  have hl := lv_entry ([.ref (ad 0), .int x1]) (n := 5) (Nat.le_of_ble_eq_true rfl)
  rw [lg_entry_eq]
  generalize (lg_sl ([.ref (ad 0), .int x1]) ++ List.replicate (5 - (lg_sl ([.ref (ad 0), .int x1])).length) Slot.unset).toArray = ls at hl ⊢
  have hl : lv_has ls 5 [(0, .ref (ad 0)), (1, .int x1)] := hl
  have hsh : shy S S := shy.rf
  unfold w_move at h
  refine lv_aload_n hx hb dX14_move_0 rfl (lv_at hl 0 rfl) ?_
  obtain ⟨Q1, h0, h⟩ := h
  have hFc := rfree hR hA
  refine va_calli (va_runV (As := []) (rest := []) ⟨hx, hb, hml, hown, hts⟩ (r_pull l g ad s.heap.size S hR.w  Q1 h0) (cwV 0 hts (gd2_V kx_465 kx_466 kx_467 kx_177 kx_468) rfl rfl rfl (by decide +kernel) ⟨Nat.le_of_ble_eq_true rfl, Nat.le_of_ble_eq_true rfl⟩) ⟨rblind, va_recv hR.K hR.P (ci := 13) (q0 := 0) rfl (hR.at14 hR.w.1), fun U hU hW9 => rmk hU hW9 hR hex hE hFc⟩ rfl rfl hl.1 rfl (lv_room (Nat.le_of_ble_eq_true rfl)) dX14_move_1 ⟨Nat.le_of_ble_eq_true rfl, Nat.le_of_ble_eq_true rfl⟩) hR.sS (fun q _ h => hFc q h) hFc (fun r2 S3 t9 H1 locs ht9 hvm9 hw9 hB9 hz9 hk9 hS => ?_)
  obtain ⟨hq4, hw9, hs9⟩ := hw9
  have hR : Rep g ad A s S3 H1 locs := hR.call ht9 hB9 hw9 hS hFc
  have hsh := hsh.tr hs9
  replace h := h r2 S3 hq4
  clear hB9 hz9 hk9 hvm9 ht9 hw9 hs9 hS
  generalize H1 = H at hR ⊢
  refine lv_istore_n (lv' := [(2, .int r2), (0, .ref (ad 0)), (1, .int x1)]) hx hb dX14_move_4 rfl hl (by decide) rfl (fun ls hl => ?_)
  refine lv_iload_n hx hb dX14_move_5 rfl (lv_at hl 2 rfl) ?_
  obtain ⟨hv5, h⟩ := h
  have hFc := rfree hR hA
  refine va_calli (va_runS (As := [.int x1]) (rest := []) ⟨hx, hb, hml, hown, hts⟩ (r_moved l g ad H.size S3 x1 hR.w  hv5) (va_cwS 1 hts (gd2_S kx_400 kx_401 kx_177 kx_402) rfl rfl rfl (by decide +kernel) ⟨Nat.le_of_ble_eq_true rfl, Nat.le_of_ble_eq_true rfl⟩) ⟨rblind, fun U hU hW9 => rmk hU hW9 hR hex hE hFc⟩ rfl rfl hl.1 rfl (lv_room (Nat.le_of_ble_eq_true rfl)) dX14_move_6 ⟨Nat.le_of_ble_eq_true rfl, Nat.le_of_ble_eq_true rfl⟩) hR.sS (fun q _ h => hFc q h) hFc (fun r6 u9 t9 H1 locs ht9 hvm9 hw9 hB9 hz9 hk9 hS => ?_)
  have hR : Rep g ad A s S3 H1 locs := hR.call ht9 hB9 hR.w hS hFc
  obtain rfl : r6 = (f_moved S3 x1) := hw9
  clear hB9 hz9 hk9 hvm9 ht9 hS
  generalize H1 = H at hR ⊢
  refine lv_iconst (v := 2) hx hb dX14_move_9 (by decide) ?_
  have J_21 : ∀ (U21 : MS) (t21_0 : Int32) (v21_1 : Int32) (v21_2 : Int32) (H : Heap) (locs : List Loc) (ls : Array Slot), w_move_J21 Q U21 t21_0 v21_1 v21_2 → shy S U21 → Rep g ad A s U21 H locs → lv_has ls 5 [(0, .ref (ad 0)), (1, .int v21_1), (2, .int v21_2)] → W p l e (headSpec (wt2 yX14_move cX14_move 5 none) ({ frames := 2, cells := 0, slots := 0, locals := 40 })).room s m ([.ref (ad 0), .int x1] : List Value).toArray below meth c H locs 0 0 (MQ below (va_Qv (fun (u : MS) => Q u ∧ wfM u ∧ shy S u) (fun (u : MS) (t : State) => qE g ad A u t) A) ([.ref (ad 0), .int x1] : List Value).toArray s 0 0 A) (F0 m 21 ls [.int t21_0]) := by
    intro U21 t21_0 v21_1 v21_2 H locs ls h hsh hR hl
    unfold w_move_J21 at h
    refine lv_istore_n (lv' := [(3, .int t21_0), (0, .ref (ad 0)), (1, .int v21_1), (2, .int v21_2)]) hx hb dX14_move_21 rfl hl (by decide) rfl (fun ls hl => ?_)
    refine lv_iload_n hx hb dX14_move_22 rfl (lv_at hl 2 rfl) ?_
    refine lv_bipush (v := 88) hx hb dX14_move_23 (by decide) ?_
    have J_49 : ∀ (U49 : MS) (t49_0 : Int32) (v49_1 : Int32) (v49_2 : Int32) (v49_3 : Int32) (H : Heap) (locs : List Loc) (ls : Array Slot), w_move_J49 Q U49 t49_0 v49_1 v49_2 v49_3 → (t49_0 = 0 ∨ t49_0 = 1) → shy S U49 → Rep g ad A s U49 H locs → lv_has ls 5 [(0, .ref (ad 0)), (1, .int v49_1), (2, .int v49_2), (3, .int v49_3)] → W p l e (headSpec (wt2 yX14_move cX14_move 5 none) ({ frames := 2, cells := 0, slots := 0, locals := 40 })).room s m ([.ref (ad 0), .int x1] : List Value).toArray below meth c H locs 0 0 (MQ below (va_Qv (fun (u : MS) => Q u ∧ wfM u ∧ shy S u) (fun (u : MS) (t : State) => qE g ad A u t) A) ([.ref (ad 0), .int x1] : List Value).toArray s 0 0 A) (F0 m 49 ls [.int t49_0]) := by
      intro U49 t49_0 v49_1 v49_2 v49_3 H locs ls h hz_t49_0 hsh hR hl
      unfold w_move_J49 at h
      refine lv_istore (lv' := [(4, .int t49_0), (0, .ref (ad 0)), (1, .int v49_1), (2, .int v49_2), (3, .int v49_3)]) hx hb dX14_move_49 hl (by decide) rfl (fun ls hl => ?_)
      refine lv_aload_n hx hb dX14_move_51 rfl (lv_at hl 1 rfl) ?_
      refine lv_iload hx hb dX14_move_52 (lv_at hl 0 rfl) ?_
      have J_76 : ∀ (U76 : MS) (t76_0 : Int32) (v76_1 : Int32) (v76_2 : Int32) (v76_3 : Int32) (v76_4 : Int32) (H : Heap) (locs : List Loc) (ls : Array Slot), w_move_J76 Q U76 t76_0 v76_1 v76_2 v76_3 v76_4 → (t76_0 = 0 ∨ t76_0 = 1) → (v76_4 = 0 ∨ v76_4 = 1) → shy S U76 → Rep g ad A s U76 H locs → lv_has ls 5 [(0, .ref (ad 0)), (1, .int v76_1), (2, .int v76_2), (3, .int v76_3), (4, .int v76_4)] → W p l e (headSpec (wt2 yX14_move cX14_move 5 none) ({ frames := 2, cells := 0, slots := 0, locals := 40 })).room s m ([.ref (ad 0), .int x1] : List Value).toArray below meth c H locs 0 0 (MQ below (va_Qv (fun (u : MS) => Q u ∧ wfM u ∧ shy S u) (fun (u : MS) (t : State) => qE g ad A u t) A) ([.ref (ad 0), .int x1] : List Value).toArray s 0 0 A) (F0 m 76 ls [.int t76_0, .ref (ad 0)]) := by
        intro U76 t76_0 v76_1 v76_2 v76_3 v76_4 H locs ls h hz_t76_0 hz_v76_4 hsh hR hl
        unfold w_move_J76 at h
        obtain ⟨Q8, h0, h⟩ := h
        have hFc := rfree hR hA
        refine va_callv (va_runV (As := [.int t76_0]) (rest := []) ⟨hx, hb, hml, hown, hts⟩ (r_need l g ad H.size U76 t76_0 hR.w hz_t76_0 Q8 h0) (cwV 1 hts (gd2_V kx_469 kx_470 kx_471 kx_177 kx_472) rfl rfl rfl (by decide +kernel) ⟨Nat.le_of_ble_eq_true rfl, Nat.le_of_ble_eq_true rfl⟩) ⟨rblind, va_recv hR.K hR.P (ci := 13) (q0 := 0) rfl (hR.at14 hR.w.1), fun U hU hW9 => rmk hU hW9 hR hex hE hFc⟩ rfl rfl hl.1 rfl (lv_room (Nat.le_of_ble_eq_true rfl)) dX14_move_76 ⟨Nat.le_of_ble_eq_true rfl, Nat.le_of_ble_eq_true rfl⟩) hR.sS (fun q _ h => hFc q h) hFc (fun  S9 t9 H1 locs ht9 hvm9 hw9 hB9 hz9 hk9 hS => ?_)
        obtain ⟨hq10, hw9, hs9⟩ := hw9
        have hR : Rep g ad A s S9 H1 locs := hR.call ht9 hB9 hw9 hS hFc
        have hsh := hsh.tr hs9
        replace h := h  S9 hq10
        clear hB9 hz9 hk9 hvm9 ht9 hw9 hs9 hS
        generalize H1 = H at hR ⊢
        refine lv_iload hx hb dX14_move_79 (lv_at hl 4 rfl) ?_
        have J_93 : ∀ (U93 : MS) (v93_1 : Int32) (v93_2 : Int32) (v93_3 : Int32) (v93_4 : Int32) (H : Heap) (locs : List Loc) (ls : Array Slot), w_move_J93 Q U93 v93_1 v93_2 v93_3 v93_4 → (v93_4 = 0 ∨ v93_4 = 1) → shy S U93 → Rep g ad A s U93 H locs → lv_has ls 5 [(0, .ref (ad 0)), (1, .int v93_1), (2, .int v93_2), (3, .int v93_3), (4, .int v93_4)] → W p l e (headSpec (wt2 yX14_move cX14_move 5 none) ({ frames := 2, cells := 0, slots := 0, locals := 40 })).room s m ([.ref (ad 0), .int x1] : List Value).toArray below meth c H locs 0 0 (MQ below (va_Qv (fun (u : MS) => Q u ∧ wfM u ∧ shy S u) (fun (u : MS) (t : State) => qE g ad A u t) A) ([.ref (ad 0), .int x1] : List Value).toArray s 0 0 A) (F0 m 93 ls []) := by
          intro U93 v93_1 v93_2 v93_3 v93_4 H locs ls h hz_v93_4 hsh hR hl
          unfold w_move_J93 at h
          refine lv_iload hx hb dX14_move_93 (lv_at hl 4 rfl) ?_
          have J_107 : ∀ (U107 : MS) (v107_1 : Int32) (v107_2 : Int32) (v107_3 : Int32) (H : Heap) (locs : List Loc) (ls : Array Slot), w_move_J107 Q U107 v107_1 v107_2 v107_3 → shy S U107 → Rep g ad A s U107 H locs → lv_has ls 5 [(0, .ref (ad 0)), (1, .int v107_1), (2, .int v107_2), (3, .int v107_3)] → W p l e (headSpec (wt2 yX14_move cX14_move 5 none) ({ frames := 2, cells := 0, slots := 0, locals := 40 })).room s m ([.ref (ad 0), .int x1] : List Value).toArray below meth c H locs 0 0 (MQ below (va_Qv (fun (u : MS) => Q u ∧ wfM u ∧ shy S u) (fun (u : MS) (t : State) => qE g ad A u t) A) ([.ref (ad 0), .int x1] : List Value).toArray s 0 0 A) (F0 m 107 ls []) := by
            intro U107 v107_1 v107_2 v107_3 H locs ls h hsh hR hl
            unfold w_move_J107 at h
            refine lv_iload_n hx hb dX14_move_107 rfl (lv_at hl 1 rfl) ?_
            refine lv_bipush (v := 87) hx hb dX14_move_108 (by decide) ?_
            refine lv_icmp_eq (tgt := 119) hx hb dX14_move_110 (by decide) (fun c11 => ?_) (fun c11 => ?_)
            · replace h := h.1 (k_eq rfl (by decide) c11)
              exact W.vret hx hb hr (fun t9 ht9 hW9 => ⟨⟨U107, rfl, ⟨h, hR.w, hsh⟩, ⟨by rw [ht9]; exact hR.P, hR.D⟩⟩, hR.sS.F ht9⟩) hR.sS.2.2 dX14_move_119
            · replace h := h.2 (k_ne rfl (by decide) c11)
              refine lv_iload_n hx hb dX14_move_113 rfl (lv_at hl 1 rfl) ?_
              refine lv_bipush (v := 88) hx hb dX14_move_114 (by decide) ?_
              refine lv_icmp_ne (tgt := 120) hx hb dX14_move_116 (by decide) (fun c12 => ?_) (fun c12 => ?_)
              · replace h := h.2 (k_ne rfl (by decide) c12)
                refine lv_iload_n hx hb dX14_move_120 rfl (lv_at hl 1 rfl) ?_
                refine lv_bipush (v := 90) hx hb dX14_move_121 (by decide) ?_
                have J_137 : ∀ (U137 : MS) (v137_1 : Int32) (v137_2 : Int32) (v137_3 : Int32) (H : Heap) (locs : List Loc) (ls : Array Slot), w_move_J137 Q U137 v137_1 v137_2 v137_3 → shy S U137 → Rep g ad A s U137 H locs → lv_has ls 5 [(0, .ref (ad 0)), (1, .int v137_1), (2, .int v137_2), (3, .int v137_3)] → W p l e (headSpec (wt2 yX14_move cX14_move 5 none) ({ frames := 2, cells := 0, slots := 0, locals := 40 })).room s m ([.ref (ad 0), .int x1] : List Value).toArray below meth c H locs 0 0 (MQ below (va_Qv (fun (u : MS) => Q u ∧ wfM u ∧ shy S u) (fun (u : MS) (t : State) => qE g ad A u t) A) ([.ref (ad 0), .int x1] : List Value).toArray s 0 0 A) (F0 m 137 ls []) := by
                  intro U137 v137_1 v137_2 v137_3 H locs ls h hsh hR hl
                  unfold w_move_J137 at h
                  refine lv_iload_n hx hb dX14_move_137 rfl (lv_at hl 1 rfl) ?_
                  refine lv_bipush (v := 92) hx hb dX14_move_138 (by decide) ?_
                  have J_160 : ∀ (U160 : MS) (v160_1 : Int32) (v160_2 : Int32) (v160_3 : Int32) (H : Heap) (locs : List Loc) (ls : Array Slot), w_move_J160 Q U160 v160_1 v160_2 v160_3 → shy S U160 → Rep g ad A s U160 H locs → lv_has ls 5 [(0, .ref (ad 0)), (1, .int v160_1), (2, .int v160_2), (3, .int v160_3)] → W p l e (headSpec (wt2 yX14_move cX14_move 5 none) ({ frames := 2, cells := 0, slots := 0, locals := 40 })).room s m ([.ref (ad 0), .int x1] : List Value).toArray below meth c H locs 0 0 (MQ below (va_Qv (fun (u : MS) => Q u ∧ wfM u ∧ shy S u) (fun (u : MS) (t : State) => qE g ad A u t) A) ([.ref (ad 0), .int x1] : List Value).toArray s 0 0 A) (F0 m 160 ls []) := by
                    intro U160 v160_1 v160_2 v160_3 H locs ls h hsh hR hl
                    unfold w_move_J160 at h
                    refine lv_iload_n hx hb dX14_move_160 rfl (lv_at hl 1 rfl) ?_
                    refine lv_bipush (v := 95) hx hb dX14_move_161 (by decide) ?_
                    have J_171 : ∀ (U171 : MS) (v171_1 : Int32) (v171_2 : Int32) (v171_3 : Int32) (H : Heap) (locs : List Loc) (ls : Array Slot), w_move_J171 Q U171 v171_1 v171_2 v171_3 → shy S U171 → Rep g ad A s U171 H locs → lv_has ls 5 [(0, .ref (ad 0)), (1, .int v171_1), (2, .int v171_2), (3, .int v171_3)] → W p l e (headSpec (wt2 yX14_move cX14_move 5 none) ({ frames := 2, cells := 0, slots := 0, locals := 40 })).room s m ([.ref (ad 0), .int x1] : List Value).toArray below meth c H locs 0 0 (MQ below (va_Qv (fun (u : MS) => Q u ∧ wfM u ∧ shy S u) (fun (u : MS) (t : State) => qE g ad A u t) A) ([.ref (ad 0), .int x1] : List Value).toArray s 0 0 A) (F0 m 171 ls []) := by
                      intro U171 v171_1 v171_2 v171_3 H locs ls h hsh hR hl
                      unfold w_move_J171 at h
                      refine lv_iload_n hx hb dX14_move_171 rfl (lv_at hl 1 rfl) ?_
                      refine lv_bipush (v := 92) hx hb dX14_move_172 (by decide) ?_
                      have J_182 : ∀ (U182 : MS) (v182_1 : Int32) (v182_2 : Int32) (H : Heap) (locs : List Loc) (ls : Array Slot), w_move_J182 Q U182 v182_1 v182_2 → shy S U182 → Rep g ad A s U182 H locs → lv_has ls 5 [(0, .ref (ad 0)), (1, .int v182_1), (2, .int v182_2)] → W p l e (headSpec (wt2 yX14_move cX14_move 5 none) ({ frames := 2, cells := 0, slots := 0, locals := 40 })).room s m ([.ref (ad 0), .int x1] : List Value).toArray below meth c H locs 0 0 (MQ below (va_Qv (fun (u : MS) => Q u ∧ wfM u ∧ shy S u) (fun (u : MS) (t : State) => qE g ad A u t) A) ([.ref (ad 0), .int x1] : List Value).toArray s 0 0 A) (F0 m 182 ls []) := by
                        intro U182 v182_1 v182_2 H locs ls h hsh hR hl
                        unfold w_move_J182 at h
                        refine lv_iload_n hx hb dX14_move_182 rfl (lv_at hl 1 rfl) ?_
                        refine lv_bipush (v := 92) hx hb dX14_move_183 (by decide) ?_
                        have J_194 : ∀ (U194 : MS) (v194_2 : Int32) (H : Heap) (locs : List Loc) (ls : Array Slot), w_move_J194 Q U194 v194_2 → shy S U194 → Rep g ad A s U194 H locs → lv_has ls 5 [(0, .ref (ad 0)), (2, .int v194_2)] → W p l e (headSpec (wt2 yX14_move cX14_move 5 none) ({ frames := 2, cells := 0, slots := 0, locals := 40 })).room s m ([.ref (ad 0), .int x1] : List Value).toArray below meth c H locs 0 0 (MQ below (va_Qv (fun (u : MS) => Q u ∧ wfM u ∧ shy S u) (fun (u : MS) (t : State) => qE g ad A u t) A) ([.ref (ad 0), .int x1] : List Value).toArray s 0 0 A) (F0 m 194 ls []) := by
                          intro U194 v194_2 H locs ls h hsh hR hl
                          unfold w_move_J194 at h
                          refine lv_aload_n hx hb dX14_move_194 rfl (lv_at hl 0 rfl) ?_
                          refine lv_iload_n hx hb dX14_move_195 rfl (lv_at hl 1 rfl) ?_
                          obtain ⟨Q13, h0, h⟩ := h
                          have hFc := rfree hR hA
                          refine va_callv (va_runV (As := [.int v194_2]) (rest := []) ⟨hx, hb, hml, hown, hts⟩ (r_push l g ad H.size U194 v194_2 hR.w  Q13 h0) (cwV 1 hts (gd2_V kx_473 kx_474 kx_475 kx_177 kx_476) rfl rfl rfl (by decide +kernel) ⟨Nat.le_of_ble_eq_true rfl, Nat.le_of_ble_eq_true rfl⟩) ⟨rblind, va_recv hR.K hR.P (ci := 13) (q0 := 0) rfl (hR.at14 hR.w.1), fun U hU hW9 => rmk hU hW9 hR hex hE hFc⟩ rfl rfl hl.1 rfl (lv_room (Nat.le_of_ble_eq_true rfl)) dX14_move_196 ⟨Nat.le_of_ble_eq_true rfl, Nat.le_of_ble_eq_true rfl⟩) hR.sS (fun q _ h => hFc q h) hFc (fun  S14 t9 H1 locs ht9 hvm9 hw9 hB9 hz9 hk9 hS => ?_)
                          obtain ⟨hq15, hw9, hs9⟩ := hw9
                          have hR : Rep g ad A s S14 H1 locs := hR.call ht9 hB9 hw9 hS hFc
                          have hsh := hsh.tr hs9
                          replace h := h  S14 hq15
                          clear hB9 hz9 hk9 hvm9 ht9 hw9 hs9 hS
                          generalize H1 = H at hR ⊢
                          exact W.vret hx hb hr (fun t9 ht9 hW9 => ⟨⟨S14, rfl, ⟨h, hR.w, hsh⟩, ⟨by rw [ht9]; exact hR.P, hR.D⟩⟩, hR.sS.F ht9⟩) hR.sS.2.2 dX14_move_199
                        refine lv_icmp_eq (tgt := 194) hx hb dX14_move_185 (by decide) (fun c16 => ?_) (fun c16 => ?_)
                        · replace h := h.1 (k_eq rfl (by decide) c16)
                          exact J_194 U182 v182_2 _ _ ls h  hsh hR (lv_sub hl [0, 2] rfl)
                        · replace h := h.2 (k_ne rfl (by decide) c16)
                          refine lv_iload_n hx hb dX14_move_188 rfl (lv_at hl 1 rfl) ?_
                          refine lv_bipush (v := 89) hx hb dX14_move_189 (by decide) ?_
                          refine lv_icmp_ne (tgt := 199) hx hb dX14_move_191 (by decide) (fun c17 => ?_) (fun c17 => ?_)
                          · replace h := h.2 (k_ne rfl (by decide) c17)
                            exact W.vret hx hb hr (fun t9 ht9 hW9 => ⟨⟨U182, rfl, ⟨h, hR.w, hsh⟩, ⟨by rw [ht9]; exact hR.P, hR.D⟩⟩, hR.sS.F ht9⟩) hR.sS.2.2 dX14_move_199
                          · replace h := h.1 (k_eq rfl (by decide) c17)
                            exact J_194 U182 v182_2 _ _ ls h  hsh hR (lv_sub hl [0, 2] rfl)
                      refine lv_icmp_ne (tgt := 182) hx hb dX14_move_174 (by decide) (fun c18 => ?_) (fun c18 => ?_)
                      · replace h := h.2 (k_ne rfl (by decide) c18)
                        exact J_182 U171 v171_1 v171_2 _ _ ls h  hsh hR (lv_sub hl [0, 1, 2] rfl)
                      · replace h := h.1 (k_eq rfl (by decide) c18)
                        refine lv_aload_n hx hb dX14_move_177 rfl (lv_at hl 0 rfl) ?_
                        refine lv_iload_n hx hb dX14_move_178 rfl (lv_at hl 3 rfl) ?_
                        obtain ⟨Q19, h0, h⟩ := h
                        have hFc := rfree hR hA
                        refine va_callv (va_runV (As := [.int v171_3]) (rest := []) ⟨hx, hb, hml, hown, hts⟩ (r_push l g ad H.size U171 v171_3 hR.w  Q19 h0) (cwV 1 hts (gd2_V kx_473 kx_474 kx_475 kx_177 kx_476) rfl rfl rfl (by decide +kernel) ⟨Nat.le_of_ble_eq_true rfl, Nat.le_of_ble_eq_true rfl⟩) ⟨rblind, va_recv hR.K hR.P (ci := 13) (q0 := 0) rfl (hR.at14 hR.w.1), fun U hU hW9 => rmk hU hW9 hR hex hE hFc⟩ rfl rfl hl.1 rfl (lv_room (Nat.le_of_ble_eq_true rfl)) dX14_move_179 ⟨Nat.le_of_ble_eq_true rfl, Nat.le_of_ble_eq_true rfl⟩) hR.sS (fun q _ h => hFc q h) hFc (fun  S20 t9 H1 locs ht9 hvm9 hw9 hB9 hz9 hk9 hS => ?_)
                        obtain ⟨hq21, hw9, hs9⟩ := hw9
                        have hR : Rep g ad A s S20 H1 locs := hR.call ht9 hB9 hw9 hS hFc
                        have hsh := hsh.tr hs9
                        replace h := h  S20 hq21
                        clear hB9 hz9 hk9 hvm9 ht9 hw9 hs9 hS
                        generalize H1 = H at hR ⊢
                        exact J_182 S20 v171_1 v171_2 _ _ ls h  hsh hR (lv_sub hl [0, 1, 2] rfl)
                    refine lv_icmp_eq (tgt := 171) hx hb dX14_move_163 (by decide) (fun c22 => ?_) (fun c22 => ?_)
                    · replace h := h.1 (k_eq rfl (by decide) c22)
                      exact J_171 U160 v160_1 v160_2 v160_3 _ _ ls h  hsh hR (lv_sub hl [0, 1, 2, 3] rfl)
                    · replace h := h.2 (k_ne rfl (by decide) c22)
                      refine lv_aload_n hx hb dX14_move_166 rfl (lv_at hl 0 rfl) ?_
                      refine lv_iload_n hx hb dX14_move_167 rfl (lv_at hl 2 rfl) ?_
                      obtain ⟨Q23, h0, h⟩ := h
                      have hFc := rfree hR hA
                      refine va_callv (va_runV (As := [.int v160_2]) (rest := []) ⟨hx, hb, hml, hown, hts⟩ (r_push l g ad H.size U160 v160_2 hR.w  Q23 h0) (cwV 1 hts (gd2_V kx_473 kx_474 kx_475 kx_177 kx_476) rfl rfl rfl (by decide +kernel) ⟨Nat.le_of_ble_eq_true rfl, Nat.le_of_ble_eq_true rfl⟩) ⟨rblind, va_recv hR.K hR.P (ci := 13) (q0 := 0) rfl (hR.at14 hR.w.1), fun U hU hW9 => rmk hU hW9 hR hex hE hFc⟩ rfl rfl hl.1 rfl (lv_room (Nat.le_of_ble_eq_true rfl)) dX14_move_168 ⟨Nat.le_of_ble_eq_true rfl, Nat.le_of_ble_eq_true rfl⟩) hR.sS (fun q _ h => hFc q h) hFc (fun  S24 t9 H1 locs ht9 hvm9 hw9 hB9 hz9 hk9 hS => ?_)
                      obtain ⟨hq25, hw9, hs9⟩ := hw9
                      have hR : Rep g ad A s S24 H1 locs := hR.call ht9 hB9 hw9 hS hFc
                      have hsh := hsh.tr hs9
                      replace h := h  S24 hq25
                      clear hB9 hz9 hk9 hvm9 ht9 hw9 hs9 hS
                      generalize H1 = H at hR ⊢
                      exact J_171 S24 v160_1 v160_2 v160_3 _ _ ls h  hsh hR (lv_sub hl [0, 1, 2, 3] rfl)
                  have J_155 : ∀ (U155 : MS) (v155_1 : Int32) (v155_2 : Int32) (v155_3 : Int32) (H : Heap) (locs : List Loc) (ls : Array Slot), w_move_J155 Q U155 v155_1 v155_2 v155_3 → shy S U155 → Rep g ad A s U155 H locs → lv_has ls 5 [(0, .ref (ad 0)), (1, .int v155_1), (2, .int v155_2), (3, .int v155_3)] → W p l e (headSpec (wt2 yX14_move cX14_move 5 none) ({ frames := 2, cells := 0, slots := 0, locals := 40 })).room s m ([.ref (ad 0), .int x1] : List Value).toArray below meth c H locs 0 0 (MQ below (va_Qv (fun (u : MS) => Q u ∧ wfM u ∧ shy S u) (fun (u : MS) (t : State) => qE g ad A u t) A) ([.ref (ad 0), .int x1] : List Value).toArray s 0 0 A) (F0 m 155 ls []) := by
                    intro U155 v155_1 v155_2 v155_3 H locs ls h hsh hR hl
                    unfold w_move_J155 at h
                    refine lv_aload_n hx hb dX14_move_155 rfl (lv_at hl 0 rfl) ?_
                    refine lv_iload_n hx hb dX14_move_156 rfl (lv_at hl 3 rfl) ?_
                    obtain ⟨Q26, h0, h⟩ := h
                    have hFc := rfree hR hA
                    refine va_callv (va_runV (As := [.int v155_3]) (rest := []) ⟨hx, hb, hml, hown, hts⟩ (r_push l g ad H.size U155 v155_3 hR.w  Q26 h0) (cwV 1 hts (gd2_V kx_473 kx_474 kx_475 kx_177 kx_476) rfl rfl rfl (by decide +kernel) ⟨Nat.le_of_ble_eq_true rfl, Nat.le_of_ble_eq_true rfl⟩) ⟨rblind, va_recv hR.K hR.P (ci := 13) (q0 := 0) rfl (hR.at14 hR.w.1), fun U hU hW9 => rmk hU hW9 hR hex hE hFc⟩ rfl rfl hl.1 rfl (lv_room (Nat.le_of_ble_eq_true rfl)) dX14_move_157 ⟨Nat.le_of_ble_eq_true rfl, Nat.le_of_ble_eq_true rfl⟩) hR.sS (fun q _ h => hFc q h) hFc (fun  S27 t9 H1 locs ht9 hvm9 hw9 hB9 hz9 hk9 hS => ?_)
                    obtain ⟨hq28, hw9, hs9⟩ := hw9
                    have hR : Rep g ad A s S27 H1 locs := hR.call ht9 hB9 hw9 hS hFc
                    have hsh := hsh.tr hs9
                    replace h := h  S27 hq28
                    clear hB9 hz9 hk9 hvm9 ht9 hw9 hs9 hS
                    generalize H1 = H at hR ⊢
                    exact J_160 S27 v155_1 v155_2 v155_3 _ _ ls h  hsh hR (lv_sub hl [0, 1, 2, 3] rfl)
                  refine lv_icmp_eq (tgt := 155) hx hb dX14_move_140 (by decide) (fun c29 => ?_) (fun c29 => ?_)
                  · replace h := h.1 (k_eq rfl (by decide) c29)
                    exact J_155 U137 v137_1 v137_2 v137_3 _ _ ls h  hsh hR (lv_sub hl [0, 1, 2, 3] rfl)
                  · replace h := h.2 (k_ne rfl (by decide) c29)
                    refine lv_iload_n hx hb dX14_move_143 rfl (lv_at hl 1 rfl) ?_
                    refine lv_bipush (v := 90) hx hb dX14_move_144 (by decide) ?_
                    refine lv_icmp_eq (tgt := 155) hx hb dX14_move_146 (by decide) (fun c30 => ?_) (fun c30 => ?_)
                    · replace h := h.1 (k_eq rfl (by decide) c30)
                      exact J_155 U137 v137_1 v137_2 v137_3 _ _ ls h  hsh hR (lv_sub hl [0, 1, 2, 3] rfl)
                    · replace h := h.2 (k_ne rfl (by decide) c30)
                      refine lv_iload_n hx hb dX14_move_149 rfl (lv_at hl 1 rfl) ?_
                      refine lv_bipush (v := 95) hx hb dX14_move_150 (by decide) ?_
                      refine lv_icmp_ne (tgt := 160) hx hb dX14_move_152 (by decide) (fun c31 => ?_) (fun c31 => ?_)
                      · replace h := h.2 (k_ne rfl (by decide) c31)
                        exact J_160 U137 v137_1 v137_2 v137_3 _ _ ls h  hsh hR (lv_sub hl [0, 1, 2, 3] rfl)
                      · replace h := h.1 (k_eq rfl (by decide) c31)
                        exact J_155 U137 v137_1 v137_2 v137_3 _ _ ls h  hsh hR (lv_sub hl [0, 1, 2, 3] rfl)
                have J_132 : ∀ (U132 : MS) (v132_1 : Int32) (v132_2 : Int32) (v132_3 : Int32) (H : Heap) (locs : List Loc) (ls : Array Slot), w_move_J132 Q U132 v132_1 v132_2 v132_3 → shy S U132 → Rep g ad A s U132 H locs → lv_has ls 5 [(0, .ref (ad 0)), (1, .int v132_1), (2, .int v132_2), (3, .int v132_3)] → W p l e (headSpec (wt2 yX14_move cX14_move 5 none) ({ frames := 2, cells := 0, slots := 0, locals := 40 })).room s m ([.ref (ad 0), .int x1] : List Value).toArray below meth c H locs 0 0 (MQ below (va_Qv (fun (u : MS) => Q u ∧ wfM u ∧ shy S u) (fun (u : MS) (t : State) => qE g ad A u t) A) ([.ref (ad 0), .int x1] : List Value).toArray s 0 0 A) (F0 m 132 ls []) := by
                  intro U132 v132_1 v132_2 v132_3 H locs ls h hsh hR hl
                  unfold w_move_J132 at h
                  refine lv_aload_n hx hb dX14_move_132 rfl (lv_at hl 0 rfl) ?_
                  refine lv_iload_n hx hb dX14_move_133 rfl (lv_at hl 2 rfl) ?_
                  obtain ⟨Q32, h0, h⟩ := h
                  have hFc := rfree hR hA
                  refine va_callv (va_runV (As := [.int v132_2]) (rest := []) ⟨hx, hb, hml, hown, hts⟩ (r_push l g ad H.size U132 v132_2 hR.w  Q32 h0) (cwV 1 hts (gd2_V kx_473 kx_474 kx_475 kx_177 kx_476) rfl rfl rfl (by decide +kernel) ⟨Nat.le_of_ble_eq_true rfl, Nat.le_of_ble_eq_true rfl⟩) ⟨rblind, va_recv hR.K hR.P (ci := 13) (q0 := 0) rfl (hR.at14 hR.w.1), fun U hU hW9 => rmk hU hW9 hR hex hE hFc⟩ rfl rfl hl.1 rfl (lv_room (Nat.le_of_ble_eq_true rfl)) dX14_move_134 ⟨Nat.le_of_ble_eq_true rfl, Nat.le_of_ble_eq_true rfl⟩) hR.sS (fun q _ h => hFc q h) hFc (fun  S33 t9 H1 locs ht9 hvm9 hw9 hB9 hz9 hk9 hS => ?_)
                  obtain ⟨hq34, hw9, hs9⟩ := hw9
                  have hR : Rep g ad A s S33 H1 locs := hR.call ht9 hB9 hw9 hS hFc
                  have hsh := hsh.tr hs9
                  replace h := h  S33 hq34
                  clear hB9 hz9 hk9 hvm9 ht9 hw9 hs9 hS
                  generalize H1 = H at hR ⊢
                  exact J_137 S33 v132_1 v132_2 v132_3 _ _ ls h  hsh hR (lv_sub hl [0, 1, 2, 3] rfl)
                refine lv_icmp_eq (tgt := 132) hx hb dX14_move_123 (by decide) (fun c35 => ?_) (fun c35 => ?_)
                · replace h := h.1 (k_eq rfl (by decide) c35)
                  exact J_132 U107 v107_1 v107_2 v107_3 _ _ ls h  hsh hR (lv_sub hl [0, 1, 2, 3] rfl)
                · replace h := h.2 (k_ne rfl (by decide) c35)
                  refine lv_iload_n hx hb dX14_move_126 rfl (lv_at hl 1 rfl) ?_
                  refine lv_bipush (v := 95) hx hb dX14_move_127 (by decide) ?_
                  refine lv_icmp_ne (tgt := 137) hx hb dX14_move_129 (by decide) (fun c36 => ?_) (fun c36 => ?_)
                  · replace h := h.2 (k_ne rfl (by decide) c36)
                    exact J_137 U107 v107_1 v107_2 v107_3 _ _ ls h  hsh hR (lv_sub hl [0, 1, 2, 3] rfl)
                  · replace h := h.1 (k_eq rfl (by decide) c36)
                    exact J_132 U107 v107_1 v107_2 v107_3 _ _ ls h  hsh hR (lv_sub hl [0, 1, 2, 3] rfl)
              · replace h := h.1 (k_eq rfl (by decide) c12)
                exact W.vret hx hb hr (fun t9 ht9 hW9 => ⟨⟨U107, rfl, ⟨h, hR.w, hsh⟩, ⟨by rw [ht9]; exact hR.P, hR.D⟩⟩, hR.sS.F ht9⟩) hR.sS.2.2 dX14_move_119
          refine lv_if_ne (tgt := 107) hx hb dX14_move_95 (by decide) (fun c37 => ?_) (fun c37 => ?_)
          · replace h := h.2 (k_ne rfl (by decide) c37)
            exact J_107 U93 v93_1 v93_2 v93_3 _ _ ls h  hsh hR (lv_sub hl [0, 1, 2, 3] rfl)
          · replace h := h.1 (k_eq rfl (by decide) c37)
            refine lv_iload_n hx hb dX14_move_98 rfl (lv_at hl 2 rfl) ?_
            obtain ⟨hv38, h⟩ := h
            have hFc := rfree hR hA
            refine va_calli (va_runS (As := [.int v93_2]) (rest := []) ⟨hx, hb, hml, hown, hts⟩ (r_isOne l g ad H.size U93 v93_2 hR.w  hv38) (va_cwS 1 hts (gd2_S kx_486 kx_487 kx_177 kx_488) rfl rfl rfl (by decide +kernel) ⟨Nat.le_of_ble_eq_true rfl, Nat.le_of_ble_eq_true rfl⟩) ⟨rblind, fun U hU hW9 => rmk hU hW9 hR hex hE hFc⟩ rfl rfl hl.1 rfl (lv_room (Nat.le_of_ble_eq_true rfl)) dX14_move_99 ⟨Nat.le_of_ble_eq_true rfl, Nat.le_of_ble_eq_true rfl⟩) hR.sS (fun q _ h => hFc q h) hFc (fun r39 u9 t9 H1 locs ht9 hvm9 hw9 hB9 hz9 hk9 hS => ?_)
            have hR : Rep g ad A s U93 H1 locs := hR.call ht9 hB9 hR.w hS hFc
            obtain ⟨rfl, hz_r39⟩ := hw9
            clear hB9 hz9 hk9 hvm9 ht9 hS
            generalize H1 = H at hR ⊢
            refine lv_if_ne (tgt := 107) hx hb dX14_move_102 (by decide) (fun c41 => ?_) (fun c41 => ?_)
            · replace h := h.2 (k_ne rfl (by decide) c41)
              exact J_107 U93 v93_1 v93_2 v93_3 _ _ ls h  hsh hR (lv_sub hl [0, 1, 2, 3] rfl)
            · replace h := h.1 (k_eq rfl (by decide) c41)
              refine lv_iconst (v := 0) hx hb dX14_move_105 (by decide) ?_
              refine lv_istore_n (lv' := [(2, .int 0), (0, .ref (ad 0)), (1, .int v93_1), (3, .int v93_3), (4, .int v93_4)]) hx hb dX14_move_106 rfl hl (by decide) rfl (fun ls hl => ?_)
              exact J_107 U93 v93_1 0 v93_3 _ _ ls h  hsh hR (lv_sub hl [1, 2, 0, 3] rfl)
        refine lv_if_ne (tgt := 93) hx hb dX14_move_81 (by decide) (fun c42 => ?_) (fun c42 => ?_)
        · replace h := h.2 (k_ne rfl (by decide) c42)
          exact J_93 S9 v76_1 v76_2 v76_3 v76_4 _ _ ls h hz_v76_4 hsh hR (lv_sub hl [0, 1, 2, 3, 4] rfl)
        · replace h := h.1 (k_eq rfl (by decide) c42)
          refine lv_iload_n hx hb dX14_move_84 rfl (lv_at hl 3 rfl) ?_
          obtain ⟨hv43, h⟩ := h
          have hFc := rfree hR hA
          refine va_calli (va_runS (As := [.int v76_3]) (rest := []) ⟨hx, hb, hml, hown, hts⟩ (r_isOne l g ad H.size S9 v76_3 hR.w  hv43) (va_cwS 1 hts (gd2_S kx_486 kx_487 kx_177 kx_488) rfl rfl rfl (by decide +kernel) ⟨Nat.le_of_ble_eq_true rfl, Nat.le_of_ble_eq_true rfl⟩) ⟨rblind, fun U hU hW9 => rmk hU hW9 hR hex hE hFc⟩ rfl rfl hl.1 rfl (lv_room (Nat.le_of_ble_eq_true rfl)) dX14_move_85 ⟨Nat.le_of_ble_eq_true rfl, Nat.le_of_ble_eq_true rfl⟩) hR.sS (fun q _ h => hFc q h) hFc (fun r44 u9 t9 H1 locs ht9 hvm9 hw9 hB9 hz9 hk9 hS => ?_)
          have hR : Rep g ad A s S9 H1 locs := hR.call ht9 hB9 hR.w hS hFc
          obtain ⟨rfl, hz_r44⟩ := hw9
          clear hB9 hz9 hk9 hvm9 ht9 hS
          generalize H1 = H at hR ⊢
          refine lv_if_ne (tgt := 93) hx hb dX14_move_88 (by decide) (fun c46 => ?_) (fun c46 => ?_)
          · replace h := h.2 (k_ne rfl (by decide) c46)
            exact J_93 S9 v76_1 v76_2 v76_3 v76_4 _ _ ls h hz_v76_4 hsh hR (lv_sub hl [0, 1, 2, 3, 4] rfl)
          · replace h := h.1 (k_eq rfl (by decide) c46)
            refine lv_iconst (v := 0) hx hb dX14_move_91 (by decide) ?_
            refine lv_istore_n (lv' := [(3, .int 0), (0, .ref (ad 0)), (1, .int v76_1), (2, .int v76_2), (4, .int v76_4)]) hx hb dX14_move_92 rfl hl (by decide) rfl (fun ls hl => ?_)
            exact J_93 S9 v76_1 v76_2 0 v76_4 _ _ ls h hz_v76_4 hsh hR (lv_sub hl [1, 2, 3, 0, 4] rfl)
      have J_71 : ∀ (U71 : MS) (v71_1 : Int32) (v71_2 : Int32) (v71_3 : Int32) (v71_4 : Int32) (H : Heap) (locs : List Loc) (ls : Array Slot), w_move_J71 Q U71 v71_1 v71_2 v71_3 v71_4 → (v71_4 = 0 ∨ v71_4 = 1) → shy S U71 → Rep g ad A s U71 H locs → lv_has ls 5 [(0, .ref (ad 0)), (1, .int v71_1), (2, .int v71_2), (3, .int v71_3), (4, .int v71_4)] → W p l e (headSpec (wt2 yX14_move cX14_move 5 none) ({ frames := 2, cells := 0, slots := 0, locals := 40 })).room s m ([.ref (ad 0), .int x1] : List Value).toArray below meth c H locs 0 0 (MQ below (va_Qv (fun (u : MS) => Q u ∧ wfM u ∧ shy S u) (fun (u : MS) (t : State) => qE g ad A u t) A) ([.ref (ad 0), .int x1] : List Value).toArray s 0 0 A) (F0 m 71 ls [.ref (ad 0)]) := by
        intro U71 v71_1 v71_2 v71_3 v71_4 H locs ls h hz_v71_4 hsh hR hl
        unfold w_move_J71 at h
        refine lv_iconst (v := 1) hx hb dX14_move_71 (by decide) ?_
        refine lv_goto (tgt := 76) hx hb dX14_move_72 (by decide) ?_
        exact J_76 U71 1 v71_1 v71_2 v71_3 v71_4 _ _ ls h (Or.inr rfl) hz_v71_4 hsh hR (lv_sub hl [0, 1, 2, 3, 4] rfl)
      refine lv_if_ne (tgt := 71) hx hb dX14_move_54 (by decide) (fun c47 => ?_) (fun c47 => ?_)
      · replace h := h.2 (k_ne rfl (by decide) c47)
        exact J_71 U49 v49_1 v49_2 v49_3 t49_0 _ _ ls h hz_t49_0 hsh hR (lv_sub hl [1, 2, 3, 4, 0] rfl)
      · replace h := h.1 (k_eq rfl (by decide) c47)
        refine lv_iload_n hx hb dX14_move_57 rfl (lv_at hl 4 rfl) ?_
        obtain ⟨hv48, h⟩ := h
        have hFc := rfree hR hA
        refine va_calli (va_runS (As := [.int v49_3]) (rest := [.ref (ad 0)]) ⟨hx, hb, hml, hown, hts⟩ (r_isOne l g ad H.size U49 v49_3 hR.w  hv48) (va_cwS 1 hts (gd2_S kx_486 kx_487 kx_177 kx_488) rfl rfl rfl (by decide +kernel) ⟨Nat.le_of_ble_eq_true rfl, Nat.le_of_ble_eq_true rfl⟩) ⟨rblind, fun U hU hW9 => rmk hU hW9 hR hex hE hFc⟩ rfl rfl hl.1 rfl (lv_room (Nat.le_of_ble_eq_true rfl)) dX14_move_58 ⟨Nat.le_of_ble_eq_true rfl, Nat.le_of_ble_eq_true rfl⟩) hR.sS (fun q _ h => hFc q h) hFc (fun r49 u9 t9 H1 locs ht9 hvm9 hw9 hB9 hz9 hk9 hS => ?_)
        have hR : Rep g ad A s U49 H1 locs := hR.call ht9 hB9 hR.w hS hFc
        obtain ⟨rfl, hz_r49⟩ := hw9
        clear hB9 hz9 hk9 hvm9 ht9 hS
        generalize H1 = H at hR ⊢
        have J_75 : ∀ (U75 : MS) (v75_1 : Int32) (v75_2 : Int32) (v75_3 : Int32) (v75_4 : Int32) (H : Heap) (locs : List Loc) (ls : Array Slot), w_move_J75 Q U75 v75_1 v75_2 v75_3 v75_4 → (v75_4 = 0 ∨ v75_4 = 1) → shy S U75 → Rep g ad A s U75 H locs → lv_has ls 5 [(0, .ref (ad 0)), (1, .int v75_1), (2, .int v75_2), (3, .int v75_3), (4, .int v75_4)] → W p l e (headSpec (wt2 yX14_move cX14_move 5 none) ({ frames := 2, cells := 0, slots := 0, locals := 40 })).room s m ([.ref (ad 0), .int x1] : List Value).toArray below meth c H locs 0 0 (MQ below (va_Qv (fun (u : MS) => Q u ∧ wfM u ∧ shy S u) (fun (u : MS) (t : State) => qE g ad A u t) A) ([.ref (ad 0), .int x1] : List Value).toArray s 0 0 A) (F0 m 75 ls [.ref (ad 0)]) := by
          intro U75 v75_1 v75_2 v75_3 v75_4 H locs ls h hz_v75_4 hsh hR hl
          unfold w_move_J75 at h
          refine lv_iconst (v := 0) hx hb dX14_move_75 (by decide) ?_
          exact J_76 U75 0 v75_1 v75_2 v75_3 v75_4 _ _ ls h (Or.inl rfl) hz_v75_4 hsh hR (lv_sub hl [0, 1, 2, 3, 4] rfl)
        refine lv_if_eq (tgt := 75) hx hb dX14_move_61 (by decide) (fun c51 => ?_) (fun c51 => ?_)
        · replace h := h.1 (k_eq rfl (by decide) c51)
          exact J_75 U49 v49_1 v49_2 v49_3 t49_0 _ _ ls h hz_t49_0 hsh hR (lv_sub hl [1, 2, 3, 4, 0] rfl)
        · replace h := h.2 (k_ne rfl (by decide) c51)
          refine lv_iload_n hx hb dX14_move_64 rfl (lv_at hl 3 rfl) ?_
          obtain ⟨hv52, h⟩ := h
          have hFc := rfree hR hA
          refine va_calli (va_runS (As := [.int v49_2]) (rest := [.ref (ad 0)]) ⟨hx, hb, hml, hown, hts⟩ (r_isOne l g ad H.size U49 v49_2 hR.w  hv52) (va_cwS 1 hts (gd2_S kx_486 kx_487 kx_177 kx_488) rfl rfl rfl (by decide +kernel) ⟨Nat.le_of_ble_eq_true rfl, Nat.le_of_ble_eq_true rfl⟩) ⟨rblind, fun U hU hW9 => rmk hU hW9 hR hex hE hFc⟩ rfl rfl hl.1 rfl (lv_room (Nat.le_of_ble_eq_true rfl)) dX14_move_65 ⟨Nat.le_of_ble_eq_true rfl, Nat.le_of_ble_eq_true rfl⟩) hR.sS (fun q _ h => hFc q h) hFc (fun r53 u9 t9 H1 locs ht9 hvm9 hw9 hB9 hz9 hk9 hS => ?_)
          have hR : Rep g ad A s U49 H1 locs := hR.call ht9 hB9 hR.w hS hFc
          obtain ⟨rfl, hz_r53⟩ := hw9
          clear hB9 hz9 hk9 hvm9 ht9 hS
          generalize H1 = H at hR ⊢
          refine lv_if_eq (tgt := 75) hx hb dX14_move_68 (by decide) (fun c55 => ?_) (fun c55 => ?_)
          · replace h := h.1 (k_eq rfl (by decide) c55)
            exact J_75 U49 v49_1 v49_2 v49_3 t49_0 _ _ ls h hz_t49_0 hsh hR (lv_sub hl [1, 2, 3, 4, 0] rfl)
          · replace h := h.2 (k_ne rfl (by decide) c55)
            exact J_71 U49 v49_1 v49_2 v49_3 t49_0 _ _ ls h hz_t49_0 hsh hR (lv_sub hl [1, 2, 3, 4, 0] rfl)
    have J_48 : ∀ (U48 : MS) (v48_1 : Int32) (v48_2 : Int32) (v48_3 : Int32) (H : Heap) (locs : List Loc) (ls : Array Slot), w_move_J48 Q U48 v48_1 v48_2 v48_3 → shy S U48 → Rep g ad A s U48 H locs → lv_has ls 5 [(0, .ref (ad 0)), (1, .int v48_1), (2, .int v48_2), (3, .int v48_3)] → W p l e (headSpec (wt2 yX14_move cX14_move 5 none) ({ frames := 2, cells := 0, slots := 0, locals := 40 })).room s m ([.ref (ad 0), .int x1] : List Value).toArray below meth c H locs 0 0 (MQ below (va_Qv (fun (u : MS) => Q u ∧ wfM u ∧ shy S u) (fun (u : MS) (t : State) => qE g ad A u t) A) ([.ref (ad 0), .int x1] : List Value).toArray s 0 0 A) (F0 m 48 ls []) := by
      intro U48 v48_1 v48_2 v48_3 H locs ls h hsh hR hl
      unfold w_move_J48 at h
      refine lv_iconst (v := 0) hx hb dX14_move_48 (by decide) ?_
      exact J_49 U48 0 v48_1 v48_2 v48_3 _ _ ls h (Or.inl rfl) hsh hR (lv_sub hl [0, 1, 2, 3] rfl)
    have J_34 : ∀ (U34 : MS) (v34_1 : Int32) (v34_2 : Int32) (v34_3 : Int32) (H : Heap) (locs : List Loc) (ls : Array Slot), w_move_J34 Q U34 v34_1 v34_2 v34_3 → shy S U34 → Rep g ad A s U34 H locs → lv_has ls 5 [(0, .ref (ad 0)), (1, .int v34_1), (2, .int v34_2), (3, .int v34_3)] → W p l e (headSpec (wt2 yX14_move cX14_move 5 none) ({ frames := 2, cells := 0, slots := 0, locals := 40 })).room s m ([.ref (ad 0), .int x1] : List Value).toArray below meth c H locs 0 0 (MQ below (va_Qv (fun (u : MS) => Q u ∧ wfM u ∧ shy S u) (fun (u : MS) (t : State) => qE g ad A u t) A) ([.ref (ad 0), .int x1] : List Value).toArray s 0 0 A) (F0 m 34 ls []) := by
      intro U34 v34_1 v34_2 v34_3 H locs ls h hsh hR hl
      unfold w_move_J34 at h
      refine lv_iload_n hx hb dX14_move_34 rfl (lv_at hl 3 rfl) ?_
      refine lv_iconst (v := 2) hx hb dX14_move_35 (by decide) ?_
      refine lv_icmp_ne (tgt := 48) hx hb dX14_move_36 (by decide) (fun c56 => ?_) (fun c56 => ?_)
      · replace h := h.2 (k_ne rfl (by decide) c56)
        exact J_48 U34 v34_1 v34_2 v34_3 _ _ ls h  hsh hR (lv_sub hl [0, 1, 2, 3] rfl)
      · replace h := h.1 (k_eq rfl (by decide) c56)
        refine lv_iload_n hx hb dX14_move_39 rfl (lv_at hl 2 rfl) ?_
        refine lv_iconst (v := 3) hx hb dX14_move_40 (by decide) ?_
        refine lv_icmp_ne (tgt := 48) hx hb dX14_move_41 (by decide) (fun c57 => ?_) (fun c57 => ?_)
        · replace h := h.2 (k_ne rfl (by decide) c57)
          exact J_48 U34 v34_1 v34_2 v34_3 _ _ ls h  hsh hR (lv_sub hl [0, 1, 2, 3] rfl)
        · replace h := h.1 (k_eq rfl (by decide) c57)
          refine lv_iconst (v := 1) hx hb dX14_move_44 (by decide) ?_
          refine lv_goto (tgt := 49) hx hb dX14_move_45 (by decide) ?_
          exact J_49 U34 1 v34_1 v34_2 v34_3 _ _ ls h (Or.inr rfl) hsh hR (lv_sub hl [0, 1, 2, 3] rfl)
    refine lv_icmp_eq (tgt := 34) hx hb dX14_move_25 (by decide) (fun c58 => ?_) (fun c58 => ?_)
    · replace h := h.1 (k_eq rfl (by decide) c58)
      exact J_34 U21 v21_1 v21_2 t21_0 _ _ ls h  hsh hR (lv_sub hl [1, 2, 3, 0] rfl)
    · replace h := h.2 (k_ne rfl (by decide) c58)
      refine lv_iload_n hx hb dX14_move_28 rfl (lv_at hl 2 rfl) ?_
      refine lv_bipush (v := 92) hx hb dX14_move_29 (by decide) ?_
      refine lv_icmp_ne (tgt := 48) hx hb dX14_move_31 (by decide) (fun c59 => ?_) (fun c59 => ?_)
      · replace h := h.2 (k_ne rfl (by decide) c59)
        exact J_48 U21 v21_1 v21_2 t21_0 _ _ ls h  hsh hR (lv_sub hl [1, 2, 3, 0] rfl)
      · replace h := h.1 (k_eq rfl (by decide) c59)
        exact J_34 U21 v21_1 v21_2 t21_0 _ _ ls h  hsh hR (lv_sub hl [1, 2, 3, 0] rfl)
  refine lv_icmp_ne (tgt := 20) hx hb dX14_move_10 (by decide) (fun c60 => ?_) (fun c60 => ?_)
  · replace h := h.2 (k_ne rfl (by decide) c60)
    refine lv_iconst (v := 1) hx hb dX14_move_20 (by decide) ?_
    exact J_21 S3 1 x1 r2 _ _ ls h  hsh hR (lv_sub hl [1, 2, 0] rfl)
  · replace h := h.1 (k_eq rfl (by decide) c60)
    refine lv_aload_n hx hb dX14_move_13 rfl (lv_at hl 1 rfl) ?_
    obtain ⟨Q61, h0, h⟩ := h
    have hFc := rfree hR hA
    refine va_calli (va_runV (As := []) (rest := []) ⟨hx, hb, hml, hown, hts⟩ (r_pull l g ad H.size S3 hR.w  Q61 h0) (cwV 0 hts (gd2_V kx_465 kx_466 kx_467 kx_177 kx_468) rfl rfl rfl (by decide +kernel) ⟨Nat.le_of_ble_eq_true rfl, Nat.le_of_ble_eq_true rfl⟩) ⟨rblind, va_recv hR.K hR.P (ci := 13) (q0 := 0) rfl (hR.at14 hR.w.1), fun U hU hW9 => rmk hU hW9 hR hex hE hFc⟩ rfl rfl hl.1 rfl (lv_room (Nat.le_of_ble_eq_true rfl)) dX14_move_14 ⟨Nat.le_of_ble_eq_true rfl, Nat.le_of_ble_eq_true rfl⟩) hR.sS (fun q _ h => hFc q h) hFc (fun r62 S63 t9 H1 locs ht9 hvm9 hw9 hB9 hz9 hk9 hS => ?_)
    obtain ⟨hq64, hw9, hs9⟩ := hw9
    have hR : Rep g ad A s S63 H1 locs := hR.call ht9 hB9 hw9 hS hFc
    have hsh := hsh.tr hs9
    replace h := h r62 S63 hq64
    clear hB9 hz9 hk9 hvm9 ht9 hw9 hs9 hS
    generalize H1 = H at hR ⊢
    refine lv_goto (tgt := 21) hx hb dX14_move_17 (by decide) ?_
    exact J_21 S63 r62 x1 r2 _ _ ls h  hsh hR (lv_sub hl [1, 2, 0] rfl)
def w_join_J200 (Q : MS → Prop) (U200 : MS) (t200_0 : Int32) (v200_1 : Int32) : Prop := (∀ S12, S12 = wI U200 0 57 t200_0 → (((0 : Int) ≤ v200_1.toInt ∧ v200_1.toInt < 1200) ∧ (∀ S14, S14 = wI S12 24 v200_1.toInt.toNat (vp_nar .boolean (1 : Int32)) → Q S14)))
def w_join_J195 (Q : MS → Prop) (U195 : MS) (v195_1 : Int32) : Prop := w_join_J200 Q U195 1 v195_1
def w_join_J172 (Q : MS → Prop) (k50 : MS → Int32 → Int32 → Int32 → Int32 → Prop) (U172 : MS) (v172_1 : Int32) (v172_2 : Int32) (v172_3 : Int32) (v172_4 : Int32) : Prop := (∀ a28 : Int32, a28 = (v172_4 + Int32.ofInt 1) → k50 U172 v172_1 v172_2 v172_3 a28)
def w_join_J152 (Q : MS → Prop) (k50 : MS → Int32 → Int32 → Int32 → Int32 → Prop) (U152 : MS) (v152_1 : Int32) (v152_2 : Int32) (v152_3 : Int32) (v152_4 : Int32) (v152_7 : Int32) : Prop := (((0 : Int) ≤ (((48 : Int32) * v152_1) + v152_4).toInt ∧ (((48 : Int32) * v152_1) + v152_4).toInt < 57600) ∧ (∀ S32, S32 = wI U152 23 (((((48 : Int32) * v152_1) + v152_4).toInt).toNat) (vp_nar .byte (v152_7.toInt8.toInt32)) → (∀ S33, S33 = wI S32 0 57 1 → w_join_J172 Q k50 S33 v152_1 v152_2 v152_3 v152_4)))
def w_join_J131 (Q : MS → Prop) (k50 : MS → Int32 → Int32 → Int32 → Int32 → Prop) (U131 : MS) (t131_0 : Int32) (v131_1 : Int32) (v131_2 : Int32) (v131_3 : Int32) (v131_4 : Int32) (v131_6 : Int32) : Prop := (((0 : Int) ≤ v131_1.toInt ∧ v131_1.toInt < 1200) ∧ (((qI U131 24 v131_1.toInt.toNat).toInt = 0 → w_join_J152 Q k50 U131 v131_1 v131_2 v131_3 v131_4 t131_0) ∧ (¬ (qI U131 24 v131_1.toInt.toNat).toInt = 0 → ((t131_0.toInt = v131_6.toInt → w_join_J172 Q k50 U131 v131_1 v131_2 v131_3 v131_4) ∧ (¬ t131_0.toInt = v131_6.toInt → w_join_J152 Q k50 U131 v131_1 v131_2 v131_3 v131_4 t131_0)))))
def w_join_J94 (Q : MS → Prop) (k50 : MS → Int32 → Int32 → Int32 → Int32 → Prop) (U94 : MS) (t94_0 : Int32) (v94_1 : Int32) (v94_2 : Int32) (v94_3 : Int32) (v94_4 : Int32) : Prop := (((0 : Int) ≤ (((48 : Int32) * v94_1) + v94_4).toInt ∧ (((48 : Int32) * v94_1) + v94_4).toInt < 57600) ∧ (∀ a23 : Int32, a23 = (qI U94 23 (((((48 : Int32) * v94_1) + v94_4).toInt).toNat)) → (((0 : Int) ≤ v94_1.toInt ∧ v94_1.toInt < 1200) ∧ (((qI U94 24 v94_1.toInt.toNat).toInt = 0 → w_join_J131 Q k50 U94 t94_0 v94_1 v94_2 v94_3 v94_4 a23) ∧ (¬ (qI U94 24 v94_1.toInt.toNat).toInt = 0 → (d_joined U94 a23 t94_0 ∧ w_join_J131 Q k50 U94 (f_joined U94 a23 t94_0) v94_1 v94_2 v94_3 v94_4 a23))))))
def w_join_L50 (Q : MS → Prop) : Nat → MS → Int32 → Int32 → Int32 → Int32 → Prop
  | 0, _, _, _, _, _ => False
  | n50 + 1, U50, v50_1, v50_2, v50_3, v50_4 => ((((24 : Int32) + v50_3).toInt ≤ v50_4.toInt → (((qI U50 0 57).toInt = 0 → (((0 : Int) ≤ v50_1.toInt ∧ v50_1.toInt < 1200) ∧ (((qI U50 24 v50_1.toInt.toNat).toInt = 0 → w_join_J195 Q U50 v50_1) ∧ (¬ (qI U50 24 v50_1.toInt.toNat).toInt = 0 → w_join_J200 Q U50 0 v50_1)))) ∧ (¬ (qI U50 0 57).toInt = 0 → w_join_J195 Q U50 v50_1))) ∧ (¬ ((24 : Int32) + v50_3).toInt ≤ v50_4.toInt → ((24 ≤ v50_4.toInt → ((v50_2.toInt = 0 → (((0 : Int) ≤ (v50_4 - (24 : Int32)).toInt ∧ (v50_4 - (24 : Int32)).toInt < 28) ∧ w_join_J94 Q (w_join_L50 Q n50) U50 (qI U50 26 (((v50_4 - (24 : Int32)).toInt).toNat)) v50_1 v50_2 v50_3 v50_4)) ∧ (¬ v50_2.toInt = 0 → w_join_J94 Q (w_join_L50 Q n50) U50 5 v50_1 v50_2 v50_3 v50_4))) ∧ (¬ 24 ≤ v50_4.toInt → (((0 : Int) ≤ v50_4.toInt ∧ v50_4.toInt < 24) ∧ w_join_J94 Q (w_join_L50 Q n50) U50 (qI U50 25 v50_4.toInt.toNat) v50_1 v50_2 v50_3 v50_4)))))
def w_join_J30 (Q : MS → Prop) (U30 : MS) (t30_0 : Int32) (v30_1 : Int32) : Prop := (∀ S47, S47 = wI U30 0 57 t30_0 → (((0 : Int) ≤ v30_1.toInt ∧ v30_1.toInt < 1200) ∧ (∀ S49, S49 = wI S47 24 v30_1.toInt.toNat (vp_nar .boolean (1 : Int32)) → Q S49)))
def w_join_J25 (Q : MS → Prop) (U25 : MS) (v25_1 : Int32) : Prop := w_join_J30 Q U25 1 v25_1
def w_join (S : MS) (x1 : Int32) (x2 : Int32) (Q : MS → Prop) : Prop := (∃ Q1, w_heightAt S x1 Q1 ∧ ∀ r2 S3, Q1 r2 S3 → ((0 ≤ r2.toInt → (∃ Q6, w_heightAt S3 x1 Q6 ∧ ∀ r7 S8, Q6 r7 S8 → (∃ n, w_join_L50 Q n S8 x1 x2 r7 0))) ∧ (¬ 0 ≤ r2.toInt → (((qI S3 0 57).toInt = 0 → (((0 : Int) ≤ x1.toInt ∧ x1.toInt < 1200) ∧ (((qI S3 24 x1.toInt.toNat).toInt = 0 → w_join_J25 Q S3 x1) ∧ (¬ (qI S3 24 x1.toInt.toNat).toInt = 0 → w_join_J30 Q S3 0 x1)))) ∧ (¬ (qI S3 0 57).toInt = 0 → w_join_J25 Q S3 x1)))))
set_option maxHeartbeats 2000000 in
set_option maxRecDepth 100000 in
theorem r_join (l : Launch) (g : Gr) (ad : Nat → Nat) (sz : Nat) (S : MS) (x1 : Int32) (x2 : Int32) (hw : wfM S) (hz_x2 : x2 = 0 ∨ x2 = 1) (Q : MS → Prop) (h : w_join S x1 x2 Q) : Met l yX14_join (wt2 yX14_join cX14_join 8 none) ({ frames := 1, cells := 0, slots := 0, locals := 22 }) (va_Pc [.ref (ad 0), .int x1, .int x2] (st_R g ad sz S)) (va_Qv (fun (u : MS) => Q u ∧ wfM u ∧ shy S u) (fun (u : MS) (t : State) => qE g ad (va_A (Wd g ad S) sz) u t) (va_A (Wd g ad S) sz)) 0 0 (va_A (Wd g ad S) sz) := by
  refine Met.ofW (cc := cX14_join) (maxL := 8) (ret := none) (by decide) rfl ?_
  intro p e s m args below meth c s₁ B hml hv
  obtain ⟨rfl, hsz, hP, hK, hD0, hex, hE⟩ := hv
  have hx := B.exec
  have hb := B.bytes
  have hr := B.returns
  have hts0 := atoms_spec (ws := wt2 yX14_join cX14_join 8 none) B.pre
  have hts : ∀ w ∈ tb2, w.before _ s = true := fun w h => hts0 w (List.mem_cons_of_mem _ h)
  have hown : s.vm.findClass RX14 = some m.cls := findClass_of_methodNamed B.named
  subst hsz
  have hD := hD0.self (sz := s.heap.size)
  generalize hAe : va_A (Wd g ad S) s.heap.size = A at hD hE ⊢
  have hA : ∀ q : Nat, s.heap.size ≤ q → A q := fun q h => by rw [← hAe]; exact Or.inr h
  have hR : Rep g ad A s S s.heap [] := ⟨hK, hP, hD, va_S.rf, hw⟩
  clear hK hP hD hD0
  have hl := lv_entry ([.ref (ad 0), .int x1, .int x2]) (n := 8) (Nat.le_of_ble_eq_true rfl)
  rw [lg_entry_eq]
  generalize (lg_sl ([.ref (ad 0), .int x1, .int x2]) ++ List.replicate (8 - (lg_sl ([.ref (ad 0), .int x1, .int x2])).length) Slot.unset).toArray = ls at hl ⊢
  have hl : lv_has ls 8 [(0, .ref (ad 0)), (1, .int x1), (2, .int x2)] := hl
  have hsh : shy S S := shy.rf
  unfold w_join at h
  refine lv_aload_n hx hb dX14_join_0 rfl (lv_at hl 0 rfl) ?_
  refine lv_iload_n hx hb dX14_join_1 rfl (lv_at hl 1 rfl) ?_
  obtain ⟨Q1, h0, h⟩ := h
  have hFc := rfree hR hA
  refine va_calli (va_runV (As := [.int x1]) (rest := []) ⟨hx, hb, hml, hown, hts⟩ (r_heightAt l g ad s.heap.size S x1 hR.w  Q1 h0) (cwV 1 hts (gd2_V kx_455 kx_456 kx_457 kx_177 kx_458) rfl rfl rfl (by decide +kernel) ⟨Nat.le_of_ble_eq_true rfl, Nat.le_of_ble_eq_true rfl⟩) ⟨rblind, va_recv hR.K hR.P (ci := 13) (q0 := 0) rfl (hR.at14 hR.w.1), fun U hU hW9 => rmk hU hW9 hR hex hE hFc⟩ rfl rfl hl.1 rfl (lv_room (Nat.le_of_ble_eq_true rfl)) dX14_join_2 ⟨Nat.le_of_ble_eq_true rfl, Nat.le_of_ble_eq_true rfl⟩) hR.sS (fun q _ h => hFc q h) hFc (fun r2 S3 t9 H1 locs ht9 hvm9 hw9 hB9 hz9 hk9 hS => ?_)
  obtain ⟨hq4, hw9, hs9⟩ := hw9
  have hR : Rep g ad A s S3 H1 locs := hR.call ht9 hB9 hw9 hS hFc
  have hsh := hsh.tr hs9
  replace h := h r2 S3 hq4
  clear hB9 hz9 hk9 hvm9 ht9 hw9 hs9 hS
  generalize H1 = H at hR ⊢
  refine lv_if_ge (tgt := 41) hx hb dX14_join_5 (by decide) (fun c5 => ?_) (fun c5 => ?_)
  · replace h := h.1 (k_le (by decide) rfl c5)
    refine lv_aload_n hx hb dX14_join_41 rfl (lv_at hl 0 rfl) ?_
    refine lv_iload_n hx hb dX14_join_42 rfl (lv_at hl 1 rfl) ?_
    obtain ⟨Q6, h0, h⟩ := h
    have hFc := rfree hR hA
    refine va_calli (va_runV (As := [.int x1]) (rest := []) ⟨hx, hb, hml, hown, hts⟩ (r_heightAt l g ad H.size S3 x1 hR.w  Q6 h0) (cwV 1 hts (gd2_V kx_455 kx_456 kx_457 kx_177 kx_458) rfl rfl rfl (by decide +kernel) ⟨Nat.le_of_ble_eq_true rfl, Nat.le_of_ble_eq_true rfl⟩) ⟨rblind, va_recv hR.K hR.P (ci := 13) (q0 := 0) rfl (hR.at14 hR.w.1), fun U hU hW9 => rmk hU hW9 hR hex hE hFc⟩ rfl rfl hl.1 rfl (lv_room (Nat.le_of_ble_eq_true rfl)) dX14_join_43 ⟨Nat.le_of_ble_eq_true rfl, Nat.le_of_ble_eq_true rfl⟩) hR.sS (fun q _ h => hFc q h) hFc (fun r7 S8 t9 H1 locs ht9 hvm9 hw9 hB9 hz9 hk9 hS => ?_)
    obtain ⟨hq9, hw9, hs9⟩ := hw9
    have hR : Rep g ad A s S8 H1 locs := hR.call ht9 hB9 hw9 hS hFc
    have hsh := hsh.tr hs9
    replace h := h r7 S8 hq9
    clear hB9 hz9 hk9 hvm9 ht9 hw9 hs9 hS
    generalize H1 = H at hR ⊢
    refine lv_istore_n (lv' := [(3, .int r7), (0, .ref (ad 0)), (1, .int x1), (2, .int x2)]) hx hb dX14_join_46 rfl hl (by decide) rfl (fun ls hl => ?_)
    refine lv_iconst (v := 0) hx hb dX14_join_47 (by decide) ?_
    refine lv_istore (lv' := [(4, .int 0), (3, .int r7), (0, .ref (ad 0)), (1, .int x1), (2, .int x2)]) hx hb dX14_join_48 hl (by decide) rfl (fun ls hl => ?_)
    have J_50 : ∀ (n50 : Nat) (U50 : MS) (v50_1 : Int32) (v50_2 : Int32) (v50_3 : Int32) (v50_4 : Int32) (H : Heap) (locs : List Loc) (ls : Array Slot), w_join_L50 Q n50 U50 v50_1 v50_2 v50_3 v50_4 → (v50_2 = 0 ∨ v50_2 = 1) → shy S U50 → Rep g ad A s U50 H locs → lv_has ls 8 [(0, .ref (ad 0)), (1, .int v50_1), (2, .int v50_2), (3, .int v50_3), (4, .int v50_4)] → W p l e (headSpec (wt2 yX14_join cX14_join 8 none) ({ frames := 1, cells := 0, slots := 0, locals := 22 })).room s m ([.ref (ad 0), .int x1, .int x2] : List Value).toArray below meth c H locs 0 0 (MQ below (va_Qv (fun (u : MS) => Q u ∧ wfM u ∧ shy S u) (fun (u : MS) (t : State) => qE g ad A u t) A) ([.ref (ad 0), .int x1, .int x2] : List Value).toArray s 0 0 A) (F0 m 50 ls []) := by
      intro n50
      induction n50 with
      | zero => intro U50 v50_1 v50_2 v50_3 v50_4 H locs ls h hz_v50_2 hsh hR hl; unfold w_join_L50 at h; exact h.elim
      | succ n50 ih_50 =>
        intro U50 v50_1 v50_2 v50_3 v50_4 H locs ls h hz_v50_2 hsh hR hl
        unfold w_join_L50 at h
        refine lv_iload hx hb dX14_join_50 (lv_at hl 4 rfl) ?_
        refine lv_bipush (v := 24) hx hb dX14_join_52 (by decide) ?_
        refine lv_iload_n hx hb dX14_join_54 rfl (lv_at hl 3 rfl) ?_
        refine lv_iadd hx hb dX14_join_55 ?_
        refine lv_topi (fun z10 ez10 => ?_)
        obtain rfl : z10 = ((24 : Int32) + v50_3) := ez10
        refine lv_icmp_ge (tgt := 178) hx hb dX14_join_56 (by decide) (fun c11 => ?_) (fun c11 => ?_)
        · replace h := h.1 (k_le rfl rfl c11)
          refine lv_aload_n hx hb dX14_join_178 rfl (lv_at hl 0 rfl) ?_
          refine lv_aload_n hx hb dX14_join_179 rfl (lv_at hl 0 rfl) ?_
          refine va_get (D := rD g) (ci := 13) (v := .int (qI U50 0 57)) (C := RX14) (T := TX14) (N := 143) hx hb hts in2X14 hown hR.K hR.P 0 (hR.at14 hR.w.1) rfl 57 (by decide) (hts _ kx_418) (fun _ h9 => h9) rfl dX14_join_180 ?_
          have J_200 : ∀ (U200 : MS) (t200_0 : Int32) (v200_1 : Int32) (H : Heap) (locs : List Loc) (ls : Array Slot), w_join_J200 Q U200 t200_0 v200_1 → (t200_0 = 0 ∨ t200_0 = 1) → shy S U200 → Rep g ad A s U200 H locs → lv_has ls 8 [(0, .ref (ad 0)), (1, .int v200_1)] → W p l e (headSpec (wt2 yX14_join cX14_join 8 none) ({ frames := 1, cells := 0, slots := 0, locals := 22 })).room s m ([.ref (ad 0), .int x1, .int x2] : List Value).toArray below meth c H locs 0 0 (MQ below (va_Qv (fun (u : MS) => Q u ∧ wfM u ∧ shy S u) (fun (u : MS) (t : State) => qE g ad A u t) A) ([.ref (ad 0), .int x1, .int x2] : List Value).toArray s 0 0 A) (F0 m 200 ls [.int t200_0, .ref (ad 0)]) := by
            intro U200 t200_0 v200_1 H locs ls h hz_t200_0 hsh hR hl
            unfold w_join_J200 at h
            refine va_put (D := rD g) (ci := 13) (v := .int t200_0) (ty := .boolean) (C := RX14) (T := TX14) (N := 143) hx hb hts in2X14 tyX14 tyX14_ok nmX14 hown hR.K hR.P hR.D hR.sS 0 (hR.at14 hR.w.1) rfl 57 (by decide) (hts _ kx_418) (fun _ h9 => h9) rfl (by decide +kernel) (nz hz_t200_0) (fz2 hz_t200_0) (Nat.le_of_ble_eq_true rfl) dX14_join_200 (fun H locs hP hD hS => ?_)
            have hR : Rep g ad A s (wI U200 0 57 t200_0) H locs := hR.pI hR.w.1 F14_s57 hP hD hS
            obtain ⟨S12, eS12⟩ : ∃ z, z = wI U200 0 57 t200_0 := ⟨_, rfl⟩
            rw [← eS12] at hR
            replace h := h S12 eS12
            have hsh : shy S S12 := by rw [eS12]; exact hsh
            refine lv_aload_n hx hb dX14_join_203 rfl (lv_at hl 0 rfl) ?_
            refine va_get (D := rD g) (ci := 13) (v := .ref (ad 24)) (C := RX14) (T := TX14) (N := 143) hx hb hts in2X14 hown hR.K hR.P 0 (hR.at14 hR.w.1) rfl 59 (by decide) (hts _ kx_489) (fun _ h9 => h9) (congrArg (fun z => some (vf ad z)) (hR.w.2.1 _ fin_59).1) dX14_join_204 ?_
            refine lv_iload_n hx hb dX14_join_207 rfl (lv_at hl 1 rfl) ?_
            refine lv_iconst (v := 1) hx hb dX14_join_208 (by decide) ?_
            obtain ⟨hv13, h⟩ := h
            refine va_zast hx hb hR.K hR.P hR.D hR.sS 24 2 (hR.atZ (hR.w.2.1 _ fin_59).2.1) rfl (k_ixN (k_ix (n := 1200) (x := v200_1) (a := v200_1.toInt) rfl hv13) (hR.w.2.1 _ fin_59).2.2) dX14_join_209 (fun H locs hP hD hS => ?_)
            have hR : Rep g ad A s (wI S12 24 v200_1.toInt.toNat (vp_nar .boolean (1 : Int32))) H locs := hR.aZ (hR.w.2.1 _ fin_59).2.1 hP hD hS
            obtain ⟨S14, eS14⟩ : ∃ z, z = wI S12 24 v200_1.toInt.toNat (vp_nar .boolean (1 : Int32)) := ⟨_, rfl⟩
            rw [← eS14] at hR
            replace h := h S14 eS14
            have hsh : shy S S14 := by rw [eS14]; exact hsh
            exact W.vret hx hb hr (fun t9 ht9 hW9 => ⟨⟨S14, rfl, ⟨h, hR.w, hsh⟩, ⟨by rw [ht9]; exact hR.P, hR.D⟩⟩, hR.sS.F ht9⟩) hR.sS.2.2 dX14_join_210
          have J_195 : ∀ (U195 : MS) (v195_1 : Int32) (H : Heap) (locs : List Loc) (ls : Array Slot), w_join_J195 Q U195 v195_1 → shy S U195 → Rep g ad A s U195 H locs → lv_has ls 8 [(0, .ref (ad 0)), (1, .int v195_1)] → W p l e (headSpec (wt2 yX14_join cX14_join 8 none) ({ frames := 1, cells := 0, slots := 0, locals := 22 })).room s m ([.ref (ad 0), .int x1, .int x2] : List Value).toArray below meth c H locs 0 0 (MQ below (va_Qv (fun (u : MS) => Q u ∧ wfM u ∧ shy S u) (fun (u : MS) (t : State) => qE g ad A u t) A) ([.ref (ad 0), .int x1, .int x2] : List Value).toArray s 0 0 A) (F0 m 195 ls [.ref (ad 0)]) := by
            intro U195 v195_1 H locs ls h hsh hR hl
            unfold w_join_J195 at h
            refine lv_iconst (v := 1) hx hb dX14_join_195 (by decide) ?_
            refine lv_goto (tgt := 200) hx hb dX14_join_196 (by decide) ?_
            exact J_200 U195 1 v195_1 _ _ ls h (Or.inr rfl) hsh hR (lv_sub hl [0, 1] rfl)
          refine lv_if_ne (tgt := 195) hx hb dX14_join_183 (by decide) (fun c15 => ?_) (fun c15 => ?_)
          · replace h := h.2 (k_ne rfl (by decide) c15)
            exact J_195 U50 v50_1 _ _ ls h  hsh hR (lv_sub hl [0, 1] rfl)
          · replace h := h.1 (k_eq rfl (by decide) c15)
            refine lv_aload_n hx hb dX14_join_186 rfl (lv_at hl 0 rfl) ?_
            refine va_get (D := rD g) (ci := 13) (v := .ref (ad 24)) (C := RX14) (T := TX14) (N := 143) hx hb hts in2X14 hown hR.K hR.P 0 (hR.at14 hR.w.1) rfl 59 (by decide) (hts _ kx_489) (fun _ h9 => h9) (congrArg (fun z => some (vf ad z)) (hR.w.2.1 _ fin_59).1) dX14_join_187 ?_
            refine lv_iload_n hx hb dX14_join_190 rfl (lv_at hl 1 rfl) ?_
            obtain ⟨hv16, h⟩ := h
            refine va_zald hx hb hR.K hR.P 24 2 (hR.atZ (hR.w.2.1 _ fin_59).2.1) rfl (k_ixN (k_ix (n := 1200) (x := v50_1) (a := v50_1.toInt) rfl hv16) (hR.w.2.1 _ fin_59).2.2) dX14_join_191 ?_
            refine lv_topi (fun z17 ez17 => ?_)
            obtain rfl : z17 = (qI U50 24 v50_1.toInt.toNat) := ez17
            refine lv_if_ne (tgt := 199) hx hb dX14_join_192 (by decide) (fun c18 => ?_) (fun c18 => ?_)
            · replace h := h.2 (k_ne rfl (by decide) c18)
              refine lv_iconst (v := 0) hx hb dX14_join_199 (by decide) ?_
              exact J_200 U50 0 v50_1 _ _ ls h (Or.inl rfl) hsh hR (lv_sub hl [0, 1] rfl)
            · replace h := h.1 (k_eq rfl (by decide) c18)
              exact J_195 U50 v50_1 _ _ ls h  hsh hR (lv_sub hl [0, 1] rfl)
        · replace h := h.2 (k_nle rfl rfl c11)
          refine lv_iload hx hb dX14_join_59 (lv_at hl 4 rfl) ?_
          refine lv_bipush (v := 24) hx hb dX14_join_61 (by decide) ?_
          have J_94 : ∀ (U94 : MS) (t94_0 : Int32) (v94_1 : Int32) (v94_2 : Int32) (v94_3 : Int32) (v94_4 : Int32) (H : Heap) (locs : List Loc) (ls : Array Slot), w_join_J94 Q (w_join_L50 Q n50) U94 t94_0 v94_1 v94_2 v94_3 v94_4 → (v94_2 = 0 ∨ v94_2 = 1) → shy S U94 → Rep g ad A s U94 H locs → lv_has ls 8 [(0, .ref (ad 0)), (1, .int v94_1), (2, .int v94_2), (3, .int v94_3), (4, .int v94_4)] → W p l e (headSpec (wt2 yX14_join cX14_join 8 none) ({ frames := 1, cells := 0, slots := 0, locals := 22 })).room s m ([.ref (ad 0), .int x1, .int x2] : List Value).toArray below meth c H locs 0 0 (MQ below (va_Qv (fun (u : MS) => Q u ∧ wfM u ∧ shy S u) (fun (u : MS) (t : State) => qE g ad A u t) A) ([.ref (ad 0), .int x1, .int x2] : List Value).toArray s 0 0 A) (F0 m 94 ls [.int t94_0]) := by
            intro U94 t94_0 v94_1 v94_2 v94_3 v94_4 H locs ls h hz_v94_2 hsh hR hl
            unfold w_join_J94 at h
            refine lv_istore (lv' := [(5, .int t94_0), (0, .ref (ad 0)), (1, .int v94_1), (2, .int v94_2), (3, .int v94_3), (4, .int v94_4)]) hx hb dX14_join_94 hl (by decide) rfl (fun ls hl => ?_)
            refine lv_aload_n hx hb dX14_join_96 rfl (lv_at hl 1 rfl) ?_
            refine va_get (D := rD g) (ci := 13) (v := .ref (ad 23)) (C := RX14) (T := TX14) (N := 143) hx hb hts in2X14 hown hR.K hR.P 0 (hR.at14 hR.w.1) rfl 58 (by decide) (hts _ kx_490) (fun _ h9 => h9) (congrArg (fun z => some (vf ad z)) (hR.w.2.1 _ fin_58).1) dX14_join_97 ?_
            refine lv_bipush (v := 48) hx hb dX14_join_100 (by decide) ?_
            refine lv_iload_n hx hb dX14_join_102 rfl (lv_at hl 2 rfl) ?_
            refine lv_imul hx hb dX14_join_103 ?_
            refine lv_topi (fun z19 ez19 => ?_)
            obtain rfl : z19 = ((48 : Int32) * v94_1) := ez19
            refine lv_iload hx hb dX14_join_104 (lv_at hl 5 rfl) ?_
            refine lv_iadd hx hb dX14_join_106 ?_
            refine lv_topi (fun z20 ez20 => ?_)
            obtain rfl : z20 = (((48 : Int32) * v94_1) + v94_4) := ez20
            obtain ⟨hv21, h⟩ := h
            refine va_bald hx hb hR.K hR.P 23 0 (hR.atB (hR.w.2.1 _ fin_58).2.1) rfl (k_ixN (k_ix (n := 57600) (x := (((48 : Int32) * v94_1) + v94_4)) (a := (((48 : Int32) * v94_1) + v94_4).toInt) rfl hv21) (hR.w.2.1 _ fin_58).2.2) dX14_join_107 ?_
            refine lv_topi (fun z22 ez22 => ?_)
            obtain rfl : z22 = (qI U94 23 (((((48 : Int32) * v94_1) + v94_4).toInt).toNat)) := ez22
            obtain ⟨a23, ea23⟩ : ∃ z, z = (qI U94 23 (((((48 : Int32) * v94_1) + v94_4).toInt).toNat)) := ⟨_, rfl⟩
            rw [← ea23]
            replace h := h a23 ea23
            refine lv_istore (lv' := [(6, .int a23), (5, .int t94_0), (0, .ref (ad 0)), (1, .int v94_1), (2, .int v94_2), (3, .int v94_3), (4, .int v94_4)]) hx hb dX14_join_108 hl (by decide) rfl (fun ls hl => ?_)
            refine lv_aload_n hx hb dX14_join_110 rfl (lv_at hl 2 rfl) ?_
            refine va_get (D := rD g) (ci := 13) (v := .ref (ad 24)) (C := RX14) (T := TX14) (N := 143) hx hb hts in2X14 hown hR.K hR.P 0 (hR.at14 hR.w.1) rfl 59 (by decide) (hts _ kx_489) (fun _ h9 => h9) (congrArg (fun z => some (vf ad z)) (hR.w.2.1 _ fin_59).1) dX14_join_111 ?_
            refine lv_iload_n hx hb dX14_join_114 rfl (lv_at hl 3 rfl) ?_
            obtain ⟨hv24, h⟩ := h
            refine va_zald hx hb hR.K hR.P 24 2 (hR.atZ (hR.w.2.1 _ fin_59).2.1) rfl (k_ixN (k_ix (n := 1200) (x := v94_1) (a := v94_1.toInt) rfl hv24) (hR.w.2.1 _ fin_59).2.2) dX14_join_115 ?_
            refine lv_topi (fun z25 ez25 => ?_)
            obtain rfl : z25 = (qI U94 24 v94_1.toInt.toNat) := ez25
            have J_131 : ∀ (U131 : MS) (t131_0 : Int32) (v131_1 : Int32) (v131_2 : Int32) (v131_3 : Int32) (v131_4 : Int32) (v131_6 : Int32) (H : Heap) (locs : List Loc) (ls : Array Slot), w_join_J131 Q (w_join_L50 Q n50) U131 t131_0 v131_1 v131_2 v131_3 v131_4 v131_6 → (v131_2 = 0 ∨ v131_2 = 1) → shy S U131 → Rep g ad A s U131 H locs → lv_has ls 8 [(0, .ref (ad 0)), (1, .int v131_1), (2, .int v131_2), (3, .int v131_3), (4, .int v131_4), (6, .int v131_6)] → W p l e (headSpec (wt2 yX14_join cX14_join 8 none) ({ frames := 1, cells := 0, slots := 0, locals := 22 })).room s m ([.ref (ad 0), .int x1, .int x2] : List Value).toArray below meth c H locs 0 0 (MQ below (va_Qv (fun (u : MS) => Q u ∧ wfM u ∧ shy S u) (fun (u : MS) (t : State) => qE g ad A u t) A) ([.ref (ad 0), .int x1, .int x2] : List Value).toArray s 0 0 A) (F0 m 131 ls [.int t131_0]) := by
              intro U131 t131_0 v131_1 v131_2 v131_3 v131_4 v131_6 H locs ls h hz_v131_2 hsh hR hl
              unfold w_join_J131 at h
              refine lv_istore (lv' := [(7, .int t131_0), (0, .ref (ad 0)), (1, .int v131_1), (2, .int v131_2), (3, .int v131_3), (4, .int v131_4), (6, .int v131_6)]) hx hb dX14_join_131 hl (by decide) rfl (fun ls hl => ?_)
              refine lv_aload_n hx hb dX14_join_133 rfl (lv_at hl 1 rfl) ?_
              refine va_get (D := rD g) (ci := 13) (v := .ref (ad 24)) (C := RX14) (T := TX14) (N := 143) hx hb hts in2X14 hown hR.K hR.P 0 (hR.at14 hR.w.1) rfl 59 (by decide) (hts _ kx_489) (fun _ h9 => h9) (congrArg (fun z => some (vf ad z)) (hR.w.2.1 _ fin_59).1) dX14_join_134 ?_
              refine lv_iload_n hx hb dX14_join_137 rfl (lv_at hl 2 rfl) ?_
              obtain ⟨hv26, h⟩ := h
              refine va_zald hx hb hR.K hR.P 24 2 (hR.atZ (hR.w.2.1 _ fin_59).2.1) rfl (k_ixN (k_ix (n := 1200) (x := v131_1) (a := v131_1.toInt) rfl hv26) (hR.w.2.1 _ fin_59).2.2) dX14_join_138 ?_
              refine lv_topi (fun z27 ez27 => ?_)
              obtain rfl : z27 = (qI U131 24 v131_1.toInt.toNat) := ez27
              have J_172 : ∀ (U172 : MS) (v172_1 : Int32) (v172_2 : Int32) (v172_3 : Int32) (v172_4 : Int32) (H : Heap) (locs : List Loc) (ls : Array Slot), w_join_J172 Q (w_join_L50 Q n50) U172 v172_1 v172_2 v172_3 v172_4 → (v172_2 = 0 ∨ v172_2 = 1) → shy S U172 → Rep g ad A s U172 H locs → lv_has ls 8 [(0, .ref (ad 0)), (1, .int v172_1), (2, .int v172_2), (3, .int v172_3), (4, .int v172_4)] → W p l e (headSpec (wt2 yX14_join cX14_join 8 none) ({ frames := 1, cells := 0, slots := 0, locals := 22 })).room s m ([.ref (ad 0), .int x1, .int x2] : List Value).toArray below meth c H locs 0 0 (MQ below (va_Qv (fun (u : MS) => Q u ∧ wfM u ∧ shy S u) (fun (u : MS) (t : State) => qE g ad A u t) A) ([.ref (ad 0), .int x1, .int x2] : List Value).toArray s 0 0 A) (F0 m 172 ls []) := by
                intro U172 v172_1 v172_2 v172_3 v172_4 H locs ls h hz_v172_2 hsh hR hl
                unfold w_join_J172 at h
                obtain ⟨a28, ea28⟩ : ∃ z, z = (v172_4 + Int32.ofInt 1) := ⟨_, rfl⟩
                replace h := h a28 ea28
                refine lv_iinc (v := a28) (lv' := [(4, .int a28), (0, .ref (ad 0)), (1, .int v172_1), (2, .int v172_2), (3, .int v172_3)]) hx hb dX14_join_172 hl (k := 4) rfl ea28.symm (by decide) rfl (fun ls hl => ?_)
                refine lv_goto (tgt := 50) hx hb dX14_join_175 (by decide) ?_
                exact ih_50 U172 v172_1 v172_2 v172_3 a28 _ _ ls h hz_v172_2 hsh hR (lv_sub hl [1, 2, 3, 4, 0] rfl)
              have J_152 : ∀ (U152 : MS) (v152_1 : Int32) (v152_2 : Int32) (v152_3 : Int32) (v152_4 : Int32) (v152_7 : Int32) (H : Heap) (locs : List Loc) (ls : Array Slot), w_join_J152 Q (w_join_L50 Q n50) U152 v152_1 v152_2 v152_3 v152_4 v152_7 → (v152_2 = 0 ∨ v152_2 = 1) → shy S U152 → Rep g ad A s U152 H locs → lv_has ls 8 [(0, .ref (ad 0)), (1, .int v152_1), (2, .int v152_2), (3, .int v152_3), (4, .int v152_4), (7, .int v152_7)] → W p l e (headSpec (wt2 yX14_join cX14_join 8 none) ({ frames := 1, cells := 0, slots := 0, locals := 22 })).room s m ([.ref (ad 0), .int x1, .int x2] : List Value).toArray below meth c H locs 0 0 (MQ below (va_Qv (fun (u : MS) => Q u ∧ wfM u ∧ shy S u) (fun (u : MS) (t : State) => qE g ad A u t) A) ([.ref (ad 0), .int x1, .int x2] : List Value).toArray s 0 0 A) (F0 m 152 ls []) := by
                intro U152 v152_1 v152_2 v152_3 v152_4 v152_7 H locs ls h hz_v152_2 hsh hR hl
                unfold w_join_J152 at h
                refine lv_aload_n hx hb dX14_join_152 rfl (lv_at hl 0 rfl) ?_
                refine va_get (D := rD g) (ci := 13) (v := .ref (ad 23)) (C := RX14) (T := TX14) (N := 143) hx hb hts in2X14 hown hR.K hR.P 0 (hR.at14 hR.w.1) rfl 58 (by decide) (hts _ kx_490) (fun _ h9 => h9) (congrArg (fun z => some (vf ad z)) (hR.w.2.1 _ fin_58).1) dX14_join_153 ?_
                refine lv_bipush (v := 48) hx hb dX14_join_156 (by decide) ?_
                refine lv_iload_n hx hb dX14_join_158 rfl (lv_at hl 1 rfl) ?_
                refine lv_imul hx hb dX14_join_159 ?_
                refine lv_topi (fun z29 ez29 => ?_)
                obtain rfl : z29 = ((48 : Int32) * v152_1) := ez29
                refine lv_iload hx hb dX14_join_160 (lv_at hl 4 rfl) ?_
                refine lv_iadd hx hb dX14_join_162 ?_
                refine lv_topi (fun z30 ez30 => ?_)
                obtain rfl : z30 = (((48 : Int32) * v152_1) + v152_4) := ez30
                refine lv_iload hx hb dX14_join_163 (lv_at hl 5 rfl) ?_
                refine lv_i2b (v := (v152_7.toInt8.toInt32)) hx hb dX14_join_165 rfl ?_
                obtain ⟨hv31, h⟩ := h
                refine va_bast hx hb hR.K hR.P hR.D hR.sS 23 0 (hR.atB (hR.w.2.1 _ fin_58).2.1) rfl (k_ixN (k_ix (n := 57600) (x := (((48 : Int32) * v152_1) + v152_4)) (a := (((48 : Int32) * v152_1) + v152_4).toInt) rfl hv31) (hR.w.2.1 _ fin_58).2.2) dX14_join_166 (fun H locs hP hD hS => ?_)
                have hR : Rep g ad A s (wI U152 23 (((((48 : Int32) * v152_1) + v152_4).toInt).toNat) (vp_nar .byte (v152_7.toInt8.toInt32))) H locs := hR.aB (hR.w.2.1 _ fin_58).2.1 hP hD hS
                obtain ⟨S32, eS32⟩ : ∃ z, z = wI U152 23 (((((48 : Int32) * v152_1) + v152_4).toInt).toNat) (vp_nar .byte (v152_7.toInt8.toInt32)) := ⟨_, rfl⟩
                rw [← eS32] at hR
                replace h := h S32 eS32
                have hsh : shy S S32 := by rw [eS32]; exact hsh
                refine lv_aload_n hx hb dX14_join_167 rfl (lv_at hl 0 rfl) ?_
                refine lv_iconst (v := 1) hx hb dX14_join_168 (by decide) ?_
                refine va_put (D := rD g) (ci := 13) (v := .int 1) (ty := .boolean) (C := RX14) (T := TX14) (N := 143) hx hb hts in2X14 tyX14 tyX14_ok nmX14 hown hR.K hR.P hR.D hR.sS 0 (hR.at14 hR.w.1) rfl 57 (by decide) (hts _ kx_418) (fun _ h9 => h9) rfl (by decide +kernel) rfl rfl (Nat.le_of_ble_eq_true rfl) dX14_join_169 (fun H locs hP hD hS => ?_)
                have hR : Rep g ad A s (wI S32 0 57 1) H locs := hR.pI hR.w.1 F14_s57 hP hD hS
                obtain ⟨S33, eS33⟩ : ∃ z, z = wI S32 0 57 1 := ⟨_, rfl⟩
                rw [← eS33] at hR
                replace h := h S33 eS33
                have hsh : shy S S33 := by rw [eS33]; exact hsh
                exact J_172 S33 v152_1 v152_2 v152_3 v152_4 _ _ ls h hz_v152_2 hsh hR (lv_sub hl [0, 1, 2, 3, 4] rfl)
              refine lv_if_eq (tgt := 152) hx hb dX14_join_139 (by decide) (fun c34 => ?_) (fun c34 => ?_)
              · replace h := h.1 (k_eq rfl (by decide) c34)
                exact J_152 U131 v131_1 v131_2 v131_3 v131_4 t131_0 _ _ ls h hz_v131_2 hsh hR (lv_sub hl [1, 2, 3, 4, 5, 0] rfl)
              · replace h := h.2 (k_ne rfl (by decide) c34)
                refine lv_iload hx hb dX14_join_142 (lv_at hl 0 rfl) ?_
                refine lv_iload hx hb dX14_join_144 (lv_at hl 6 rfl) ?_
                refine lv_icmp_ne (tgt := 152) hx hb dX14_join_146 (by decide) (fun c35 => ?_) (fun c35 => ?_)
                · replace h := h.2 (k_ne rfl rfl c35)
                  exact J_152 U131 v131_1 v131_2 v131_3 v131_4 t131_0 _ _ ls h hz_v131_2 hsh hR (lv_sub hl [1, 2, 3, 4, 5, 0] rfl)
                · replace h := h.1 (k_eq rfl rfl c35)
                  refine lv_goto (tgt := 172) hx hb dX14_join_149 (by decide) ?_
                  exact J_172 U131 v131_1 v131_2 v131_3 v131_4 _ _ ls h hz_v131_2 hsh hR (lv_sub hl [1, 2, 3, 4, 5] rfl)
            refine lv_if_eq (tgt := 129) hx hb dX14_join_116 (by decide) (fun c36 => ?_) (fun c36 => ?_)
            · replace h := h.1 (k_eq rfl (by decide) c36)
              refine lv_iload hx hb dX14_join_129 (lv_at hl 1 rfl) ?_
              exact J_131 U94 t94_0 v94_1 v94_2 v94_3 v94_4 a23 _ _ ls h hz_v94_2 hsh hR (lv_sub hl [2, 3, 4, 5, 6, 0] rfl)
            · replace h := h.2 (k_ne rfl (by decide) c36)
              refine lv_iload hx hb dX14_join_119 (lv_at hl 0 rfl) ?_
              refine lv_iload hx hb dX14_join_121 (lv_at hl 1 rfl) ?_
              obtain ⟨hv37, h⟩ := h
              have hFc := rfree hR hA
              refine va_calli (va_runS (As := [.int a23, .int t94_0]) (rest := []) ⟨hx, hb, hml, hown, hts⟩ (r_joined l g ad H.size U94 a23 t94_0 hR.w  hv37) (va_cwS 2 hts (gd2_S kx_491 kx_492 kx_177 kx_493) rfl rfl rfl (by decide +kernel) ⟨Nat.le_of_ble_eq_true rfl, Nat.le_of_ble_eq_true rfl⟩) ⟨rblind, fun U hU hW9 => rmk hU hW9 hR hex hE hFc⟩ rfl rfl hl.1 rfl (lv_room (Nat.le_of_ble_eq_true rfl)) dX14_join_123 ⟨Nat.le_of_ble_eq_true rfl, Nat.le_of_ble_eq_true rfl⟩) hR.sS (fun q _ h => hFc q h) hFc (fun r38 u9 t9 H1 locs ht9 hvm9 hw9 hB9 hz9 hk9 hS => ?_)
              have hR : Rep g ad A s U94 H1 locs := hR.call ht9 hB9 hR.w hS hFc
              obtain rfl : r38 = (f_joined U94 a23 t94_0) := hw9
              clear hB9 hz9 hk9 hvm9 ht9 hS
              generalize H1 = H at hR ⊢
              refine lv_goto (tgt := 131) hx hb dX14_join_126 (by decide) ?_
              exact J_131 U94 (f_joined U94 a23 t94_0) v94_1 v94_2 v94_3 v94_4 a23 _ _ ls h hz_v94_2 hsh hR (lv_sub hl [2, 3, 4, 5, 6, 0] rfl)
          refine lv_icmp_ge (tgt := 76) hx hb dX14_join_63 (by decide) (fun c40 => ?_) (fun c40 => ?_)
          · replace h := h.1 (k_le (by decide) rfl c40)
            refine lv_iload_n hx hb dX14_join_76 rfl (lv_at hl 2 rfl) ?_
            refine lv_if_eq (tgt := 84) hx hb dX14_join_77 (by decide) (fun c41 => ?_) (fun c41 => ?_)
            · replace h := h.1 (k_eq rfl (by decide) c41)
              refine lv_aload_n hx hb dX14_join_84 rfl (lv_at hl 0 rfl) ?_
              refine va_get (D := rD g) (ci := 13) (v := .ref (ad 26)) (C := RX14) (T := TX14) (N := 143) hx hb hts in2X14 hown hR.K hR.P 0 (hR.at14 hR.w.1) rfl 61 (by decide) (hts _ kx_462) (fun _ h9 => h9) (congrArg (fun z => some (vf ad z)) (hR.w.2.1 _ fin_61).1) dX14_join_85 ?_
              refine lv_iload hx hb dX14_join_88 (lv_at hl 4 rfl) ?_
              refine lv_bipush (v := 24) hx hb dX14_join_90 (by decide) ?_
              refine lv_isub hx hb dX14_join_92 ?_
              refine lv_topi (fun z42 ez42 => ?_)
              obtain rfl : z42 = (v50_4 - (24 : Int32)) := ez42
              obtain ⟨hv43, h⟩ := h
              refine va_bald hx hb hR.K hR.P 26 0 (hR.atB (hR.w.2.1 _ fin_61).2.1) rfl (k_ixN (k_ix (n := 28) (x := (v50_4 - (24 : Int32))) (a := (v50_4 - (24 : Int32)).toInt) rfl hv43) (hR.w.2.1 _ fin_61).2.2) dX14_join_93 ?_
              refine lv_topi (fun z44 ez44 => ?_)
              obtain rfl : z44 = (qI U50 26 (((v50_4 - (24 : Int32)).toInt).toNat)) := ez44
              exact J_94 U50 (qI U50 26 (((v50_4 - (24 : Int32)).toInt).toNat)) v50_1 v50_2 v50_3 v50_4 _ _ ls h hz_v50_2 hsh hR (lv_sub hl [0, 1, 2, 3, 4] rfl)
            · replace h := h.2 (k_ne rfl (by decide) c41)
              refine lv_iconst (v := 5) hx hb dX14_join_80 (by decide) ?_
              refine lv_goto (tgt := 94) hx hb dX14_join_81 (by decide) ?_
              exact J_94 U50 5 v50_1 v50_2 v50_3 v50_4 _ _ ls h hz_v50_2 hsh hR (lv_sub hl [0, 1, 2, 3, 4] rfl)
          · replace h := h.2 (k_nle (by decide) rfl c40)
            refine lv_aload_n hx hb dX14_join_66 rfl (lv_at hl 0 rfl) ?_
            refine va_get (D := rD g) (ci := 13) (v := .ref (ad 25)) (C := RX14) (T := TX14) (N := 143) hx hb hts in2X14 hown hR.K hR.P 0 (hR.at14 hR.w.1) rfl 60 (by decide) (hts _ kx_477) (fun _ h9 => h9) (congrArg (fun z => some (vf ad z)) (hR.w.2.1 _ fin_60).1) dX14_join_67 ?_
            refine lv_iload hx hb dX14_join_70 (lv_at hl 4 rfl) ?_
            obtain ⟨hv45, h⟩ := h
            refine va_bald hx hb hR.K hR.P 25 0 (hR.atB (hR.w.2.1 _ fin_60).2.1) rfl (k_ixN (k_ix (n := 24) (x := v50_4) (a := v50_4.toInt) rfl hv45) (hR.w.2.1 _ fin_60).2.2) dX14_join_72 ?_
            refine lv_topi (fun z46 ez46 => ?_)
            obtain rfl : z46 = (qI U50 25 v50_4.toInt.toNat) := ez46
            refine lv_goto (tgt := 94) hx hb dX14_join_73 (by decide) ?_
            exact J_94 U50 (qI U50 25 v50_4.toInt.toNat) v50_1 v50_2 v50_3 v50_4 _ _ ls h hz_v50_2 hsh hR (lv_sub hl [0, 1, 2, 3, 4] rfl)
    obtain ⟨n9, h⟩ := h
    exact J_50 n9 S8 x1 x2 r7 0 _ _ ls h hz_x2 hsh hR (lv_sub hl [2, 3, 4, 1, 0] rfl)
  · replace h := h.2 (k_nle (by decide) rfl c5)
    refine lv_aload_n hx hb dX14_join_8 rfl (lv_at hl 0 rfl) ?_
    refine lv_aload_n hx hb dX14_join_9 rfl (lv_at hl 0 rfl) ?_
    refine va_get (D := rD g) (ci := 13) (v := .int (qI S3 0 57)) (C := RX14) (T := TX14) (N := 143) hx hb hts in2X14 hown hR.K hR.P 0 (hR.at14 hR.w.1) rfl 57 (by decide) (hts _ kx_418) (fun _ h9 => h9) rfl dX14_join_10 ?_
    have J_30 : ∀ (U30 : MS) (t30_0 : Int32) (v30_1 : Int32) (H : Heap) (locs : List Loc) (ls : Array Slot), w_join_J30 Q U30 t30_0 v30_1 → (t30_0 = 0 ∨ t30_0 = 1) → shy S U30 → Rep g ad A s U30 H locs → lv_has ls 8 [(0, .ref (ad 0)), (1, .int v30_1)] → W p l e (headSpec (wt2 yX14_join cX14_join 8 none) ({ frames := 1, cells := 0, slots := 0, locals := 22 })).room s m ([.ref (ad 0), .int x1, .int x2] : List Value).toArray below meth c H locs 0 0 (MQ below (va_Qv (fun (u : MS) => Q u ∧ wfM u ∧ shy S u) (fun (u : MS) (t : State) => qE g ad A u t) A) ([.ref (ad 0), .int x1, .int x2] : List Value).toArray s 0 0 A) (F0 m 30 ls [.int t30_0, .ref (ad 0)]) := by
      intro U30 t30_0 v30_1 H locs ls h hz_t30_0 hsh hR hl
      unfold w_join_J30 at h
      refine va_put (D := rD g) (ci := 13) (v := .int t30_0) (ty := .boolean) (C := RX14) (T := TX14) (N := 143) hx hb hts in2X14 tyX14 tyX14_ok nmX14 hown hR.K hR.P hR.D hR.sS 0 (hR.at14 hR.w.1) rfl 57 (by decide) (hts _ kx_418) (fun _ h9 => h9) rfl (by decide +kernel) (nz hz_t30_0) (fz2 hz_t30_0) (Nat.le_of_ble_eq_true rfl) dX14_join_30 (fun H locs hP hD hS => ?_)
      have hR : Rep g ad A s (wI U30 0 57 t30_0) H locs := hR.pI hR.w.1 F14_s57 hP hD hS
      obtain ⟨S47, eS47⟩ : ∃ z, z = wI U30 0 57 t30_0 := ⟨_, rfl⟩
      rw [← eS47] at hR
      replace h := h S47 eS47
      have hsh : shy S S47 := by rw [eS47]; exact hsh
      refine lv_aload_n hx hb dX14_join_33 rfl (lv_at hl 0 rfl) ?_
      refine va_get (D := rD g) (ci := 13) (v := .ref (ad 24)) (C := RX14) (T := TX14) (N := 143) hx hb hts in2X14 hown hR.K hR.P 0 (hR.at14 hR.w.1) rfl 59 (by decide) (hts _ kx_489) (fun _ h9 => h9) (congrArg (fun z => some (vf ad z)) (hR.w.2.1 _ fin_59).1) dX14_join_34 ?_
      refine lv_iload_n hx hb dX14_join_37 rfl (lv_at hl 1 rfl) ?_
      refine lv_iconst (v := 1) hx hb dX14_join_38 (by decide) ?_
      obtain ⟨hv48, h⟩ := h
      refine va_zast hx hb hR.K hR.P hR.D hR.sS 24 2 (hR.atZ (hR.w.2.1 _ fin_59).2.1) rfl (k_ixN (k_ix (n := 1200) (x := v30_1) (a := v30_1.toInt) rfl hv48) (hR.w.2.1 _ fin_59).2.2) dX14_join_39 (fun H locs hP hD hS => ?_)
      have hR : Rep g ad A s (wI S47 24 v30_1.toInt.toNat (vp_nar .boolean (1 : Int32))) H locs := hR.aZ (hR.w.2.1 _ fin_59).2.1 hP hD hS
      obtain ⟨S49, eS49⟩ : ∃ z, z = wI S47 24 v30_1.toInt.toNat (vp_nar .boolean (1 : Int32)) := ⟨_, rfl⟩
      rw [← eS49] at hR
      replace h := h S49 eS49
      have hsh : shy S S49 := by rw [eS49]; exact hsh
      exact W.vret hx hb hr (fun t9 ht9 hW9 => ⟨⟨S49, rfl, ⟨h, hR.w, hsh⟩, ⟨by rw [ht9]; exact hR.P, hR.D⟩⟩, hR.sS.F ht9⟩) hR.sS.2.2 dX14_join_40
    have J_25 : ∀ (U25 : MS) (v25_1 : Int32) (H : Heap) (locs : List Loc) (ls : Array Slot), w_join_J25 Q U25 v25_1 → shy S U25 → Rep g ad A s U25 H locs → lv_has ls 8 [(0, .ref (ad 0)), (1, .int v25_1)] → W p l e (headSpec (wt2 yX14_join cX14_join 8 none) ({ frames := 1, cells := 0, slots := 0, locals := 22 })).room s m ([.ref (ad 0), .int x1, .int x2] : List Value).toArray below meth c H locs 0 0 (MQ below (va_Qv (fun (u : MS) => Q u ∧ wfM u ∧ shy S u) (fun (u : MS) (t : State) => qE g ad A u t) A) ([.ref (ad 0), .int x1, .int x2] : List Value).toArray s 0 0 A) (F0 m 25 ls [.ref (ad 0)]) := by
      intro U25 v25_1 H locs ls h hsh hR hl
      unfold w_join_J25 at h
      refine lv_iconst (v := 1) hx hb dX14_join_25 (by decide) ?_
      refine lv_goto (tgt := 30) hx hb dX14_join_26 (by decide) ?_
      exact J_30 U25 1 v25_1 _ _ ls h (Or.inr rfl) hsh hR (lv_sub hl [0, 1] rfl)
    refine lv_if_ne (tgt := 25) hx hb dX14_join_13 (by decide) (fun c50 => ?_) (fun c50 => ?_)
    · replace h := h.2 (k_ne rfl (by decide) c50)
      exact J_25 S3 x1 _ _ ls h  hsh hR (lv_sub hl [0, 1] rfl)
    · replace h := h.1 (k_eq rfl (by decide) c50)
      refine lv_aload_n hx hb dX14_join_16 rfl (lv_at hl 0 rfl) ?_
      refine va_get (D := rD g) (ci := 13) (v := .ref (ad 24)) (C := RX14) (T := TX14) (N := 143) hx hb hts in2X14 hown hR.K hR.P 0 (hR.at14 hR.w.1) rfl 59 (by decide) (hts _ kx_489) (fun _ h9 => h9) (congrArg (fun z => some (vf ad z)) (hR.w.2.1 _ fin_59).1) dX14_join_17 ?_
      refine lv_iload_n hx hb dX14_join_20 rfl (lv_at hl 1 rfl) ?_
      obtain ⟨hv51, h⟩ := h
      refine va_zald hx hb hR.K hR.P 24 2 (hR.atZ (hR.w.2.1 _ fin_59).2.1) rfl (k_ixN (k_ix (n := 1200) (x := x1) (a := x1.toInt) rfl hv51) (hR.w.2.1 _ fin_59).2.2) dX14_join_21 ?_
      refine lv_topi (fun z52 ez52 => ?_)
      obtain rfl : z52 = (qI S3 24 x1.toInt.toNat) := ez52
      refine lv_if_ne (tgt := 29) hx hb dX14_join_22 (by decide) (fun c53 => ?_) (fun c53 => ?_)
      · replace h := h.2 (k_ne rfl (by decide) c53)
        refine lv_iconst (v := 0) hx hb dX14_join_29 (by decide) ?_
        exact J_30 S3 0 x1 _ _ ls h (Or.inl rfl) hsh hR (lv_sub hl [0, 1] rfl)
      · replace h := h.1 (k_eq rfl (by decide) c53)
        exact J_25 S3 x1 _ _ ls h  hsh hR (lv_sub hl [0, 1] rfl)
def w_takeOf_L33 (Q : MS → Prop) : Nat → MS → Int32 → Int32 → Int32 → Prop
  | 0, _, _, _, _ => False
  | n33 + 1, U33, v33_1, v33_2, v33_3 => ((v33_2.toInt ≤ v33_3.toInt → (∀ S3, S3 = wI U33 0 62 v33_2 → Q S3)) ∧ (¬ v33_2.toInt ≤ v33_3.toInt → (((0 : Int) ≤ ((((48 : Int32) * v33_1) + (24 : Int32)) + v33_3).toInt ∧ ((((48 : Int32) * v33_1) + (24 : Int32)) + v33_3).toInt < 57600) ∧ (((0 : Int) ≤ v33_3.toInt ∧ v33_3.toInt < 28) ∧ (∀ S10, S10 = wI U33 26 v33_3.toInt.toNat (vp_nar .byte (qI U33 23 ((((((48 : Int32) * v33_1) + (24 : Int32)) + v33_3).toInt).toNat))) → (∀ a11 : Int32, a11 = (v33_3 + Int32.ofInt 1) → (w_takeOf_L33 Q n33) S10 v33_1 v33_2 a11))))))
def w_takeOf_L2 (Q : MS → Prop) : Nat → MS → Int32 → Int32 → Int32 → Prop
  | 0, _, _, _, _ => False
  | n2 + 1, U2, v2_1, v2_2, v2_3 => ((24 ≤ v2_3.toInt → (∃ n, w_takeOf_L33 Q n U2 v2_1 v2_2 0)) ∧ (¬ 24 ≤ v2_3.toInt → (((0 : Int) ≤ (((48 : Int32) * v2_1) + v2_3).toInt ∧ (((48 : Int32) * v2_1) + v2_3).toInt < 57600) ∧ (((0 : Int) ≤ v2_3.toInt ∧ v2_3.toInt < 24) ∧ (∀ S17, S17 = wI U2 25 v2_3.toInt.toNat (vp_nar .byte (qI U2 23 (((((48 : Int32) * v2_1) + v2_3).toInt).toNat))) → (∀ a18 : Int32, a18 = (v2_3 + Int32.ofInt 1) → (w_takeOf_L2 Q n2) S17 v2_1 v2_2 a18))))))
def w_takeOf (S : MS) (x1 : Int32) (x2 : Int32) (Q : MS → Prop) : Prop := (∃ n, w_takeOf_L2 Q n S x1 x2 0)
set_option maxHeartbeats 2000000 in
set_option maxRecDepth 100000 in
theorem r_takeOf (l : Launch) (g : Gr) (ad : Nat → Nat) (sz : Nat) (S : MS) (x1 : Int32) (x2 : Int32) (hw : wfM S) (Q : MS → Prop) (h : w_takeOf S x1 x2 Q) : Met l yX14_takeOf (wt2 yX14_takeOf cX14_takeOf 4 none) ({ frames := 0, cells := 0, slots := 0, locals := 0 }) (va_Pc [.ref (ad 0), .int x1, .int x2] (st_R g ad sz S)) (va_Qv (fun (u : MS) => Q u ∧ wfM u ∧ shy S u) (fun (u : MS) (t : State) => qE g ad (va_A (Wd g ad S) sz) u t) (va_A (Wd g ad S) sz)) 0 0 (va_A (Wd g ad S) sz) := by
  refine Met.ofW (cc := cX14_takeOf) (maxL := 4) (ret := none) (by decide) rfl ?_
  intro p e s m args below meth c s₁ B hml hv
  obtain ⟨rfl, hsz, hP, hK, hD0, hex, hE⟩ := hv
  have hx := B.exec
  have hb := B.bytes
  have hr := B.returns
  have hts0 := atoms_spec (ws := wt2 yX14_takeOf cX14_takeOf 4 none) B.pre
  have hts : ∀ w ∈ tb2, w.before _ s = true := fun w h => hts0 w (List.mem_cons_of_mem _ h)
  have hown : s.vm.findClass RX14 = some m.cls := findClass_of_methodNamed B.named
  subst hsz
  have hD := hD0.self (sz := s.heap.size)
  generalize hAe : va_A (Wd g ad S) s.heap.size = A at hD hE ⊢
  have hA : ∀ q : Nat, s.heap.size ≤ q → A q := fun q h => by rw [← hAe]; exact Or.inr h
  have hR : Rep g ad A s S s.heap [] := ⟨hK, hP, hD, va_S.rf, hw⟩
  clear hK hP hD hD0
  have hl := lv_entry ([.ref (ad 0), .int x1, .int x2]) (n := 4) (Nat.le_of_ble_eq_true rfl)
  rw [lg_entry_eq]
  generalize (lg_sl ([.ref (ad 0), .int x1, .int x2]) ++ List.replicate (4 - (lg_sl ([.ref (ad 0), .int x1, .int x2])).length) Slot.unset).toArray = ls at hl ⊢
  have hl : lv_has ls 4 [(0, .ref (ad 0)), (1, .int x1), (2, .int x2)] := hl
  have hsh : shy S S := shy.rf
  unfold w_takeOf at h
  refine lv_iconst (v := 0) hx hb dX14_takeOf_0 (by decide) ?_
  refine lv_istore_n (lv' := [(3, .int 0), (0, .ref (ad 0)), (1, .int x1), (2, .int x2)]) hx hb dX14_takeOf_1 rfl hl (by decide) rfl (fun ls hl => ?_)
  have J_2 : ∀ (n2 : Nat) (U2 : MS) (v2_1 : Int32) (v2_2 : Int32) (v2_3 : Int32) (H : Heap) (locs : List Loc) (ls : Array Slot), w_takeOf_L2 Q n2 U2 v2_1 v2_2 v2_3 → shy S U2 → Rep g ad A s U2 H locs → lv_has ls 4 [(0, .ref (ad 0)), (1, .int v2_1), (2, .int v2_2), (3, .int v2_3)] → W p l e (headSpec (wt2 yX14_takeOf cX14_takeOf 4 none) ({ frames := 0, cells := 0, slots := 0, locals := 0 })).room s m ([.ref (ad 0), .int x1, .int x2] : List Value).toArray below meth c H locs 0 0 (MQ below (va_Qv (fun (u : MS) => Q u ∧ wfM u ∧ shy S u) (fun (u : MS) (t : State) => qE g ad A u t) A) ([.ref (ad 0), .int x1, .int x2] : List Value).toArray s 0 0 A) (F0 m 2 ls []) := by
    intro n2
    induction n2 with
    | zero => intro U2 v2_1 v2_2 v2_3 H locs ls h hsh hR hl; unfold w_takeOf_L2 at h; exact h.elim
    | succ n2 ih_2 =>
      intro U2 v2_1 v2_2 v2_3 H locs ls h hsh hR hl
      unfold w_takeOf_L2 at h
      refine lv_iload_n hx hb dX14_takeOf_2 rfl (lv_at hl 3 rfl) ?_
      refine lv_bipush (v := 24) hx hb dX14_takeOf_3 (by decide) ?_
      refine lv_icmp_ge (tgt := 31) hx hb dX14_takeOf_5 (by decide) (fun c1 => ?_) (fun c1 => ?_)
      · replace h := h.1 (k_le (by decide) rfl c1)
        refine lv_iconst (v := 0) hx hb dX14_takeOf_31 (by decide) ?_
        refine lv_istore_n (lv' := [(3, .int 0), (0, .ref (ad 0)), (1, .int v2_1), (2, .int v2_2)]) hx hb dX14_takeOf_32 rfl hl (by decide) rfl (fun ls hl => ?_)
        have J_33 : ∀ (n33 : Nat) (U33 : MS) (v33_1 : Int32) (v33_2 : Int32) (v33_3 : Int32) (H : Heap) (locs : List Loc) (ls : Array Slot), w_takeOf_L33 Q n33 U33 v33_1 v33_2 v33_3 → shy S U33 → Rep g ad A s U33 H locs → lv_has ls 4 [(0, .ref (ad 0)), (1, .int v33_1), (2, .int v33_2), (3, .int v33_3)] → W p l e (headSpec (wt2 yX14_takeOf cX14_takeOf 4 none) ({ frames := 0, cells := 0, slots := 0, locals := 0 })).room s m ([.ref (ad 0), .int x1, .int x2] : List Value).toArray below meth c H locs 0 0 (MQ below (va_Qv (fun (u : MS) => Q u ∧ wfM u ∧ shy S u) (fun (u : MS) (t : State) => qE g ad A u t) A) ([.ref (ad 0), .int x1, .int x2] : List Value).toArray s 0 0 A) (F0 m 33 ls []) := by
          intro n33
          induction n33 with
          | zero => intro U33 v33_1 v33_2 v33_3 H locs ls h hsh hR hl; unfold w_takeOf_L33 at h; exact h.elim
          | succ n33 ih_33 =>
            intro U33 v33_1 v33_2 v33_3 H locs ls h hsh hR hl
            unfold w_takeOf_L33 at h
            refine lv_iload_n hx hb dX14_takeOf_33 rfl (lv_at hl 3 rfl) ?_
            refine lv_iload_n hx hb dX14_takeOf_34 rfl (lv_at hl 2 rfl) ?_
            refine lv_icmp_ge (tgt := 64) hx hb dX14_takeOf_35 (by decide) (fun c2 => ?_) (fun c2 => ?_)
            · replace h := h.1 (k_le rfl rfl c2)
              refine lv_aload_n hx hb dX14_takeOf_64 rfl (lv_at hl 0 rfl) ?_
              refine lv_iload_n hx hb dX14_takeOf_65 rfl (lv_at hl 2 rfl) ?_
              refine va_put (D := rD g) (ci := 13) (v := .int v33_2) (ty := .int) (C := RX14) (T := TX14) (N := 143) hx hb hts in2X14 tyX14 tyX14_ok nmX14 hown hR.K hR.P hR.D hR.sS 0 (hR.at14 hR.w.1) rfl 62 (by decide) (hts _ kx_463) (fun _ h9 => h9) rfl (by decide +kernel) rfl rfl (Nat.le_of_ble_eq_true rfl) dX14_takeOf_66 (fun H locs hP hD hS => ?_)
              have hR : Rep g ad A s (wI U33 0 62 v33_2) H locs := hR.pI hR.w.1 F14_s62 hP hD hS
              obtain ⟨S3, eS3⟩ : ∃ z, z = wI U33 0 62 v33_2 := ⟨_, rfl⟩
              rw [← eS3] at hR
              replace h := h S3 eS3
              have hsh : shy S S3 := by rw [eS3]; exact hsh
              exact W.vret hx hb hr (fun t9 ht9 hW9 => ⟨⟨S3, rfl, ⟨h, hR.w, hsh⟩, ⟨by rw [ht9]; exact hR.P, hR.D⟩⟩, hR.sS.F ht9⟩) hR.sS.2.2 dX14_takeOf_69
            · replace h := h.2 (k_nle rfl rfl c2)
              refine lv_aload_n hx hb dX14_takeOf_38 rfl (lv_at hl 0 rfl) ?_
              refine va_get (D := rD g) (ci := 13) (v := .ref (ad 26)) (C := RX14) (T := TX14) (N := 143) hx hb hts in2X14 hown hR.K hR.P 0 (hR.at14 hR.w.1) rfl 61 (by decide) (hts _ kx_462) (fun _ h9 => h9) (congrArg (fun z => some (vf ad z)) (hR.w.2.1 _ fin_61).1) dX14_takeOf_39 ?_
              refine lv_iload_n hx hb dX14_takeOf_42 rfl (lv_at hl 3 rfl) ?_
              refine lv_aload_n hx hb dX14_takeOf_43 rfl (lv_at hl 0 rfl) ?_
              refine va_get (D := rD g) (ci := 13) (v := .ref (ad 23)) (C := RX14) (T := TX14) (N := 143) hx hb hts in2X14 hown hR.K hR.P 0 (hR.at14 hR.w.1) rfl 58 (by decide) (hts _ kx_490) (fun _ h9 => h9) (congrArg (fun z => some (vf ad z)) (hR.w.2.1 _ fin_58).1) dX14_takeOf_44 ?_
              refine lv_bipush (v := 48) hx hb dX14_takeOf_47 (by decide) ?_
              refine lv_iload_n hx hb dX14_takeOf_49 rfl (lv_at hl 1 rfl) ?_
              refine lv_imul hx hb dX14_takeOf_50 ?_
              refine lv_topi (fun z4 ez4 => ?_)
              obtain rfl : z4 = ((48 : Int32) * v33_1) := ez4
              refine lv_bipush (v := 24) hx hb dX14_takeOf_51 (by decide) ?_
              refine lv_iadd hx hb dX14_takeOf_53 ?_
              refine lv_topi (fun z5 ez5 => ?_)
              obtain rfl : z5 = (((48 : Int32) * v33_1) + (24 : Int32)) := ez5
              refine lv_iload_n hx hb dX14_takeOf_54 rfl (lv_at hl 3 rfl) ?_
              refine lv_iadd hx hb dX14_takeOf_55 ?_
              refine lv_topi (fun z6 ez6 => ?_)
              obtain rfl : z6 = ((((48 : Int32) * v33_1) + (24 : Int32)) + v33_3) := ez6
              obtain ⟨hv7, h⟩ := h
              refine va_bald hx hb hR.K hR.P 23 0 (hR.atB (hR.w.2.1 _ fin_58).2.1) rfl (k_ixN (k_ix (n := 57600) (x := ((((48 : Int32) * v33_1) + (24 : Int32)) + v33_3)) (a := ((((48 : Int32) * v33_1) + (24 : Int32)) + v33_3).toInt) rfl hv7) (hR.w.2.1 _ fin_58).2.2) dX14_takeOf_56 ?_
              refine lv_topi (fun z8 ez8 => ?_)
              obtain rfl : z8 = (qI U33 23 ((((((48 : Int32) * v33_1) + (24 : Int32)) + v33_3).toInt).toNat)) := ez8
              obtain ⟨hv9, h⟩ := h
              refine va_bast hx hb hR.K hR.P hR.D hR.sS 26 0 (hR.atB (hR.w.2.1 _ fin_61).2.1) rfl (k_ixN (k_ix (n := 28) (x := v33_3) (a := v33_3.toInt) rfl hv9) (hR.w.2.1 _ fin_61).2.2) dX14_takeOf_57 (fun H locs hP hD hS => ?_)
              have hR : Rep g ad A s (wI U33 26 v33_3.toInt.toNat (vp_nar .byte (qI U33 23 ((((((48 : Int32) * v33_1) + (24 : Int32)) + v33_3).toInt).toNat)))) H locs := hR.aB (hR.w.2.1 _ fin_61).2.1 hP hD hS
              obtain ⟨S10, eS10⟩ : ∃ z, z = wI U33 26 v33_3.toInt.toNat (vp_nar .byte (qI U33 23 ((((((48 : Int32) * v33_1) + (24 : Int32)) + v33_3).toInt).toNat))) := ⟨_, rfl⟩
              rw [← eS10] at hR
              replace h := h S10 eS10
              have hsh : shy S S10 := by rw [eS10]; exact hsh
              obtain ⟨a11, ea11⟩ : ∃ z, z = (v33_3 + Int32.ofInt 1) := ⟨_, rfl⟩
              replace h := h a11 ea11
              refine lv_iinc (v := a11) (lv' := [(3, .int a11), (0, .ref (ad 0)), (1, .int v33_1), (2, .int v33_2)]) hx hb dX14_takeOf_58 hl (k := 3) rfl ea11.symm (by decide) rfl (fun ls hl => ?_)
              refine lv_goto (tgt := 33) hx hb dX14_takeOf_61 (by decide) ?_
              exact ih_33 S10 v33_1 v33_2 a11 _ _ ls h  hsh hR (lv_sub hl [1, 2, 3, 0] rfl)
        obtain ⟨n9, h⟩ := h
        exact J_33 n9 U2 v2_1 v2_2 0 _ _ ls h  hsh hR (lv_sub hl [1, 2, 3, 0] rfl)
      · replace h := h.2 (k_nle (by decide) rfl c1)
        refine lv_aload_n hx hb dX14_takeOf_8 rfl (lv_at hl 0 rfl) ?_
        refine va_get (D := rD g) (ci := 13) (v := .ref (ad 25)) (C := RX14) (T := TX14) (N := 143) hx hb hts in2X14 hown hR.K hR.P 0 (hR.at14 hR.w.1) rfl 60 (by decide) (hts _ kx_477) (fun _ h9 => h9) (congrArg (fun z => some (vf ad z)) (hR.w.2.1 _ fin_60).1) dX14_takeOf_9 ?_
        refine lv_iload_n hx hb dX14_takeOf_12 rfl (lv_at hl 3 rfl) ?_
        refine lv_aload_n hx hb dX14_takeOf_13 rfl (lv_at hl 0 rfl) ?_
        refine va_get (D := rD g) (ci := 13) (v := .ref (ad 23)) (C := RX14) (T := TX14) (N := 143) hx hb hts in2X14 hown hR.K hR.P 0 (hR.at14 hR.w.1) rfl 58 (by decide) (hts _ kx_490) (fun _ h9 => h9) (congrArg (fun z => some (vf ad z)) (hR.w.2.1 _ fin_58).1) dX14_takeOf_14 ?_
        refine lv_bipush (v := 48) hx hb dX14_takeOf_17 (by decide) ?_
        refine lv_iload_n hx hb dX14_takeOf_19 rfl (lv_at hl 1 rfl) ?_
        refine lv_imul hx hb dX14_takeOf_20 ?_
        refine lv_topi (fun z12 ez12 => ?_)
        obtain rfl : z12 = ((48 : Int32) * v2_1) := ez12
        refine lv_iload_n hx hb dX14_takeOf_21 rfl (lv_at hl 3 rfl) ?_
        refine lv_iadd hx hb dX14_takeOf_22 ?_
        refine lv_topi (fun z13 ez13 => ?_)
        obtain rfl : z13 = (((48 : Int32) * v2_1) + v2_3) := ez13
        obtain ⟨hv14, h⟩ := h
        refine va_bald hx hb hR.K hR.P 23 0 (hR.atB (hR.w.2.1 _ fin_58).2.1) rfl (k_ixN (k_ix (n := 57600) (x := (((48 : Int32) * v2_1) + v2_3)) (a := (((48 : Int32) * v2_1) + v2_3).toInt) rfl hv14) (hR.w.2.1 _ fin_58).2.2) dX14_takeOf_23 ?_
        refine lv_topi (fun z15 ez15 => ?_)
        obtain rfl : z15 = (qI U2 23 (((((48 : Int32) * v2_1) + v2_3).toInt).toNat)) := ez15
        obtain ⟨hv16, h⟩ := h
        refine va_bast hx hb hR.K hR.P hR.D hR.sS 25 0 (hR.atB (hR.w.2.1 _ fin_60).2.1) rfl (k_ixN (k_ix (n := 24) (x := v2_3) (a := v2_3.toInt) rfl hv16) (hR.w.2.1 _ fin_60).2.2) dX14_takeOf_24 (fun H locs hP hD hS => ?_)
        have hR : Rep g ad A s (wI U2 25 v2_3.toInt.toNat (vp_nar .byte (qI U2 23 (((((48 : Int32) * v2_1) + v2_3).toInt).toNat)))) H locs := hR.aB (hR.w.2.1 _ fin_60).2.1 hP hD hS
        obtain ⟨S17, eS17⟩ : ∃ z, z = wI U2 25 v2_3.toInt.toNat (vp_nar .byte (qI U2 23 (((((48 : Int32) * v2_1) + v2_3).toInt).toNat))) := ⟨_, rfl⟩
        rw [← eS17] at hR
        replace h := h S17 eS17
        have hsh : shy S S17 := by rw [eS17]; exact hsh
        obtain ⟨a18, ea18⟩ : ∃ z, z = (v2_3 + Int32.ofInt 1) := ⟨_, rfl⟩
        replace h := h a18 ea18
        refine lv_iinc (v := a18) (lv' := [(3, .int a18), (0, .ref (ad 0)), (1, .int v2_1), (2, .int v2_2)]) hx hb dX14_takeOf_25 hl (k := 3) rfl ea18.symm (by decide) rfl (fun ls hl => ?_)
        refine lv_goto (tgt := 2) hx hb dX14_takeOf_28 (by decide) ?_
        exact ih_2 S17 v2_1 v2_2 a18 _ _ ls h  hsh hR (lv_sub hl [1, 2, 3, 0] rfl)
  obtain ⟨n9, h⟩ := h
  exact J_2 n9 S x1 x2 0 _ _ ls h  hsh hR (lv_sub hl [1, 2, 3, 0] rfl)
def w_keep_L37 (Q : MS → Prop) (k26 : MS → Int32 → Int32 → Int32 → Prop) : Nat → MS → Int32 → Int32 → Int32 → Int32 → Int32 → Prop
  | 0, _, _, _, _, _, _ => False
  | n37 + 1, U37, v37_1, v37_2, v37_3, v37_4, v37_5 => ((8 ≤ v37_5.toInt → (((0 : Int) ≤ ((v37_1 + (1 : Int32)) + v37_3).toInt ∧ ((v37_1 + (1 : Int32)) + v37_3).toInt < 115200) ∧ (∀ S10, S10 = wI U37 27 ((((v37_1 + (1 : Int32)) + v37_3).toInt).toNat) v37_4 → (∀ a11 : Int32, a11 = (v37_3 + Int32.ofInt 1) → k26 S10 v37_1 v37_2 a11)))) ∧ (¬ 8 ≤ v37_5.toInt → (((0 : Int) ≤ ((((48 : Int32) * v37_2) + ((8 : Int32) * v37_3)) + v37_5).toInt ∧ ((((48 : Int32) * v37_2) + ((8 : Int32) * v37_3)) + v37_5).toInt < 57600) ∧ (∀ a21 : Int32, a21 = (v37_4 ||| ((qI U37 23 ((((((48 : Int32) * v37_2) + ((8 : Int32) * v37_3)) + v37_5).toInt).toNat)) <<< (((4 : Int32) * v37_5) &&& 31))) → (∀ a22 : Int32, a22 = (v37_5 + Int32.ofInt 1) → (w_keep_L37 Q k26 n37) U37 v37_1 v37_2 v37_3 a21 a22)))))
def w_keep_L26 (Q : MS → Prop) : Nat → MS → Int32 → Int32 → Int32 → Prop
  | 0, _, _, _, _ => False
  | n26 + 1, U26, v26_1, v26_2, v26_3 => ((3 ≤ v26_3.toInt → Q U26) ∧ (¬ 3 ≤ v26_3.toInt → (∃ n, w_keep_L37 Q (w_keep_L26 Q n26) n U26 v26_1 v26_2 v26_3 0 0)))
def w_keep_J23 (Q : MS → Prop) (U23 : MS) (t23_0 : Int32) (t23_1 : Int32) (v23_1 : Int32) (v23_2 : Int32) : Prop := (((0 : Int) ≤ t23_1.toInt ∧ t23_1.toInt < 115200) ∧ (∀ S4, S4 = wI U23 27 t23_1.toInt.toNat t23_0 → (∃ n, w_keep_L26 Q n S4 v23_1 v23_2 0)))
def w_keep (S : MS) (x1 : Int32) (x2 : Int32) (Q : MS → Prop) : Prop := (((0 : Int) ≤ x2.toInt ∧ x2.toInt < 1200) ∧ (((qI S 24 x2.toInt.toNat).toInt = 0 → w_keep_J23 Q S (-1) x1 x1 x2) ∧ (¬ (qI S 24 x2.toInt.toNat).toInt = 0 → (∃ Q24, w_heightAt S x2 Q24 ∧ ∀ r25 S26, Q24 r25 S26 → w_keep_J23 Q S26 r25 x1 x1 x2))))
set_option maxHeartbeats 2000000 in
set_option maxRecDepth 100000 in
theorem r_keep (l : Launch) (g : Gr) (ad : Nat → Nat) (sz : Nat) (S : MS) (x1 : Int32) (x2 : Int32) (hw : wfM S) (Q : MS → Prop) (h : w_keep S x1 x2 Q) : Met l yX14_keep (wt2 yX14_keep cX14_keep 6 none) ({ frames := 1, cells := 0, slots := 0, locals := 22 }) (va_Pc [.ref (ad 0), .int x1, .int x2] (st_R g ad sz S)) (va_Qv (fun (u : MS) => Q u ∧ wfM u ∧ shy S u) (fun (u : MS) (t : State) => qE g ad (va_A (Wd g ad S) sz) u t) (va_A (Wd g ad S) sz)) 0 0 (va_A (Wd g ad S) sz) := by
  refine Met.ofW (cc := cX14_keep) (maxL := 6) (ret := none) (by decide) rfl ?_
  intro p e s m args below meth c s₁ B hml hv
  obtain ⟨rfl, hsz, hP, hK, hD0, hex, hE⟩ := hv
  have hx := B.exec
  have hb := B.bytes
  have hr := B.returns
  have hts0 := atoms_spec (ws := wt2 yX14_keep cX14_keep 6 none) B.pre
  have hts : ∀ w ∈ tb2, w.before _ s = true := fun w h => hts0 w (List.mem_cons_of_mem _ h)
  have hown : s.vm.findClass RX14 = some m.cls := findClass_of_methodNamed B.named
  subst hsz
  have hD := hD0.self (sz := s.heap.size)
  generalize hAe : va_A (Wd g ad S) s.heap.size = A at hD hE ⊢
  have hA : ∀ q : Nat, s.heap.size ≤ q → A q := fun q h => by rw [← hAe]; exact Or.inr h
  have hR : Rep g ad A s S s.heap [] := ⟨hK, hP, hD, va_S.rf, hw⟩
  clear hK hP hD hD0
  have hl := lv_entry ([.ref (ad 0), .int x1, .int x2]) (n := 6) (Nat.le_of_ble_eq_true rfl)
  rw [lg_entry_eq]
  generalize (lg_sl ([.ref (ad 0), .int x1, .int x2]) ++ List.replicate (6 - (lg_sl ([.ref (ad 0), .int x1, .int x2])).length) Slot.unset).toArray = ls at hl ⊢
  have hl : lv_has ls 6 [(0, .ref (ad 0)), (1, .int x1), (2, .int x2)] := hl
  have hsh : shy S S := shy.rf
  unfold w_keep at h
  refine lv_aload_n hx hb dX14_keep_0 rfl (lv_at hl 0 rfl) ?_
  refine va_get (D := rD g) (ci := 13) (v := .ref (ad 27)) (C := RX14) (T := TX14) (N := 143) hx hb hts in2X14 hown hR.K hR.P 0 (hR.at14 hR.w.1) rfl 66 (by decide) (hts _ kx_518) (fun _ h9 => h9) (congrArg (fun z => some (vf ad z)) (hR.w.2.1 _ fin_66).1) dX14_keep_1 ?_
  refine lv_iload_n hx hb dX14_keep_4 rfl (lv_at hl 1 rfl) ?_
  refine lv_aload_n hx hb dX14_keep_5 rfl (lv_at hl 0 rfl) ?_
  refine va_get (D := rD g) (ci := 13) (v := .ref (ad 24)) (C := RX14) (T := TX14) (N := 143) hx hb hts in2X14 hown hR.K hR.P 0 (hR.at14 hR.w.1) rfl 59 (by decide) (hts _ kx_489) (fun _ h9 => h9) (congrArg (fun z => some (vf ad z)) (hR.w.2.1 _ fin_59).1) dX14_keep_6 ?_
  refine lv_iload_n hx hb dX14_keep_9 rfl (lv_at hl 2 rfl) ?_
  obtain ⟨hv1, h⟩ := h
  refine va_zald hx hb hR.K hR.P 24 2 (hR.atZ (hR.w.2.1 _ fin_59).2.1) rfl (k_ixN (k_ix (n := 1200) (x := x2) (a := x2.toInt) rfl hv1) (hR.w.2.1 _ fin_59).2.2) dX14_keep_10 ?_
  refine lv_topi (fun z2 ez2 => ?_)
  obtain rfl : z2 = (qI S 24 x2.toInt.toNat) := ez2
  have J_23 : ∀ (U23 : MS) (t23_0 : Int32) (t23_1 : Int32) (v23_1 : Int32) (v23_2 : Int32) (H : Heap) (locs : List Loc) (ls : Array Slot), w_keep_J23 Q U23 t23_0 t23_1 v23_1 v23_2 → shy S U23 → Rep g ad A s U23 H locs → lv_has ls 6 [(0, .ref (ad 0)), (1, .int v23_1), (2, .int v23_2)] → W p l e (headSpec (wt2 yX14_keep cX14_keep 6 none) ({ frames := 1, cells := 0, slots := 0, locals := 22 })).room s m ([.ref (ad 0), .int x1, .int x2] : List Value).toArray below meth c H locs 0 0 (MQ below (va_Qv (fun (u : MS) => Q u ∧ wfM u ∧ shy S u) (fun (u : MS) (t : State) => qE g ad A u t) A) ([.ref (ad 0), .int x1, .int x2] : List Value).toArray s 0 0 A) (F0 m 23 ls [.int t23_0, .int t23_1, .ref (ad 27)]) := by
    intro U23 t23_0 t23_1 v23_1 v23_2 H locs ls h hsh hR hl
    unfold w_keep_J23 at h
    obtain ⟨hv3, h⟩ := h
    refine va_iast hx hb hR.K hR.P hR.D hR.sS 27 1 (hR.atI (hR.w.2.1 _ fin_66).2.1) rfl (k_ixN (k_ix (n := 115200) (x := t23_1) (a := t23_1.toInt) rfl hv3) (hR.w.2.1 _ fin_66).2.2) dX14_keep_23 (fun H locs hP hD hS => ?_)
    have hR : Rep g ad A s (wI U23 27 t23_1.toInt.toNat t23_0) H locs := hR.aI (hR.w.2.1 _ fin_66).2.1 hP hD hS
    obtain ⟨S4, eS4⟩ : ∃ z, z = wI U23 27 t23_1.toInt.toNat t23_0 := ⟨_, rfl⟩
    rw [← eS4] at hR
    replace h := h S4 eS4
    have hsh : shy S S4 := by rw [eS4]; exact hsh
    refine lv_iconst (v := 0) hx hb dX14_keep_24 (by decide) ?_
    refine lv_istore_n (lv' := [(3, .int 0), (0, .ref (ad 0)), (1, .int v23_1), (2, .int v23_2)]) hx hb dX14_keep_25 rfl hl (by decide) rfl (fun ls hl => ?_)
    have J_26 : ∀ (n26 : Nat) (U26 : MS) (v26_1 : Int32) (v26_2 : Int32) (v26_3 : Int32) (H : Heap) (locs : List Loc) (ls : Array Slot), w_keep_L26 Q n26 U26 v26_1 v26_2 v26_3 → shy S U26 → Rep g ad A s U26 H locs → lv_has ls 6 [(0, .ref (ad 0)), (1, .int v26_1), (2, .int v26_2), (3, .int v26_3)] → W p l e (headSpec (wt2 yX14_keep cX14_keep 6 none) ({ frames := 1, cells := 0, slots := 0, locals := 22 })).room s m ([.ref (ad 0), .int x1, .int x2] : List Value).toArray below meth c H locs 0 0 (MQ below (va_Qv (fun (u : MS) => Q u ∧ wfM u ∧ shy S u) (fun (u : MS) (t : State) => qE g ad A u t) A) ([.ref (ad 0), .int x1, .int x2] : List Value).toArray s 0 0 A) (F0 m 26 ls []) := by
      intro n26
      induction n26 with
      | zero => intro U26 v26_1 v26_2 v26_3 H locs ls h hsh hR hl; unfold w_keep_L26 at h; exact h.elim
      | succ n26 ih_26 =>
        intro U26 v26_1 v26_2 v26_3 H locs ls h hsh hR hl
        unfold w_keep_L26 at h
        refine lv_iload_n hx hb dX14_keep_26 rfl (lv_at hl 3 rfl) ?_
        refine lv_iconst (v := 3) hx hb dX14_keep_27 (by decide) ?_
        refine lv_icmp_ge (tgt := 95) hx hb dX14_keep_28 (by decide) (fun c5 => ?_) (fun c5 => ?_)
        · replace h := h.1 (k_le (by decide) rfl c5)
          exact W.vret hx hb hr (fun t9 ht9 hW9 => ⟨⟨U26, rfl, ⟨h, hR.w, hsh⟩, ⟨by rw [ht9]; exact hR.P, hR.D⟩⟩, hR.sS.F ht9⟩) hR.sS.2.2 dX14_keep_95
        · replace h := h.2 (k_nle (by decide) rfl c5)
          refine lv_iconst (v := 0) hx hb dX14_keep_31 (by decide) ?_
          refine lv_istore (lv' := [(4, .int 0), (0, .ref (ad 0)), (1, .int v26_1), (2, .int v26_2), (3, .int v26_3)]) hx hb dX14_keep_32 hl (by decide) rfl (fun ls hl => ?_)
          refine lv_iconst (v := 0) hx hb dX14_keep_34 (by decide) ?_
          refine lv_istore (lv' := [(5, .int 0), (4, .int 0), (0, .ref (ad 0)), (1, .int v26_1), (2, .int v26_2), (3, .int v26_3)]) hx hb dX14_keep_35 hl (by decide) rfl (fun ls hl => ?_)
          have J_37 : ∀ (n37 : Nat) (U37 : MS) (v37_1 : Int32) (v37_2 : Int32) (v37_3 : Int32) (v37_4 : Int32) (v37_5 : Int32) (H : Heap) (locs : List Loc) (ls : Array Slot), w_keep_L37 Q (w_keep_L26 Q n26) n37 U37 v37_1 v37_2 v37_3 v37_4 v37_5 → shy S U37 → Rep g ad A s U37 H locs → lv_has ls 6 [(0, .ref (ad 0)), (1, .int v37_1), (2, .int v37_2), (3, .int v37_3), (4, .int v37_4), (5, .int v37_5)] → W p l e (headSpec (wt2 yX14_keep cX14_keep 6 none) ({ frames := 1, cells := 0, slots := 0, locals := 22 })).room s m ([.ref (ad 0), .int x1, .int x2] : List Value).toArray below meth c H locs 0 0 (MQ below (va_Qv (fun (u : MS) => Q u ∧ wfM u ∧ shy S u) (fun (u : MS) (t : State) => qE g ad A u t) A) ([.ref (ad 0), .int x1, .int x2] : List Value).toArray s 0 0 A) (F0 m 37 ls []) := by
            intro n37
            induction n37 with
            | zero => intro U37 v37_1 v37_2 v37_3 v37_4 v37_5 H locs ls h hsh hR hl; unfold w_keep_L37 at h; exact h.elim
            | succ n37 ih_37 =>
              intro U37 v37_1 v37_2 v37_3 v37_4 v37_5 H locs ls h hsh hR hl
              unfold w_keep_L37 at h
              refine lv_iload hx hb dX14_keep_37 (lv_at hl 5 rfl) ?_
              refine lv_bipush (v := 8) hx hb dX14_keep_39 (by decide) ?_
              refine lv_icmp_ge (tgt := 77) hx hb dX14_keep_41 (by decide) (fun c6 => ?_) (fun c6 => ?_)
              · replace h := h.1 (k_le (by decide) rfl c6)
                refine lv_aload_n hx hb dX14_keep_77 rfl (lv_at hl 0 rfl) ?_
                refine va_get (D := rD g) (ci := 13) (v := .ref (ad 27)) (C := RX14) (T := TX14) (N := 143) hx hb hts in2X14 hown hR.K hR.P 0 (hR.at14 hR.w.1) rfl 66 (by decide) (hts _ kx_518) (fun _ h9 => h9) (congrArg (fun z => some (vf ad z)) (hR.w.2.1 _ fin_66).1) dX14_keep_78 ?_
                refine lv_iload_n hx hb dX14_keep_81 rfl (lv_at hl 1 rfl) ?_
                refine lv_iconst (v := 1) hx hb dX14_keep_82 (by decide) ?_
                refine lv_iadd hx hb dX14_keep_83 ?_
                refine lv_topi (fun z7 ez7 => ?_)
                obtain rfl : z7 = (v37_1 + (1 : Int32)) := ez7
                refine lv_iload_n hx hb dX14_keep_84 rfl (lv_at hl 3 rfl) ?_
                refine lv_iadd hx hb dX14_keep_85 ?_
                refine lv_topi (fun z8 ez8 => ?_)
                obtain rfl : z8 = ((v37_1 + (1 : Int32)) + v37_3) := ez8
                refine lv_iload hx hb dX14_keep_86 (lv_at hl 4 rfl) ?_
                obtain ⟨hv9, h⟩ := h
                refine va_iast hx hb hR.K hR.P hR.D hR.sS 27 1 (hR.atI (hR.w.2.1 _ fin_66).2.1) rfl (k_ixN (k_ix (n := 115200) (x := ((v37_1 + (1 : Int32)) + v37_3)) (a := ((v37_1 + (1 : Int32)) + v37_3).toInt) rfl hv9) (hR.w.2.1 _ fin_66).2.2) dX14_keep_88 (fun H locs hP hD hS => ?_)
                have hR : Rep g ad A s (wI U37 27 ((((v37_1 + (1 : Int32)) + v37_3).toInt).toNat) v37_4) H locs := hR.aI (hR.w.2.1 _ fin_66).2.1 hP hD hS
                obtain ⟨S10, eS10⟩ : ∃ z, z = wI U37 27 ((((v37_1 + (1 : Int32)) + v37_3).toInt).toNat) v37_4 := ⟨_, rfl⟩
                rw [← eS10] at hR
                replace h := h S10 eS10
                have hsh : shy S S10 := by rw [eS10]; exact hsh
                obtain ⟨a11, ea11⟩ : ∃ z, z = (v37_3 + Int32.ofInt 1) := ⟨_, rfl⟩
                replace h := h a11 ea11
                refine lv_iinc (v := a11) (lv' := [(3, .int a11), (0, .ref (ad 0)), (1, .int v37_1), (2, .int v37_2), (4, .int v37_4), (5, .int v37_5)]) hx hb dX14_keep_89 hl (k := 3) rfl ea11.symm (by decide) rfl (fun ls hl => ?_)
                refine lv_goto (tgt := 26) hx hb dX14_keep_92 (by decide) ?_
                exact ih_26 S10 v37_1 v37_2 a11 _ _ ls h  hsh hR (lv_sub hl [1, 2, 3, 0] rfl)
              · replace h := h.2 (k_nle (by decide) rfl c6)
                refine lv_iload hx hb dX14_keep_44 (lv_at hl 4 rfl) ?_
                refine lv_aload_n hx hb dX14_keep_46 rfl (lv_at hl 0 rfl) ?_
                refine va_get (D := rD g) (ci := 13) (v := .ref (ad 23)) (C := RX14) (T := TX14) (N := 143) hx hb hts in2X14 hown hR.K hR.P 0 (hR.at14 hR.w.1) rfl 58 (by decide) (hts _ kx_490) (fun _ h9 => h9) (congrArg (fun z => some (vf ad z)) (hR.w.2.1 _ fin_58).1) dX14_keep_47 ?_
                refine lv_bipush (v := 48) hx hb dX14_keep_50 (by decide) ?_
                refine lv_iload_n hx hb dX14_keep_52 rfl (lv_at hl 2 rfl) ?_
                refine lv_imul hx hb dX14_keep_53 ?_
                refine lv_topi (fun z12 ez12 => ?_)
                obtain rfl : z12 = ((48 : Int32) * v37_2) := ez12
                refine lv_bipush (v := 8) hx hb dX14_keep_54 (by decide) ?_
                refine lv_iload_n hx hb dX14_keep_56 rfl (lv_at hl 3 rfl) ?_
                refine lv_imul hx hb dX14_keep_57 ?_
                refine lv_topi (fun z13 ez13 => ?_)
                obtain rfl : z13 = ((8 : Int32) * v37_3) := ez13
                refine lv_iadd hx hb dX14_keep_58 ?_
                refine lv_topi (fun z14 ez14 => ?_)
                obtain rfl : z14 = (((48 : Int32) * v37_2) + ((8 : Int32) * v37_3)) := ez14
                refine lv_iload hx hb dX14_keep_59 (lv_at hl 5 rfl) ?_
                refine lv_iadd hx hb dX14_keep_61 ?_
                refine lv_topi (fun z15 ez15 => ?_)
                obtain rfl : z15 = ((((48 : Int32) * v37_2) + ((8 : Int32) * v37_3)) + v37_5) := ez15
                obtain ⟨hv16, h⟩ := h
                refine va_bald hx hb hR.K hR.P 23 0 (hR.atB (hR.w.2.1 _ fin_58).2.1) rfl (k_ixN (k_ix (n := 57600) (x := ((((48 : Int32) * v37_2) + ((8 : Int32) * v37_3)) + v37_5)) (a := ((((48 : Int32) * v37_2) + ((8 : Int32) * v37_3)) + v37_5).toInt) rfl hv16) (hR.w.2.1 _ fin_58).2.2) dX14_keep_62 ?_
                refine lv_topi (fun z17 ez17 => ?_)
                obtain rfl : z17 = (qI U37 23 ((((((48 : Int32) * v37_2) + ((8 : Int32) * v37_3)) + v37_5).toInt).toNat)) := ez17
                refine lv_iconst (v := 4) hx hb dX14_keep_63 (by decide) ?_
                refine lv_iload hx hb dX14_keep_64 (lv_at hl 5 rfl) ?_
                refine lv_imul hx hb dX14_keep_66 ?_
                refine lv_topi (fun z18 ez18 => ?_)
                obtain rfl : z18 = ((4 : Int32) * v37_5) := ez18
                refine lv_ishl hx hb dX14_keep_67 ?_
                refine lv_topi (fun z19 ez19 => ?_)
                obtain rfl : z19 = ((qI U37 23 ((((((48 : Int32) * v37_2) + ((8 : Int32) * v37_3)) + v37_5).toInt).toNat)) <<< (((4 : Int32) * v37_5) &&& 31)) := ez19
                refine lv_ior hx hb dX14_keep_68 ?_
                refine lv_topi (fun z20 ez20 => ?_)
                obtain rfl : z20 = (v37_4 ||| ((qI U37 23 ((((((48 : Int32) * v37_2) + ((8 : Int32) * v37_3)) + v37_5).toInt).toNat)) <<< (((4 : Int32) * v37_5) &&& 31))) := ez20
                obtain ⟨a21, ea21⟩ : ∃ z, z = (v37_4 ||| ((qI U37 23 ((((((48 : Int32) * v37_2) + ((8 : Int32) * v37_3)) + v37_5).toInt).toNat)) <<< (((4 : Int32) * v37_5) &&& 31))) := ⟨_, rfl⟩
                rw [← ea21]
                replace h := h a21 ea21
                refine lv_istore (lv' := [(4, .int a21), (0, .ref (ad 0)), (1, .int v37_1), (2, .int v37_2), (3, .int v37_3), (5, .int v37_5)]) hx hb dX14_keep_69 hl (by decide) rfl (fun ls hl => ?_)
                obtain ⟨a22, ea22⟩ : ∃ z, z = (v37_5 + Int32.ofInt 1) := ⟨_, rfl⟩
                replace h := h a22 ea22
                refine lv_iinc (v := a22) (lv' := [(5, .int a22), (4, .int a21), (0, .ref (ad 0)), (1, .int v37_1), (2, .int v37_2), (3, .int v37_3)]) hx hb dX14_keep_71 hl (k := 5) rfl ea22.symm (by decide) rfl (fun ls hl => ?_)
                refine lv_goto (tgt := 37) hx hb dX14_keep_74 (by decide) ?_
                exact ih_37 U37 v37_1 v37_2 v37_3 a21 a22 _ _ ls h  hsh hR (lv_sub hl [2, 3, 4, 5, 1, 0] rfl)
          obtain ⟨n9, h⟩ := h
          exact J_37 n9 U26 v26_1 v26_2 v26_3 0 0 _ _ ls h  hsh hR (lv_sub hl [2, 3, 4, 5, 1, 0] rfl)
    obtain ⟨n9, h⟩ := h
    exact J_26 n9 S4 v23_1 v23_2 0 _ _ ls h  hsh hR (lv_sub hl [1, 2, 3, 0] rfl)
  refine lv_if_eq (tgt := 22) hx hb dX14_keep_11 (by decide) (fun c23 => ?_) (fun c23 => ?_)
  · replace h := h.1 (k_eq rfl (by decide) c23)
    refine lv_iconst (v := (-1)) hx hb dX14_keep_22 (by decide) ?_
    exact J_23 S (-1) x1 x1 x2 _ _ ls h  hsh hR (lv_sub hl [0, 1, 2] rfl)
  · replace h := h.2 (k_ne rfl (by decide) c23)
    refine lv_aload_n hx hb dX14_keep_14 rfl (lv_at hl 0 rfl) ?_
    refine lv_iload_n hx hb dX14_keep_15 rfl (lv_at hl 2 rfl) ?_
    obtain ⟨Q24, h0, h⟩ := h
    have hFc := rfree hR hA
    refine va_calli (va_runV (As := [.int x2]) (rest := [.int x1, .ref (ad 27)]) ⟨hx, hb, hml, hown, hts⟩ (r_heightAt l g ad s.heap.size S x2 hR.w  Q24 h0) (cwV 1 hts (gd2_V kx_455 kx_456 kx_457 kx_177 kx_458) rfl rfl rfl (by decide +kernel) ⟨Nat.le_of_ble_eq_true rfl, Nat.le_of_ble_eq_true rfl⟩) ⟨rblind, va_recv hR.K hR.P (ci := 13) (q0 := 0) rfl (hR.at14 hR.w.1), fun U hU hW9 => rmk hU hW9 hR hex hE hFc⟩ rfl rfl hl.1 rfl (lv_room (Nat.le_of_ble_eq_true rfl)) dX14_keep_16 ⟨Nat.le_of_ble_eq_true rfl, Nat.le_of_ble_eq_true rfl⟩) hR.sS (fun q _ h => hFc q h) hFc (fun r25 S26 t9 H1 locs ht9 hvm9 hw9 hB9 hz9 hk9 hS => ?_)
    obtain ⟨hq27, hw9, hs9⟩ := hw9
    have hR : Rep g ad A s S26 H1 locs := hR.call ht9 hB9 hw9 hS hFc
    have hsh := hsh.tr hs9
    replace h := h r25 S26 hq27
    clear hB9 hz9 hk9 hvm9 ht9 hw9 hs9 hS
    generalize H1 = H at hR ⊢
    refine lv_goto (tgt := 23) hx hb dX14_keep_19 (by decide) ?_
    exact J_23 S26 r25 x1 x1 x2 _ _ ls h  hsh hR (lv_sub hl [0, 1, 2] rfl)
def f_method (S : MS) : Int32 := (qI S 0 64)
def d_method (S : MS) : Prop := True
set_option maxHeartbeats 2000000 in
set_option maxRecDepth 100000 in
theorem r_method (l : Launch) (g : Gr) (ad : Nat → Nat) (sz : Nat) (S : MS) (hw : wfM S) (hd : d_method S) : Met l yX14_method (wt2 yX14_method cX14_method 1 (some .int)) ({ frames := 0, cells := 0, slots := 0, locals := 0 }) (va_Pc [.ref (ad 0)] (st_R g ad sz S)) (va_Qi (fun (r : Int32) (_ : Unit) => r = f_method S) (fun (_ : Unit) (t : State) => qE g ad (va_A (Wd g ad S) sz) S t) (va_A (Wd g ad S) sz)) 0 0 (va_A (Wd g ad S) sz) := by
  refine Met.ofW (cc := cX14_method) (maxL := 1) (ret := (some .int)) (by decide) rfl ?_
  intro p e s m args below meth c s₁ B hml hv
  obtain ⟨rfl, hsz, hP, hK, hD0, hex, hE⟩ := hv
  have hx := B.exec
  have hb := B.bytes
  have hr := B.returns
  have hts0 := atoms_spec (ws := wt2 yX14_method cX14_method 1 (some .int)) B.pre
  have hts : ∀ w ∈ tb2, w.before _ s = true := fun w h => hts0 w (List.mem_cons_of_mem _ h)
  have hown : s.vm.findClass RX14 = some m.cls := findClass_of_methodNamed B.named
  subst hsz
  have hD := hD0.self (sz := s.heap.size)
  generalize hAe : va_A (Wd g ad S) s.heap.size = A at hD hE ⊢
  have hA : ∀ q : Nat, s.heap.size ≤ q → A q := fun q h => by rw [← hAe]; exact Or.inr h
  have hR : Rep g ad A s S s.heap [] := ⟨hK, hP, hD, va_S.rf, hw⟩
  clear hK hP hD hD0
  have hl := lv_entry ([.ref (ad 0)]) (n := 1) (Nat.le_of_ble_eq_true rfl)
  rw [lg_entry_eq]
  generalize (lg_sl ([.ref (ad 0)]) ++ List.replicate (1 - (lg_sl ([.ref (ad 0)])).length) Slot.unset).toArray = ls at hl ⊢
  have hl : lv_has ls 1 [(0, .ref (ad 0))] := hl
  obtain ⟨r0, hf⟩ : ∃ r0, f_method S = r0 := ⟨_, rfl⟩
  have hf0 := hf
  unfold f_method at hf
  unfold d_method at hd
  refine lv_aload_n hx hb dX14_method_0 rfl (lv_at hl 0 rfl) ?_
  refine va_get (D := rD g) (ci := 13) (v := .int (qI S 0 64)) (C := RX14) (T := TX14) (N := 143) hx hb hts in2X14 hown hR.K hR.P 0 (hR.at14 hR.w.1) rfl 64 (by decide) (hts _ kx_515) (fun _ h9 => h9) rfl dX14_method_1 ?_
  exact W.iret (v := (qI S 0 64)) hx hb hr (fun t9 ht9 hW9 => ⟨⟨_, (), rfl, hf.trans hf0.symm, ⟨by rw [ht9]; exact hR.P, hR.D⟩⟩, hR.sS.F ht9⟩) hR.sS.2.2 dX14_method_4
def f_at (S : MS) : Int32 := (qI S 0 65)
def d_at (S : MS) : Prop := True
set_option maxHeartbeats 2000000 in
set_option maxRecDepth 100000 in
theorem r_at (l : Launch) (g : Gr) (ad : Nat → Nat) (sz : Nat) (S : MS) (hw : wfM S) (hd : d_at S) : Met l yX14_at (wt2 yX14_at cX14_at 1 (some .int)) ({ frames := 0, cells := 0, slots := 0, locals := 0 }) (va_Pc [.ref (ad 0)] (st_R g ad sz S)) (va_Qi (fun (r : Int32) (_ : Unit) => r = f_at S) (fun (_ : Unit) (t : State) => qE g ad (va_A (Wd g ad S) sz) S t) (va_A (Wd g ad S) sz)) 0 0 (va_A (Wd g ad S) sz) := by
  refine Met.ofW (cc := cX14_at) (maxL := 1) (ret := (some .int)) (by decide) rfl ?_
  intro p e s m args below meth c s₁ B hml hv
  obtain ⟨rfl, hsz, hP, hK, hD0, hex, hE⟩ := hv
  have hx := B.exec
  have hb := B.bytes
  have hr := B.returns
  have hts0 := atoms_spec (ws := wt2 yX14_at cX14_at 1 (some .int)) B.pre
  have hts : ∀ w ∈ tb2, w.before _ s = true := fun w h => hts0 w (List.mem_cons_of_mem _ h)
  have hown : s.vm.findClass RX14 = some m.cls := findClass_of_methodNamed B.named
  subst hsz
  have hD := hD0.self (sz := s.heap.size)
  generalize hAe : va_A (Wd g ad S) s.heap.size = A at hD hE ⊢
  have hA : ∀ q : Nat, s.heap.size ≤ q → A q := fun q h => by rw [← hAe]; exact Or.inr h
  have hR : Rep g ad A s S s.heap [] := ⟨hK, hP, hD, va_S.rf, hw⟩
  clear hK hP hD hD0
  have hl := lv_entry ([.ref (ad 0)]) (n := 1) (Nat.le_of_ble_eq_true rfl)
  rw [lg_entry_eq]
  generalize (lg_sl ([.ref (ad 0)]) ++ List.replicate (1 - (lg_sl ([.ref (ad 0)])).length) Slot.unset).toArray = ls at hl ⊢
  have hl : lv_has ls 1 [(0, .ref (ad 0))] := hl
  obtain ⟨r0, hf⟩ : ∃ r0, f_at S = r0 := ⟨_, rfl⟩
  have hf0 := hf
  unfold f_at at hf
  unfold d_at at hd
  refine lv_aload_n hx hb dX14_at_0 rfl (lv_at hl 0 rfl) ?_
  refine va_get (D := rD g) (ci := 13) (v := .int (qI S 0 65)) (C := RX14) (T := TX14) (N := 143) hx hb hts in2X14 hown hR.K hR.P 0 (hR.at14 hR.w.1) rfl 65 (by decide) (hts _ kx_516) (fun _ h9 => h9) rfl dX14_at_1 ?_
  exact W.iret (v := (qI S 0 65)) hx hb hr (fun t9 ht9 hW9 => ⟨⟨_, (), rfl, hf.trans hf0.symm, ⟨by rw [ht9]; exact hR.P, hR.D⟩⟩, hR.sS.F ht9⟩) hR.sS.2.2 dX14_at_4
def w_isRight_J25 (Q : Int32 → MS → Prop) (U25 : MS) : Prop := Q (0 : Int32) U25
def w_isRight (S : MS) (x1 : Int32) (Q : Int32 → MS → Prop) : Prop := (∃ Q1, w_fileAt S x1 Q1 ∧ ∀ b5 S3, Q1 b5 S3 → ((b5 = none → w_isRight_J25 Q S3) ∧ (¬ b5 = none → (((0 : Int) ≤ x1.toInt ∧ x1.toInt < 12) ∧ ((qR S3 1 x1.toInt.toNat = some (qO S3 1 x1.toInt.toNat)) ∧ (((qI S3 (qO S3 1 x1.toInt.toNat) 21).toInt = 1 → Q (1 : Int32) S3) ∧ (¬ (qI S3 (qO S3 1 x1.toInt.toNat) 21).toInt = 1 → w_isRight_J25 Q S3)))))))
set_option maxHeartbeats 2000000 in
set_option maxRecDepth 100000 in
theorem r_isRight (l : Launch) (g : Gr) (ad : Nat → Nat) (sz : Nat) (S : MS) (x1 : Int32) (hw : wfM S) (Q : Int32 → MS → Prop) (h : w_isRight S x1 Q) : Met l yX14_isRight (wt2 yX14_isRight cX14_isRight 2 (some .boolean)) ({ frames := 1, cells := 0, slots := 0, locals := 21 }) (va_Pc [.ref (ad 0), .int x1] (st_R g ad sz S)) (va_Qi (fun (r : Int32) (u : MS) => Q r u ∧ wfM u ∧ shy S u ∧ (r = 0 ∨ r = 1)) (fun (u : MS) (t : State) => qE g ad (va_A (Wd g ad S) sz) u t) (va_A (Wd g ad S) sz)) 0 0 (va_A (Wd g ad S) sz) := by
  refine Met.ofW (cc := cX14_isRight) (maxL := 2) (ret := (some .boolean)) (by decide) rfl ?_
  intro p e s m args below meth c s₁ B hml hv
  obtain ⟨rfl, hsz, hP, hK, hD0, hex, hE⟩ := hv
  have hx := B.exec
  have hb := B.bytes
  have hr := B.returns
  have hts0 := atoms_spec (ws := wt2 yX14_isRight cX14_isRight 2 (some .boolean)) B.pre
  have hts : ∀ w ∈ tb2, w.before _ s = true := fun w h => hts0 w (List.mem_cons_of_mem _ h)
  have hown : s.vm.findClass RX14 = some m.cls := findClass_of_methodNamed B.named
  subst hsz
  have hD := hD0.self (sz := s.heap.size)
  generalize hAe : va_A (Wd g ad S) s.heap.size = A at hD hE ⊢
  have hA : ∀ q : Nat, s.heap.size ≤ q → A q := fun q h => by rw [← hAe]; exact Or.inr h
  have hR : Rep g ad A s S s.heap [] := ⟨hK, hP, hD, va_S.rf, hw⟩
  clear hK hP hD hD0
  have hl := lv_entry ([.ref (ad 0), .int x1]) (n := 2) (Nat.le_of_ble_eq_true rfl)
  rw [lg_entry_eq]
  generalize (lg_sl ([.ref (ad 0), .int x1]) ++ List.replicate (2 - (lg_sl ([.ref (ad 0), .int x1])).length) Slot.unset).toArray = ls at hl ⊢
  have hl : lv_has ls 2 [(0, .ref (ad 0)), (1, .int x1)] := hl
  have hsh : shy S S := shy.rf
  unfold w_isRight at h
  refine lv_aload_n hx hb dX14_isRight_0 rfl (lv_at hl 0 rfl) ?_
  refine lv_iload_n hx hb dX14_isRight_1 rfl (lv_at hl 1 rfl) ?_
  obtain ⟨Q1, h0, h⟩ := h
  have hFc := rfree hR hA
  refine va_callq (va_runV (As := [.int x1]) (rest := []) ⟨hx, hb, hml, hown, hts⟩ (r_fileAt l g ad s.heap.size S x1 hR.w  Q1 h0) (cwV 1 hts (gd2_V kx_349 kx_350 kx_351 kx_177 kx_352) rfl rfl rfl (by decide +kernel) ⟨Nat.le_of_ble_eq_true rfl, Nat.le_of_ble_eq_true rfl⟩) ⟨rblind, va_recv hR.K hR.P (ci := 13) (q0 := 0) rfl (hR.at14 hR.w.1), fun U hU hW9 => rmk hU hW9 hR hex hE hFc⟩ rfl rfl hl.1 rfl (lv_room (Nat.le_of_ble_eq_true rfl)) dX14_isRight_2 ⟨Nat.le_of_ble_eq_true rfl, Nat.le_of_ble_eq_true rfl⟩) hR.sS (fun q _ h => hFc q h) hFc (fun r2 S3 t9 H1 locs ht9 hvm9 hw9 hB9 hz9 hk9 hS => ?_)
  obtain ⟨b5, rfl, hq4, hw9, hs9, hO_b5⟩ := hw9
  have hR : Rep g ad A s S3 H1 locs := hR.call ht9 hB9 hw9 hS hFc
  have hsh := hsh.tr hs9
  replace h := h b5 S3 hq4
  clear hB9 hz9 hk9 hvm9 ht9 hw9 hs9 hS
  generalize H1 = H at hR ⊢
  have J_25 : ∀ (U25 : MS) (H : Heap) (locs : List Loc) (ls : Array Slot), w_isRight_J25 Q U25 → shy S U25 → Rep g ad A s U25 H locs → lv_has ls 2 [] → W p l e (headSpec (wt2 yX14_isRight cX14_isRight 2 (some .boolean)) ({ frames := 1, cells := 0, slots := 0, locals := 21 })).room s m ([.ref (ad 0), .int x1] : List Value).toArray below meth c H locs 0 0 (MQ below (va_Qi (fun (r : Int32) (u : MS) => Q r u ∧ wfM u ∧ shy S u ∧ (r = 0 ∨ r = 1)) (fun (u : MS) (t : State) => qE g ad A u t) A) ([.ref (ad 0), .int x1] : List Value).toArray s 0 0 A) (F0 m 25 ls []) := by
    intro U25 H locs ls h hsh hR hl
    unfold w_isRight_J25 at h
    refine lv_iconst (v := 0) hx hb dX14_isRight_25 (by decide) ?_
    exact W.zret (v := 0) hx hb hr (nz (Or.inl rfl)) (fun t9 ht9 hW9 => ⟨⟨_, U25, rfl, ⟨h, hR.w, hsh, (Or.inl rfl)⟩, ⟨by rw [ht9]; exact hR.P, hR.D⟩⟩, hR.sS.F ht9⟩) hR.sS.2.2 dX14_isRight_26
  rcases hq_b6 : b5 with _ | b6
  · skip
    replace h := h.1 (hq_b6)
    refine lv_ifnullN (tgt := 25) hx hb dX14_isRight_5 (by decide) ?_
    exact J_25 S3 _ _ ls h  hsh hR (lv_sub hl [] rfl)
  · have hg_b6 : b6 = (b5).getD 0 := by rw [hq_b6]; rfl
    have hT_b6 : qT S3 ((b5).getD 0) = 11 := hg_b6 ▸ hO_b5 _ hq_b6
    subst hg_b6
    replace h := h.2 (fun q9 => Option.some_ne_none _ (hq_b6.symm.trans q9))
    refine lv_ifnull hx hb dX14_isRight_5 ?_
    refine lv_aload_n hx hb dX14_isRight_8 rfl (lv_at hl 0 rfl) ?_
    refine va_get (D := rD g) (ci := 13) (v := .ref (ad 1)) (C := RX14) (T := TX14) (N := 143) hx hb hts in2X14 hown hR.K hR.P 0 (hR.at14 hR.w.1) rfl 0 (by decide) (hts _ kx_347) (fun _ h9 => h9) (congrArg (fun z => some (vf ad z)) (hR.w.2.1 _ fin_0).1) dX14_isRight_9 ?_
    refine lv_iload_n hx hb dX14_isRight_12 rfl (lv_at hl 1 rfl) ?_
    obtain ⟨hv7, h⟩ := h
    refine va_aldq hx hb hR.K hR.P 1 5 (hR.atF (hR.w.2.1 _ fin_0).2.1) rfl (k_ixN (k_ix (n := 12) (x := x1) (a := x1.toInt) rfl hv7) (hR.w.2.1 _ fin_0).2.2) dX14_isRight_13 ?_
    obtain ⟨hv8, h⟩ := h
    have hT_b9 : qT S3 (qO S3 1 x1.toInt.toNat) = 11 := hR.w.ref hv8 (hR.w.2.1 _ fin_0).2.1
    rw [show va_rf (Option.map ad (qR S3 1 (x1 : Int32).toNatClampNeg)) = .ref (ad (qO S3 1 x1.toInt.toNat)) from congrArg (fun z => vf ad z) hv8]
    refine va_get (D := rD g) (ci := 12) (v := .int (qI S3 (qO S3 1 x1.toInt.toNat) 21)) (C := RX13) (T := TX13) (N := 23) hx hb hts in2X13 hown hR.K hR.P (qO S3 1 x1.toInt.toNat) (hR.at13 hT_b9) rfl 21 (by decide) (hts _ kx_517) (fun _ h9 => h9) rfl dX14_isRight_14 ?_
    refine lv_iconst (v := 1) hx hb dX14_isRight_17 (by decide) ?_
    refine lv_icmp_ne (tgt := 25) hx hb dX14_isRight_18 (by decide) (fun c10 => ?_) (fun c10 => ?_)
    · replace h := h.2 (k_ne rfl (by decide) c10)
      exact J_25 S3 _ _ ls h  hsh hR (lv_sub hl [] rfl)
    · replace h := h.1 (k_eq rfl (by decide) c10)
      refine lv_iconst (v := 1) hx hb dX14_isRight_21 (by decide) ?_
      refine lv_goto (tgt := 26) hx hb dX14_isRight_22 (by decide) ?_
      exact W.zret (v := 1) hx hb hr (nz (Or.inr rfl)) (fun t9 ht9 hW9 => ⟨⟨_, S3, rfl, ⟨h, hR.w, hsh, (Or.inr rfl)⟩, ⟨by rw [ht9]; exact hR.P, hR.D⟩⟩, hR.sS.F ht9⟩) hR.sS.2.2 dX14_isRight_26
def w_stateAt_J54 (Q : Int32 → MS → Prop) (U54 : MS) : Prop := Q (-1 : Int32) U54
def w_stateAt (S : MS) (x1 : Int32) (x2 : Int32) (x3 : Int32) (Q : Int32 → MS → Prop) : Prop := (∃ Q1, w_isRight S x1 Q1 ∧ ∀ r2 S3, Q1 r2 S3 → ((r2.toInt = 0 → w_stateAt_J54 Q S3) ∧ (¬ r2.toInt = 0 → (∃ Q6, w_isMethod S3 x1 x2 Q6 ∧ ∀ r7 S8, Q6 r7 S8 → ((r7.toInt = 0 → w_stateAt_J54 Q S8) ∧ (¬ r7.toInt = 0 → ((x3.toInt < 0 → w_stateAt_J54 Q S8) ∧ (¬ x3.toInt < 0 → (((0 : Int) ≤ x1.toInt ∧ x1.toInt < 12) ∧ ((qR S8 1 x1.toInt.toNat = some (qO S8 1 x1.toInt.toNat)) ∧ ((qR S8 (qO S8 1 x1.toInt.toNat) 15 = some (qO S8 (qO S8 1 x1.toInt.toNat) 15)) ∧ (((0 : Int) ≤ x2.toInt ∧ x2.toInt < (qN S8 (qO S8 (qO S8 1 x1.toInt.toNat) 15) : Int)) ∧ (((qI S8 (qO S8 (qO S8 1 x1.toInt.toNat) 15) x2.toInt.toNat).toInt ≤ x3.toInt → w_stateAt_J54 Q S8) ∧ (¬ (qI S8 (qO S8 (qO S8 1 x1.toInt.toNat) 15) x2.toInt.toNat).toInt ≤ x3.toInt → (((0 : Int) ≤ x1.toInt ∧ x1.toInt < 12) ∧ ((qR S8 1 x1.toInt.toNat = some (qO S8 1 x1.toInt.toNat)) ∧ ((qR S8 (qO S8 1 x1.toInt.toNat) 14 = some (qO S8 (qO S8 1 x1.toInt.toNat) 14)) ∧ (((0 : Int) ≤ x2.toInt ∧ x2.toInt < (qN S8 (qO S8 (qO S8 1 x1.toInt.toNat) 14) : Int)) ∧ Q ((4 : Int32) * ((qI S8 (qO S8 (qO S8 1 x1.toInt.toNat) 14) x2.toInt.toNat) + x3)) S8))))))))))))))))))
set_option maxHeartbeats 2000000 in
set_option maxRecDepth 100000 in
theorem r_stateAt (l : Launch) (g : Gr) (ad : Nat → Nat) (sz : Nat) (S : MS) (x1 : Int32) (x2 : Int32) (x3 : Int32) (hw : wfM S) (Q : Int32 → MS → Prop) (h : w_stateAt S x1 x2 x3 Q) : Met l yX14_stateAt (wt2 yX14_stateAt cX14_stateAt 4 (some .int)) ({ frames := 2, cells := 0, slots := 0, locals := 43 }) (va_Pc [.ref (ad 0), .int x1, .int x2, .int x3] (st_R g ad sz S)) (va_Qi (fun (r : Int32) (u : MS) => Q r u ∧ wfM u ∧ shy S u) (fun (u : MS) (t : State) => qE g ad (va_A (Wd g ad S) sz) u t) (va_A (Wd g ad S) sz)) 0 0 (va_A (Wd g ad S) sz) := by
  refine Met.ofW (cc := cX14_stateAt) (maxL := 4) (ret := (some .int)) (by decide) rfl ?_
  intro p e s m args below meth c s₁ B hml hv
  obtain ⟨rfl, hsz, hP, hK, hD0, hex, hE⟩ := hv
  have hx := B.exec
  have hb := B.bytes
  have hr := B.returns
  have hts0 := atoms_spec (ws := wt2 yX14_stateAt cX14_stateAt 4 (some .int)) B.pre
  have hts : ∀ w ∈ tb2, w.before _ s = true := fun w h => hts0 w (List.mem_cons_of_mem _ h)
  have hown : s.vm.findClass RX14 = some m.cls := findClass_of_methodNamed B.named
  subst hsz
  have hD := hD0.self (sz := s.heap.size)
  generalize hAe : va_A (Wd g ad S) s.heap.size = A at hD hE ⊢
  have hA : ∀ q : Nat, s.heap.size ≤ q → A q := fun q h => by rw [← hAe]; exact Or.inr h
  have hR : Rep g ad A s S s.heap [] := ⟨hK, hP, hD, va_S.rf, hw⟩
  clear hK hP hD hD0
  have hl := lv_entry ([.ref (ad 0), .int x1, .int x2, .int x3]) (n := 4) (Nat.le_of_ble_eq_true rfl)
  rw [lg_entry_eq]
  generalize (lg_sl ([.ref (ad 0), .int x1, .int x2, .int x3]) ++ List.replicate (4 - (lg_sl ([.ref (ad 0), .int x1, .int x2, .int x3])).length) Slot.unset).toArray = ls at hl ⊢
  have hl : lv_has ls 4 [(0, .ref (ad 0)), (1, .int x1), (2, .int x2), (3, .int x3)] := hl
  have hsh : shy S S := shy.rf
  unfold w_stateAt at h
  refine lv_aload_n hx hb dX14_stateAt_0 rfl (lv_at hl 0 rfl) ?_
  refine lv_iload_n hx hb dX14_stateAt_1 rfl (lv_at hl 1 rfl) ?_
  obtain ⟨Q1, h0, h⟩ := h
  have hFc := rfree hR hA
  refine va_calli (va_runV (As := [.int x1]) (rest := []) ⟨hx, hb, hml, hown, hts⟩ (r_isRight l g ad s.heap.size S x1 hR.w  Q1 h0) (cwV 1 hts (gd2_V kx_523 kx_524 kx_525 kx_177 kx_526) rfl rfl rfl (by decide +kernel) ⟨Nat.le_of_ble_eq_true rfl, Nat.le_of_ble_eq_true rfl⟩) ⟨rblind, va_recv hR.K hR.P (ci := 13) (q0 := 0) rfl (hR.at14 hR.w.1), fun U hU hW9 => rmk hU hW9 hR hex hE hFc⟩ rfl rfl hl.1 rfl (lv_room (Nat.le_of_ble_eq_true rfl)) dX14_stateAt_2 ⟨Nat.le_of_ble_eq_true rfl, Nat.le_of_ble_eq_true rfl⟩) hR.sS (fun q _ h => hFc q h) hFc (fun r2 S3 t9 H1 locs ht9 hvm9 hw9 hB9 hz9 hk9 hS => ?_)
  obtain ⟨hq4, hw9, hs9, hz_r2⟩ := hw9
  have hR : Rep g ad A s S3 H1 locs := hR.call ht9 hB9 hw9 hS hFc
  have hsh := hsh.tr hs9
  replace h := h r2 S3 hq4
  clear hB9 hz9 hk9 hvm9 ht9 hw9 hs9 hS
  generalize H1 = H at hR ⊢
  have J_54 : ∀ (U54 : MS) (H : Heap) (locs : List Loc) (ls : Array Slot), w_stateAt_J54 Q U54 → shy S U54 → Rep g ad A s U54 H locs → lv_has ls 4 [] → W p l e (headSpec (wt2 yX14_stateAt cX14_stateAt 4 (some .int)) ({ frames := 2, cells := 0, slots := 0, locals := 43 })).room s m ([.ref (ad 0), .int x1, .int x2, .int x3] : List Value).toArray below meth c H locs 0 0 (MQ below (va_Qi (fun (r : Int32) (u : MS) => Q r u ∧ wfM u ∧ shy S u) (fun (u : MS) (t : State) => qE g ad A u t) A) ([.ref (ad 0), .int x1, .int x2, .int x3] : List Value).toArray s 0 0 A) (F0 m 54 ls []) := by
    intro U54 H locs ls h hsh hR hl
    unfold w_stateAt_J54 at h
    refine lv_iconst (v := (-1)) hx hb dX14_stateAt_54 (by decide) ?_
    exact W.iret (v := (-1)) hx hb hr (fun t9 ht9 hW9 => ⟨⟨_, U54, rfl, ⟨h, hR.w, hsh⟩, ⟨by rw [ht9]; exact hR.P, hR.D⟩⟩, hR.sS.F ht9⟩) hR.sS.2.2 dX14_stateAt_55
  refine lv_if_eq (tgt := 54) hx hb dX14_stateAt_5 (by decide) (fun c5 => ?_) (fun c5 => ?_)
  · replace h := h.1 (k_eq rfl (by decide) c5)
    exact J_54 S3 _ _ ls h  hsh hR (lv_sub hl [] rfl)
  · replace h := h.2 (k_ne rfl (by decide) c5)
    refine lv_aload_n hx hb dX14_stateAt_8 rfl (lv_at hl 0 rfl) ?_
    refine lv_iload_n hx hb dX14_stateAt_9 rfl (lv_at hl 1 rfl) ?_
    refine lv_iload_n hx hb dX14_stateAt_10 rfl (lv_at hl 2 rfl) ?_
    obtain ⟨Q6, h0, h⟩ := h
    have hFc := rfree hR hA
    refine va_calli (va_runV (As := [.int x1, .int x2]) (rest := []) ⟨hx, hb, hml, hown, hts⟩ (r_isMethod l g ad H.size S3 x1 x2 hR.w  Q6 h0) (cwV 2 hts (gd2_V kx_357 kx_358 kx_359 kx_177 kx_360) rfl rfl rfl (by decide +kernel) ⟨Nat.le_of_ble_eq_true rfl, Nat.le_of_ble_eq_true rfl⟩) ⟨rblind, va_recv hR.K hR.P (ci := 13) (q0 := 0) rfl (hR.at14 hR.w.1), fun U hU hW9 => rmk hU hW9 hR hex hE hFc⟩ rfl rfl hl.1 rfl (lv_room (Nat.le_of_ble_eq_true rfl)) dX14_stateAt_11 ⟨Nat.le_of_ble_eq_true rfl, Nat.le_of_ble_eq_true rfl⟩) hR.sS (fun q _ h => hFc q h) hFc (fun r7 S8 t9 H1 locs ht9 hvm9 hw9 hB9 hz9 hk9 hS => ?_)
    obtain ⟨hq9, hw9, hs9, hz_r7⟩ := hw9
    have hR : Rep g ad A s S8 H1 locs := hR.call ht9 hB9 hw9 hS hFc
    have hsh := hsh.tr hs9
    replace h := h r7 S8 hq9
    clear hB9 hz9 hk9 hvm9 ht9 hw9 hs9 hS
    generalize H1 = H at hR ⊢
    refine lv_if_eq (tgt := 54) hx hb dX14_stateAt_14 (by decide) (fun c10 => ?_) (fun c10 => ?_)
    · replace h := h.1 (k_eq rfl (by decide) c10)
      exact J_54 S8 _ _ ls h  hsh hR (lv_sub hl [] rfl)
    · replace h := h.2 (k_ne rfl (by decide) c10)
      refine lv_iload_n hx hb dX14_stateAt_17 rfl (lv_at hl 3 rfl) ?_
      refine lv_if_lt (tgt := 54) hx hb dX14_stateAt_18 (by decide) (fun c11 => ?_) (fun c11 => ?_)
      · replace h := h.1 (k_lt rfl (by decide) c11)
        exact J_54 S8 _ _ ls h  hsh hR (lv_sub hl [] rfl)
      · replace h := h.2 (k_nlt rfl (by decide) c11)
        refine lv_iload_n hx hb dX14_stateAt_21 rfl (lv_at hl 3 rfl) ?_
        refine lv_aload_n hx hb dX14_stateAt_22 rfl (lv_at hl 0 rfl) ?_
        refine va_get (D := rD g) (ci := 13) (v := .ref (ad 1)) (C := RX14) (T := TX14) (N := 143) hx hb hts in2X14 hown hR.K hR.P 0 (hR.at14 hR.w.1) rfl 0 (by decide) (hts _ kx_347) (fun _ h9 => h9) (congrArg (fun z => some (vf ad z)) (hR.w.2.1 _ fin_0).1) dX14_stateAt_23 ?_
        refine lv_iload_n hx hb dX14_stateAt_26 rfl (lv_at hl 1 rfl) ?_
        obtain ⟨hv12, h⟩ := h
        refine va_aldq hx hb hR.K hR.P 1 5 (hR.atF (hR.w.2.1 _ fin_0).2.1) rfl (k_ixN (k_ix (n := 12) (x := x1) (a := x1.toInt) rfl hv12) (hR.w.2.1 _ fin_0).2.2) dX14_stateAt_27 ?_
        obtain ⟨hv13, h⟩ := h
        have hT_b14 : qT S8 (qO S8 1 x1.toInt.toNat) = 11 := hR.w.ref hv13 (hR.w.2.1 _ fin_0).2.1
        rw [show va_rf (Option.map ad (qR S8 1 (x1 : Int32).toNatClampNeg)) = .ref (ad (qO S8 1 x1.toInt.toNat)) from congrArg (fun z => vf ad z) hv13]
        obtain ⟨hv15, h⟩ := h
        have hT_b16 : qT S8 (qO S8 (qO S8 1 x1.toInt.toNat) 15) = 2 := hR.w.ref hv15 hT_b14
        refine va_get (D := rD g) (ci := 12) (v := .ref (ad (qO S8 (qO S8 1 x1.toInt.toNat) 15))) (C := RX13) (T := TX13) (N := 23) hx hb hts in2X13 hown hR.K hR.P (qO S8 1 x1.toInt.toNat) (hR.at13 hT_b14) rfl 15 (by decide) (hts _ kx_361) (fun _ h9 => h9) (congrArg (fun z => some (vf ad z)) hv15) dX14_stateAt_28 ?_
        refine lv_iload_n hx hb dX14_stateAt_31 rfl (lv_at hl 2 rfl) ?_
        obtain ⟨hv17, h⟩ := h
        refine va_iald hx hb hR.K hR.P (qO S8 (qO S8 1 x1.toInt.toNat) 15) 1 (hR.atI hT_b16) rfl (k_ix (x := x2) (a := x2.toInt) rfl hv17) dX14_stateAt_32 ?_
        refine lv_topi (fun z18 ez18 => ?_)
        obtain rfl : z18 = (qI S8 (qO S8 (qO S8 1 x1.toInt.toNat) 15) x2.toInt.toNat) := ez18
        refine lv_icmp_ge (tgt := 54) hx hb dX14_stateAt_33 (by decide) (fun c19 => ?_) (fun c19 => ?_)
        · replace h := h.1 (k_le rfl rfl c19)
          exact J_54 S8 _ _ ls h  hsh hR (lv_sub hl [] rfl)
        · replace h := h.2 (k_nle rfl rfl c19)
          refine lv_iconst (v := 4) hx hb dX14_stateAt_36 (by decide) ?_
          refine lv_aload_n hx hb dX14_stateAt_37 rfl (lv_at hl 0 rfl) ?_
          refine va_get (D := rD g) (ci := 13) (v := .ref (ad 1)) (C := RX14) (T := TX14) (N := 143) hx hb hts in2X14 hown hR.K hR.P 0 (hR.at14 hR.w.1) rfl 0 (by decide) (hts _ kx_347) (fun _ h9 => h9) (congrArg (fun z => some (vf ad z)) (hR.w.2.1 _ fin_0).1) dX14_stateAt_38 ?_
          refine lv_iload_n hx hb dX14_stateAt_41 rfl (lv_at hl 1 rfl) ?_
          obtain ⟨hv20, h⟩ := h
          refine va_aldq hx hb hR.K hR.P 1 5 (hR.atF (hR.w.2.1 _ fin_0).2.1) rfl (k_ixN (k_ix (n := 12) (x := x1) (a := x1.toInt) rfl hv20) (hR.w.2.1 _ fin_0).2.2) dX14_stateAt_42 ?_
          obtain ⟨hv21, h⟩ := h
          have hT_b22 : qT S8 (qO S8 1 x1.toInt.toNat) = 11 := hR.w.ref hv21 (hR.w.2.1 _ fin_0).2.1
          rw [show va_rf (Option.map ad (qR S8 1 (x1 : Int32).toNatClampNeg)) = .ref (ad (qO S8 1 x1.toInt.toNat)) from congrArg (fun z => vf ad z) hv21]
          obtain ⟨hv23, h⟩ := h
          have hT_b24 : qT S8 (qO S8 (qO S8 1 x1.toInt.toNat) 14) = 2 := hR.w.ref hv23 hT_b22
          refine va_get (D := rD g) (ci := 12) (v := .ref (ad (qO S8 (qO S8 1 x1.toInt.toNat) 14))) (C := RX13) (T := TX13) (N := 23) hx hb hts in2X13 hown hR.K hR.P (qO S8 1 x1.toInt.toNat) (hR.at13 hT_b22) rfl 14 (by decide) (hts _ kx_368) (fun _ h9 => h9) (congrArg (fun z => some (vf ad z)) hv23) dX14_stateAt_43 ?_
          refine lv_iload_n hx hb dX14_stateAt_46 rfl (lv_at hl 2 rfl) ?_
          obtain ⟨hv25, h⟩ := h
          refine va_iald hx hb hR.K hR.P (qO S8 (qO S8 1 x1.toInt.toNat) 14) 1 (hR.atI hT_b24) rfl (k_ix (x := x2) (a := x2.toInt) rfl hv25) dX14_stateAt_47 ?_
          refine lv_topi (fun z26 ez26 => ?_)
          obtain rfl : z26 = (qI S8 (qO S8 (qO S8 1 x1.toInt.toNat) 14) x2.toInt.toNat) := ez26
          refine lv_iload_n hx hb dX14_stateAt_48 rfl (lv_at hl 3 rfl) ?_
          refine lv_iadd hx hb dX14_stateAt_49 ?_
          refine lv_topi (fun z27 ez27 => ?_)
          obtain rfl : z27 = ((qI S8 (qO S8 (qO S8 1 x1.toInt.toNat) 14) x2.toInt.toNat) + x3) := ez27
          refine lv_imul hx hb dX14_stateAt_50 ?_
          refine lv_topi (fun z28 ez28 => ?_)
          obtain rfl : z28 = ((4 : Int32) * ((qI S8 (qO S8 (qO S8 1 x1.toInt.toNat) 14) x2.toInt.toNat) + x3)) := ez28
          refine lv_goto (tgt := 55) hx hb dX14_stateAt_51 (by decide) ?_
          exact W.iret (v := ((4 : Int32) * ((qI S8 (qO S8 (qO S8 1 x1.toInt.toNat) 14) x2.toInt.toNat) + x3))) hx hb hr (fun t9 ht9 hW9 => ⟨⟨_, S8, rfl, ⟨h, hR.w, hsh⟩, ⟨by rw [ht9]; exact hR.P, hR.D⟩⟩, hR.sS.F ht9⟩) hR.sS.2.2 dX14_stateAt_55
def w_height (S : MS) (x1 : Int32) (x2 : Int32) (x3 : Int32) (Q : Int32 → MS → Prop) : Prop := (∃ Q1, w_stateAt S x1 x2 x3 Q1 ∧ ∀ r2 S3, Q1 r2 S3 → ((0 ≤ r2.toInt → (((0 : Int) ≤ x1.toInt ∧ x1.toInt < 12) ∧ ((qR S3 1 x1.toInt.toNat = some (qO S3 1 x1.toInt.toNat)) ∧ ((qR S3 (qO S3 1 x1.toInt.toNat) 22 = some (qO S3 (qO S3 1 x1.toInt.toNat) 22)) ∧ (((0 : Int) ≤ r2.toInt ∧ r2.toInt < (qN S3 (qO S3 (qO S3 1 x1.toInt.toNat) 22) : Int)) ∧ Q (qI S3 (qO S3 (qO S3 1 x1.toInt.toNat) 22) r2.toInt.toNat) S3))))) ∧ (¬ 0 ≤ r2.toInt → Q (-1 : Int32) S3)))
set_option maxHeartbeats 2000000 in
set_option maxRecDepth 100000 in
theorem r_height (l : Launch) (g : Gr) (ad : Nat → Nat) (sz : Nat) (S : MS) (x1 : Int32) (x2 : Int32) (x3 : Int32) (hw : wfM S) (Q : Int32 → MS → Prop) (h : w_height S x1 x2 x3 Q) : Met l yX14_height (wt2 yX14_height cX14_height 5 (some .int)) ({ frames := 3, cells := 0, slots := 0, locals := 66 }) (va_Pc [.ref (ad 0), .int x1, .int x2, .int x3] (st_R g ad sz S)) (va_Qi (fun (r : Int32) (u : MS) => Q r u ∧ wfM u ∧ shy S u) (fun (u : MS) (t : State) => qE g ad (va_A (Wd g ad S) sz) u t) (va_A (Wd g ad S) sz)) 0 0 (va_A (Wd g ad S) sz) := by
  refine Met.ofW (cc := cX14_height) (maxL := 5) (ret := (some .int)) (by decide) rfl ?_
  intro p e s m args below meth c s₁ B hml hv
  obtain ⟨rfl, hsz, hP, hK, hD0, hex, hE⟩ := hv
  have hx := B.exec
  have hb := B.bytes
  have hr := B.returns
  have hts0 := atoms_spec (ws := wt2 yX14_height cX14_height 5 (some .int)) B.pre
  have hts : ∀ w ∈ tb2, w.before _ s = true := fun w h => hts0 w (List.mem_cons_of_mem _ h)
  have hown : s.vm.findClass RX14 = some m.cls := findClass_of_methodNamed B.named
  subst hsz
  have hD := hD0.self (sz := s.heap.size)
  generalize hAe : va_A (Wd g ad S) s.heap.size = A at hD hE ⊢
  have hA : ∀ q : Nat, s.heap.size ≤ q → A q := fun q h => by rw [← hAe]; exact Or.inr h
  have hR : Rep g ad A s S s.heap [] := ⟨hK, hP, hD, va_S.rf, hw⟩
  clear hK hP hD hD0
  have hl := lv_entry ([.ref (ad 0), .int x1, .int x2, .int x3]) (n := 5) (Nat.le_of_ble_eq_true rfl)
  rw [lg_entry_eq]
  generalize (lg_sl ([.ref (ad 0), .int x1, .int x2, .int x3]) ++ List.replicate (5 - (lg_sl ([.ref (ad 0), .int x1, .int x2, .int x3])).length) Slot.unset).toArray = ls at hl ⊢
  have hl : lv_has ls 5 [(0, .ref (ad 0)), (1, .int x1), (2, .int x2), (3, .int x3)] := hl
  have hsh : shy S S := shy.rf
  unfold w_height at h
  refine lv_aload_n hx hb dX14_height_0 rfl (lv_at hl 0 rfl) ?_
  refine lv_iload_n hx hb dX14_height_1 rfl (lv_at hl 1 rfl) ?_
  refine lv_iload_n hx hb dX14_height_2 rfl (lv_at hl 2 rfl) ?_
  refine lv_iload_n hx hb dX14_height_3 rfl (lv_at hl 3 rfl) ?_
  obtain ⟨Q1, h0, h⟩ := h
  have hFc := rfree hR hA
  refine va_calli (va_runV (As := [.int x1, .int x2, .int x3]) (rest := []) ⟨hx, hb, hml, hown, hts⟩ (r_stateAt l g ad s.heap.size S x1 x2 x3 hR.w  Q1 h0) (cwV 3 hts (gd2_V kx_527 kx_528 kx_529 kx_177 kx_530) rfl rfl rfl (by decide +kernel) ⟨Nat.le_of_ble_eq_true rfl, Nat.le_of_ble_eq_true rfl⟩) ⟨rblind, va_recv hR.K hR.P (ci := 13) (q0 := 0) rfl (hR.at14 hR.w.1), fun U hU hW9 => rmk hU hW9 hR hex hE hFc⟩ rfl rfl hl.1 rfl (lv_room (Nat.le_of_ble_eq_true rfl)) dX14_height_4 ⟨Nat.le_of_ble_eq_true rfl, Nat.le_of_ble_eq_true rfl⟩) hR.sS (fun q _ h => hFc q h) hFc (fun r2 S3 t9 H1 locs ht9 hvm9 hw9 hB9 hz9 hk9 hS => ?_)
  obtain ⟨hq4, hw9, hs9⟩ := hw9
  have hR : Rep g ad A s S3 H1 locs := hR.call ht9 hB9 hw9 hS hFc
  have hsh := hsh.tr hs9
  replace h := h r2 S3 hq4
  clear hB9 hz9 hk9 hvm9 ht9 hw9 hs9 hS
  generalize H1 = H at hR ⊢
  refine lv_istore (lv' := [(4, .int r2), (0, .ref (ad 0)), (1, .int x1), (2, .int x2), (3, .int x3)]) hx hb dX14_height_7 hl (by decide) rfl (fun ls hl => ?_)
  refine lv_iload hx hb dX14_height_9 (lv_at hl 0 rfl) ?_
  refine lv_if_ge (tgt := 18) hx hb dX14_height_11 (by decide) (fun c5 => ?_) (fun c5 => ?_)
  · replace h := h.1 (k_le (by decide) rfl c5)
    refine lv_aload_n hx hb dX14_height_18 rfl (lv_at hl 1 rfl) ?_
    refine va_get (D := rD g) (ci := 13) (v := .ref (ad 1)) (C := RX14) (T := TX14) (N := 143) hx hb hts in2X14 hown hR.K hR.P 0 (hR.at14 hR.w.1) rfl 0 (by decide) (hts _ kx_347) (fun _ h9 => h9) (congrArg (fun z => some (vf ad z)) (hR.w.2.1 _ fin_0).1) dX14_height_19 ?_
    refine lv_iload_n hx hb dX14_height_22 rfl (lv_at hl 2 rfl) ?_
    obtain ⟨hv6, h⟩ := h
    refine va_aldq hx hb hR.K hR.P 1 5 (hR.atF (hR.w.2.1 _ fin_0).2.1) rfl (k_ixN (k_ix (n := 12) (x := x1) (a := x1.toInt) rfl hv6) (hR.w.2.1 _ fin_0).2.2) dX14_height_23 ?_
    obtain ⟨hv7, h⟩ := h
    have hT_b8 : qT S3 (qO S3 1 x1.toInt.toNat) = 11 := hR.w.ref hv7 (hR.w.2.1 _ fin_0).2.1
    rw [show va_rf (Option.map ad (qR S3 1 (x1 : Int32).toNatClampNeg)) = .ref (ad (qO S3 1 x1.toInt.toNat)) from congrArg (fun z => vf ad z) hv7]
    obtain ⟨hv9, h⟩ := h
    have hT_b10 : qT S3 (qO S3 (qO S3 1 x1.toInt.toNat) 22) = 2 := hR.w.ref hv9 hT_b8
    refine va_get (D := rD g) (ci := 12) (v := .ref (ad (qO S3 (qO S3 1 x1.toInt.toNat) 22))) (C := RX13) (T := TX13) (N := 23) hx hb hts in2X13 hown hR.K hR.P (qO S3 1 x1.toInt.toNat) (hR.at13 hT_b8) rfl 22 (by decide) (hts _ kx_522) (fun _ h9 => h9) (congrArg (fun z => some (vf ad z)) hv9) dX14_height_24 ?_
    refine lv_iload hx hb dX14_height_27 (lv_at hl 0 rfl) ?_
    obtain ⟨hv11, h⟩ := h
    refine va_iald hx hb hR.K hR.P (qO S3 (qO S3 1 x1.toInt.toNat) 22) 1 (hR.atI hT_b10) rfl (k_ix (x := r2) (a := r2.toInt) rfl hv11) dX14_height_29 ?_
    refine lv_topi (fun z12 ez12 => ?_)
    obtain rfl : z12 = (qI S3 (qO S3 (qO S3 1 x1.toInt.toNat) 22) r2.toInt.toNat) := ez12
    exact W.iret (v := (qI S3 (qO S3 (qO S3 1 x1.toInt.toNat) 22) r2.toInt.toNat)) hx hb hr (fun t9 ht9 hW9 => ⟨⟨_, S3, rfl, ⟨h, hR.w, hsh⟩, ⟨by rw [ht9]; exact hR.P, hR.D⟩⟩, hR.sS.F ht9⟩) hR.sS.2.2 dX14_height_30
  · replace h := h.2 (k_nle (by decide) rfl c5)
    refine lv_iconst (v := (-1)) hx hb dX14_height_14 (by decide) ?_
    refine lv_goto (tgt := 30) hx hb dX14_height_15 (by decide) ?_
    exact W.iret (v := (-1)) hx hb hr (fun t9 ht9 hW9 => ⟨⟨_, S3, rfl, ⟨h, hR.w, hsh⟩, ⟨by rw [ht9]; exact hR.P, hR.D⟩⟩, hR.sS.F ht9⟩) hR.sS.2.2 dX14_height_30
def w_local (S : MS) (x1 : Int32) (x2 : Int32) (x3 : Int32) (x4 : Int32) (Q : Int32 → MS → Prop) : Prop := (∃ Q1, w_stateAt S x1 x2 x3 Q1 ∧ ∀ r2 S3, Q1 r2 S3 → ((r2.toInt < 0 → Q (-1 : Int32) S3) ∧ (¬ r2.toInt < 0 → (((0 : Int) ≤ x1.toInt ∧ x1.toInt < 12) ∧ ((qR S3 1 x1.toInt.toNat = some (qO S3 1 x1.toInt.toNat)) ∧ ((qR S3 (qO S3 1 x1.toInt.toNat) 22 = some (qO S3 (qO S3 1 x1.toInt.toNat) 22)) ∧ (((0 : Int) ≤ r2.toInt ∧ r2.toInt < (qN S3 (qO S3 (qO S3 1 x1.toInt.toNat) 22) : Int)) ∧ (((qI S3 (qO S3 (qO S3 1 x1.toInt.toNat) 22) r2.toInt.toNat).toInt < 0 → Q (-1 : Int32) S3) ∧ (¬ (qI S3 (qO S3 (qO S3 1 x1.toInt.toNat) 22) r2.toInt.toNat).toInt < 0 → ((x4.toInt < 0 → Q (-1 : Int32) S3) ∧ (¬ x4.toInt < 0 → ((x4.toInt < 24 → (((0 : Int) ≤ x1.toInt ∧ x1.toInt < 12) ∧ ((qR S3 1 x1.toInt.toNat = some (qO S3 1 x1.toInt.toNat)) ∧ ((qR S3 (qO S3 1 x1.toInt.toNat) 22 = some (qO S3 (qO S3 1 x1.toInt.toNat) 22)) ∧ (((0 : Int) ≤ ((r2 + (1 : Int32)) + (x4 / (8 : Int32))).toInt ∧ ((r2 + (1 : Int32)) + (x4 / (8 : Int32))).toInt < (qN S3 (qO S3 (qO S3 1 x1.toInt.toNat) 22) : Int)) ∧ Q (((qI S3 (qO S3 (qO S3 1 x1.toInt.toNat) 22) ((((r2 + (1 : Int32)) + (x4 / (8 : Int32))).toInt).toNat)) >>> (((4 : Int32) * (x4 - x4 / (8 : Int32) * (8 : Int32))) &&& 31)) &&& (15 : Int32)) S3))))) ∧ (¬ x4.toInt < 24 → Q (-1 : Int32) S3)))))))))))))
set_option maxHeartbeats 2000000 in
set_option maxRecDepth 100000 in
theorem r_local (l : Launch) (g : Gr) (ad : Nat → Nat) (sz : Nat) (S : MS) (x1 : Int32) (x2 : Int32) (x3 : Int32) (x4 : Int32) (hw : wfM S) (Q : Int32 → MS → Prop) (h : w_local S x1 x2 x3 x4 Q) : Met l yX14_local (wt2 yX14_local cX14_local 6 (some .int)) ({ frames := 3, cells := 0, slots := 0, locals := 66 }) (va_Pc [.ref (ad 0), .int x1, .int x2, .int x3, .int x4] (st_R g ad sz S)) (va_Qi (fun (r : Int32) (u : MS) => Q r u ∧ wfM u ∧ shy S u) (fun (u : MS) (t : State) => qE g ad (va_A (Wd g ad S) sz) u t) (va_A (Wd g ad S) sz)) 0 0 (va_A (Wd g ad S) sz) := by
  refine Met.ofW (cc := cX14_local) (maxL := 6) (ret := (some .int)) (by decide) rfl ?_
  intro p e s m args below meth c s₁ B hml hv
  obtain ⟨rfl, hsz, hP, hK, hD0, hex, hE⟩ := hv
  have hx := B.exec
  have hb := B.bytes
  have hr := B.returns
  have hts0 := atoms_spec (ws := wt2 yX14_local cX14_local 6 (some .int)) B.pre
  have hts : ∀ w ∈ tb2, w.before _ s = true := fun w h => hts0 w (List.mem_cons_of_mem _ h)
  have hown : s.vm.findClass RX14 = some m.cls := findClass_of_methodNamed B.named
  subst hsz
  have hD := hD0.self (sz := s.heap.size)
  generalize hAe : va_A (Wd g ad S) s.heap.size = A at hD hE ⊢
  have hA : ∀ q : Nat, s.heap.size ≤ q → A q := fun q h => by rw [← hAe]; exact Or.inr h
  have hR : Rep g ad A s S s.heap [] := ⟨hK, hP, hD, va_S.rf, hw⟩
  clear hK hP hD hD0
  have hl := lv_entry ([.ref (ad 0), .int x1, .int x2, .int x3, .int x4]) (n := 6) (Nat.le_of_ble_eq_true rfl)
  rw [lg_entry_eq]
  generalize (lg_sl ([.ref (ad 0), .int x1, .int x2, .int x3, .int x4]) ++ List.replicate (6 - (lg_sl ([.ref (ad 0), .int x1, .int x2, .int x3, .int x4])).length) Slot.unset).toArray = ls at hl ⊢
  have hl : lv_has ls 6 [(0, .ref (ad 0)), (1, .int x1), (2, .int x2), (3, .int x3), (4, .int x4)] := hl
  have hsh : shy S S := shy.rf
  unfold w_local at h
  refine lv_aload_n hx hb dX14_local_0 rfl (lv_at hl 0 rfl) ?_
  refine lv_iload_n hx hb dX14_local_1 rfl (lv_at hl 1 rfl) ?_
  refine lv_iload_n hx hb dX14_local_2 rfl (lv_at hl 2 rfl) ?_
  refine lv_iload_n hx hb dX14_local_3 rfl (lv_at hl 3 rfl) ?_
  obtain ⟨Q1, h0, h⟩ := h
  have hFc := rfree hR hA
  refine va_calli (va_runV (As := [.int x1, .int x2, .int x3]) (rest := []) ⟨hx, hb, hml, hown, hts⟩ (r_stateAt l g ad s.heap.size S x1 x2 x3 hR.w  Q1 h0) (cwV 3 hts (gd2_V kx_527 kx_528 kx_529 kx_177 kx_530) rfl rfl rfl (by decide +kernel) ⟨Nat.le_of_ble_eq_true rfl, Nat.le_of_ble_eq_true rfl⟩) ⟨rblind, va_recv hR.K hR.P (ci := 13) (q0 := 0) rfl (hR.at14 hR.w.1), fun U hU hW9 => rmk hU hW9 hR hex hE hFc⟩ rfl rfl hl.1 rfl (lv_room (Nat.le_of_ble_eq_true rfl)) dX14_local_4 ⟨Nat.le_of_ble_eq_true rfl, Nat.le_of_ble_eq_true rfl⟩) hR.sS (fun q _ h => hFc q h) hFc (fun r2 S3 t9 H1 locs ht9 hvm9 hw9 hB9 hz9 hk9 hS => ?_)
  obtain ⟨hq4, hw9, hs9⟩ := hw9
  have hR : Rep g ad A s S3 H1 locs := hR.call ht9 hB9 hw9 hS hFc
  have hsh := hsh.tr hs9
  replace h := h r2 S3 hq4
  clear hB9 hz9 hk9 hvm9 ht9 hw9 hs9 hS
  generalize H1 = H at hR ⊢
  refine lv_istore (lv' := [(5, .int r2), (0, .ref (ad 0)), (1, .int x1), (2, .int x2), (3, .int x3), (4, .int x4)]) hx hb dX14_local_7 hl (by decide) rfl (fun ls hl => ?_)
  refine lv_iload hx hb dX14_local_9 (lv_at hl 0 rfl) ?_
  refine lv_if_lt (tgt := 41) hx hb dX14_local_11 (by decide) (fun c5 => ?_) (fun c5 => ?_)
  · replace h := h.1 (k_lt rfl (by decide) c5)
    refine lv_iconst (v := (-1)) hx hb dX14_local_41 (by decide) ?_
    exact W.iret (v := (-1)) hx hb hr (fun t9 ht9 hW9 => ⟨⟨_, S3, rfl, ⟨h, hR.w, hsh⟩, ⟨by rw [ht9]; exact hR.P, hR.D⟩⟩, hR.sS.F ht9⟩) hR.sS.2.2 dX14_local_42
  · replace h := h.2 (k_nlt rfl (by decide) c5)
    refine lv_aload_n hx hb dX14_local_14 rfl (lv_at hl 1 rfl) ?_
    refine va_get (D := rD g) (ci := 13) (v := .ref (ad 1)) (C := RX14) (T := TX14) (N := 143) hx hb hts in2X14 hown hR.K hR.P 0 (hR.at14 hR.w.1) rfl 0 (by decide) (hts _ kx_347) (fun _ h9 => h9) (congrArg (fun z => some (vf ad z)) (hR.w.2.1 _ fin_0).1) dX14_local_15 ?_
    refine lv_iload_n hx hb dX14_local_18 rfl (lv_at hl 2 rfl) ?_
    obtain ⟨hv6, h⟩ := h
    refine va_aldq hx hb hR.K hR.P 1 5 (hR.atF (hR.w.2.1 _ fin_0).2.1) rfl (k_ixN (k_ix (n := 12) (x := x1) (a := x1.toInt) rfl hv6) (hR.w.2.1 _ fin_0).2.2) dX14_local_19 ?_
    obtain ⟨hv7, h⟩ := h
    have hT_b8 : qT S3 (qO S3 1 x1.toInt.toNat) = 11 := hR.w.ref hv7 (hR.w.2.1 _ fin_0).2.1
    rw [show va_rf (Option.map ad (qR S3 1 (x1 : Int32).toNatClampNeg)) = .ref (ad (qO S3 1 x1.toInt.toNat)) from congrArg (fun z => vf ad z) hv7]
    obtain ⟨hv9, h⟩ := h
    have hT_b10 : qT S3 (qO S3 (qO S3 1 x1.toInt.toNat) 22) = 2 := hR.w.ref hv9 hT_b8
    refine va_get (D := rD g) (ci := 12) (v := .ref (ad (qO S3 (qO S3 1 x1.toInt.toNat) 22))) (C := RX13) (T := TX13) (N := 23) hx hb hts in2X13 hown hR.K hR.P (qO S3 1 x1.toInt.toNat) (hR.at13 hT_b8) rfl 22 (by decide) (hts _ kx_522) (fun _ h9 => h9) (congrArg (fun z => some (vf ad z)) hv9) dX14_local_20 ?_
    refine lv_iload hx hb dX14_local_23 (lv_at hl 0 rfl) ?_
    obtain ⟨hv11, h⟩ := h
    refine va_iald hx hb hR.K hR.P (qO S3 (qO S3 1 x1.toInt.toNat) 22) 1 (hR.atI hT_b10) rfl (k_ix (x := r2) (a := r2.toInt) rfl hv11) dX14_local_25 ?_
    refine lv_topi (fun z12 ez12 => ?_)
    obtain rfl : z12 = (qI S3 (qO S3 (qO S3 1 x1.toInt.toNat) 22) r2.toInt.toNat) := ez12
    refine lv_if_lt (tgt := 41) hx hb dX14_local_26 (by decide) (fun c13 => ?_) (fun c13 => ?_)
    · replace h := h.1 (k_lt rfl (by decide) c13)
      refine lv_iconst (v := (-1)) hx hb dX14_local_41 (by decide) ?_
      exact W.iret (v := (-1)) hx hb hr (fun t9 ht9 hW9 => ⟨⟨_, S3, rfl, ⟨h, hR.w, hsh⟩, ⟨by rw [ht9]; exact hR.P, hR.D⟩⟩, hR.sS.F ht9⟩) hR.sS.2.2 dX14_local_42
    · replace h := h.2 (k_nlt rfl (by decide) c13)
      refine lv_iload hx hb dX14_local_29 (lv_at hl 5 rfl) ?_
      refine lv_if_lt (tgt := 41) hx hb dX14_local_31 (by decide) (fun c14 => ?_) (fun c14 => ?_)
      · replace h := h.1 (k_lt rfl (by decide) c14)
        refine lv_iconst (v := (-1)) hx hb dX14_local_41 (by decide) ?_
        exact W.iret (v := (-1)) hx hb hr (fun t9 ht9 hW9 => ⟨⟨_, S3, rfl, ⟨h, hR.w, hsh⟩, ⟨by rw [ht9]; exact hR.P, hR.D⟩⟩, hR.sS.F ht9⟩) hR.sS.2.2 dX14_local_42
      · replace h := h.2 (k_nlt rfl (by decide) c14)
        refine lv_iload hx hb dX14_local_34 (lv_at hl 5 rfl) ?_
        refine lv_bipush (v := 24) hx hb dX14_local_36 (by decide) ?_
        refine lv_icmp_lt (tgt := 43) hx hb dX14_local_38 (by decide) (fun c15 => ?_) (fun c15 => ?_)
        · replace h := h.1 (k_lt rfl (by decide) c15)
          refine lv_aload_n hx hb dX14_local_43 rfl (lv_at hl 1 rfl) ?_
          refine va_get (D := rD g) (ci := 13) (v := .ref (ad 1)) (C := RX14) (T := TX14) (N := 143) hx hb hts in2X14 hown hR.K hR.P 0 (hR.at14 hR.w.1) rfl 0 (by decide) (hts _ kx_347) (fun _ h9 => h9) (congrArg (fun z => some (vf ad z)) (hR.w.2.1 _ fin_0).1) dX14_local_44 ?_
          refine lv_iload_n hx hb dX14_local_47 rfl (lv_at hl 2 rfl) ?_
          obtain ⟨hv16, h⟩ := h
          refine va_aldq hx hb hR.K hR.P 1 5 (hR.atF (hR.w.2.1 _ fin_0).2.1) rfl (k_ixN (k_ix (n := 12) (x := x1) (a := x1.toInt) rfl hv16) (hR.w.2.1 _ fin_0).2.2) dX14_local_48 ?_
          obtain ⟨hv17, h⟩ := h
          have hT_b18 : qT S3 (qO S3 1 x1.toInt.toNat) = 11 := hR.w.ref hv17 (hR.w.2.1 _ fin_0).2.1
          rw [show va_rf (Option.map ad (qR S3 1 (x1 : Int32).toNatClampNeg)) = .ref (ad (qO S3 1 x1.toInt.toNat)) from congrArg (fun z => vf ad z) hv17]
          obtain ⟨hv19, h⟩ := h
          have hT_b20 : qT S3 (qO S3 (qO S3 1 x1.toInt.toNat) 22) = 2 := hR.w.ref hv19 hT_b18
          refine va_get (D := rD g) (ci := 12) (v := .ref (ad (qO S3 (qO S3 1 x1.toInt.toNat) 22))) (C := RX13) (T := TX13) (N := 23) hx hb hts in2X13 hown hR.K hR.P (qO S3 1 x1.toInt.toNat) (hR.at13 hT_b18) rfl 22 (by decide) (hts _ kx_522) (fun _ h9 => h9) (congrArg (fun z => some (vf ad z)) hv19) dX14_local_49 ?_
          refine lv_iload hx hb dX14_local_52 (lv_at hl 0 rfl) ?_
          refine lv_iconst (v := 1) hx hb dX14_local_54 (by decide) ?_
          refine lv_iadd hx hb dX14_local_55 ?_
          refine lv_topi (fun z21 ez21 => ?_)
          obtain rfl : z21 = (r2 + (1 : Int32)) := ez21
          refine lv_iload hx hb dX14_local_56 (lv_at hl 5 rfl) ?_
          refine lv_bipush (v := 8) hx hb dX14_local_58 (by decide) ?_
          refine lv_idiv hx hb dX14_local_60 (by decide) ?_
          refine lv_topi (fun z22 ez22 => ?_)
          obtain rfl : z22 = (x4 / (8 : Int32)) := ez22
          refine lv_iadd hx hb dX14_local_61 ?_
          refine lv_topi (fun z23 ez23 => ?_)
          obtain rfl : z23 = ((r2 + (1 : Int32)) + (x4 / (8 : Int32))) := ez23
          obtain ⟨hv24, h⟩ := h
          refine va_iald hx hb hR.K hR.P (qO S3 (qO S3 1 x1.toInt.toNat) 22) 1 (hR.atI hT_b20) rfl (k_ix (x := ((r2 + (1 : Int32)) + (x4 / (8 : Int32)))) (a := ((r2 + (1 : Int32)) + (x4 / (8 : Int32))).toInt) rfl hv24) dX14_local_62 ?_
          refine lv_topi (fun z25 ez25 => ?_)
          obtain rfl : z25 = (qI S3 (qO S3 (qO S3 1 x1.toInt.toNat) 22) ((((r2 + (1 : Int32)) + (x4 / (8 : Int32))).toInt).toNat)) := ez25
          refine lv_iconst (v := 4) hx hb dX14_local_63 (by decide) ?_
          refine lv_iload hx hb dX14_local_64 (lv_at hl 5 rfl) ?_
          refine lv_bipush (v := 8) hx hb dX14_local_66 (by decide) ?_
          refine lv_irem hx hb dX14_local_68 (by decide) ?_
          refine lv_topi (fun z26 ez26 => ?_)
          obtain rfl : z26 = (x4 - x4 / (8 : Int32) * (8 : Int32)) := ez26
          refine lv_imul hx hb dX14_local_69 ?_
          refine lv_topi (fun z27 ez27 => ?_)
          obtain rfl : z27 = ((4 : Int32) * (x4 - x4 / (8 : Int32) * (8 : Int32))) := ez27
          refine lv_ishr hx hb dX14_local_70 ?_
          refine lv_topi (fun z28 ez28 => ?_)
          obtain rfl : z28 = ((qI S3 (qO S3 (qO S3 1 x1.toInt.toNat) 22) ((((r2 + (1 : Int32)) + (x4 / (8 : Int32))).toInt).toNat)) >>> (((4 : Int32) * (x4 - x4 / (8 : Int32) * (8 : Int32))) &&& 31)) := ez28
          refine lv_bipush (v := 15) hx hb dX14_local_71 (by decide) ?_
          refine lv_iand hx hb dX14_local_73 ?_
          refine lv_topi (fun z29 ez29 => ?_)
          obtain rfl : z29 = (((qI S3 (qO S3 (qO S3 1 x1.toInt.toNat) 22) ((((r2 + (1 : Int32)) + (x4 / (8 : Int32))).toInt).toNat)) >>> (((4 : Int32) * (x4 - x4 / (8 : Int32) * (8 : Int32))) &&& 31)) &&& (15 : Int32)) := ez29
          exact W.iret (v := (((qI S3 (qO S3 (qO S3 1 x1.toInt.toNat) 22) ((((r2 + (1 : Int32)) + (x4 / (8 : Int32))).toInt).toNat)) >>> (((4 : Int32) * (x4 - x4 / (8 : Int32) * (8 : Int32))) &&& 31)) &&& (15 : Int32))) hx hb hr (fun t9 ht9 hW9 => ⟨⟨_, S3, rfl, ⟨h, hR.w, hsh⟩, ⟨by rw [ht9]; exact hR.P, hR.D⟩⟩, hR.sS.F ht9⟩) hR.sS.2.2 dX14_local_74
        · replace h := h.2 (k_nlt rfl (by decide) c15)
          refine lv_iconst (v := (-1)) hx hb dX14_local_41 (by decide) ?_
          exact W.iret (v := (-1)) hx hb hr (fun t9 ht9 hW9 => ⟨⟨_, S3, rfl, ⟨h, hR.w, hsh⟩, ⟨by rw [ht9]; exact hR.P, hR.D⟩⟩, hR.sS.F ht9⟩) hR.sS.2.2 dX14_local_42
def w_needConstant_J212 (Q : Int32 → MS → Prop) (E : MS → Prop) (U212 : MS) (t212_0 : Int32) (t212_1 : Int32) (v212_1 : Int32) : Prop := (∀ S18, S18 = wI U212 0 74 (t212_1 + t212_0) → ((v212_1.toInt = 5 → Q ((qI S18 0 74) - (2 : Int32)) S18) ∧ (¬ v212_1.toInt = 5 → Q ((qI S18 0 74) - (1 : Int32)) S18)))
def w_needConstant_J98 (Q : Int32 → MS → Prop) (E : MS → Prop) (k3 : MS → Int32 → Int32 → Int32 → Int64 → Nat → Int32 → Prop) (U98 : MS) (v98_1 : Int32) (v98_2 : Int32) (v98_3 : Int32) (v98_4 : Int64) (v98_6 : Nat) (v98_7 : Int32) : Prop := (∀ a30 : Int32, a30 = (v98_7 + Int32.ofInt 1) → k3 U98 v98_1 v98_2 v98_3 v98_4 v98_6 a30)
def w_needConstant_J90 (Q : Int32 → MS → Prop) (E : MS → Prop) (U90 : MS) (v90_7 : Int32) : Prop := (((0 : Int) ≤ v90_7.toInt ∧ v90_7.toInt < 700) ∧ Q (qI U90 29 v90_7.toInt.toNat) U90)
def w_needConstant_J63 (Q : Int32 → MS → Prop) (E : MS → Prop) (k3 : MS → Int32 → Int32 → Int32 → Int64 → Nat → Int32 → Prop) (U63 : MS) (t63_0 : Int32) (v63_1 : Int32) (v63_2 : Int32) (v63_3 : Int32) (v63_4 : Int64) (v63_6 : Nat) (v63_7 : Int32) : Prop := ((t63_0.toInt = 0 → w_needConstant_J98 Q E k3 U63 v63_1 v63_2 v63_3 v63_4 v63_6 v63_7) ∧ (¬ t63_0.toInt = 0 → ((v63_1.toInt = 1 → (((0 : Int) ≤ v63_7.toInt ∧ v63_7.toInt < 700) ∧ ((qR U63 33 v63_7.toInt.toNat = some (qO U63 33 v63_7.toInt.toNat)) ∧ (((sEq U63 (qO U63 33 v63_7.toInt.toNat) v63_6).toInt = 0 → w_needConstant_J98 Q E k3 U63 v63_1 v63_2 v63_3 v63_4 v63_6 v63_7) ∧ (¬ (sEq U63 (qO U63 33 v63_7.toInt.toNat) v63_6).toInt = 0 → w_needConstant_J90 Q E U63 v63_7))))) ∧ (¬ v63_1.toInt = 1 → w_needConstant_J90 Q E U63 v63_7))))
def w_needConstant_J62 (Q : Int32 → MS → Prop) (E : MS → Prop) (k3 : MS → Int32 → Int32 → Int32 → Int64 → Nat → Int32 → Prop) (U62 : MS) (v62_1 : Int32) (v62_2 : Int32) (v62_3 : Int32) (v62_4 : Int64) (v62_6 : Nat) (v62_7 : Int32) : Prop := w_needConstant_J63 Q E k3 U62 0 v62_1 v62_2 v62_3 v62_4 v62_6 v62_7
def w_needConstant_L3 (Q : Int32 → MS → Prop) (E : MS → Prop) : Nat → MS → Int32 → Int32 → Int32 → Int64 → Nat → Int32 → Prop
  | 0, _, _, _, _, _, _, _ => False
  | n3 + 1, U3, v3_1, v3_2, v3_3, v3_4, v3_6, v3_7 => (((qI U3 0 73).toInt ≤ v3_7.toInt → (((qI U3 0 73).toInt = 700 → (∃ Q23, w_broken U3 (5 : Int32) (8 : Int32) Q23 ∧ ∀ b27 S25, Q23 b27 S25 → E S25)) ∧ (¬ (qI U3 0 73).toInt = 700 → (((0 : Int) ≤ (qI U3 0 73).toInt ∧ (qI U3 0 73).toInt < 700) ∧ (∀ S4, S4 = wI U3 28 (((qI U3 0 73).toInt).toNat) v3_1 → (((0 : Int) ≤ (qI S4 0 73).toInt ∧ (qI S4 0 73).toInt < 700) ∧ (∀ S6, S6 = wI S4 30 (((qI S4 0 73).toInt).toNat) v3_2 → (((0 : Int) ≤ (qI S6 0 73).toInt ∧ (qI S6 0 73).toInt < 700) ∧ (∀ S8, S8 = wI S6 31 (((qI S6 0 73).toInt).toNat) v3_3 → (((0 : Int) ≤ (qI S8 0 73).toInt ∧ (qI S8 0 73).toInt < 700) ∧ (∀ S10, S10 = wJ S8 32 (((qI S8 0 73).toInt).toNat) v3_4 → (((0 : Int) ≤ (qI S10 0 73).toInt ∧ (qI S10 0 73).toInt < 700) ∧ (∀ S12, S12 = wR S10 33 (((qI S10 0 73).toInt).toNat) (some v3_6) → (((0 : Int) ≤ (qI S12 0 73).toInt ∧ (qI S12 0 73).toInt < 700) ∧ (∀ S14, S14 = wI S12 29 (((qI S12 0 73).toInt).toNat) (qI S12 0 74) → (∀ S16, S16 = wI S14 0 73 ((qI S14 0 73) + (1 : Int32)) → ((v3_1.toInt = 5 → w_needConstant_J212 Q E S16 2 (qI S16 0 74) v3_1) ∧ (¬ v3_1.toInt = 5 → w_needConstant_J212 Q E S16 1 (qI S16 0 74) v3_1)))))))))))))))))) ∧ (¬ (qI U3 0 73).toInt ≤ v3_7.toInt → (((0 : Int) ≤ v3_7.toInt ∧ v3_7.toInt < 700) ∧ (((qI U3 28 v3_7.toInt.toNat).toInt = v3_1.toInt → (((0 : Int) ≤ v3_7.toInt ∧ v3_7.toInt < 700) ∧ (((qI U3 30 v3_7.toInt.toNat).toInt = v3_2.toInt → (((0 : Int) ≤ v3_7.toInt ∧ v3_7.toInt < 700) ∧ (((qI U3 31 v3_7.toInt.toNat).toInt = v3_3.toInt → (((0 : Int) ≤ v3_7.toInt ∧ v3_7.toInt < 700) ∧ (((lg_cmp (qJ U3 32 v3_7.toInt.toNat) v3_4).toInt = 0 → w_needConstant_J63 Q E (w_needConstant_L3 Q E n3) U3 1 v3_1 v3_2 v3_3 v3_4 v3_6 v3_7) ∧ (¬ (lg_cmp (qJ U3 32 v3_7.toInt.toNat) v3_4).toInt = 0 → w_needConstant_J62 Q E (w_needConstant_L3 Q E n3) U3 v3_1 v3_2 v3_3 v3_4 v3_6 v3_7)))) ∧ (¬ (qI U3 31 v3_7.toInt.toNat).toInt = v3_3.toInt → w_needConstant_J62 Q E (w_needConstant_L3 Q E n3) U3 v3_1 v3_2 v3_3 v3_4 v3_6 v3_7)))) ∧ (¬ (qI U3 30 v3_7.toInt.toNat).toInt = v3_2.toInt → w_needConstant_J62 Q E (w_needConstant_L3 Q E n3) U3 v3_1 v3_2 v3_3 v3_4 v3_6 v3_7)))) ∧ (¬ (qI U3 28 v3_7.toInt.toNat).toInt = v3_1.toInt → w_needConstant_J62 Q E (w_needConstant_L3 Q E n3) U3 v3_1 v3_2 v3_3 v3_4 v3_6 v3_7)))))
def w_needConstant (S : MS) (x1 : Int32) (x2 : Int32) (x3 : Int32) (y4 : Int64) (p6 : Nat) (Q : Int32 → MS → Prop) (E : MS → Prop) : Prop := (∃ n, w_needConstant_L3 Q E n S x1 x2 x3 y4 p6 0)
set_option maxHeartbeats 2000000 in
set_option maxRecDepth 100000 in
theorem r_needConstant (l : Launch) (g : Gr) (ad : Nat → Nat) (sz : Nat) (S : MS) (x1 : Int32) (x2 : Int32) (x3 : Int32) (y4 : Int64) (p6 : Nat) (hw : wfM S) (hT_p6 : qT S p6 = 12) (Q : Int32 → MS → Prop) (E : MS → Prop) (h : w_needConstant S x1 x2 x3 y4 p6 Q E) : vx_Met l yX14_needConstant (wt2 yX14_needConstant cX14_needConstant 9 (some .int)) ({ frames := 2, cells := 0, slots := 0, locals := 44 }) (va_Pc [.ref (ad 0), .int x1, .int x2, .int x3, .long y4, .ref (ad p6)] (st_R g ad sz S)) (va_Qi (fun (r : Int32) (u : MS) => Q r u ∧ wfM u ∧ shy S u) (fun (u : MS) (t : State) => qE g ad (va_A (Wd g ad S) sz) u t) (va_A (Wd g ad S) sz)) (vx_X (fun (u : MS) => E u ∧ wfM u ∧ shy S u) (fun (n9 : String) (u : MS) (t : State) => n9 = RJxb5711 ∧ qE g ad (va_A (Wd g ad S) sz) u t) (va_A (Wd g ad S) sz)) 0 0 (va_A (Wd g ad S) sz) := by
  refine vx_ofW (cc := cX14_needConstant) (maxL := 9) (ret := (some .int)) (by decide) rfl ?_
  intro p e s m args below meth c s₁ B hml hnt hv
  obtain ⟨rfl, hsz, hP, hK, hD0, hex, hE⟩ := hv
  have hx := B.exec
  have hb := B.bytes
  have hr := B.returns
  have hlocks := B.notSynchronized
  have hts0 := atoms_spec (ws := wt2 yX14_needConstant cX14_needConstant 9 (some .int)) B.pre
  have hts : ∀ w ∈ tb2, w.before _ s = true := fun w h => hts0 w (List.mem_cons_of_mem _ h)
  have hown : s.vm.findClass RX14 = some m.cls := findClass_of_methodNamed B.named
  subst hsz
  have hD := hD0.self (sz := s.heap.size)
  generalize hAe : va_A (Wd g ad S) s.heap.size = A at hD hE ⊢
  have hA : ∀ q : Nat, s.heap.size ≤ q → A q := fun q h => by rw [← hAe]; exact Or.inr h
  have hR : Rep g ad A s S s.heap [] := ⟨hK, hP, hD, va_S.rf, hw⟩
  clear hK hP hD hD0
  have hl := lv_entry ([.ref (ad 0), .int x1, .int x2, .int x3, .long y4, .ref (ad p6)]) (n := 9) (Nat.le_of_ble_eq_true rfl)
  rw [lg_entry_eq]
  generalize (lg_sl ([.ref (ad 0), .int x1, .int x2, .int x3, .long y4, .ref (ad p6)]) ++ List.replicate (9 - (lg_sl ([.ref (ad 0), .int x1, .int x2, .int x3, .long y4, .ref (ad p6)])).length) Slot.unset).toArray = ls at hl ⊢
  have hl : lv_has ls 9 [(0, .ref (ad 0)), (1, .int x1), (2, .int x2), (3, .int x3), (4, .long y4), (6, .ref (ad p6))] := hl
  have hsh : shy S S := shy.rf
  unfold w_needConstant at h
  refine lv_iconst (v := 0) hx hb dX14_needConstant_0 (by decide) ?_
  refine lv_istore (lv' := [(7, .int 0), (0, .ref (ad 0)), (1, .int x1), (2, .int x2), (3, .int x3), (4, .long y4), (6, .ref (ad p6))]) hx hb dX14_needConstant_1 hl (by decide) rfl (fun ls hl => ?_)
  have J_3 : ∀ (n3 : Nat) (U3 : MS) (v3_1 : Int32) (v3_2 : Int32) (v3_3 : Int32) (v3_4 : Int64) (v3_6 : Nat) (v3_7 : Int32) (H : Heap) (locs : List Loc) (ls : Array Slot), w_needConstant_L3 Q E n3 U3 v3_1 v3_2 v3_3 v3_4 v3_6 v3_7 → qT U3 v3_6 = 12 → shy S U3 → Rep g ad A s U3 H locs → lv_has ls 9 [(0, .ref (ad 0)), (1, .int v3_1), (2, .int v3_2), (3, .int v3_3), (4, .long v3_4), (6, .ref (ad v3_6)), (7, .int v3_7)] → W p l e (headSpec (wt2 yX14_needConstant cX14_needConstant 9 (some .int)) ({ frames := 2, cells := 0, slots := 0, locals := 44 })).room s m ([.ref (ad 0), .int x1, .int x2, .int x3, .long y4, .ref (ad p6)] : List Value).toArray below meth c H locs 0 0 (vx_MQ below (va_Qi (fun (r : Int32) (u : MS) => Q r u ∧ wfM u ∧ shy S u) (fun (u : MS) (t : State) => qE g ad A u t) A) ((vx_X (fun (u : MS) => E u ∧ wfM u ∧ shy S u) (fun (n9 : String) (u : MS) (t : State) => n9 = RJxb5711 ∧ qE g ad A u t) A)) ([.ref (ad 0), .int x1, .int x2, .int x3, .long y4, .ref (ad p6)] : List Value).toArray s 0 0 A) (F0 m 3 ls []) := by
    intro n3
    induction n3 with
    | zero => intro U3 v3_1 v3_2 v3_3 v3_4 v3_6 v3_7 H locs ls h hT_v3_6 hsh hR hl; unfold w_needConstant_L3 at h; exact h.elim
    | succ n3 ih_3 =>
      intro U3 v3_1 v3_2 v3_3 v3_4 v3_6 v3_7 H locs ls h hT_v3_6 hsh hR hl
      unfold w_needConstant_L3 at h
      refine lv_iload hx hb dX14_needConstant_3 (lv_at hl 6 rfl) ?_
      refine lv_aload_n hx hb dX14_needConstant_5 rfl (lv_at hl 0 rfl) ?_
      refine va_get (D := rD g) (ci := 13) (v := .int (qI U3 0 73)) (C := RX14) (T := TX14) (N := 143) hx hb hts in2X14 hown hR.K hR.P 0 (hR.at14 hR.w.1) rfl 73 (by decide) (hts _ kx_531) (fun _ h9 => h9) rfl dX14_needConstant_6 ?_
      refine lv_icmp_ge (tgt := 104) hx hb dX14_needConstant_9 (by decide) (fun c1 => ?_) (fun c1 => ?_)
      · replace h := h.1 (k_le rfl rfl c1)
        refine lv_aload_n hx hb dX14_needConstant_104 rfl (lv_at hl 0 rfl) ?_
        refine va_get (D := rD g) (ci := 13) (v := .int (qI U3 0 73)) (C := RX14) (T := TX14) (N := 143) hx hb hts in2X14 hown hR.K hR.P 0 (hR.at14 hR.w.1) rfl 73 (by decide) (hts _ kx_531) (fun _ h9 => h9) rfl dX14_needConstant_105 ?_
        refine lv_sipush (v := 700) hx hb dX14_needConstant_108 (by decide) ?_
        refine lv_icmp_ne (tgt := 122) hx hb dX14_needConstant_111 (by decide) (fun c2 => ?_) (fun c2 => ?_)
        · replace h := h.2 (k_ne rfl (by decide) c2)
          refine lv_aload_n hx hb dX14_needConstant_122 rfl (lv_at hl 0 rfl) ?_
          refine va_get (D := rD g) (ci := 13) (v := .ref (ad 28)) (C := RX14) (T := TX14) (N := 143) hx hb hts in2X14 hown hR.K hR.P 0 (hR.at14 hR.w.1) rfl 67 (by decide) (hts _ kx_532) (fun _ h9 => h9) (congrArg (fun z => some (vf ad z)) (hR.w.2.1 _ fin_67).1) dX14_needConstant_123 ?_
          refine lv_aload_n hx hb dX14_needConstant_126 rfl (lv_at hl 0 rfl) ?_
          refine va_get (D := rD g) (ci := 13) (v := .int (qI U3 0 73)) (C := RX14) (T := TX14) (N := 143) hx hb hts in2X14 hown hR.K hR.P 0 (hR.at14 hR.w.1) rfl 73 (by decide) (hts _ kx_531) (fun _ h9 => h9) rfl dX14_needConstant_127 ?_
          refine lv_iload_n hx hb dX14_needConstant_130 rfl (lv_at hl 1 rfl) ?_
          obtain ⟨hv3, h⟩ := h
          refine va_iast hx hb hR.K hR.P hR.D hR.sS 28 1 (hR.atI (hR.w.2.1 _ fin_67).2.1) rfl (k_ixN (k_ix (n := 700) (x := (qI U3 0 73)) (a := (qI U3 0 73).toInt) rfl hv3) (hR.w.2.1 _ fin_67).2.2) dX14_needConstant_131 (fun H locs hP hD hS => ?_)
          have hR : Rep g ad A s (wI U3 28 (((qI U3 0 73).toInt).toNat) v3_1) H locs := hR.aI (hR.w.2.1 _ fin_67).2.1 hP hD hS
          obtain ⟨S4, eS4⟩ : ∃ z, z = wI U3 28 (((qI U3 0 73).toInt).toNat) v3_1 := ⟨_, rfl⟩
          rw [← eS4] at hR
          replace h := h S4 eS4
          have hT_v3_6 : qT S4 v3_6 = 12 := (congrArg (fun z => qT z v3_6) eS4).trans hT_v3_6
          have hsh : shy S S4 := by rw [eS4]; exact hsh
          refine lv_aload_n hx hb dX14_needConstant_132 rfl (lv_at hl 0 rfl) ?_
          refine va_get (D := rD g) (ci := 13) (v := .ref (ad 30)) (C := RX14) (T := TX14) (N := 143) hx hb hts in2X14 hown hR.K hR.P 0 (hR.at14 hR.w.1) rfl 69 (by decide) (hts _ kx_533) (fun _ h9 => h9) (congrArg (fun z => some (vf ad z)) (hR.w.2.1 _ fin_69).1) dX14_needConstant_133 ?_
          refine lv_aload_n hx hb dX14_needConstant_136 rfl (lv_at hl 0 rfl) ?_
          refine va_get (D := rD g) (ci := 13) (v := .int (qI S4 0 73)) (C := RX14) (T := TX14) (N := 143) hx hb hts in2X14 hown hR.K hR.P 0 (hR.at14 hR.w.1) rfl 73 (by decide) (hts _ kx_531) (fun _ h9 => h9) rfl dX14_needConstant_137 ?_
          refine lv_iload_n hx hb dX14_needConstant_140 rfl (lv_at hl 2 rfl) ?_
          obtain ⟨hv5, h⟩ := h
          refine va_iast hx hb hR.K hR.P hR.D hR.sS 30 1 (hR.atI (hR.w.2.1 _ fin_69).2.1) rfl (k_ixN (k_ix (n := 700) (x := (qI S4 0 73)) (a := (qI S4 0 73).toInt) rfl hv5) (hR.w.2.1 _ fin_69).2.2) dX14_needConstant_141 (fun H locs hP hD hS => ?_)
          have hR : Rep g ad A s (wI S4 30 (((qI S4 0 73).toInt).toNat) v3_2) H locs := hR.aI (hR.w.2.1 _ fin_69).2.1 hP hD hS
          obtain ⟨S6, eS6⟩ : ∃ z, z = wI S4 30 (((qI S4 0 73).toInt).toNat) v3_2 := ⟨_, rfl⟩
          rw [← eS6] at hR
          replace h := h S6 eS6
          have hT_v3_6 : qT S6 v3_6 = 12 := (congrArg (fun z => qT z v3_6) eS6).trans hT_v3_6
          have hsh : shy S S6 := by rw [eS6]; exact hsh
          refine lv_aload_n hx hb dX14_needConstant_142 rfl (lv_at hl 0 rfl) ?_
          refine va_get (D := rD g) (ci := 13) (v := .ref (ad 31)) (C := RX14) (T := TX14) (N := 143) hx hb hts in2X14 hown hR.K hR.P 0 (hR.at14 hR.w.1) rfl 70 (by decide) (hts _ kx_534) (fun _ h9 => h9) (congrArg (fun z => some (vf ad z)) (hR.w.2.1 _ fin_70).1) dX14_needConstant_143 ?_
          refine lv_aload_n hx hb dX14_needConstant_146 rfl (lv_at hl 0 rfl) ?_
          refine va_get (D := rD g) (ci := 13) (v := .int (qI S6 0 73)) (C := RX14) (T := TX14) (N := 143) hx hb hts in2X14 hown hR.K hR.P 0 (hR.at14 hR.w.1) rfl 73 (by decide) (hts _ kx_531) (fun _ h9 => h9) rfl dX14_needConstant_147 ?_
          refine lv_iload_n hx hb dX14_needConstant_150 rfl (lv_at hl 3 rfl) ?_
          obtain ⟨hv7, h⟩ := h
          refine va_iast hx hb hR.K hR.P hR.D hR.sS 31 1 (hR.atI (hR.w.2.1 _ fin_70).2.1) rfl (k_ixN (k_ix (n := 700) (x := (qI S6 0 73)) (a := (qI S6 0 73).toInt) rfl hv7) (hR.w.2.1 _ fin_70).2.2) dX14_needConstant_151 (fun H locs hP hD hS => ?_)
          have hR : Rep g ad A s (wI S6 31 (((qI S6 0 73).toInt).toNat) v3_3) H locs := hR.aI (hR.w.2.1 _ fin_70).2.1 hP hD hS
          obtain ⟨S8, eS8⟩ : ∃ z, z = wI S6 31 (((qI S6 0 73).toInt).toNat) v3_3 := ⟨_, rfl⟩
          rw [← eS8] at hR
          replace h := h S8 eS8
          have hT_v3_6 : qT S8 v3_6 = 12 := (congrArg (fun z => qT z v3_6) eS8).trans hT_v3_6
          have hsh : shy S S8 := by rw [eS8]; exact hsh
          refine lv_aload_n hx hb dX14_needConstant_152 rfl (lv_at hl 0 rfl) ?_
          refine va_get (D := rD g) (ci := 13) (v := .ref (ad 32)) (C := RX14) (T := TX14) (N := 143) hx hb hts in2X14 hown hR.K hR.P 0 (hR.at14 hR.w.1) rfl 71 (by decide) (hts _ kx_535) (fun _ h9 => h9) (congrArg (fun z => some (vf ad z)) (hR.w.2.1 _ fin_71).1) dX14_needConstant_153 ?_
          refine lv_aload_n hx hb dX14_needConstant_156 rfl (lv_at hl 0 rfl) ?_
          refine va_get (D := rD g) (ci := 13) (v := .int (qI S8 0 73)) (C := RX14) (T := TX14) (N := 143) hx hb hts in2X14 hown hR.K hR.P 0 (hR.at14 hR.w.1) rfl 73 (by decide) (hts _ kx_531) (fun _ h9 => h9) rfl dX14_needConstant_157 ?_
          refine lv_lload hx hb dX14_needConstant_160 (lv_at hl 4 rfl) ?_
          obtain ⟨hv9, h⟩ := h
          refine va_last hx hb hR.K hR.P hR.D hR.sS 32 3 (hR.atL (hR.w.2.1 _ fin_71).2.1) rfl (k_ixN (k_ix (n := 700) (x := (qI S8 0 73)) (a := (qI S8 0 73).toInt) rfl hv9) (hR.w.2.1 _ fin_71).2.2) dX14_needConstant_162 (fun H locs hP hD hS => ?_)
          have hR : Rep g ad A s (wJ S8 32 (((qI S8 0 73).toInt).toNat) v3_4) H locs := hR.aL (hR.w.2.1 _ fin_71).2.1 hP hD hS
          obtain ⟨S10, eS10⟩ : ∃ z, z = wJ S8 32 (((qI S8 0 73).toInt).toNat) v3_4 := ⟨_, rfl⟩
          rw [← eS10] at hR
          replace h := h S10 eS10
          have hT_v3_6 : qT S10 v3_6 = 12 := (congrArg (fun z => qT z v3_6) eS10).trans hT_v3_6
          have hsh : shy S S10 := by rw [eS10]; exact hsh
          refine lv_aload_n hx hb dX14_needConstant_163 rfl (lv_at hl 0 rfl) ?_
          refine va_get (D := rD g) (ci := 13) (v := .ref (ad 33)) (C := RX14) (T := TX14) (N := 143) hx hb hts in2X14 hown hR.K hR.P 0 (hR.at14 hR.w.1) rfl 72 (by decide) (hts _ kx_536) (fun _ h9 => h9) (congrArg (fun z => some (vf ad z)) (hR.w.2.1 _ fin_72).1) dX14_needConstant_164 ?_
          refine lv_aload_n hx hb dX14_needConstant_167 rfl (lv_at hl 0 rfl) ?_
          refine va_get (D := rD g) (ci := 13) (v := .int (qI S10 0 73)) (C := RX14) (T := TX14) (N := 143) hx hb hts in2X14 hown hR.K hR.P 0 (hR.at14 hR.w.1) rfl 73 (by decide) (hts _ kx_531) (fun _ h9 => h9) rfl dX14_needConstant_168 ?_
          refine lv_aload hx hb dX14_needConstant_171 (lv_at hl 5 rfl) ?_
          obtain ⟨hv11, h⟩ := h
          refine va_astqM (E := "java/lang/String") hx hb hR.K hR.P hR.D hR.sS 33 4 (hR.atS (hR.w.2.1 _ fin_72).2.1) rfl (any_str hts hR hE hA hT_v3_6) (k_ixN (k_ix (n := 700) (x := (qI S10 0 73)) (a := (qI S10 0 73).toInt) rfl hv11) (hR.w.2.1 _ fin_72).2.2) dX14_needConstant_173 (fun H locs hP hD hS => ?_)
          have hw9 : wfM (wR S10 33 (((qI S10 0 73).toInt).toNat) (some v3_6)) := hR.w.put (fun b q9 => by cases q9; exact (hT_v3_6).trans (by rw [(hR.w.2.1 _ fin_72).2.1]; rfl)) (fun q9 => absurd ((congrArg (qT S10) q9).symm.trans (hR.w.2.1 _ fin_72).2.1) (by rw [hR.w.1]; decide)) (by rw [(hR.w.2.1 _ fin_72).2.1]; show (12 : Nat) ≠ 0; decide)
          have hR : Rep g ad A s (wR S10 33 (((qI S10 0 73).toInt).toNat) (some v3_6)) H locs := hR.aS (hR.w.2.1 _ fin_72).2.1 hw9 hP hD hS
          obtain ⟨S12, eS12⟩ : ∃ z, z = wR S10 33 (((qI S10 0 73).toInt).toNat) (some v3_6) := ⟨_, rfl⟩
          rw [← eS12] at hR
          replace h := h S12 eS12
          have hT_v3_6 : qT S12 v3_6 = 12 := (congrArg (fun z => qT z v3_6) eS12).trans hT_v3_6
          have hsh : shy S S12 := by rw [eS12]; exact hsh
          refine lv_aload_n hx hb dX14_needConstant_174 rfl (lv_at hl 0 rfl) ?_
          refine va_get (D := rD g) (ci := 13) (v := .ref (ad 29)) (C := RX14) (T := TX14) (N := 143) hx hb hts in2X14 hown hR.K hR.P 0 (hR.at14 hR.w.1) rfl 68 (by decide) (hts _ kx_537) (fun _ h9 => h9) (congrArg (fun z => some (vf ad z)) (hR.w.2.1 _ fin_68).1) dX14_needConstant_175 ?_
          refine lv_aload_n hx hb dX14_needConstant_178 rfl (lv_at hl 0 rfl) ?_
          refine va_get (D := rD g) (ci := 13) (v := .int (qI S12 0 73)) (C := RX14) (T := TX14) (N := 143) hx hb hts in2X14 hown hR.K hR.P 0 (hR.at14 hR.w.1) rfl 73 (by decide) (hts _ kx_531) (fun _ h9 => h9) rfl dX14_needConstant_179 ?_
          refine lv_aload_n hx hb dX14_needConstant_182 rfl (lv_at hl 0 rfl) ?_
          refine va_get (D := rD g) (ci := 13) (v := .int (qI S12 0 74)) (C := RX14) (T := TX14) (N := 143) hx hb hts in2X14 hown hR.K hR.P 0 (hR.at14 hR.w.1) rfl 74 (by decide) (hts _ kx_538) (fun _ h9 => h9) rfl dX14_needConstant_183 ?_
          obtain ⟨hv13, h⟩ := h
          refine va_iast hx hb hR.K hR.P hR.D hR.sS 29 1 (hR.atI (hR.w.2.1 _ fin_68).2.1) rfl (k_ixN (k_ix (n := 700) (x := (qI S12 0 73)) (a := (qI S12 0 73).toInt) rfl hv13) (hR.w.2.1 _ fin_68).2.2) dX14_needConstant_186 (fun H locs hP hD hS => ?_)
          have hR : Rep g ad A s (wI S12 29 (((qI S12 0 73).toInt).toNat) (qI S12 0 74)) H locs := hR.aI (hR.w.2.1 _ fin_68).2.1 hP hD hS
          obtain ⟨S14, eS14⟩ : ∃ z, z = wI S12 29 (((qI S12 0 73).toInt).toNat) (qI S12 0 74) := ⟨_, rfl⟩
          rw [← eS14] at hR
          replace h := h S14 eS14
          have hT_v3_6 : qT S14 v3_6 = 12 := (congrArg (fun z => qT z v3_6) eS14).trans hT_v3_6
          have hsh : shy S S14 := by rw [eS14]; exact hsh
          refine lv_aload_n hx hb dX14_needConstant_187 rfl (lv_at hl 0 rfl) ?_
          refine lv_dup hx hb dX14_needConstant_188 rfl ?_
          refine va_get (D := rD g) (ci := 13) (v := .int (qI S14 0 73)) (C := RX14) (T := TX14) (N := 143) hx hb hts in2X14 hown hR.K hR.P 0 (hR.at14 hR.w.1) rfl 73 (by decide) (hts _ kx_531) (fun _ h9 => h9) rfl dX14_needConstant_189 ?_
          refine lv_iconst (v := 1) hx hb dX14_needConstant_192 (by decide) ?_
          refine lv_iadd hx hb dX14_needConstant_193 ?_
          refine lv_topi (fun z15 ez15 => ?_)
          obtain rfl : z15 = ((qI S14 0 73) + (1 : Int32)) := ez15
          refine va_put (D := rD g) (ci := 13) (v := .int ((qI S14 0 73) + (1 : Int32))) (ty := .int) (C := RX14) (T := TX14) (N := 143) hx hb hts in2X14 tyX14 tyX14_ok nmX14 hown hR.K hR.P hR.D hR.sS 0 (hR.at14 hR.w.1) rfl 73 (by decide) (hts _ kx_531) (fun _ h9 => h9) rfl (by decide +kernel) rfl rfl (Nat.le_of_ble_eq_true rfl) dX14_needConstant_194 (fun H locs hP hD hS => ?_)
          have hR : Rep g ad A s (wI S14 0 73 ((qI S14 0 73) + (1 : Int32))) H locs := hR.pI hR.w.1 F14_s73 hP hD hS
          obtain ⟨S16, eS16⟩ : ∃ z, z = wI S14 0 73 ((qI S14 0 73) + (1 : Int32)) := ⟨_, rfl⟩
          rw [← eS16] at hR
          replace h := h S16 eS16
          have hT_v3_6 : qT S16 v3_6 = 12 := (congrArg (fun z => qT z v3_6) eS16).trans hT_v3_6
          have hsh : shy S S16 := by rw [eS16]; exact hsh
          refine lv_aload_n hx hb dX14_needConstant_197 rfl (lv_at hl 0 rfl) ?_
          refine lv_dup hx hb dX14_needConstant_198 rfl ?_
          refine va_get (D := rD g) (ci := 13) (v := .int (qI S16 0 74)) (C := RX14) (T := TX14) (N := 143) hx hb hts in2X14 hown hR.K hR.P 0 (hR.at14 hR.w.1) rfl 74 (by decide) (hts _ kx_538) (fun _ h9 => h9) rfl dX14_needConstant_199 ?_
          refine lv_iload_n hx hb dX14_needConstant_202 rfl (lv_at hl 1 rfl) ?_
          refine lv_iconst (v := 5) hx hb dX14_needConstant_203 (by decide) ?_
          have J_212 : ∀ (U212 : MS) (t212_0 : Int32) (t212_1 : Int32) (v212_1 : Int32) (H : Heap) (locs : List Loc) (ls : Array Slot), w_needConstant_J212 Q E U212 t212_0 t212_1 v212_1 → shy S U212 → Rep g ad A s U212 H locs → lv_has ls 9 [(0, .ref (ad 0)), (1, .int v212_1)] → W p l e (headSpec (wt2 yX14_needConstant cX14_needConstant 9 (some .int)) ({ frames := 2, cells := 0, slots := 0, locals := 44 })).room s m ([.ref (ad 0), .int x1, .int x2, .int x3, .long y4, .ref (ad p6)] : List Value).toArray below meth c H locs 0 0 (vx_MQ below (va_Qi (fun (r : Int32) (u : MS) => Q r u ∧ wfM u ∧ shy S u) (fun (u : MS) (t : State) => qE g ad A u t) A) ((vx_X (fun (u : MS) => E u ∧ wfM u ∧ shy S u) (fun (n9 : String) (u : MS) (t : State) => n9 = RJxb5711 ∧ qE g ad A u t) A)) ([.ref (ad 0), .int x1, .int x2, .int x3, .long y4, .ref (ad p6)] : List Value).toArray s 0 0 A) (F0 m 212 ls [.int t212_0, .int t212_1, .ref (ad 0)]) := by
            intro U212 t212_0 t212_1 v212_1 H locs ls h hsh hR hl
            unfold w_needConstant_J212 at h
            refine lv_iadd hx hb dX14_needConstant_212 ?_
            refine lv_topi (fun z17 ez17 => ?_)
            obtain rfl : z17 = (t212_1 + t212_0) := ez17
            refine va_put (D := rD g) (ci := 13) (v := .int (t212_1 + t212_0)) (ty := .int) (C := RX14) (T := TX14) (N := 143) hx hb hts in2X14 tyX14 tyX14_ok nmX14 hown hR.K hR.P hR.D hR.sS 0 (hR.at14 hR.w.1) rfl 74 (by decide) (hts _ kx_538) (fun _ h9 => h9) rfl (by decide +kernel) rfl rfl (Nat.le_of_ble_eq_true rfl) dX14_needConstant_213 (fun H locs hP hD hS => ?_)
            have hR : Rep g ad A s (wI U212 0 74 (t212_1 + t212_0)) H locs := hR.pI hR.w.1 F14_s74 hP hD hS
            obtain ⟨S18, eS18⟩ : ∃ z, z = wI U212 0 74 (t212_1 + t212_0) := ⟨_, rfl⟩
            rw [← eS18] at hR
            replace h := h S18 eS18
            have hsh : shy S S18 := by rw [eS18]; exact hsh
            refine lv_aload_n hx hb dX14_needConstant_216 rfl (lv_at hl 0 rfl) ?_
            refine va_get (D := rD g) (ci := 13) (v := .int (qI S18 0 74)) (C := RX14) (T := TX14) (N := 143) hx hb hts in2X14 hown hR.K hR.P 0 (hR.at14 hR.w.1) rfl 74 (by decide) (hts _ kx_538) (fun _ h9 => h9) rfl dX14_needConstant_217 ?_
            refine lv_iload_n hx hb dX14_needConstant_220 rfl (lv_at hl 1 rfl) ?_
            refine lv_iconst (v := 5) hx hb dX14_needConstant_221 (by decide) ?_
            refine lv_icmp_ne (tgt := 229) hx hb dX14_needConstant_222 (by decide) (fun c19 => ?_) (fun c19 => ?_)
            · replace h := h.2 (k_ne rfl (by decide) c19)
              refine lv_iconst (v := 1) hx hb dX14_needConstant_229 (by decide) ?_
              refine lv_isub hx hb dX14_needConstant_230 ?_
              refine lv_topi (fun z20 ez20 => ?_)
              obtain rfl : z20 = ((qI S18 0 74) - (1 : Int32)) := ez20
              exact vx_ret (W.iret (v := ((qI S18 0 74) - (1 : Int32))) hx hb hr (fun t9 ht9 hW9 => ⟨⟨_, S18, rfl, ⟨h, hR.w, hsh⟩, ⟨by rw [ht9]; exact hR.P, hR.D⟩⟩, hR.sS.F ht9⟩) hR.sS.2.2 dX14_needConstant_231)
            · replace h := h.1 (k_eq rfl (by decide) c19)
              refine lv_iconst (v := 2) hx hb dX14_needConstant_225 (by decide) ?_
              refine lv_goto (tgt := 230) hx hb dX14_needConstant_226 (by decide) ?_
              refine lv_isub hx hb dX14_needConstant_230 ?_
              refine lv_topi (fun z21 ez21 => ?_)
              obtain rfl : z21 = ((qI S18 0 74) - (2 : Int32)) := ez21
              exact vx_ret (W.iret (v := ((qI S18 0 74) - (2 : Int32))) hx hb hr (fun t9 ht9 hW9 => ⟨⟨_, S18, rfl, ⟨h, hR.w, hsh⟩, ⟨by rw [ht9]; exact hR.P, hR.D⟩⟩, hR.sS.F ht9⟩) hR.sS.2.2 dX14_needConstant_231)
          refine lv_icmp_ne (tgt := 211) hx hb dX14_needConstant_204 (by decide) (fun c22 => ?_) (fun c22 => ?_)
          · replace h := h.2 (k_ne rfl (by decide) c22)
            refine lv_iconst (v := 1) hx hb dX14_needConstant_211 (by decide) ?_
            exact J_212 S16 1 (qI S16 0 74) v3_1 _ _ ls h  hsh hR (lv_sub hl [0, 1] rfl)
          · replace h := h.1 (k_eq rfl (by decide) c22)
            refine lv_iconst (v := 2) hx hb dX14_needConstant_207 (by decide) ?_
            refine lv_goto (tgt := 212) hx hb dX14_needConstant_208 (by decide) ?_
            exact J_212 S16 2 (qI S16 0 74) v3_1 _ _ ls h  hsh hR (lv_sub hl [0, 1] rfl)
        · replace h := h.1 (k_eq rfl (by decide) c2)
          refine lv_aload_n hx hb dX14_needConstant_114 rfl (lv_at hl 0 rfl) ?_
          refine lv_iconst (v := 5) hx hb dX14_needConstant_115 (by decide) ?_
          refine lv_bipush (v := 8) hx hb dX14_needConstant_116 (by decide) ?_
          obtain ⟨Q23, h0, h⟩ := h
          have hFc := rfree hR hA
          refine va_callq (va_runV (As := [.int 5, .int 8]) (rest := []) ⟨hx, hb, hml, hown, hts⟩ (r_broken l g ad H.size U3 (5 : Int32) (8 : Int32) hR.w  Q23 h0) (cwV 2 hts (gd2_V kx_174 kx_175 kx_176 kx_177 kx_178) rfl rfl rfl (by decide +kernel) ⟨Nat.le_of_ble_eq_true rfl, Nat.le_of_ble_eq_true rfl⟩) ⟨rblind, va_recv hR.K hR.P (ci := 13) (q0 := 0) rfl (hR.at14 hR.w.1), fun U hU hW9 => rmk hU hW9 hR hex hE hFc⟩ rfl rfl hl.1 rfl (lv_room (Nat.le_of_ble_eq_true rfl)) dX14_needConstant_118 ⟨Nat.le_of_ble_eq_true rfl, Nat.le_of_ble_eq_true rfl⟩) hR.sS (fun q _ h => hFc q h) hFc (fun r24 S25 t9 H1 locs ht9 hvm9 hw9 hB9 hz9 hk9 hS => ?_)
          obtain ⟨b27, rfl, hq26, hw9, hs9, hT_b27⟩ := hw9
          have hR : Rep g ad A s S25 H1 locs := hR.call ht9 hB9 hw9 hS hFc
          have hsh := hsh.tr hs9
          replace h := h b27 S25 hq26
          have hT_v3_6 := hs9.T hT_v3_6 (by decide)
          clear hB9 hz9 hk9 hvm9 ht9 hw9 hs9 hS
          generalize H1 = H at hR ⊢
          obtain ⟨ce9, hce9, hcv9, hcl9⟩ := sx_cell hR.K hR.P (q0 := b27) (ci := 14) rfl (hR.atX hT_b27)
          refine sx_athrow hx hb dX14_needConstant_121 ?_
          exact vx_out (E := RJxb5711) (q := (ad b27)) (fun x h9 => (hnt x h9).elim) hlocks hce9 hcv9 hcl9 (fun t9 ht9 ha9 => ⟨S25, ⟨h, hR.w, hsh⟩, ⟨rfl, by rw [ht9]; exact hR.P, hR.D⟩, hR.sS.F ht9⟩) hR.sS.2.2 (Nat.le_of_ble_eq_true rfl) (Nat.le_of_ble_eq_true rfl)
      · replace h := h.2 (k_nle rfl rfl c1)
        refine lv_aload_n hx hb dX14_needConstant_12 rfl (lv_at hl 0 rfl) ?_
        refine va_get (D := rD g) (ci := 13) (v := .ref (ad 28)) (C := RX14) (T := TX14) (N := 143) hx hb hts in2X14 hown hR.K hR.P 0 (hR.at14 hR.w.1) rfl 67 (by decide) (hts _ kx_532) (fun _ h9 => h9) (congrArg (fun z => some (vf ad z)) (hR.w.2.1 _ fin_67).1) dX14_needConstant_13 ?_
        refine lv_iload hx hb dX14_needConstant_16 (lv_at hl 6 rfl) ?_
        obtain ⟨hv28, h⟩ := h
        refine va_iald hx hb hR.K hR.P 28 1 (hR.atI (hR.w.2.1 _ fin_67).2.1) rfl (k_ixN (k_ix (n := 700) (x := v3_7) (a := v3_7.toInt) rfl hv28) (hR.w.2.1 _ fin_67).2.2) dX14_needConstant_18 ?_
        refine lv_topi (fun z29 ez29 => ?_)
        obtain rfl : z29 = (qI U3 28 v3_7.toInt.toNat) := ez29
        refine lv_iload_n hx hb dX14_needConstant_19 rfl (lv_at hl 1 rfl) ?_
        have J_63 : ∀ (U63 : MS) (t63_0 : Int32) (v63_1 : Int32) (v63_2 : Int32) (v63_3 : Int32) (v63_4 : Int64) (v63_6 : Nat) (v63_7 : Int32) (H : Heap) (locs : List Loc) (ls : Array Slot), w_needConstant_J63 Q E (w_needConstant_L3 Q E n3) U63 t63_0 v63_1 v63_2 v63_3 v63_4 v63_6 v63_7 → qT U63 v63_6 = 12 → (t63_0 = 0 ∨ t63_0 = 1) → shy S U63 → Rep g ad A s U63 H locs → lv_has ls 9 [(0, .ref (ad 0)), (1, .int v63_1), (2, .int v63_2), (3, .int v63_3), (4, .long v63_4), (6, .ref (ad v63_6)), (7, .int v63_7)] → W p l e (headSpec (wt2 yX14_needConstant cX14_needConstant 9 (some .int)) ({ frames := 2, cells := 0, slots := 0, locals := 44 })).room s m ([.ref (ad 0), .int x1, .int x2, .int x3, .long y4, .ref (ad p6)] : List Value).toArray below meth c H locs 0 0 (vx_MQ below (va_Qi (fun (r : Int32) (u : MS) => Q r u ∧ wfM u ∧ shy S u) (fun (u : MS) (t : State) => qE g ad A u t) A) ((vx_X (fun (u : MS) => E u ∧ wfM u ∧ shy S u) (fun (n9 : String) (u : MS) (t : State) => n9 = RJxb5711 ∧ qE g ad A u t) A)) ([.ref (ad 0), .int x1, .int x2, .int x3, .long y4, .ref (ad p6)] : List Value).toArray s 0 0 A) (F0 m 63 ls [.int t63_0]) := by
          intro U63 t63_0 v63_1 v63_2 v63_3 v63_4 v63_6 v63_7 H locs ls h hT_v63_6 hz_t63_0 hsh hR hl
          unfold w_needConstant_J63 at h
          refine lv_istore (lv' := [(8, .int t63_0), (0, .ref (ad 0)), (1, .int v63_1), (2, .int v63_2), (3, .int v63_3), (4, .long v63_4), (6, .ref (ad v63_6)), (7, .int v63_7)]) hx hb dX14_needConstant_63 hl (by decide) rfl (fun ls hl => ?_)
          refine lv_iload hx hb dX14_needConstant_65 (lv_at hl 0 rfl) ?_
          have J_98 : ∀ (U98 : MS) (v98_1 : Int32) (v98_2 : Int32) (v98_3 : Int32) (v98_4 : Int64) (v98_6 : Nat) (v98_7 : Int32) (H : Heap) (locs : List Loc) (ls : Array Slot), w_needConstant_J98 Q E (w_needConstant_L3 Q E n3) U98 v98_1 v98_2 v98_3 v98_4 v98_6 v98_7 → qT U98 v98_6 = 12 → shy S U98 → Rep g ad A s U98 H locs → lv_has ls 9 [(0, .ref (ad 0)), (1, .int v98_1), (2, .int v98_2), (3, .int v98_3), (4, .long v98_4), (6, .ref (ad v98_6)), (7, .int v98_7)] → W p l e (headSpec (wt2 yX14_needConstant cX14_needConstant 9 (some .int)) ({ frames := 2, cells := 0, slots := 0, locals := 44 })).room s m ([.ref (ad 0), .int x1, .int x2, .int x3, .long y4, .ref (ad p6)] : List Value).toArray below meth c H locs 0 0 (vx_MQ below (va_Qi (fun (r : Int32) (u : MS) => Q r u ∧ wfM u ∧ shy S u) (fun (u : MS) (t : State) => qE g ad A u t) A) ((vx_X (fun (u : MS) => E u ∧ wfM u ∧ shy S u) (fun (n9 : String) (u : MS) (t : State) => n9 = RJxb5711 ∧ qE g ad A u t) A)) ([.ref (ad 0), .int x1, .int x2, .int x3, .long y4, .ref (ad p6)] : List Value).toArray s 0 0 A) (F0 m 98 ls []) := by
            intro U98 v98_1 v98_2 v98_3 v98_4 v98_6 v98_7 H locs ls h hT_v98_6 hsh hR hl
            unfold w_needConstant_J98 at h
            obtain ⟨a30, ea30⟩ : ∃ z, z = (v98_7 + Int32.ofInt 1) := ⟨_, rfl⟩
            replace h := h a30 ea30
            refine lv_iinc (v := a30) (lv' := [(7, .int a30), (0, .ref (ad 0)), (1, .int v98_1), (2, .int v98_2), (3, .int v98_3), (4, .long v98_4), (6, .ref (ad v98_6))]) hx hb dX14_needConstant_98 hl (k := 6) rfl ea30.symm (by decide) rfl (fun ls hl => ?_)
            refine lv_goto (tgt := 3) hx hb dX14_needConstant_101 (by decide) ?_
            exact ih_3 U98 v98_1 v98_2 v98_3 v98_4 v98_6 a30 _ _ ls h hT_v98_6 hsh hR (lv_sub hl [1, 2, 3, 4, 5, 6, 0] rfl)
          refine lv_if_eq (tgt := 98) hx hb dX14_needConstant_67 (by decide) (fun c31 => ?_) (fun c31 => ?_)
          · replace h := h.1 (k_eq rfl (by decide) c31)
            exact J_98 U63 v63_1 v63_2 v63_3 v63_4 v63_6 v63_7 _ _ ls h hT_v63_6 hsh hR (lv_sub hl [1, 2, 3, 4, 5, 6, 7] rfl)
          · replace h := h.2 (k_ne rfl (by decide) c31)
            refine lv_iload_n hx hb dX14_needConstant_70 rfl (lv_at hl 2 rfl) ?_
            refine lv_iconst (v := 1) hx hb dX14_needConstant_71 (by decide) ?_
            have J_90 : ∀ (U90 : MS) (v90_7 : Int32) (H : Heap) (locs : List Loc) (ls : Array Slot), w_needConstant_J90 Q E U90 v90_7 → shy S U90 → Rep g ad A s U90 H locs → lv_has ls 9 [(0, .ref (ad 0)), (7, .int v90_7)] → W p l e (headSpec (wt2 yX14_needConstant cX14_needConstant 9 (some .int)) ({ frames := 2, cells := 0, slots := 0, locals := 44 })).room s m ([.ref (ad 0), .int x1, .int x2, .int x3, .long y4, .ref (ad p6)] : List Value).toArray below meth c H locs 0 0 (vx_MQ below (va_Qi (fun (r : Int32) (u : MS) => Q r u ∧ wfM u ∧ shy S u) (fun (u : MS) (t : State) => qE g ad A u t) A) ((vx_X (fun (u : MS) => E u ∧ wfM u ∧ shy S u) (fun (n9 : String) (u : MS) (t : State) => n9 = RJxb5711 ∧ qE g ad A u t) A)) ([.ref (ad 0), .int x1, .int x2, .int x3, .long y4, .ref (ad p6)] : List Value).toArray s 0 0 A) (F0 m 90 ls []) := by
              intro U90 v90_7 H locs ls h hsh hR hl
              unfold w_needConstant_J90 at h
              refine lv_aload_n hx hb dX14_needConstant_90 rfl (lv_at hl 0 rfl) ?_
              refine va_get (D := rD g) (ci := 13) (v := .ref (ad 29)) (C := RX14) (T := TX14) (N := 143) hx hb hts in2X14 hown hR.K hR.P 0 (hR.at14 hR.w.1) rfl 68 (by decide) (hts _ kx_537) (fun _ h9 => h9) (congrArg (fun z => some (vf ad z)) (hR.w.2.1 _ fin_68).1) dX14_needConstant_91 ?_
              refine lv_iload hx hb dX14_needConstant_94 (lv_at hl 1 rfl) ?_
              obtain ⟨hv32, h⟩ := h
              refine va_iald hx hb hR.K hR.P 29 1 (hR.atI (hR.w.2.1 _ fin_68).2.1) rfl (k_ixN (k_ix (n := 700) (x := v90_7) (a := v90_7.toInt) rfl hv32) (hR.w.2.1 _ fin_68).2.2) dX14_needConstant_96 ?_
              refine lv_topi (fun z33 ez33 => ?_)
              obtain rfl : z33 = (qI U90 29 v90_7.toInt.toNat) := ez33
              exact vx_ret (W.iret (v := (qI U90 29 v90_7.toInt.toNat)) hx hb hr (fun t9 ht9 hW9 => ⟨⟨_, U90, rfl, ⟨h, hR.w, hsh⟩, ⟨by rw [ht9]; exact hR.P, hR.D⟩⟩, hR.sS.F ht9⟩) hR.sS.2.2 dX14_needConstant_97)
            refine lv_icmp_ne (tgt := 90) hx hb dX14_needConstant_72 (by decide) (fun c34 => ?_) (fun c34 => ?_)
            · replace h := h.2 (k_ne rfl (by decide) c34)
              exact J_90 U63 v63_7 _ _ ls h  hsh hR (lv_sub hl [1, 7] rfl)
            · replace h := h.1 (k_eq rfl (by decide) c34)
              refine lv_aload_n hx hb dX14_needConstant_75 rfl (lv_at hl 1 rfl) ?_
              refine va_get (D := rD g) (ci := 13) (v := .ref (ad 33)) (C := RX14) (T := TX14) (N := 143) hx hb hts in2X14 hown hR.K hR.P 0 (hR.at14 hR.w.1) rfl 72 (by decide) (hts _ kx_536) (fun _ h9 => h9) (congrArg (fun z => some (vf ad z)) (hR.w.2.1 _ fin_72).1) dX14_needConstant_76 ?_
              refine lv_iload hx hb dX14_needConstant_79 (lv_at hl 7 rfl) ?_
              obtain ⟨hv35, h⟩ := h
              refine va_aldq hx hb hR.K hR.P 33 4 (hR.atS (hR.w.2.1 _ fin_72).2.1) rfl (k_ixN (k_ix (n := 700) (x := v63_7) (a := v63_7.toInt) rfl hv35) (hR.w.2.1 _ fin_72).2.2) dX14_needConstant_81 ?_
              obtain ⟨hv36, h⟩ := h
              have hT_b37 : qT U63 (qO U63 33 v63_7.toInt.toNat) = 12 := hR.w.ref hv36 (hR.w.2.1 _ fin_72).2.1
              rw [show va_rf (Option.map ad (qR U63 33 (v63_7 : Int32).toNatClampNeg)) = .ref (ad (qO U63 33 v63_7.toInt.toNat)) from congrArg (fun z => vf ad z) hv36]
              refine lv_aload hx hb dX14_needConstant_82 (lv_at hl 6 rfl) ?_
              have hF : ∀ q, Ns H.size q → A q := fun q h => hA q (Nat.le_trans hR.sS.1 h)
              refine va_calli (va_runV (As := [.ref (ad v63_6)]) (rest := []) ⟨hx, hb, hml, hown, hts⟩ (s_equals l H.size (ad (qO U63 33 v63_7.toInt.toNat)) (ad ((qO U63 33 v63_7.toInt.toNat) + 1)) (qN U63 ((qO U63 33 v63_7.toInt.toNat) + 1)) (qI U63 ((qO U63 33 v63_7.toInt.toNat) + 1)) (ad v63_6) (ad (v63_6 + 1)) (qN U63 (v63_6 + 1)) (qI U63 (v63_6 + 1)) (hR.w.len hT_b37) (hR.w.len hT_v63_6)) (cwV 1 hts (gd2_V kx_539 kx_540 kx_541 kx_6 kx_542) rfl rfl rfl (by decide +kernel) ⟨Nat.le_of_ble_eq_true rfl, Nat.le_of_ble_eq_true rfl⟩) ⟨tblind (fun A u U H hv h => by exact ⟨tx1.moved hv h.1, tx1.moved hv h.2⟩), (strR hts hR hE hA hT_b37), fun U hU hW9 => ⟨rfl, by rw [hU], ⟨str_at hts hR hE hA hT_b37 hU hW9, str_at hts hR hE hA hT_v63_6 hU hW9⟩, by rw [hU]; exact ((hE.1.kept hR.sS.2.1).narrow hF).moved hW9.alike⟩⟩ rfl rfl hl.1 rfl (lv_room (Nat.le_of_ble_eq_true rfl)) dX14_needConstant_84 ⟨Nat.le_of_ble_eq_true rfl, Nat.le_of_ble_eq_true rfl⟩) hR.sS (fun q _ h => hF q h) hF (fun r38 u9 t9 H1 locs ht9 hvm9 hw9 hB9 hz9 hk9 hS => ?_)
              obtain ⟨hw9, hz_r38⟩ := sEq_of hw9
              obtain rfl : r38 = (sEq U63 (qO U63 33 v63_7.toInt.toNat) v63_6) := hw9
              have hR : Rep g ad A s U63 H1 locs := hR.keep hk9 hS
              clear hz9 hk9 hvm9 ht9 hB9 hF hS
              generalize H1 = H at hR ⊢
              refine lv_if_eq (tgt := 98) hx hb dX14_needConstant_87 (by decide) (fun c39 => ?_) (fun c39 => ?_)
              · replace h := h.1 (k_eq rfl (by decide) c39)
                exact J_98 U63 v63_1 v63_2 v63_3 v63_4 v63_6 v63_7 _ _ ls h hT_v63_6 hsh hR (lv_sub hl [1, 2, 3, 4, 5, 6, 7] rfl)
              · replace h := h.2 (k_ne rfl (by decide) c39)
                exact J_90 U63 v63_7 _ _ ls h  hsh hR (lv_sub hl [1, 7] rfl)
        have J_62 : ∀ (U62 : MS) (v62_1 : Int32) (v62_2 : Int32) (v62_3 : Int32) (v62_4 : Int64) (v62_6 : Nat) (v62_7 : Int32) (H : Heap) (locs : List Loc) (ls : Array Slot), w_needConstant_J62 Q E (w_needConstant_L3 Q E n3) U62 v62_1 v62_2 v62_3 v62_4 v62_6 v62_7 → qT U62 v62_6 = 12 → shy S U62 → Rep g ad A s U62 H locs → lv_has ls 9 [(0, .ref (ad 0)), (1, .int v62_1), (2, .int v62_2), (3, .int v62_3), (4, .long v62_4), (6, .ref (ad v62_6)), (7, .int v62_7)] → W p l e (headSpec (wt2 yX14_needConstant cX14_needConstant 9 (some .int)) ({ frames := 2, cells := 0, slots := 0, locals := 44 })).room s m ([.ref (ad 0), .int x1, .int x2, .int x3, .long y4, .ref (ad p6)] : List Value).toArray below meth c H locs 0 0 (vx_MQ below (va_Qi (fun (r : Int32) (u : MS) => Q r u ∧ wfM u ∧ shy S u) (fun (u : MS) (t : State) => qE g ad A u t) A) ((vx_X (fun (u : MS) => E u ∧ wfM u ∧ shy S u) (fun (n9 : String) (u : MS) (t : State) => n9 = RJxb5711 ∧ qE g ad A u t) A)) ([.ref (ad 0), .int x1, .int x2, .int x3, .long y4, .ref (ad p6)] : List Value).toArray s 0 0 A) (F0 m 62 ls []) := by
          intro U62 v62_1 v62_2 v62_3 v62_4 v62_6 v62_7 H locs ls h hT_v62_6 hsh hR hl
          unfold w_needConstant_J62 at h
          refine lv_iconst (v := 0) hx hb dX14_needConstant_62 (by decide) ?_
          exact J_63 U62 0 v62_1 v62_2 v62_3 v62_4 v62_6 v62_7 _ _ ls h hT_v62_6 (Or.inl rfl) hsh hR (lv_sub hl [0, 1, 2, 3, 4, 5, 6] rfl)
        refine lv_icmp_ne (tgt := 62) hx hb dX14_needConstant_20 (by decide) (fun c40 => ?_) (fun c40 => ?_)
        · replace h := h.2 (k_ne rfl rfl c40)
          exact J_62 U3 v3_1 v3_2 v3_3 v3_4 v3_6 v3_7 _ _ ls h hT_v3_6 hsh hR (lv_sub hl [0, 1, 2, 3, 4, 5, 6] rfl)
        · replace h := h.1 (k_eq rfl rfl c40)
          refine lv_aload_n hx hb dX14_needConstant_23 rfl (lv_at hl 0 rfl) ?_
          refine va_get (D := rD g) (ci := 13) (v := .ref (ad 30)) (C := RX14) (T := TX14) (N := 143) hx hb hts in2X14 hown hR.K hR.P 0 (hR.at14 hR.w.1) rfl 69 (by decide) (hts _ kx_533) (fun _ h9 => h9) (congrArg (fun z => some (vf ad z)) (hR.w.2.1 _ fin_69).1) dX14_needConstant_24 ?_
          refine lv_iload hx hb dX14_needConstant_27 (lv_at hl 6 rfl) ?_
          obtain ⟨hv41, h⟩ := h
          refine va_iald hx hb hR.K hR.P 30 1 (hR.atI (hR.w.2.1 _ fin_69).2.1) rfl (k_ixN (k_ix (n := 700) (x := v3_7) (a := v3_7.toInt) rfl hv41) (hR.w.2.1 _ fin_69).2.2) dX14_needConstant_29 ?_
          refine lv_topi (fun z42 ez42 => ?_)
          obtain rfl : z42 = (qI U3 30 v3_7.toInt.toNat) := ez42
          refine lv_iload_n hx hb dX14_needConstant_30 rfl (lv_at hl 2 rfl) ?_
          refine lv_icmp_ne (tgt := 62) hx hb dX14_needConstant_31 (by decide) (fun c43 => ?_) (fun c43 => ?_)
          · replace h := h.2 (k_ne rfl rfl c43)
            exact J_62 U3 v3_1 v3_2 v3_3 v3_4 v3_6 v3_7 _ _ ls h hT_v3_6 hsh hR (lv_sub hl [0, 1, 2, 3, 4, 5, 6] rfl)
          · replace h := h.1 (k_eq rfl rfl c43)
            refine lv_aload_n hx hb dX14_needConstant_34 rfl (lv_at hl 0 rfl) ?_
            refine va_get (D := rD g) (ci := 13) (v := .ref (ad 31)) (C := RX14) (T := TX14) (N := 143) hx hb hts in2X14 hown hR.K hR.P 0 (hR.at14 hR.w.1) rfl 70 (by decide) (hts _ kx_534) (fun _ h9 => h9) (congrArg (fun z => some (vf ad z)) (hR.w.2.1 _ fin_70).1) dX14_needConstant_35 ?_
            refine lv_iload hx hb dX14_needConstant_38 (lv_at hl 6 rfl) ?_
            obtain ⟨hv44, h⟩ := h
            refine va_iald hx hb hR.K hR.P 31 1 (hR.atI (hR.w.2.1 _ fin_70).2.1) rfl (k_ixN (k_ix (n := 700) (x := v3_7) (a := v3_7.toInt) rfl hv44) (hR.w.2.1 _ fin_70).2.2) dX14_needConstant_40 ?_
            refine lv_topi (fun z45 ez45 => ?_)
            obtain rfl : z45 = (qI U3 31 v3_7.toInt.toNat) := ez45
            refine lv_iload_n hx hb dX14_needConstant_41 rfl (lv_at hl 3 rfl) ?_
            refine lv_icmp_ne (tgt := 62) hx hb dX14_needConstant_42 (by decide) (fun c46 => ?_) (fun c46 => ?_)
            · replace h := h.2 (k_ne rfl rfl c46)
              exact J_62 U3 v3_1 v3_2 v3_3 v3_4 v3_6 v3_7 _ _ ls h hT_v3_6 hsh hR (lv_sub hl [0, 1, 2, 3, 4, 5, 6] rfl)
            · replace h := h.1 (k_eq rfl rfl c46)
              refine lv_aload_n hx hb dX14_needConstant_45 rfl (lv_at hl 0 rfl) ?_
              refine va_get (D := rD g) (ci := 13) (v := .ref (ad 32)) (C := RX14) (T := TX14) (N := 143) hx hb hts in2X14 hown hR.K hR.P 0 (hR.at14 hR.w.1) rfl 71 (by decide) (hts _ kx_535) (fun _ h9 => h9) (congrArg (fun z => some (vf ad z)) (hR.w.2.1 _ fin_71).1) dX14_needConstant_46 ?_
              refine lv_iload hx hb dX14_needConstant_49 (lv_at hl 6 rfl) ?_
              obtain ⟨hv47, h⟩ := h
              refine va_lald hx hb hR.K hR.P 32 3 (hR.atL (hR.w.2.1 _ fin_71).2.1) rfl (k_ixN (k_ix (n := 700) (x := v3_7) (a := v3_7.toInt) rfl hv47) (hR.w.2.1 _ fin_71).2.2) dX14_needConstant_51 ?_
              refine lv_topl (fun z48 ez48 => ?_)
              obtain rfl : z48 = (qJ U3 32 v3_7.toInt.toNat) := ez48
              refine lv_lload hx hb dX14_needConstant_52 (lv_at hl 4 rfl) ?_
              refine W.lcmp hx hb dX14_needConstant_54 ?_
              refine lv_topi (fun z49 ez49 => ?_)
              obtain rfl : z49 = (lg_cmp (qJ U3 32 v3_7.toInt.toNat) v3_4) := ez49
              refine lv_if_ne (tgt := 62) hx hb dX14_needConstant_55 (by decide) (fun c50 => ?_) (fun c50 => ?_)
              · replace h := h.2 (k_ne rfl (by decide) c50)
                exact J_62 U3 v3_1 v3_2 v3_3 v3_4 v3_6 v3_7 _ _ ls h hT_v3_6 hsh hR (lv_sub hl [0, 1, 2, 3, 4, 5, 6] rfl)
              · replace h := h.1 (k_eq rfl (by decide) c50)
                refine lv_iconst (v := 1) hx hb dX14_needConstant_58 (by decide) ?_
                refine lv_goto (tgt := 63) hx hb dX14_needConstant_59 (by decide) ?_
                exact J_63 U3 1 v3_1 v3_2 v3_3 v3_4 v3_6 v3_7 _ _ ls h hT_v3_6 (Or.inr rfl) hsh hR (lv_sub hl [0, 1, 2, 3, 4, 5, 6] rfl)
  obtain ⟨n9, h⟩ := h
  exact J_3 n9 S x1 x2 x3 y4 p6 0 _ _ ls h hT_p6 hsh hR (lv_sub hl [1, 2, 3, 4, 5, 6, 0] rfl)
