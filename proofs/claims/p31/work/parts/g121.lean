def w_jump_J180 (Q : MS → Prop) (U180 : MS) (v180_1 : Int32) (v180_3 : Int32) (v180_4 : Int32) : Prop := ((v180_4.toInt = 0 → (∃ Q3, w_goTo U180 (v180_1 + (1 : Int32)) Q3 ∧ ∀ S4, Q3 S4 → Q S4)) ∧ (¬ v180_4.toInt = 0 → (∃ Q6, w_goTo U180 v180_3 Q6 ∧ ∀ S7, Q6 S7 → Q S7)))
def w_jump_J131 (Q : MS → Prop) (U131 : MS) (t131_0 : Int32) (v131_1 : Int32) (v131_3 : Int32) : Prop := w_jump_J180 Q U131 v131_1 v131_3 t131_0
def w_jump_J123 (Q : MS → Prop) (U123 : MS) (t123_0 : Int32) (t123_1 : Int32) (v123_1 : Int32) (v123_3 : Int32) : Prop := ((t123_1.toInt = t123_0.toInt → w_jump_J131 Q U123 1 v123_1 v123_3) ∧ (¬ t123_1.toInt = t123_0.toInt → w_jump_J131 Q U123 0 v123_1 v123_3))
def w_jump_J111 (Q : MS → Prop) (U111 : MS) (t111_0 : Int32) (v111_1 : Int32) (v111_2 : Int32) (v111_3 : Int32) : Prop := ((v111_2.toInt = 165 → w_jump_J123 Q U111 1 t111_0 v111_1 v111_3) ∧ (¬ v111_2.toInt = 165 → w_jump_J123 Q U111 0 t111_0 v111_1 v111_3))
def w_jump_J88 (Q : MS → Prop) (U88 : MS) (v88_1 : Int32) (v88_2 : Int32) (v88_3 : Int32) : Prop := (∃ Q9, w_got U88 (1 : Int32) Q9 ∧ ∀ r10 S11, Q9 r10 S11 → (∃ Q13, w_got S11 (1 : Int32) Q13 ∧ ∀ r14 S15, Q13 r14 S15 → (((lg_cmp r14 r10).toInt = 0 → w_jump_J111 Q S15 1 v88_1 v88_2 v88_3) ∧ (¬ (lg_cmp r14 r10).toInt = 0 → w_jump_J111 Q S15 0 v88_1 v88_2 v88_3))))
def w_jump_J178 (Q : MS → Prop) (U178 : MS) (t178_0 : Int32) (v178_1 : Int32) (v178_3 : Int32) : Prop := w_jump_J180 Q U178 v178_1 v178_3 t178_0
def w_jump_J170 (Q : MS → Prop) (U170 : MS) (t170_0 : Int32) (t170_1 : Int32) (v170_1 : Int32) (v170_3 : Int32) : Prop := ((t170_1.toInt = t170_0.toInt → w_jump_J178 Q U170 1 v170_1 v170_3) ∧ (¬ t170_1.toInt = t170_0.toInt → w_jump_J178 Q U170 0 v170_1 v170_3))
def w_jump_J158 (Q : MS → Prop) (U158 : MS) (t158_0 : Int32) (v158_1 : Int32) (v158_2 : Int32) (v158_3 : Int32) : Prop := ((v158_2.toInt = 198 → w_jump_J170 Q U158 1 t158_0 v158_1 v158_3) ∧ (¬ v158_2.toInt = 198 → w_jump_J170 Q U158 0 t158_0 v158_1 v158_3))
def w_jump_J74 (Q : MS → Prop) (U74 : MS) (v74_1 : Int32) (v74_2 : Int32) (v74_3 : Int32) (v74_4 : Int32) : Prop := ((v74_2.toInt = 165 → w_jump_J88 Q U74 v74_1 v74_2 v74_3) ∧ (¬ v74_2.toInt = 165 → ((v74_2.toInt = 166 → w_jump_J88 Q U74 v74_1 v74_2 v74_3) ∧ (¬ v74_2.toInt = 166 → ((v74_2.toInt = 167 → w_jump_J180 Q U74 v74_1 v74_3 v74_4) ∧ (¬ v74_2.toInt = 167 → (∃ Q24, w_got U74 (1 : Int32) Q24 ∧ ∀ r25 S26, Q24 r25 S26 → (((lg_cmp r25 0).toInt = 0 → w_jump_J158 Q S26 1 v74_1 v74_2 v74_3) ∧ (¬ (lg_cmp r25 0).toInt = 0 → w_jump_J158 Q S26 0 v74_1 v74_2 v74_3)))))))))
def w_jump_J42 (Q : MS → Prop) (U42 : MS) (v42_1 : Int32) (v42_2 : Int32) (v42_3 : Int32) (v42_4 : Int32) : Prop := ((v42_2.toInt < 153 → w_jump_J74 Q U42 v42_1 v42_2 v42_3 v42_4) ∧ (¬ v42_2.toInt < 153 → ((158 < v42_2.toInt → w_jump_J74 Q U42 v42_1 v42_2 v42_3 v42_4) ∧ (¬ 158 < v42_2.toInt → (∃ Q35, w_gotInt U42 Q35 ∧ ∀ r36 S37, Q35 r36 S37 → (d_isSo S37 (v42_2 - (153 : Int32)) r36 (0 : Int32) ∧ (∀ a42 : Int32, a42 = (f_isSo S37 (v42_2 - (153 : Int32)) r36 (0 : Int32)) → w_jump_J180 Q S37 v42_1 v42_3 a42)))))))
def w_jump (S : MS) (x1 : Int32) (x2 : Int32) (x3 : Int32) (Q : MS → Prop) : Prop := ((x2.toInt < 159 → w_jump_J42 Q S x1 x2 x3 1) ∧ (¬ x2.toInt < 159 → ((164 < x2.toInt → w_jump_J42 Q S x1 x2 x3 1) ∧ (¬ 164 < x2.toInt → (∃ Q45, w_gotInt S Q45 ∧ ∀ r46 S47, Q45 r46 S47 → (∃ Q50, w_gotInt S47 Q50 ∧ ∀ r51 S52, Q50 r51 S52 → (d_isSo S52 (x2 - (159 : Int32)) r51 r46 ∧ (∀ a57 : Int32, a57 = (f_isSo S52 (x2 - (159 : Int32)) r51 r46) → w_jump_J180 Q S52 x1 x3 a57))))))))
set_option maxHeartbeats 2000000 in
set_option maxRecDepth 100000 in
theorem r_jump (l : Launch) (g : Gr) (ad : Nat → Nat) (sz : Nat) (S : MS) (x1 : Int32) (x2 : Int32) (x3 : Int32) (hw : wfM S) (Q : MS → Prop) (h : w_jump S x1 x2 x3 Q) : Met l yX14_jump (wt2 yX14_jump cX14_jump 7 none) ({ frames := 2, cells := 0, slots := 0, locals := 42 }) (va_Pc [.ref (ad 0), .int x1, .int x2, .int x3] (st_R g ad sz S)) (va_Qv (fun (u : MS) => Q u ∧ wfM u ∧ shy S u) (fun (u : MS) (t : State) => qE g ad (va_A (Wd g ad S) sz) u t) (va_A (Wd g ad S) sz)) 0 0 (va_A (Wd g ad S) sz) := by
  refine Met.ofW (cc := cX14_jump) (maxL := 7) (ret := none) (by decide) rfl ?_
  intro p e s m args below meth c s₁ B hml hv
  obtain ⟨rfl, hsz, hP, hK, hD0, hex, hE⟩ := hv
  have hx := B.exec
  have hb := B.bytes
  have hr := B.returns
  have hts0 := atoms_spec (ws := wt2 yX14_jump cX14_jump 7 none) B.pre
  have hts : ∀ w ∈ tb2, w.before _ s = true := fun w h => hts0 w (List.mem_cons_of_mem _ h)
  have hown : s.vm.findClass RX14 = some m.cls := findClass_of_methodNamed B.named
  subst hsz
  have hD := hD0.self (sz := s.heap.size)
  generalize hAe : va_A (Wd g ad S) s.heap.size = A at hD hE ⊢
  have hA : ∀ q : Nat, s.heap.size ≤ q → A q := fun q h => by rw [← hAe]; exact Or.inr h
  have hR : Rep g ad A s S s.heap [] := ⟨hK, hP, hD, va_S.rf, hw⟩
  clear hK hP hD hD0
  have hl := lv_entry ([.ref (ad 0), .int x1, .int x2, .int x3]) (n := 7) (Nat.le_of_ble_eq_true rfl)
  rw [lg_entry_eq]
  generalize (lg_sl ([.ref (ad 0), .int x1, .int x2, .int x3]) ++ List.replicate (7 - (lg_sl ([.ref (ad 0), .int x1, .int x2, .int x3])).length) Slot.unset).toArray = ls at hl ⊢
  have hl : lv_has ls 7 [(0, .ref (ad 0)), (1, .int x1), (2, .int x2), (3, .int x3)] := hl
  have hsh : shy S S := shy.rf
  unfold w_jump at h
  refine lv_iconst (v := 1) hx hb dX14_jump_0 (by decide) ?_
  refine lv_istore (lv' := [(4, .int 1), (0, .ref (ad 0)), (1, .int x1), (2, .int x2), (3, .int x3)]) hx hb dX14_jump_1 hl (by decide) rfl (fun ls hl => ?_)
  refine lv_iload_n hx hb dX14_jump_3 rfl (lv_at hl 3 rfl) ?_
  refine lv_sipush (v := 159) hx hb dX14_jump_4 (by decide) ?_
  have J_180 : ∀ (U180 : MS) (v180_1 : Int32) (v180_3 : Int32) (v180_4 : Int32) (H : Heap) (locs : List Loc) (ls : Array Slot), w_jump_J180 Q U180 v180_1 v180_3 v180_4 → (v180_4 = 0 ∨ v180_4 = 1) → shy S U180 → Rep g ad A s U180 H locs → lv_has ls 7 [(0, .ref (ad 0)), (1, .int v180_1), (3, .int v180_3), (4, .int v180_4)] → W p l e (headSpec (wt2 yX14_jump cX14_jump 7 none) ({ frames := 2, cells := 0, slots := 0, locals := 42 })).room s m ([.ref (ad 0), .int x1, .int x2, .int x3] : List Value).toArray below meth c H locs 0 0 (MQ below (va_Qv (fun (u : MS) => Q u ∧ wfM u ∧ shy S u) (fun (u : MS) (t : State) => qE g ad A u t) A) ([.ref (ad 0), .int x1, .int x2, .int x3] : List Value).toArray s 0 0 A) (F0 m 180 ls []) := by
    intro U180 v180_1 v180_3 v180_4 H locs ls h hz_v180_4 hsh hR hl
    unfold w_jump_J180 at h
    refine lv_aload_n hx hb dX14_jump_180 rfl (lv_at hl 0 rfl) ?_
    refine lv_iload hx hb dX14_jump_181 (lv_at hl 3 rfl) ?_
    refine lv_if_eq (tgt := 190) hx hb dX14_jump_183 (by decide) (fun c1 => ?_) (fun c1 => ?_)
    · replace h := h.1 (k_eq rfl (by decide) c1)
      refine lv_iload_n hx hb dX14_jump_190 rfl (lv_at hl 1 rfl) ?_
      refine lv_iconst (v := 1) hx hb dX14_jump_191 (by decide) ?_
      refine lv_iadd hx hb dX14_jump_192 ?_
      refine lv_topi (fun z2 ez2 => ?_)
      obtain rfl : z2 = (v180_1 + (1 : Int32)) := ez2
      obtain ⟨Q3, h0, h⟩ := h
      have hFc := rfree hR hA
      refine va_callv (va_runV (As := [.int (v180_1 + (1 : Int32))]) (rest := []) ⟨hx, hb, hml, hown, hts⟩ (r_goTo l g ad H.size U180 (v180_1 + (1 : Int32)) hR.w  Q3 h0) (cwV 1 hts (gd2_V kx_644 kx_645 kx_646 kx_177 kx_647) rfl rfl rfl (by decide +kernel) ⟨Nat.le_of_ble_eq_true rfl, Nat.le_of_ble_eq_true rfl⟩) ⟨rblind, va_recv hR.K hR.P (ci := 13) (q0 := 0) rfl (hR.at14 hR.w.1), fun U hU hW9 => rmk hU hW9 hR hex hE hFc⟩ rfl rfl hl.1 rfl (lv_room (Nat.le_of_ble_eq_true rfl)) dX14_jump_193 ⟨Nat.le_of_ble_eq_true rfl, Nat.le_of_ble_eq_true rfl⟩) hR.sS (fun q _ h => hFc q h) hFc (fun  S4 t9 H1 locs ht9 hvm9 hw9 hB9 hz9 hk9 hS => ?_)
      obtain ⟨hq5, hw9, hs9⟩ := hw9
      have hR : Rep g ad A s S4 H1 locs := hR.call ht9 hB9 hw9 hS hFc
      have hsh := hsh.tr hs9
      replace h := h  S4 hq5
      clear hB9 hz9 hk9 hvm9 ht9 hw9 hs9 hS
      generalize H1 = H at hR ⊢
      exact W.vret hx hb hr (fun t9 ht9 hW9 => ⟨⟨S4, rfl, ⟨h, hR.w, hsh⟩, ⟨by rw [ht9]; exact hR.P, hR.D⟩⟩, hR.sS.F ht9⟩) hR.sS.2.2 dX14_jump_196
    · replace h := h.2 (k_ne rfl (by decide) c1)
      refine lv_iload_n hx hb dX14_jump_186 rfl (lv_at hl 2 rfl) ?_
      refine lv_goto (tgt := 193) hx hb dX14_jump_187 (by decide) ?_
      obtain ⟨Q6, h0, h⟩ := h
      have hFc := rfree hR hA
      refine va_callv (va_runV (As := [.int v180_3]) (rest := []) ⟨hx, hb, hml, hown, hts⟩ (r_goTo l g ad H.size U180 v180_3 hR.w  Q6 h0) (cwV 1 hts (gd2_V kx_644 kx_645 kx_646 kx_177 kx_647) rfl rfl rfl (by decide +kernel) ⟨Nat.le_of_ble_eq_true rfl, Nat.le_of_ble_eq_true rfl⟩) ⟨rblind, va_recv hR.K hR.P (ci := 13) (q0 := 0) rfl (hR.at14 hR.w.1), fun U hU hW9 => rmk hU hW9 hR hex hE hFc⟩ rfl rfl hl.1 rfl (lv_room (Nat.le_of_ble_eq_true rfl)) dX14_jump_193 ⟨Nat.le_of_ble_eq_true rfl, Nat.le_of_ble_eq_true rfl⟩) hR.sS (fun q _ h => hFc q h) hFc (fun  S7 t9 H1 locs ht9 hvm9 hw9 hB9 hz9 hk9 hS => ?_)
      obtain ⟨hq8, hw9, hs9⟩ := hw9
      have hR : Rep g ad A s S7 H1 locs := hR.call ht9 hB9 hw9 hS hFc
      have hsh := hsh.tr hs9
      replace h := h  S7 hq8
      clear hB9 hz9 hk9 hvm9 ht9 hw9 hs9 hS
      generalize H1 = H at hR ⊢
      exact W.vret hx hb hr (fun t9 ht9 hW9 => ⟨⟨S7, rfl, ⟨h, hR.w, hsh⟩, ⟨by rw [ht9]; exact hR.P, hR.D⟩⟩, hR.sS.F ht9⟩) hR.sS.2.2 dX14_jump_196
  have J_42 : ∀ (U42 : MS) (v42_1 : Int32) (v42_2 : Int32) (v42_3 : Int32) (v42_4 : Int32) (H : Heap) (locs : List Loc) (ls : Array Slot), w_jump_J42 Q U42 v42_1 v42_2 v42_3 v42_4 → (v42_4 = 0 ∨ v42_4 = 1) → shy S U42 → Rep g ad A s U42 H locs → lv_has ls 7 [(0, .ref (ad 0)), (1, .int v42_1), (2, .int v42_2), (3, .int v42_3), (4, .int v42_4)] → W p l e (headSpec (wt2 yX14_jump cX14_jump 7 none) ({ frames := 2, cells := 0, slots := 0, locals := 42 })).room s m ([.ref (ad 0), .int x1, .int x2, .int x3] : List Value).toArray below meth c H locs 0 0 (MQ below (va_Qv (fun (u : MS) => Q u ∧ wfM u ∧ shy S u) (fun (u : MS) (t : State) => qE g ad A u t) A) ([.ref (ad 0), .int x1, .int x2, .int x3] : List Value).toArray s 0 0 A) (F0 m 42 ls []) := by
    intro U42 v42_1 v42_2 v42_3 v42_4 H locs ls h hz_v42_4 hsh hR hl
    unfold w_jump_J42 at h
    refine lv_iload_n hx hb dX14_jump_42 rfl (lv_at hl 2 rfl) ?_
    refine lv_sipush (v := 153) hx hb dX14_jump_43 (by decide) ?_
    have J_74 : ∀ (U74 : MS) (v74_1 : Int32) (v74_2 : Int32) (v74_3 : Int32) (v74_4 : Int32) (H : Heap) (locs : List Loc) (ls : Array Slot), w_jump_J74 Q U74 v74_1 v74_2 v74_3 v74_4 → (v74_4 = 0 ∨ v74_4 = 1) → shy S U74 → Rep g ad A s U74 H locs → lv_has ls 7 [(0, .ref (ad 0)), (1, .int v74_1), (2, .int v74_2), (3, .int v74_3), (4, .int v74_4)] → W p l e (headSpec (wt2 yX14_jump cX14_jump 7 none) ({ frames := 2, cells := 0, slots := 0, locals := 42 })).room s m ([.ref (ad 0), .int x1, .int x2, .int x3] : List Value).toArray below meth c H locs 0 0 (MQ below (va_Qv (fun (u : MS) => Q u ∧ wfM u ∧ shy S u) (fun (u : MS) (t : State) => qE g ad A u t) A) ([.ref (ad 0), .int x1, .int x2, .int x3] : List Value).toArray s 0 0 A) (F0 m 74 ls []) := by
      intro U74 v74_1 v74_2 v74_3 v74_4 H locs ls h hz_v74_4 hsh hR hl
      unfold w_jump_J74 at h
      refine lv_iload_n hx hb dX14_jump_74 rfl (lv_at hl 2 rfl) ?_
      refine lv_sipush (v := 165) hx hb dX14_jump_75 (by decide) ?_
      have J_88 : ∀ (U88 : MS) (v88_1 : Int32) (v88_2 : Int32) (v88_3 : Int32) (H : Heap) (locs : List Loc) (ls : Array Slot), w_jump_J88 Q U88 v88_1 v88_2 v88_3 → shy S U88 → Rep g ad A s U88 H locs → lv_has ls 7 [(0, .ref (ad 0)), (1, .int v88_1), (2, .int v88_2), (3, .int v88_3)] → W p l e (headSpec (wt2 yX14_jump cX14_jump 7 none) ({ frames := 2, cells := 0, slots := 0, locals := 42 })).room s m ([.ref (ad 0), .int x1, .int x2, .int x3] : List Value).toArray below meth c H locs 0 0 (MQ below (va_Qv (fun (u : MS) => Q u ∧ wfM u ∧ shy S u) (fun (u : MS) (t : State) => qE g ad A u t) A) ([.ref (ad 0), .int x1, .int x2, .int x3] : List Value).toArray s 0 0 A) (F0 m 88 ls []) := by
        intro U88 v88_1 v88_2 v88_3 H locs ls h hsh hR hl
        unfold w_jump_J88 at h
        refine lv_aload_n hx hb dX14_jump_88 rfl (lv_at hl 0 rfl) ?_
        refine lv_iconst (v := 1) hx hb dX14_jump_89 (by decide) ?_
        obtain ⟨Q9, h0, h⟩ := h
        have hFc := rfree hR hA
        refine va_calll (va_runV (As := [.int 1]) (rest := []) ⟨hx, hb, hml, hown, hts⟩ (r_got l g ad H.size U88 (1 : Int32) hR.w  Q9 h0) (cwV 1 hts (gd2_V kx_635 kx_636 kx_637 kx_177 kx_638) rfl rfl rfl (by decide +kernel) ⟨Nat.le_of_ble_eq_true rfl, Nat.le_of_ble_eq_true rfl⟩) ⟨rblind, va_recv hR.K hR.P (ci := 13) (q0 := 0) rfl (hR.at14 hR.w.1), fun U hU hW9 => rmk hU hW9 hR hex hE hFc⟩ rfl rfl hl.1 rfl (lv_room (Nat.le_of_ble_eq_true rfl)) dX14_jump_90 ⟨Nat.le_of_ble_eq_true rfl, Nat.le_of_ble_eq_true rfl⟩) hR.sS (fun q _ h => hFc q h) hFc (fun r10 S11 t9 H1 locs ht9 hvm9 hw9 hB9 hz9 hk9 hS => ?_)
        obtain ⟨hq12, hw9, hs9⟩ := hw9
        have hR : Rep g ad A s S11 H1 locs := hR.call ht9 hB9 hw9 hS hFc
        have hsh := hsh.tr hs9
        replace h := h r10 S11 hq12
        clear hB9 hz9 hk9 hvm9 ht9 hw9 hs9 hS
        generalize H1 = H at hR ⊢
        refine lv_lstore (lv' := [(5, .long r10), (0, .ref (ad 0)), (1, .int v88_1), (2, .int v88_2), (3, .int v88_3)]) hx hb dX14_jump_93 hl (by decide) rfl (fun ls hl => ?_)
        refine lv_aload_n hx hb dX14_jump_95 rfl (lv_at hl 1 rfl) ?_
        refine lv_iconst (v := 1) hx hb dX14_jump_96 (by decide) ?_
        obtain ⟨Q13, h0, h⟩ := h
        have hFc := rfree hR hA
        refine va_calll (va_runV (As := [.int 1]) (rest := []) ⟨hx, hb, hml, hown, hts⟩ (r_got l g ad H.size S11 (1 : Int32) hR.w  Q13 h0) (cwV 1 hts (gd2_V kx_635 kx_636 kx_637 kx_177 kx_638) rfl rfl rfl (by decide +kernel) ⟨Nat.le_of_ble_eq_true rfl, Nat.le_of_ble_eq_true rfl⟩) ⟨rblind, va_recv hR.K hR.P (ci := 13) (q0 := 0) rfl (hR.at14 hR.w.1), fun U hU hW9 => rmk hU hW9 hR hex hE hFc⟩ rfl rfl hl.1 rfl (lv_room (Nat.le_of_ble_eq_true rfl)) dX14_jump_97 ⟨Nat.le_of_ble_eq_true rfl, Nat.le_of_ble_eq_true rfl⟩) hR.sS (fun q _ h => hFc q h) hFc (fun r14 S15 t9 H1 locs ht9 hvm9 hw9 hB9 hz9 hk9 hS => ?_)
        obtain ⟨hq16, hw9, hs9⟩ := hw9
        have hR : Rep g ad A s S15 H1 locs := hR.call ht9 hB9 hw9 hS hFc
        have hsh := hsh.tr hs9
        replace h := h r14 S15 hq16
        clear hB9 hz9 hk9 hvm9 ht9 hw9 hs9 hS
        generalize H1 = H at hR ⊢
        refine lv_lload hx hb dX14_jump_100 (lv_at hl 0 rfl) ?_
        refine W.lcmp hx hb dX14_jump_102 ?_
        refine lv_topi (fun z17 ez17 => ?_)
        obtain rfl : z17 = (lg_cmp r14 r10) := ez17
        have J_111 : ∀ (U111 : MS) (t111_0 : Int32) (v111_1 : Int32) (v111_2 : Int32) (v111_3 : Int32) (H : Heap) (locs : List Loc) (ls : Array Slot), w_jump_J111 Q U111 t111_0 v111_1 v111_2 v111_3 → (t111_0 = 0 ∨ t111_0 = 1) → shy S U111 → Rep g ad A s U111 H locs → lv_has ls 7 [(0, .ref (ad 0)), (1, .int v111_1), (2, .int v111_2), (3, .int v111_3)] → W p l e (headSpec (wt2 yX14_jump cX14_jump 7 none) ({ frames := 2, cells := 0, slots := 0, locals := 42 })).room s m ([.ref (ad 0), .int x1, .int x2, .int x3] : List Value).toArray below meth c H locs 0 0 (MQ below (va_Qv (fun (u : MS) => Q u ∧ wfM u ∧ shy S u) (fun (u : MS) (t : State) => qE g ad A u t) A) ([.ref (ad 0), .int x1, .int x2, .int x3] : List Value).toArray s 0 0 A) (F0 m 111 ls [.int t111_0]) := by
          intro U111 t111_0 v111_1 v111_2 v111_3 H locs ls h hz_t111_0 hsh hR hl
          unfold w_jump_J111 at h
          refine lv_iload_n hx hb dX14_jump_111 rfl (lv_at hl 2 rfl) ?_
          refine lv_sipush (v := 165) hx hb dX14_jump_112 (by decide) ?_
          have J_123 : ∀ (U123 : MS) (t123_0 : Int32) (t123_1 : Int32) (v123_1 : Int32) (v123_3 : Int32) (H : Heap) (locs : List Loc) (ls : Array Slot), w_jump_J123 Q U123 t123_0 t123_1 v123_1 v123_3 → (t123_0 = 0 ∨ t123_0 = 1) → shy S U123 → Rep g ad A s U123 H locs → lv_has ls 7 [(0, .ref (ad 0)), (1, .int v123_1), (3, .int v123_3)] → W p l e (headSpec (wt2 yX14_jump cX14_jump 7 none) ({ frames := 2, cells := 0, slots := 0, locals := 42 })).room s m ([.ref (ad 0), .int x1, .int x2, .int x3] : List Value).toArray below meth c H locs 0 0 (MQ below (va_Qv (fun (u : MS) => Q u ∧ wfM u ∧ shy S u) (fun (u : MS) (t : State) => qE g ad A u t) A) ([.ref (ad 0), .int x1, .int x2, .int x3] : List Value).toArray s 0 0 A) (F0 m 123 ls [.int t123_0, .int t123_1]) := by
            intro U123 t123_0 t123_1 v123_1 v123_3 H locs ls h hz_t123_0 hsh hR hl
            unfold w_jump_J123 at h
            have J_131 : ∀ (U131 : MS) (t131_0 : Int32) (v131_1 : Int32) (v131_3 : Int32) (H : Heap) (locs : List Loc) (ls : Array Slot), w_jump_J131 Q U131 t131_0 v131_1 v131_3 → (t131_0 = 0 ∨ t131_0 = 1) → shy S U131 → Rep g ad A s U131 H locs → lv_has ls 7 [(0, .ref (ad 0)), (1, .int v131_1), (3, .int v131_3)] → W p l e (headSpec (wt2 yX14_jump cX14_jump 7 none) ({ frames := 2, cells := 0, slots := 0, locals := 42 })).room s m ([.ref (ad 0), .int x1, .int x2, .int x3] : List Value).toArray below meth c H locs 0 0 (MQ below (va_Qv (fun (u : MS) => Q u ∧ wfM u ∧ shy S u) (fun (u : MS) (t : State) => qE g ad A u t) A) ([.ref (ad 0), .int x1, .int x2, .int x3] : List Value).toArray s 0 0 A) (F0 m 131 ls [.int t131_0]) := by
              intro U131 t131_0 v131_1 v131_3 H locs ls h hz_t131_0 hsh hR hl
              unfold w_jump_J131 at h
              refine lv_istore (lv' := [(4, .int t131_0), (0, .ref (ad 0)), (1, .int v131_1), (3, .int v131_3)]) hx hb dX14_jump_131 hl (by decide) rfl (fun ls hl => ?_)
              refine lv_goto (tgt := 180) hx hb dX14_jump_133 (by decide) ?_
              exact J_180 U131 v131_1 v131_3 t131_0 _ _ ls h hz_t131_0 hsh hR (lv_sub hl [1, 2, 3, 0] rfl)
            refine lv_icmp_ne (tgt := 130) hx hb dX14_jump_123 (by decide) (fun c18 => ?_) (fun c18 => ?_)
            · replace h := h.2 (k_ne rfl rfl c18)
              refine lv_iconst (v := 0) hx hb dX14_jump_130 (by decide) ?_
              exact J_131 U123 0 v123_1 v123_3 _ _ ls h (Or.inl rfl) hsh hR (lv_sub hl [0, 1, 2] rfl)
            · replace h := h.1 (k_eq rfl rfl c18)
              refine lv_iconst (v := 1) hx hb dX14_jump_126 (by decide) ?_
              refine lv_goto (tgt := 131) hx hb dX14_jump_127 (by decide) ?_
              exact J_131 U123 1 v123_1 v123_3 _ _ ls h (Or.inr rfl) hsh hR (lv_sub hl [0, 1, 2] rfl)
          refine lv_icmp_ne (tgt := 122) hx hb dX14_jump_115 (by decide) (fun c19 => ?_) (fun c19 => ?_)
          · replace h := h.2 (k_ne rfl (by decide) c19)
            refine lv_iconst (v := 0) hx hb dX14_jump_122 (by decide) ?_
            exact J_123 U111 0 t111_0 v111_1 v111_3 _ _ ls h (Or.inl rfl) hsh hR (lv_sub hl [0, 1, 3] rfl)
          · replace h := h.1 (k_eq rfl (by decide) c19)
            refine lv_iconst (v := 1) hx hb dX14_jump_118 (by decide) ?_
            refine lv_goto (tgt := 123) hx hb dX14_jump_119 (by decide) ?_
            exact J_123 U111 1 t111_0 v111_1 v111_3 _ _ ls h (Or.inr rfl) hsh hR (lv_sub hl [0, 1, 3] rfl)
        refine lv_if_ne (tgt := 110) hx hb dX14_jump_103 (by decide) (fun c20 => ?_) (fun c20 => ?_)
        · replace h := h.2 (k_ne rfl (by decide) c20)
          refine lv_iconst (v := 0) hx hb dX14_jump_110 (by decide) ?_
          exact J_111 S15 0 v88_1 v88_2 v88_3 _ _ ls h (Or.inl rfl) hsh hR (lv_sub hl [1, 2, 3, 4] rfl)
        · replace h := h.1 (k_eq rfl (by decide) c20)
          refine lv_iconst (v := 1) hx hb dX14_jump_106 (by decide) ?_
          refine lv_goto (tgt := 111) hx hb dX14_jump_107 (by decide) ?_
          exact J_111 S15 1 v88_1 v88_2 v88_3 _ _ ls h (Or.inr rfl) hsh hR (lv_sub hl [1, 2, 3, 4] rfl)
      refine lv_icmp_eq (tgt := 88) hx hb dX14_jump_78 (by decide) (fun c21 => ?_) (fun c21 => ?_)
      · replace h := h.1 (k_eq rfl (by decide) c21)
        exact J_88 U74 v74_1 v74_2 v74_3 _ _ ls h  hsh hR (lv_sub hl [0, 1, 2, 3] rfl)
      · replace h := h.2 (k_ne rfl (by decide) c21)
        refine lv_iload_n hx hb dX14_jump_81 rfl (lv_at hl 2 rfl) ?_
        refine lv_sipush (v := 166) hx hb dX14_jump_82 (by decide) ?_
        refine lv_icmp_ne (tgt := 136) hx hb dX14_jump_85 (by decide) (fun c22 => ?_) (fun c22 => ?_)
        · replace h := h.2 (k_ne rfl (by decide) c22)
          refine lv_iload_n hx hb dX14_jump_136 rfl (lv_at hl 2 rfl) ?_
          refine lv_sipush (v := 167) hx hb dX14_jump_137 (by decide) ?_
          refine lv_icmp_eq (tgt := 180) hx hb dX14_jump_140 (by decide) (fun c23 => ?_) (fun c23 => ?_)
          · replace h := h.1 (k_eq rfl (by decide) c23)
            exact J_180 U74 v74_1 v74_3 v74_4 _ _ ls h hz_v74_4 hsh hR (lv_sub hl [0, 1, 3, 4] rfl)
          · replace h := h.2 (k_ne rfl (by decide) c23)
            refine lv_aload_n hx hb dX14_jump_143 rfl (lv_at hl 0 rfl) ?_
            refine lv_iconst (v := 1) hx hb dX14_jump_144 (by decide) ?_
            obtain ⟨Q24, h0, h⟩ := h
            have hFc := rfree hR hA
            refine va_calll (va_runV (As := [.int 1]) (rest := []) ⟨hx, hb, hml, hown, hts⟩ (r_got l g ad H.size U74 (1 : Int32) hR.w  Q24 h0) (cwV 1 hts (gd2_V kx_635 kx_636 kx_637 kx_177 kx_638) rfl rfl rfl (by decide +kernel) ⟨Nat.le_of_ble_eq_true rfl, Nat.le_of_ble_eq_true rfl⟩) ⟨rblind, va_recv hR.K hR.P (ci := 13) (q0 := 0) rfl (hR.at14 hR.w.1), fun U hU hW9 => rmk hU hW9 hR hex hE hFc⟩ rfl rfl hl.1 rfl (lv_room (Nat.le_of_ble_eq_true rfl)) dX14_jump_145 ⟨Nat.le_of_ble_eq_true rfl, Nat.le_of_ble_eq_true rfl⟩) hR.sS (fun q _ h => hFc q h) hFc (fun r25 S26 t9 H1 locs ht9 hvm9 hw9 hB9 hz9 hk9 hS => ?_)
            obtain ⟨hq27, hw9, hs9⟩ := hw9
            have hR : Rep g ad A s S26 H1 locs := hR.call ht9 hB9 hw9 hS hFc
            have hsh := hsh.tr hs9
            replace h := h r25 S26 hq27
            clear hB9 hz9 hk9 hvm9 ht9 hw9 hs9 hS
            generalize H1 = H at hR ⊢
            refine lv_lconst (v := 0) hx hb dX14_jump_148 (by decide) ?_
            refine W.lcmp hx hb dX14_jump_149 ?_
            refine lv_topi (fun z28 ez28 => ?_)
            obtain rfl : z28 = (lg_cmp r25 0) := ez28
            have J_158 : ∀ (U158 : MS) (t158_0 : Int32) (v158_1 : Int32) (v158_2 : Int32) (v158_3 : Int32) (H : Heap) (locs : List Loc) (ls : Array Slot), w_jump_J158 Q U158 t158_0 v158_1 v158_2 v158_3 → (t158_0 = 0 ∨ t158_0 = 1) → shy S U158 → Rep g ad A s U158 H locs → lv_has ls 7 [(0, .ref (ad 0)), (1, .int v158_1), (2, .int v158_2), (3, .int v158_3)] → W p l e (headSpec (wt2 yX14_jump cX14_jump 7 none) ({ frames := 2, cells := 0, slots := 0, locals := 42 })).room s m ([.ref (ad 0), .int x1, .int x2, .int x3] : List Value).toArray below meth c H locs 0 0 (MQ below (va_Qv (fun (u : MS) => Q u ∧ wfM u ∧ shy S u) (fun (u : MS) (t : State) => qE g ad A u t) A) ([.ref (ad 0), .int x1, .int x2, .int x3] : List Value).toArray s 0 0 A) (F0 m 158 ls [.int t158_0]) := by
              intro U158 t158_0 v158_1 v158_2 v158_3 H locs ls h hz_t158_0 hsh hR hl
              unfold w_jump_J158 at h
              refine lv_iload_n hx hb dX14_jump_158 rfl (lv_at hl 2 rfl) ?_
              refine lv_sipush (v := 198) hx hb dX14_jump_159 (by decide) ?_
              have J_170 : ∀ (U170 : MS) (t170_0 : Int32) (t170_1 : Int32) (v170_1 : Int32) (v170_3 : Int32) (H : Heap) (locs : List Loc) (ls : Array Slot), w_jump_J170 Q U170 t170_0 t170_1 v170_1 v170_3 → (t170_0 = 0 ∨ t170_0 = 1) → shy S U170 → Rep g ad A s U170 H locs → lv_has ls 7 [(0, .ref (ad 0)), (1, .int v170_1), (3, .int v170_3)] → W p l e (headSpec (wt2 yX14_jump cX14_jump 7 none) ({ frames := 2, cells := 0, slots := 0, locals := 42 })).room s m ([.ref (ad 0), .int x1, .int x2, .int x3] : List Value).toArray below meth c H locs 0 0 (MQ below (va_Qv (fun (u : MS) => Q u ∧ wfM u ∧ shy S u) (fun (u : MS) (t : State) => qE g ad A u t) A) ([.ref (ad 0), .int x1, .int x2, .int x3] : List Value).toArray s 0 0 A) (F0 m 170 ls [.int t170_0, .int t170_1]) := by
                intro U170 t170_0 t170_1 v170_1 v170_3 H locs ls h hz_t170_0 hsh hR hl
                unfold w_jump_J170 at h
                have J_178 : ∀ (U178 : MS) (t178_0 : Int32) (v178_1 : Int32) (v178_3 : Int32) (H : Heap) (locs : List Loc) (ls : Array Slot), w_jump_J178 Q U178 t178_0 v178_1 v178_3 → (t178_0 = 0 ∨ t178_0 = 1) → shy S U178 → Rep g ad A s U178 H locs → lv_has ls 7 [(0, .ref (ad 0)), (1, .int v178_1), (3, .int v178_3)] → W p l e (headSpec (wt2 yX14_jump cX14_jump 7 none) ({ frames := 2, cells := 0, slots := 0, locals := 42 })).room s m ([.ref (ad 0), .int x1, .int x2, .int x3] : List Value).toArray below meth c H locs 0 0 (MQ below (va_Qv (fun (u : MS) => Q u ∧ wfM u ∧ shy S u) (fun (u : MS) (t : State) => qE g ad A u t) A) ([.ref (ad 0), .int x1, .int x2, .int x3] : List Value).toArray s 0 0 A) (F0 m 178 ls [.int t178_0]) := by
                  intro U178 t178_0 v178_1 v178_3 H locs ls h hz_t178_0 hsh hR hl
                  unfold w_jump_J178 at h
                  refine lv_istore (lv' := [(4, .int t178_0), (0, .ref (ad 0)), (1, .int v178_1), (3, .int v178_3)]) hx hb dX14_jump_178 hl (by decide) rfl (fun ls hl => ?_)
                  exact J_180 U178 v178_1 v178_3 t178_0 _ _ ls h hz_t178_0 hsh hR (lv_sub hl [1, 2, 3, 0] rfl)
                refine lv_icmp_ne (tgt := 177) hx hb dX14_jump_170 (by decide) (fun c29 => ?_) (fun c29 => ?_)
                · replace h := h.2 (k_ne rfl rfl c29)
                  refine lv_iconst (v := 0) hx hb dX14_jump_177 (by decide) ?_
                  exact J_178 U170 0 v170_1 v170_3 _ _ ls h (Or.inl rfl) hsh hR (lv_sub hl [0, 1, 2] rfl)
                · replace h := h.1 (k_eq rfl rfl c29)
                  refine lv_iconst (v := 1) hx hb dX14_jump_173 (by decide) ?_
                  refine lv_goto (tgt := 178) hx hb dX14_jump_174 (by decide) ?_
                  exact J_178 U170 1 v170_1 v170_3 _ _ ls h (Or.inr rfl) hsh hR (lv_sub hl [0, 1, 2] rfl)
              refine lv_icmp_ne (tgt := 169) hx hb dX14_jump_162 (by decide) (fun c30 => ?_) (fun c30 => ?_)
              · replace h := h.2 (k_ne rfl (by decide) c30)
                refine lv_iconst (v := 0) hx hb dX14_jump_169 (by decide) ?_
                exact J_170 U158 0 t158_0 v158_1 v158_3 _ _ ls h (Or.inl rfl) hsh hR (lv_sub hl [0, 1, 3] rfl)
              · replace h := h.1 (k_eq rfl (by decide) c30)
                refine lv_iconst (v := 1) hx hb dX14_jump_165 (by decide) ?_
                refine lv_goto (tgt := 170) hx hb dX14_jump_166 (by decide) ?_
                exact J_170 U158 1 t158_0 v158_1 v158_3 _ _ ls h (Or.inr rfl) hsh hR (lv_sub hl [0, 1, 3] rfl)
            refine lv_if_ne (tgt := 157) hx hb dX14_jump_150 (by decide) (fun c31 => ?_) (fun c31 => ?_)
            · replace h := h.2 (k_ne rfl (by decide) c31)
              refine lv_iconst (v := 0) hx hb dX14_jump_157 (by decide) ?_
              exact J_158 S26 0 v74_1 v74_2 v74_3 _ _ ls h (Or.inl rfl) hsh hR (lv_sub hl [0, 1, 2, 3] rfl)
            · replace h := h.1 (k_eq rfl (by decide) c31)
              refine lv_iconst (v := 1) hx hb dX14_jump_153 (by decide) ?_
              refine lv_goto (tgt := 158) hx hb dX14_jump_154 (by decide) ?_
              exact J_158 S26 1 v74_1 v74_2 v74_3 _ _ ls h (Or.inr rfl) hsh hR (lv_sub hl [0, 1, 2, 3] rfl)
        · replace h := h.1 (k_eq rfl (by decide) c22)
          exact J_88 U74 v74_1 v74_2 v74_3 _ _ ls h  hsh hR (lv_sub hl [0, 1, 2, 3] rfl)
    refine lv_icmp_lt (tgt := 74) hx hb dX14_jump_46 (by decide) (fun c32 => ?_) (fun c32 => ?_)
    · replace h := h.1 (k_lt rfl (by decide) c32)
      exact J_74 U42 v42_1 v42_2 v42_3 v42_4 _ _ ls h hz_v42_4 hsh hR (lv_sub hl [0, 1, 2, 3, 4] rfl)
    · replace h := h.2 (k_nlt rfl (by decide) c32)
      refine lv_iload_n hx hb dX14_jump_49 rfl (lv_at hl 2 rfl) ?_
      refine lv_sipush (v := 158) hx hb dX14_jump_50 (by decide) ?_
      refine lv_icmp_gt (tgt := 74) hx hb dX14_jump_53 (by decide) (fun c33 => ?_) (fun c33 => ?_)
      · replace h := h.1 (k_lt (by decide) rfl c33)
        exact J_74 U42 v42_1 v42_2 v42_3 v42_4 _ _ ls h hz_v42_4 hsh hR (lv_sub hl [0, 1, 2, 3, 4] rfl)
      · replace h := h.2 (k_nlt (by decide) rfl c33)
        refine lv_iload_n hx hb dX14_jump_56 rfl (lv_at hl 2 rfl) ?_
        refine lv_sipush (v := 153) hx hb dX14_jump_57 (by decide) ?_
        refine lv_isub hx hb dX14_jump_60 ?_
        refine lv_topi (fun z34 ez34 => ?_)
        obtain rfl : z34 = (v42_2 - (153 : Int32)) := ez34
        refine lv_aload_n hx hb dX14_jump_61 rfl (lv_at hl 0 rfl) ?_
        obtain ⟨Q35, h0, h⟩ := h
        have hFc := rfree hR hA
        refine va_calli (va_runV (As := []) (rest := [.int (v42_2 - (153 : Int32))]) ⟨hx, hb, hml, hown, hts⟩ (r_gotInt l g ad H.size U42 hR.w  Q35 h0) (cwV 0 hts (gd2_V kx_648 kx_649 kx_650 kx_177 kx_651) rfl rfl rfl (by decide +kernel) ⟨Nat.le_of_ble_eq_true rfl, Nat.le_of_ble_eq_true rfl⟩) ⟨rblind, va_recv hR.K hR.P (ci := 13) (q0 := 0) rfl (hR.at14 hR.w.1), fun U hU hW9 => rmk hU hW9 hR hex hE hFc⟩ rfl rfl hl.1 rfl (lv_room (Nat.le_of_ble_eq_true rfl)) dX14_jump_62 ⟨Nat.le_of_ble_eq_true rfl, Nat.le_of_ble_eq_true rfl⟩) hR.sS (fun q _ h => hFc q h) hFc (fun r36 S37 t9 H1 locs ht9 hvm9 hw9 hB9 hz9 hk9 hS => ?_)
        obtain ⟨hq38, hw9, hs9⟩ := hw9
        have hR : Rep g ad A s S37 H1 locs := hR.call ht9 hB9 hw9 hS hFc
        have hsh := hsh.tr hs9
        replace h := h r36 S37 hq38
        clear hB9 hz9 hk9 hvm9 ht9 hw9 hs9 hS
        generalize H1 = H at hR ⊢
        refine lv_iconst (v := 0) hx hb dX14_jump_65 (by decide) ?_
        obtain ⟨hv39, h⟩ := h
        have hFc := rfree hR hA
        refine va_calli (va_runS (As := [.int (v42_2 - (153 : Int32)), .int r36, .int 0]) (rest := []) ⟨hx, hb, hml, hown, hts⟩ (r_isSo l g ad H.size S37 (v42_2 - (153 : Int32)) r36 (0 : Int32) hR.w  hv39) (va_cwS 3 hts (gd2_S kx_778 kx_779 kx_177 kx_780) rfl rfl rfl (by decide +kernel) ⟨Nat.le_of_ble_eq_true rfl, Nat.le_of_ble_eq_true rfl⟩) ⟨rblind, fun U hU hW9 => rmk hU hW9 hR hex hE hFc⟩ rfl rfl hl.1 rfl (lv_room (Nat.le_of_ble_eq_true rfl)) dX14_jump_66 ⟨Nat.le_of_ble_eq_true rfl, Nat.le_of_ble_eq_true rfl⟩) hR.sS (fun q _ h => hFc q h) hFc (fun r40 u9 t9 H1 locs ht9 hvm9 hw9 hB9 hz9 hk9 hS => ?_)
        have hR : Rep g ad A s S37 H1 locs := hR.call ht9 hB9 hR.w hS hFc
        obtain ⟨rfl, hz_r40⟩ := hw9
        clear hB9 hz9 hk9 hvm9 ht9 hS
        generalize H1 = H at hR ⊢
        obtain ⟨a42, ea42⟩ : ∃ z, z = (f_isSo S37 (v42_2 - (153 : Int32)) r36 (0 : Int32)) := ⟨_, rfl⟩
        rw [← ea42]
        replace h := h a42 ea42
        have hz_a42 : a42 = 0 ∨ a42 = 1 := by rw [ea42]; exact hz_r40
        refine lv_istore (lv' := [(4, .int a42), (0, .ref (ad 0)), (1, .int v42_1), (2, .int v42_2), (3, .int v42_3)]) hx hb dX14_jump_69 hl (by decide) rfl (fun ls hl => ?_)
        refine lv_goto (tgt := 180) hx hb dX14_jump_71 (by decide) ?_
        exact J_180 S37 v42_1 v42_3 a42 _ _ ls h hz_a42 hsh hR (lv_sub hl [1, 2, 4, 0] rfl)
  refine lv_icmp_lt (tgt := 42) hx hb dX14_jump_7 (by decide) (fun c43 => ?_) (fun c43 => ?_)
  · replace h := h.1 (k_lt rfl (by decide) c43)
    exact J_42 S x1 x2 x3 1 _ _ ls h (Or.inr rfl) hsh hR (lv_sub hl [1, 2, 3, 4, 0] rfl)
  · replace h := h.2 (k_nlt rfl (by decide) c43)
    refine lv_iload_n hx hb dX14_jump_10 rfl (lv_at hl 3 rfl) ?_
    refine lv_sipush (v := 164) hx hb dX14_jump_11 (by decide) ?_
    refine lv_icmp_gt (tgt := 42) hx hb dX14_jump_14 (by decide) (fun c44 => ?_) (fun c44 => ?_)
    · replace h := h.1 (k_lt (by decide) rfl c44)
      exact J_42 S x1 x2 x3 1 _ _ ls h (Or.inr rfl) hsh hR (lv_sub hl [1, 2, 3, 4, 0] rfl)
    · replace h := h.2 (k_nlt (by decide) rfl c44)
      refine lv_aload_n hx hb dX14_jump_17 rfl (lv_at hl 1 rfl) ?_
      obtain ⟨Q45, h0, h⟩ := h
      have hFc := rfree hR hA
      refine va_calli (va_runV (As := []) (rest := []) ⟨hx, hb, hml, hown, hts⟩ (r_gotInt l g ad s.heap.size S hR.w  Q45 h0) (cwV 0 hts (gd2_V kx_648 kx_649 kx_650 kx_177 kx_651) rfl rfl rfl (by decide +kernel) ⟨Nat.le_of_ble_eq_true rfl, Nat.le_of_ble_eq_true rfl⟩) ⟨rblind, va_recv hR.K hR.P (ci := 13) (q0 := 0) rfl (hR.at14 hR.w.1), fun U hU hW9 => rmk hU hW9 hR hex hE hFc⟩ rfl rfl hl.1 rfl (lv_room (Nat.le_of_ble_eq_true rfl)) dX14_jump_18 ⟨Nat.le_of_ble_eq_true rfl, Nat.le_of_ble_eq_true rfl⟩) hR.sS (fun q _ h => hFc q h) hFc (fun r46 S47 t9 H1 locs ht9 hvm9 hw9 hB9 hz9 hk9 hS => ?_)
      obtain ⟨hq48, hw9, hs9⟩ := hw9
      have hR : Rep g ad A s S47 H1 locs := hR.call ht9 hB9 hw9 hS hFc
      have hsh := hsh.tr hs9
      replace h := h r46 S47 hq48
      clear hB9 hz9 hk9 hvm9 ht9 hw9 hs9 hS
      generalize H1 = H at hR ⊢
      refine lv_istore (lv' := [(5, .int r46), (4, .int 1), (0, .ref (ad 0)), (1, .int x1), (2, .int x2), (3, .int x3)]) hx hb dX14_jump_21 hl (by decide) rfl (fun ls hl => ?_)
      refine lv_iload_n hx hb dX14_jump_23 rfl (lv_at hl 4 rfl) ?_
      refine lv_sipush (v := 159) hx hb dX14_jump_24 (by decide) ?_
      refine lv_isub hx hb dX14_jump_27 ?_
      refine lv_topi (fun z49 ez49 => ?_)
      obtain rfl : z49 = (x2 - (159 : Int32)) := ez49
      refine lv_aload_n hx hb dX14_jump_28 rfl (lv_at hl 2 rfl) ?_
      obtain ⟨Q50, h0, h⟩ := h
      have hFc := rfree hR hA
      refine va_calli (va_runV (As := []) (rest := [.int (x2 - (159 : Int32))]) ⟨hx, hb, hml, hown, hts⟩ (r_gotInt l g ad H.size S47 hR.w  Q50 h0) (cwV 0 hts (gd2_V kx_648 kx_649 kx_650 kx_177 kx_651) rfl rfl rfl (by decide +kernel) ⟨Nat.le_of_ble_eq_true rfl, Nat.le_of_ble_eq_true rfl⟩) ⟨rblind, va_recv hR.K hR.P (ci := 13) (q0 := 0) rfl (hR.at14 hR.w.1), fun U hU hW9 => rmk hU hW9 hR hex hE hFc⟩ rfl rfl hl.1 rfl (lv_room (Nat.le_of_ble_eq_true rfl)) dX14_jump_29 ⟨Nat.le_of_ble_eq_true rfl, Nat.le_of_ble_eq_true rfl⟩) hR.sS (fun q _ h => hFc q h) hFc (fun r51 S52 t9 H1 locs ht9 hvm9 hw9 hB9 hz9 hk9 hS => ?_)
      obtain ⟨hq53, hw9, hs9⟩ := hw9
      have hR : Rep g ad A s S52 H1 locs := hR.call ht9 hB9 hw9 hS hFc
      have hsh := hsh.tr hs9
      replace h := h r51 S52 hq53
      clear hB9 hz9 hk9 hvm9 ht9 hw9 hs9 hS
      generalize H1 = H at hR ⊢
      refine lv_iload hx hb dX14_jump_32 (lv_at hl 0 rfl) ?_
      obtain ⟨hv54, h⟩ := h
      have hFc := rfree hR hA
      refine va_calli (va_runS (As := [.int (x2 - (159 : Int32)), .int r51, .int r46]) (rest := []) ⟨hx, hb, hml, hown, hts⟩ (r_isSo l g ad H.size S52 (x2 - (159 : Int32)) r51 r46 hR.w  hv54) (va_cwS 3 hts (gd2_S kx_778 kx_779 kx_177 kx_780) rfl rfl rfl (by decide +kernel) ⟨Nat.le_of_ble_eq_true rfl, Nat.le_of_ble_eq_true rfl⟩) ⟨rblind, fun U hU hW9 => rmk hU hW9 hR hex hE hFc⟩ rfl rfl hl.1 rfl (lv_room (Nat.le_of_ble_eq_true rfl)) dX14_jump_34 ⟨Nat.le_of_ble_eq_true rfl, Nat.le_of_ble_eq_true rfl⟩) hR.sS (fun q _ h => hFc q h) hFc (fun r55 u9 t9 H1 locs ht9 hvm9 hw9 hB9 hz9 hk9 hS => ?_)
      have hR : Rep g ad A s S52 H1 locs := hR.call ht9 hB9 hR.w hS hFc
      obtain ⟨rfl, hz_r55⟩ := hw9
      clear hB9 hz9 hk9 hvm9 ht9 hS
      generalize H1 = H at hR ⊢
      obtain ⟨a57, ea57⟩ : ∃ z, z = (f_isSo S52 (x2 - (159 : Int32)) r51 r46) := ⟨_, rfl⟩
      rw [← ea57]
      replace h := h a57 ea57
      have hz_a57 : a57 = 0 ∨ a57 = 1 := by rw [ea57]; exact hz_r55
      refine lv_istore (lv' := [(4, .int a57), (5, .int r46), (0, .ref (ad 0)), (1, .int x1), (2, .int x2), (3, .int x3)]) hx hb dX14_jump_37 hl (by decide) rfl (fun ls hl => ?_)
      refine lv_goto (tgt := 180) hx hb dX14_jump_39 (by decide) ?_
      exact J_180 S52 x1 x3 a57 _ _ ls h hz_a57 hsh hR (lv_sub hl [2, 3, 5, 0] rfl)
def w_workOne_J32 (Q : Int32 → MS → Prop) (U32 : MS) (v32_2 : Int32) : Prop := ((v32_2.toInt = 0 → (∃ Q2, w_gotInt U32 Q2 ∧ ∀ r3 S4, Q2 r3 S4 → (∃ Q7, w_putInt S4 (-r3) Q7 ∧ ∀ S8, Q7 S8 → Q (1 : Int32) S8))) ∧ (¬ v32_2.toInt = 0 → (∃ Q10, w_got U32 (2 : Int32) Q10 ∧ ∀ r11 S12, Q10 r11 S12 → (∃ Q15, w_put S12 (-r11) (2 : Int32) Q15 ∧ ∀ S16, Q15 S16 → Q (1 : Int32) S16))))
def w_workOne_J171 (Q : Int32 → MS → Prop) (U171 : MS) (v171_1 : Int32) (v171_2 : Int32) (v171_3 : Int64) (v171_5 : Int64) : Prop := ((v171_2.toInt = 0 → (d_intWork U171 v171_1 (v171_5.toInt32) (v171_3.toInt32) ∧ (∃ Q29, w_putInt U171 (f_intWork U171 v171_1 (v171_5.toInt32) (v171_3.toInt32)) Q29 ∧ ∀ S30, Q29 S30 → Q (1 : Int32) S30))) ∧ (¬ v171_2.toInt = 0 → (d_longWork U171 v171_1 v171_5 v171_3 ∧ (∃ Q35, w_put U171 (f_longWork U171 v171_1 v171_5 v171_3) (2 : Int32) Q35 ∧ ∀ S36, Q35 S36 → Q (1 : Int32) S36))))
def w_workOne_J105 (Q : Int32 → MS → Prop) (U105 : MS) (t105_0 : Int32) (v105_1 : Int32) (v105_2 : Int32) (v105_3 : Int64) : Prop := (∃ Q20, w_got U105 t105_0 Q20 ∧ ∀ r21 S22, Q20 r21 S22 → ((v105_1.toInt = 148 → ((0 ≤ (lg_cmp r21 v105_3).toInt → (((lg_cmp r21 v105_3).toInt ≤ 0 → (∃ Q49, w_putInt S22 (0 : Int32) Q49 ∧ ∀ S50, Q49 S50 → Q (1 : Int32) S50)) ∧ (¬ (lg_cmp r21 v105_3).toInt ≤ 0 → (∃ Q52, w_putInt S22 (1 : Int32) Q52 ∧ ∀ S53, Q52 S53 → Q (1 : Int32) S53)))) ∧ (¬ 0 ≤ (lg_cmp r21 v105_3).toInt → (∃ Q55, w_putInt S22 (-1 : Int32) Q55 ∧ ∀ S56, Q55 S56 → Q (1 : Int32) S56)))) ∧ (¬ v105_1.toInt = 148 → ((v105_1.toInt < 108 → w_workOne_J171 Q S22 v105_1 v105_2 v105_3 r21) ∧ (¬ v105_1.toInt < 108 → ((113 < v105_1.toInt → w_workOne_J171 Q S22 v105_1 v105_2 v105_3 r21) ∧ (¬ 113 < v105_1.toInt → (((lg_cmp v105_3 0).toInt = 0 → (∃ Q42, w_throwError S22 (0 : Int32) Q42 ∧ ∀ S43, Q42 S43 → Q (0 : Int32) S43)) ∧ (¬ (lg_cmp v105_3 0).toInt = 0 → w_workOne_J171 Q S22 v105_1 v105_2 v105_3 r21)))))))))
def w_workOne_J94 (Q : Int32 → MS → Prop) (U94 : MS) (t94_0 : Int64) (v94_1 : Int32) (v94_2 : Int32) : Prop := ((v94_2.toInt = 0 → w_workOne_J105 Q U94 1 v94_1 v94_2 t94_0) ∧ (¬ v94_2.toInt = 0 → w_workOne_J105 Q U94 2 v94_1 v94_2 t94_0))
def w_workOne_J91 (Q : Int32 → MS → Prop) (U91 : MS) (t91_0 : Int32) (v91_1 : Int32) (v91_2 : Int32) : Prop := (∃ Q59, w_got U91 t91_0 Q59 ∧ ∀ r60 S61, Q59 r60 S61 → w_workOne_J94 Q S61 r60 v91_1 v91_2)
def w_workOne_J81 (Q : Int32 → MS → Prop) (U81 : MS) (v81_1 : Int32) (v81_2 : Int32) : Prop := ((v81_2.toInt = 0 → w_workOne_J91 Q U81 1 v81_1 v81_2) ∧ (¬ v81_2.toInt = 0 → w_workOne_J91 Q U81 2 v81_1 v81_2))
def w_workOne_J19 (Q : Int32 → MS → Prop) (U19 : MS) (t19_0 : Int32) (v19_1 : Int32) : Prop := ((v19_1.toInt = 116 → w_workOne_J32 Q U19 t19_0) ∧ (¬ v19_1.toInt = 116 → ((v19_1.toInt = 117 → w_workOne_J32 Q U19 t19_0) ∧ (¬ v19_1.toInt = 117 → ((v19_1.toInt < 120 → w_workOne_J81 Q U19 v19_1 t19_0) ∧ (¬ v19_1.toInt < 120 → ((125 < v19_1.toInt → w_workOne_J81 Q U19 v19_1 t19_0) ∧ (¬ 125 < v19_1.toInt → (∃ Q66, w_got U19 (1 : Int32) Q66 ∧ ∀ r67 S68, Q66 r67 S68 → w_workOne_J94 Q S68 r67 v19_1 t19_0)))))))))
def w_workOne_J14 (Q : Int32 → MS → Prop) (U14 : MS) (v14_1 : Int32) : Prop := w_workOne_J19 Q U14 1 v14_1
def w_workOne (S : MS) (x1 : Int32) (Q : Int32 → MS → Prop) : Prop := ((x1.toInt = 148 → w_workOne_J14 Q S x1) ∧ (¬ x1.toInt = 148 → (((x1 - x1 / (2 : Int32) * (2 : Int32)).toInt = 1 → w_workOne_J14 Q S x1) ∧ (¬ (x1 - x1 / (2 : Int32) * (2 : Int32)).toInt = 1 → w_workOne_J19 Q S 0 x1))))
set_option maxHeartbeats 2000000 in
set_option maxRecDepth 100000 in
theorem r_workOne (l : Launch) (g : Gr) (ad : Nat → Nat) (sz : Nat) (S : MS) (x1 : Int32) (hw : wfM S) (Q : Int32 → MS → Prop) (h : w_workOne S x1 Q) : Met l yX14_workOne (wt2 yX14_workOne cX14_workOne 7 (some .boolean)) ({ frames := 3, cells := 0, slots := 0, locals := 71 }) (va_Pc [.ref (ad 0), .int x1] (st_R g ad sz S)) (va_Qi (fun (r : Int32) (u : MS) => Q r u ∧ wfM u ∧ shy S u ∧ (r = 0 ∨ r = 1)) (fun (u : MS) (t : State) => qE g ad (va_A (Wd g ad S) sz) u t) (va_A (Wd g ad S) sz)) 0 0 (va_A (Wd g ad S) sz) := by
  refine Met.ofW (cc := cX14_workOne) (maxL := 7) (ret := (some .boolean)) (by decide) rfl ?_
  intro p e s m args below meth c s₁ B hml hv
  obtain ⟨rfl, hsz, hP, hK, hD0, hex, hE⟩ := hv
  have hx := B.exec
  have hb := B.bytes
  have hr := B.returns
  have hts0 := atoms_spec (ws := wt2 yX14_workOne cX14_workOne 7 (some .boolean)) B.pre
  have hts : ∀ w ∈ tb2, w.before _ s = true := fun w h => hts0 w (List.mem_cons_of_mem _ h)
  have hown : s.vm.findClass RX14 = some m.cls := findClass_of_methodNamed B.named
  subst hsz
  have hD := hD0.self (sz := s.heap.size)
  generalize hAe : va_A (Wd g ad S) s.heap.size = A at hD hE ⊢
  have hA : ∀ q : Nat, s.heap.size ≤ q → A q := fun q h => by rw [← hAe]; exact Or.inr h
  have hR : Rep g ad A s S s.heap [] := ⟨hK, hP, hD, va_S.rf, hw⟩
  clear hK hP hD hD0
  have hl := lv_entry ([.ref (ad 0), .int x1]) (n := 7) (Nat.le_of_ble_eq_true rfl)
  rw [lg_entry_eq]
  generalize (lg_sl ([.ref (ad 0), .int x1]) ++ List.replicate (7 - (lg_sl ([.ref (ad 0), .int x1])).length) Slot.unset).toArray = ls at hl ⊢
  have hl : lv_has ls 7 [(0, .ref (ad 0)), (1, .int x1)] := hl
  have hsh : shy S S := shy.rf
  unfold w_workOne at h
  refine lv_iload_n hx hb dX14_workOne_0 rfl (lv_at hl 1 rfl) ?_
  refine lv_sipush (v := 148) hx hb dX14_workOne_1 (by decide) ?_
  have J_19 : ∀ (U19 : MS) (t19_0 : Int32) (v19_1 : Int32) (H : Heap) (locs : List Loc) (ls : Array Slot), w_workOne_J19 Q U19 t19_0 v19_1 → (t19_0 = 0 ∨ t19_0 = 1) → shy S U19 → Rep g ad A s U19 H locs → lv_has ls 7 [(0, .ref (ad 0)), (1, .int v19_1)] → W p l e (headSpec (wt2 yX14_workOne cX14_workOne 7 (some .boolean)) ({ frames := 3, cells := 0, slots := 0, locals := 71 })).room s m ([.ref (ad 0), .int x1] : List Value).toArray below meth c H locs 0 0 (MQ below (va_Qi (fun (r : Int32) (u : MS) => Q r u ∧ wfM u ∧ shy S u ∧ (r = 0 ∨ r = 1)) (fun (u : MS) (t : State) => qE g ad A u t) A) ([.ref (ad 0), .int x1] : List Value).toArray s 0 0 A) (F0 m 19 ls [.int t19_0]) := by
    intro U19 t19_0 v19_1 H locs ls h hz_t19_0 hsh hR hl
    unfold w_workOne_J19 at h
    refine lv_istore_n (lv' := [(2, .int t19_0), (0, .ref (ad 0)), (1, .int v19_1)]) hx hb dX14_workOne_19 rfl hl (by decide) rfl (fun ls hl => ?_)
    refine lv_iload_n hx hb dX14_workOne_20 rfl (lv_at hl 2 rfl) ?_
    refine lv_bipush (v := 116) hx hb dX14_workOne_21 (by decide) ?_
    have J_32 : ∀ (U32 : MS) (v32_2 : Int32) (H : Heap) (locs : List Loc) (ls : Array Slot), w_workOne_J32 Q U32 v32_2 → (v32_2 = 0 ∨ v32_2 = 1) → shy S U32 → Rep g ad A s U32 H locs → lv_has ls 7 [(0, .ref (ad 0)), (2, .int v32_2)] → W p l e (headSpec (wt2 yX14_workOne cX14_workOne 7 (some .boolean)) ({ frames := 3, cells := 0, slots := 0, locals := 71 })).room s m ([.ref (ad 0), .int x1] : List Value).toArray below meth c H locs 0 0 (MQ below (va_Qi (fun (r : Int32) (u : MS) => Q r u ∧ wfM u ∧ shy S u ∧ (r = 0 ∨ r = 1)) (fun (u : MS) (t : State) => qE g ad A u t) A) ([.ref (ad 0), .int x1] : List Value).toArray s 0 0 A) (F0 m 32 ls []) := by
      intro U32 v32_2 H locs ls h hz_v32_2 hsh hR hl
      unfold w_workOne_J32 at h
      refine lv_iload_n hx hb dX14_workOne_32 rfl (lv_at hl 1 rfl) ?_
      refine lv_if_eq (tgt := 50) hx hb dX14_workOne_33 (by decide) (fun c1 => ?_) (fun c1 => ?_)
      · replace h := h.1 (k_eq rfl (by decide) c1)
        refine lv_aload_n hx hb dX14_workOne_50 rfl (lv_at hl 0 rfl) ?_
        refine lv_aload_n hx hb dX14_workOne_51 rfl (lv_at hl 0 rfl) ?_
        obtain ⟨Q2, h0, h⟩ := h
        have hFc := rfree hR hA
        refine va_calli (va_runV (As := []) (rest := [.ref (ad 0)]) ⟨hx, hb, hml, hown, hts⟩ (r_gotInt l g ad H.size U32 hR.w  Q2 h0) (cwV 0 hts (gd2_V kx_648 kx_649 kx_650 kx_177 kx_651) rfl rfl rfl (by decide +kernel) ⟨Nat.le_of_ble_eq_true rfl, Nat.le_of_ble_eq_true rfl⟩) ⟨rblind, va_recv hR.K hR.P (ci := 13) (q0 := 0) rfl (hR.at14 hR.w.1), fun U hU hW9 => rmk hU hW9 hR hex hE hFc⟩ rfl rfl hl.1 rfl (lv_room (Nat.le_of_ble_eq_true rfl)) dX14_workOne_52 ⟨Nat.le_of_ble_eq_true rfl, Nat.le_of_ble_eq_true rfl⟩) hR.sS (fun q _ h => hFc q h) hFc (fun r3 S4 t9 H1 locs ht9 hvm9 hw9 hB9 hz9 hk9 hS => ?_)
        obtain ⟨hq5, hw9, hs9⟩ := hw9
        have hR : Rep g ad A s S4 H1 locs := hR.call ht9 hB9 hw9 hS hFc
        have hsh := hsh.tr hs9
        replace h := h r3 S4 hq5
        clear hB9 hz9 hk9 hvm9 ht9 hw9 hs9 hS
        generalize H1 = H at hR ⊢
        refine lv_ineg hx hb dX14_workOne_55 ?_
        refine lv_topi (fun z6 ez6 => ?_)
        obtain rfl : z6 = (-r3) := ez6
        obtain ⟨Q7, h0, h⟩ := h
        have hFc := rfree hR hA
        refine va_callv (va_runV (As := [.int (-r3)]) (rest := []) ⟨hx, hb, hml, hown, hts⟩ (r_putInt l g ad H.size S4 (-r3) hR.w  Q7 h0) (cwV 1 hts (gd2_V kx_652 kx_653 kx_654 kx_177 kx_655) rfl rfl rfl (by decide +kernel) ⟨Nat.le_of_ble_eq_true rfl, Nat.le_of_ble_eq_true rfl⟩) ⟨rblind, va_recv hR.K hR.P (ci := 13) (q0 := 0) rfl (hR.at14 hR.w.1), fun U hU hW9 => rmk hU hW9 hR hex hE hFc⟩ rfl rfl hl.1 rfl (lv_room (Nat.le_of_ble_eq_true rfl)) dX14_workOne_56 ⟨Nat.le_of_ble_eq_true rfl, Nat.le_of_ble_eq_true rfl⟩) hR.sS (fun q _ h => hFc q h) hFc (fun  S8 t9 H1 locs ht9 hvm9 hw9 hB9 hz9 hk9 hS => ?_)
        obtain ⟨hq9, hw9, hs9⟩ := hw9
        have hR : Rep g ad A s S8 H1 locs := hR.call ht9 hB9 hw9 hS hFc
        have hsh := hsh.tr hs9
        replace h := h  S8 hq9
        clear hB9 hz9 hk9 hvm9 ht9 hw9 hs9 hS
        generalize H1 = H at hR ⊢
        refine lv_iconst (v := 1) hx hb dX14_workOne_59 (by decide) ?_
        exact W.zret (v := 1) hx hb hr (nz (Or.inr rfl)) (fun t9 ht9 hW9 => ⟨⟨_, S8, rfl, ⟨h, hR.w, hsh, (Or.inr rfl)⟩, ⟨by rw [ht9]; exact hR.P, hR.D⟩⟩, hR.sS.F ht9⟩) hR.sS.2.2 dX14_workOne_60
      · replace h := h.2 (k_ne rfl (by decide) c1)
        refine lv_aload_n hx hb dX14_workOne_36 rfl (lv_at hl 0 rfl) ?_
        refine lv_aload_n hx hb dX14_workOne_37 rfl (lv_at hl 0 rfl) ?_
        refine lv_iconst (v := 2) hx hb dX14_workOne_38 (by decide) ?_
        obtain ⟨Q10, h0, h⟩ := h
        have hFc := rfree hR hA
        refine va_calll (va_runV (As := [.int 2]) (rest := [.ref (ad 0)]) ⟨hx, hb, hml, hown, hts⟩ (r_got l g ad H.size U32 (2 : Int32) hR.w  Q10 h0) (cwV 1 hts (gd2_V kx_635 kx_636 kx_637 kx_177 kx_638) rfl rfl rfl (by decide +kernel) ⟨Nat.le_of_ble_eq_true rfl, Nat.le_of_ble_eq_true rfl⟩) ⟨rblind, va_recv hR.K hR.P (ci := 13) (q0 := 0) rfl (hR.at14 hR.w.1), fun U hU hW9 => rmk hU hW9 hR hex hE hFc⟩ rfl rfl hl.1 rfl (lv_room (Nat.le_of_ble_eq_true rfl)) dX14_workOne_39 ⟨Nat.le_of_ble_eq_true rfl, Nat.le_of_ble_eq_true rfl⟩) hR.sS (fun q _ h => hFc q h) hFc (fun r11 S12 t9 H1 locs ht9 hvm9 hw9 hB9 hz9 hk9 hS => ?_)
        obtain ⟨hq13, hw9, hs9⟩ := hw9
        have hR : Rep g ad A s S12 H1 locs := hR.call ht9 hB9 hw9 hS hFc
        have hsh := hsh.tr hs9
        replace h := h r11 S12 hq13
        clear hB9 hz9 hk9 hvm9 ht9 hw9 hs9 hS
        generalize H1 = H at hR ⊢
        refine lv_lneg hx hb dX14_workOne_42 ?_
        refine lv_topl (fun z14 ez14 => ?_)
        obtain rfl : z14 = (-r11) := ez14
        refine lv_iconst (v := 2) hx hb dX14_workOne_43 (by decide) ?_
        obtain ⟨Q15, h0, h⟩ := h
        have hFc := rfree hR hA
        refine va_callv (va_runV (As := [.long (-r11), .int 2]) (rest := []) ⟨hx, hb, hml, hown, hts⟩ (r_put l g ad H.size S12 (-r11) (2 : Int32) hR.w  Q15 h0) (cwV 2 hts (gd2_V kx_948 kx_949 kx_950 kx_177 kx_951) rfl rfl rfl (by decide +kernel) ⟨Nat.le_of_ble_eq_true rfl, Nat.le_of_ble_eq_true rfl⟩) ⟨rblind, va_recv hR.K hR.P (ci := 13) (q0 := 0) rfl (hR.at14 hR.w.1), fun U hU hW9 => rmk hU hW9 hR hex hE hFc⟩ rfl rfl hl.1 rfl (lv_room (Nat.le_of_ble_eq_true rfl)) dX14_workOne_44 ⟨Nat.le_of_ble_eq_true rfl, Nat.le_of_ble_eq_true rfl⟩) hR.sS (fun q _ h => hFc q h) hFc (fun  S16 t9 H1 locs ht9 hvm9 hw9 hB9 hz9 hk9 hS => ?_)
        obtain ⟨hq17, hw9, hs9⟩ := hw9
        have hR : Rep g ad A s S16 H1 locs := hR.call ht9 hB9 hw9 hS hFc
        have hsh := hsh.tr hs9
        replace h := h  S16 hq17
        clear hB9 hz9 hk9 hvm9 ht9 hw9 hs9 hS
        generalize H1 = H at hR ⊢
        refine lv_goto (tgt := 59) hx hb dX14_workOne_47 (by decide) ?_
        refine lv_iconst (v := 1) hx hb dX14_workOne_59 (by decide) ?_
        exact W.zret (v := 1) hx hb hr (nz (Or.inr rfl)) (fun t9 ht9 hW9 => ⟨⟨_, S16, rfl, ⟨h, hR.w, hsh, (Or.inr rfl)⟩, ⟨by rw [ht9]; exact hR.P, hR.D⟩⟩, hR.sS.F ht9⟩) hR.sS.2.2 dX14_workOne_60
    refine lv_icmp_eq (tgt := 32) hx hb dX14_workOne_23 (by decide) (fun c18 => ?_) (fun c18 => ?_)
    · replace h := h.1 (k_eq rfl (by decide) c18)
      exact J_32 U19 t19_0 _ _ ls h hz_t19_0 hsh hR (lv_sub hl [1, 0] rfl)
    · replace h := h.2 (k_ne rfl (by decide) c18)
      refine lv_iload_n hx hb dX14_workOne_26 rfl (lv_at hl 2 rfl) ?_
      refine lv_bipush (v := 117) hx hb dX14_workOne_27 (by decide) ?_
      refine lv_icmp_ne (tgt := 61) hx hb dX14_workOne_29 (by decide) (fun c19 => ?_) (fun c19 => ?_)
      · replace h := h.2 (k_ne rfl (by decide) c19)
        refine lv_iload_n hx hb dX14_workOne_61 rfl (lv_at hl 2 rfl) ?_
        refine lv_bipush (v := 120) hx hb dX14_workOne_62 (by decide) ?_
        have J_94 : ∀ (U94 : MS) (t94_0 : Int64) (v94_1 : Int32) (v94_2 : Int32) (H : Heap) (locs : List Loc) (ls : Array Slot), w_workOne_J94 Q U94 t94_0 v94_1 v94_2 → (v94_2 = 0 ∨ v94_2 = 1) → shy S U94 → Rep g ad A s U94 H locs → lv_has ls 7 [(0, .ref (ad 0)), (1, .int v94_1), (2, .int v94_2)] → W p l e (headSpec (wt2 yX14_workOne cX14_workOne 7 (some .boolean)) ({ frames := 3, cells := 0, slots := 0, locals := 71 })).room s m ([.ref (ad 0), .int x1] : List Value).toArray below meth c H locs 0 0 (MQ below (va_Qi (fun (r : Int32) (u : MS) => Q r u ∧ wfM u ∧ shy S u ∧ (r = 0 ∨ r = 1)) (fun (u : MS) (t : State) => qE g ad A u t) A) ([.ref (ad 0), .int x1] : List Value).toArray s 0 0 A) (F0 m 94 ls [.long t94_0]) := by
          intro U94 t94_0 v94_1 v94_2 H locs ls h hz_v94_2 hsh hR hl
          unfold w_workOne_J94 at h
          refine lv_lstore_n (lv' := [(3, .long t94_0), (0, .ref (ad 0)), (1, .int v94_1), (2, .int v94_2)]) hx hb dX14_workOne_94 rfl hl (by decide) rfl (fun ls hl => ?_)
          refine lv_aload_n hx hb dX14_workOne_95 rfl (lv_at hl 1 rfl) ?_
          refine lv_iload_n hx hb dX14_workOne_96 rfl (lv_at hl 3 rfl) ?_
          have J_105 : ∀ (U105 : MS) (t105_0 : Int32) (v105_1 : Int32) (v105_2 : Int32) (v105_3 : Int64) (H : Heap) (locs : List Loc) (ls : Array Slot), w_workOne_J105 Q U105 t105_0 v105_1 v105_2 v105_3 → (v105_2 = 0 ∨ v105_2 = 1) → shy S U105 → Rep g ad A s U105 H locs → lv_has ls 7 [(0, .ref (ad 0)), (1, .int v105_1), (2, .int v105_2), (3, .long v105_3)] → W p l e (headSpec (wt2 yX14_workOne cX14_workOne 7 (some .boolean)) ({ frames := 3, cells := 0, slots := 0, locals := 71 })).room s m ([.ref (ad 0), .int x1] : List Value).toArray below meth c H locs 0 0 (MQ below (va_Qi (fun (r : Int32) (u : MS) => Q r u ∧ wfM u ∧ shy S u ∧ (r = 0 ∨ r = 1)) (fun (u : MS) (t : State) => qE g ad A u t) A) ([.ref (ad 0), .int x1] : List Value).toArray s 0 0 A) (F0 m 105 ls [.int t105_0, .ref (ad 0)]) := by
            intro U105 t105_0 v105_1 v105_2 v105_3 H locs ls h hz_v105_2 hsh hR hl
            unfold w_workOne_J105 at h
            obtain ⟨Q20, h0, h⟩ := h
            have hFc := rfree hR hA
            refine va_calll (va_runV (As := [.int t105_0]) (rest := []) ⟨hx, hb, hml, hown, hts⟩ (r_got l g ad H.size U105 t105_0 hR.w  Q20 h0) (cwV 1 hts (gd2_V kx_635 kx_636 kx_637 kx_177 kx_638) rfl rfl rfl (by decide +kernel) ⟨Nat.le_of_ble_eq_true rfl, Nat.le_of_ble_eq_true rfl⟩) ⟨rblind, va_recv hR.K hR.P (ci := 13) (q0 := 0) rfl (hR.at14 hR.w.1), fun U hU hW9 => rmk hU hW9 hR hex hE hFc⟩ rfl rfl hl.1 rfl (lv_room (Nat.le_of_ble_eq_true rfl)) dX14_workOne_105 ⟨Nat.le_of_ble_eq_true rfl, Nat.le_of_ble_eq_true rfl⟩) hR.sS (fun q _ h => hFc q h) hFc (fun r21 S22 t9 H1 locs ht9 hvm9 hw9 hB9 hz9 hk9 hS => ?_)
            obtain ⟨hq23, hw9, hs9⟩ := hw9
            have hR : Rep g ad A s S22 H1 locs := hR.call ht9 hB9 hw9 hS hFc
            have hsh := hsh.tr hs9
            replace h := h r21 S22 hq23
            clear hB9 hz9 hk9 hvm9 ht9 hw9 hs9 hS
            generalize H1 = H at hR ⊢
            refine lv_lstore (lv' := [(5, .long r21), (0, .ref (ad 0)), (1, .int v105_1), (2, .int v105_2), (3, .long v105_3)]) hx hb dX14_workOne_108 hl (by decide) rfl (fun ls hl => ?_)
            refine lv_iload_n hx hb dX14_workOne_110 rfl (lv_at hl 2 rfl) ?_
            refine lv_sipush (v := 148) hx hb dX14_workOne_111 (by decide) ?_
            refine lv_icmp_ne (tgt := 146) hx hb dX14_workOne_114 (by decide) (fun c24 => ?_) (fun c24 => ?_)
            · replace h := h.2 (k_ne rfl (by decide) c24)
              refine lv_iload_n hx hb dX14_workOne_146 rfl (lv_at hl 2 rfl) ?_
              refine lv_bipush (v := 108) hx hb dX14_workOne_147 (by decide) ?_
              have J_171 : ∀ (U171 : MS) (v171_1 : Int32) (v171_2 : Int32) (v171_3 : Int64) (v171_5 : Int64) (H : Heap) (locs : List Loc) (ls : Array Slot), w_workOne_J171 Q U171 v171_1 v171_2 v171_3 v171_5 → (v171_2 = 0 ∨ v171_2 = 1) → shy S U171 → Rep g ad A s U171 H locs → lv_has ls 7 [(0, .ref (ad 0)), (1, .int v171_1), (2, .int v171_2), (3, .long v171_3), (5, .long v171_5)] → W p l e (headSpec (wt2 yX14_workOne cX14_workOne 7 (some .boolean)) ({ frames := 3, cells := 0, slots := 0, locals := 71 })).room s m ([.ref (ad 0), .int x1] : List Value).toArray below meth c H locs 0 0 (MQ below (va_Qi (fun (r : Int32) (u : MS) => Q r u ∧ wfM u ∧ shy S u ∧ (r = 0 ∨ r = 1)) (fun (u : MS) (t : State) => qE g ad A u t) A) ([.ref (ad 0), .int x1] : List Value).toArray s 0 0 A) (F0 m 171 ls []) := by
                intro U171 v171_1 v171_2 v171_3 v171_5 H locs ls h hz_v171_2 hsh hR hl
                unfold w_workOne_J171 at h
                refine lv_iload_n hx hb dX14_workOne_171 rfl (lv_at hl 2 rfl) ?_
                refine lv_if_eq (tgt := 190) hx hb dX14_workOne_172 (by decide) (fun c25 => ?_) (fun c25 => ?_)
                · replace h := h.1 (k_eq rfl (by decide) c25)
                  refine lv_aload_n hx hb dX14_workOne_190 rfl (lv_at hl 0 rfl) ?_
                  refine lv_iload_n hx hb dX14_workOne_191 rfl (lv_at hl 1 rfl) ?_
                  refine lv_lload hx hb dX14_workOne_192 (lv_at hl 4 rfl) ?_
                  refine lv_l2i (v := (v171_5.toInt32)) hx hb dX14_workOne_194 rfl ?_
                  refine lv_lload_n hx hb dX14_workOne_195 rfl (lv_at hl 3 rfl) ?_
                  refine lv_l2i (v := (v171_3.toInt32)) hx hb dX14_workOne_196 rfl ?_
                  obtain ⟨hv26, h⟩ := h
                  have hFc := rfree hR hA
                  refine va_calli (va_runS (As := [.int v171_1, .int (v171_5.toInt32), .int (v171_3.toInt32)]) (rest := [.ref (ad 0)]) ⟨hx, hb, hml, hown, hts⟩ (r_intWork l g ad H.size U171 v171_1 (v171_5.toInt32) (v171_3.toInt32) hR.w  hv26) (va_cwS 3 hts (gd2_S kx_772 kx_773 kx_177 kx_774) rfl rfl rfl (by decide +kernel) ⟨Nat.le_of_ble_eq_true rfl, Nat.le_of_ble_eq_true rfl⟩) ⟨rblind, fun U hU hW9 => rmk hU hW9 hR hex hE hFc⟩ rfl rfl hl.1 rfl (lv_room (Nat.le_of_ble_eq_true rfl)) dX14_workOne_197 ⟨Nat.le_of_ble_eq_true rfl, Nat.le_of_ble_eq_true rfl⟩) hR.sS (fun q _ h => hFc q h) hFc (fun r27 u9 t9 H1 locs ht9 hvm9 hw9 hB9 hz9 hk9 hS => ?_)
                  have hR : Rep g ad A s U171 H1 locs := hR.call ht9 hB9 hR.w hS hFc
                  obtain rfl : r27 = (f_intWork U171 v171_1 (v171_5.toInt32) (v171_3.toInt32)) := hw9
                  clear hB9 hz9 hk9 hvm9 ht9 hS
                  generalize H1 = H at hR ⊢
                  obtain ⟨Q29, h0, h⟩ := h
                  have hFc := rfree hR hA
                  refine va_callv (va_runV (As := [.int (f_intWork U171 v171_1 (v171_5.toInt32) (v171_3.toInt32))]) (rest := []) ⟨hx, hb, hml, hown, hts⟩ (r_putInt l g ad H.size U171 (f_intWork U171 v171_1 (v171_5.toInt32) (v171_3.toInt32)) hR.w  Q29 h0) (cwV 1 hts (gd2_V kx_652 kx_653 kx_654 kx_177 kx_655) rfl rfl rfl (by decide +kernel) ⟨Nat.le_of_ble_eq_true rfl, Nat.le_of_ble_eq_true rfl⟩) ⟨rblind, va_recv hR.K hR.P (ci := 13) (q0 := 0) rfl (hR.at14 hR.w.1), fun U hU hW9 => rmk hU hW9 hR hex hE hFc⟩ rfl rfl hl.1 rfl (lv_room (Nat.le_of_ble_eq_true rfl)) dX14_workOne_200 ⟨Nat.le_of_ble_eq_true rfl, Nat.le_of_ble_eq_true rfl⟩) hR.sS (fun q _ h => hFc q h) hFc (fun  S30 t9 H1 locs ht9 hvm9 hw9 hB9 hz9 hk9 hS => ?_)
                  obtain ⟨hq31, hw9, hs9⟩ := hw9
                  have hR : Rep g ad A s S30 H1 locs := hR.call ht9 hB9 hw9 hS hFc
                  have hsh := hsh.tr hs9
                  replace h := h  S30 hq31
                  clear hB9 hz9 hk9 hvm9 ht9 hw9 hs9 hS
                  generalize H1 = H at hR ⊢
                  refine lv_iconst (v := 1) hx hb dX14_workOne_203 (by decide) ?_
                  exact W.zret (v := 1) hx hb hr (nz (Or.inr rfl)) (fun t9 ht9 hW9 => ⟨⟨_, S30, rfl, ⟨h, hR.w, hsh, (Or.inr rfl)⟩, ⟨by rw [ht9]; exact hR.P, hR.D⟩⟩, hR.sS.F ht9⟩) hR.sS.2.2 dX14_workOne_204
                · replace h := h.2 (k_ne rfl (by decide) c25)
                  refine lv_aload_n hx hb dX14_workOne_175 rfl (lv_at hl 0 rfl) ?_
                  refine lv_iload_n hx hb dX14_workOne_176 rfl (lv_at hl 1 rfl) ?_
                  refine lv_lload hx hb dX14_workOne_177 (lv_at hl 4 rfl) ?_
                  refine lv_lload_n hx hb dX14_workOne_179 rfl (lv_at hl 3 rfl) ?_
                  obtain ⟨hv32, h⟩ := h
                  have hFc := rfree hR hA
                  refine va_calll (va_runS (As := [.int v171_1, .long v171_5, .long v171_3]) (rest := [.ref (ad 0)]) ⟨hx, hb, hml, hown, hts⟩ (r_longWork l g ad H.size U171 v171_1 v171_5 v171_3 hR.w  hv32) (va_cwS 3 hts (gd2_S kx_765 kx_766 kx_177 kx_767) rfl rfl rfl (by decide +kernel) ⟨Nat.le_of_ble_eq_true rfl, Nat.le_of_ble_eq_true rfl⟩) ⟨rblind, fun U hU hW9 => rmk hU hW9 hR hex hE hFc⟩ rfl rfl hl.1 rfl (lv_room (Nat.le_of_ble_eq_true rfl)) dX14_workOne_180 ⟨Nat.le_of_ble_eq_true rfl, Nat.le_of_ble_eq_true rfl⟩) hR.sS (fun q _ h => hFc q h) hFc (fun r33 u9 t9 H1 locs ht9 hvm9 hw9 hB9 hz9 hk9 hS => ?_)
                  have hR : Rep g ad A s U171 H1 locs := hR.call ht9 hB9 hR.w hS hFc
                  obtain rfl : r33 = (f_longWork U171 v171_1 v171_5 v171_3) := hw9
                  clear hB9 hz9 hk9 hvm9 ht9 hS
                  generalize H1 = H at hR ⊢
                  refine lv_iconst (v := 2) hx hb dX14_workOne_183 (by decide) ?_
                  obtain ⟨Q35, h0, h⟩ := h
                  have hFc := rfree hR hA
                  refine va_callv (va_runV (As := [.long (f_longWork U171 v171_1 v171_5 v171_3), .int 2]) (rest := []) ⟨hx, hb, hml, hown, hts⟩ (r_put l g ad H.size U171 (f_longWork U171 v171_1 v171_5 v171_3) (2 : Int32) hR.w  Q35 h0) (cwV 2 hts (gd2_V kx_948 kx_949 kx_950 kx_177 kx_951) rfl rfl rfl (by decide +kernel) ⟨Nat.le_of_ble_eq_true rfl, Nat.le_of_ble_eq_true rfl⟩) ⟨rblind, va_recv hR.K hR.P (ci := 13) (q0 := 0) rfl (hR.at14 hR.w.1), fun U hU hW9 => rmk hU hW9 hR hex hE hFc⟩ rfl rfl hl.1 rfl (lv_room (Nat.le_of_ble_eq_true rfl)) dX14_workOne_184 ⟨Nat.le_of_ble_eq_true rfl, Nat.le_of_ble_eq_true rfl⟩) hR.sS (fun q _ h => hFc q h) hFc (fun  S36 t9 H1 locs ht9 hvm9 hw9 hB9 hz9 hk9 hS => ?_)
                  obtain ⟨hq37, hw9, hs9⟩ := hw9
                  have hR : Rep g ad A s S36 H1 locs := hR.call ht9 hB9 hw9 hS hFc
                  have hsh := hsh.tr hs9
                  replace h := h  S36 hq37
                  clear hB9 hz9 hk9 hvm9 ht9 hw9 hs9 hS
                  generalize H1 = H at hR ⊢
                  refine lv_goto (tgt := 203) hx hb dX14_workOne_187 (by decide) ?_
                  refine lv_iconst (v := 1) hx hb dX14_workOne_203 (by decide) ?_
                  exact W.zret (v := 1) hx hb hr (nz (Or.inr rfl)) (fun t9 ht9 hW9 => ⟨⟨_, S36, rfl, ⟨h, hR.w, hsh, (Or.inr rfl)⟩, ⟨by rw [ht9]; exact hR.P, hR.D⟩⟩, hR.sS.F ht9⟩) hR.sS.2.2 dX14_workOne_204
              refine lv_icmp_lt (tgt := 171) hx hb dX14_workOne_149 (by decide) (fun c38 => ?_) (fun c38 => ?_)
              · replace h := h.1 (k_lt rfl (by decide) c38)
                exact J_171 S22 v105_1 v105_2 v105_3 r21 _ _ ls h hz_v105_2 hsh hR (lv_sub hl [1, 2, 3, 4, 0] rfl)
              · replace h := h.2 (k_nlt rfl (by decide) c38)
                refine lv_iload_n hx hb dX14_workOne_152 rfl (lv_at hl 2 rfl) ?_
                refine lv_bipush (v := 113) hx hb dX14_workOne_153 (by decide) ?_
                refine lv_icmp_gt (tgt := 171) hx hb dX14_workOne_155 (by decide) (fun c39 => ?_) (fun c39 => ?_)
                · replace h := h.1 (k_lt (by decide) rfl c39)
                  exact J_171 S22 v105_1 v105_2 v105_3 r21 _ _ ls h hz_v105_2 hsh hR (lv_sub hl [1, 2, 3, 4, 0] rfl)
                · replace h := h.2 (k_nlt (by decide) rfl c39)
                  refine lv_lload_n hx hb dX14_workOne_158 rfl (lv_at hl 4 rfl) ?_
                  refine lv_lconst (v := 0) hx hb dX14_workOne_159 (by decide) ?_
                  refine W.lcmp hx hb dX14_workOne_160 ?_
                  refine lv_topi (fun z40 ez40 => ?_)
                  obtain rfl : z40 = (lg_cmp v105_3 0) := ez40
                  refine lv_if_ne (tgt := 171) hx hb dX14_workOne_161 (by decide) (fun c41 => ?_) (fun c41 => ?_)
                  · replace h := h.2 (k_ne rfl (by decide) c41)
                    exact J_171 S22 v105_1 v105_2 v105_3 r21 _ _ ls h hz_v105_2 hsh hR (lv_sub hl [1, 2, 3, 4, 0] rfl)
                  · replace h := h.1 (k_eq rfl (by decide) c41)
                    refine lv_aload_n hx hb dX14_workOne_164 rfl (lv_at hl 1 rfl) ?_
                    refine lv_iconst (v := 0) hx hb dX14_workOne_165 (by decide) ?_
                    obtain ⟨Q42, h0, h⟩ := h
                    have hFc := rfree hR hA
                    refine va_callv (va_runV (As := [.int 0]) (rest := []) ⟨hx, hb, hml, hown, hts⟩ (r_throwError l g ad H.size S22 (0 : Int32) hR.w  Q42 h0) (cwV 1 hts (gd2_V kx_962 kx_963 kx_964 kx_177 kx_965) rfl rfl rfl (by decide +kernel) ⟨Nat.le_of_ble_eq_true rfl, Nat.le_of_ble_eq_true rfl⟩) ⟨rblind, va_recv hR.K hR.P (ci := 13) (q0 := 0) rfl (hR.at14 hR.w.1), fun U hU hW9 => rmk hU hW9 hR hex hE hFc⟩ rfl rfl hl.1 rfl (lv_room (Nat.le_of_ble_eq_true rfl)) dX14_workOne_166 ⟨Nat.le_of_ble_eq_true rfl, Nat.le_of_ble_eq_true rfl⟩) hR.sS (fun q _ h => hFc q h) hFc (fun  S43 t9 H1 locs ht9 hvm9 hw9 hB9 hz9 hk9 hS => ?_)
                    obtain ⟨hq44, hw9, hs9⟩ := hw9
                    have hR : Rep g ad A s S43 H1 locs := hR.call ht9 hB9 hw9 hS hFc
                    have hsh := hsh.tr hs9
                    replace h := h  S43 hq44
                    clear hB9 hz9 hk9 hvm9 ht9 hw9 hs9 hS
                    generalize H1 = H at hR ⊢
                    refine lv_iconst (v := 0) hx hb dX14_workOne_169 (by decide) ?_
                    exact W.zret (v := 0) hx hb hr (nz (Or.inl rfl)) (fun t9 ht9 hW9 => ⟨⟨_, S43, rfl, ⟨h, hR.w, hsh, (Or.inl rfl)⟩, ⟨by rw [ht9]; exact hR.P, hR.D⟩⟩, hR.sS.F ht9⟩) hR.sS.2.2 dX14_workOne_170
            · replace h := h.1 (k_eq rfl (by decide) c24)
              refine lv_aload_n hx hb dX14_workOne_117 rfl (lv_at hl 1 rfl) ?_
              refine lv_lload hx hb dX14_workOne_118 (lv_at hl 0 rfl) ?_
              refine lv_lload_n hx hb dX14_workOne_120 rfl (lv_at hl 4 rfl) ?_
              refine W.lcmp hx hb dX14_workOne_121 ?_
              refine lv_topi (fun z45 ez45 => ?_)
              obtain rfl : z45 = (lg_cmp r21 v105_3) := ez45
              refine lv_if_ge (tgt := 129) hx hb dX14_workOne_122 (by decide) (fun c46 => ?_) (fun c46 => ?_)
              · replace h := h.1 (k_le (by decide) rfl c46)
                refine lv_lload hx hb dX14_workOne_129 (lv_at hl 0 rfl) ?_
                refine lv_lload_n hx hb dX14_workOne_131 rfl (lv_at hl 4 rfl) ?_
                refine W.lcmp hx hb dX14_workOne_132 ?_
                refine lv_topi (fun z47 ez47 => ?_)
                obtain rfl : z47 = (lg_cmp r21 v105_3) := ez47
                refine lv_if_le (tgt := 140) hx hb dX14_workOne_133 (by decide) (fun c48 => ?_) (fun c48 => ?_)
                · replace h := h.1 (k_le rfl (by decide) c48)
                  refine lv_iconst (v := 0) hx hb dX14_workOne_140 (by decide) ?_
                  obtain ⟨Q49, h0, h⟩ := h
                  have hFc := rfree hR hA
                  refine va_callv (va_runV (As := [.int 0]) (rest := []) ⟨hx, hb, hml, hown, hts⟩ (r_putInt l g ad H.size S22 (0 : Int32) hR.w  Q49 h0) (cwV 1 hts (gd2_V kx_652 kx_653 kx_654 kx_177 kx_655) rfl rfl rfl (by decide +kernel) ⟨Nat.le_of_ble_eq_true rfl, Nat.le_of_ble_eq_true rfl⟩) ⟨rblind, va_recv hR.K hR.P (ci := 13) (q0 := 0) rfl (hR.at14 hR.w.1), fun U hU hW9 => rmk hU hW9 hR hex hE hFc⟩ rfl rfl hl.1 rfl (lv_room (Nat.le_of_ble_eq_true rfl)) dX14_workOne_141 ⟨Nat.le_of_ble_eq_true rfl, Nat.le_of_ble_eq_true rfl⟩) hR.sS (fun q _ h => hFc q h) hFc (fun  S50 t9 H1 locs ht9 hvm9 hw9 hB9 hz9 hk9 hS => ?_)
                  obtain ⟨hq51, hw9, hs9⟩ := hw9
                  have hR : Rep g ad A s S50 H1 locs := hR.call ht9 hB9 hw9 hS hFc
                  have hsh := hsh.tr hs9
                  replace h := h  S50 hq51
                  clear hB9 hz9 hk9 hvm9 ht9 hw9 hs9 hS
                  generalize H1 = H at hR ⊢
                  refine lv_iconst (v := 1) hx hb dX14_workOne_144 (by decide) ?_
                  exact W.zret (v := 1) hx hb hr (nz (Or.inr rfl)) (fun t9 ht9 hW9 => ⟨⟨_, S50, rfl, ⟨h, hR.w, hsh, (Or.inr rfl)⟩, ⟨by rw [ht9]; exact hR.P, hR.D⟩⟩, hR.sS.F ht9⟩) hR.sS.2.2 dX14_workOne_145
                · replace h := h.2 (k_nle rfl (by decide) c48)
                  refine lv_iconst (v := 1) hx hb dX14_workOne_136 (by decide) ?_
                  refine lv_goto (tgt := 141) hx hb dX14_workOne_137 (by decide) ?_
                  obtain ⟨Q52, h0, h⟩ := h
                  have hFc := rfree hR hA
                  refine va_callv (va_runV (As := [.int 1]) (rest := []) ⟨hx, hb, hml, hown, hts⟩ (r_putInt l g ad H.size S22 (1 : Int32) hR.w  Q52 h0) (cwV 1 hts (gd2_V kx_652 kx_653 kx_654 kx_177 kx_655) rfl rfl rfl (by decide +kernel) ⟨Nat.le_of_ble_eq_true rfl, Nat.le_of_ble_eq_true rfl⟩) ⟨rblind, va_recv hR.K hR.P (ci := 13) (q0 := 0) rfl (hR.at14 hR.w.1), fun U hU hW9 => rmk hU hW9 hR hex hE hFc⟩ rfl rfl hl.1 rfl (lv_room (Nat.le_of_ble_eq_true rfl)) dX14_workOne_141 ⟨Nat.le_of_ble_eq_true rfl, Nat.le_of_ble_eq_true rfl⟩) hR.sS (fun q _ h => hFc q h) hFc (fun  S53 t9 H1 locs ht9 hvm9 hw9 hB9 hz9 hk9 hS => ?_)
                  obtain ⟨hq54, hw9, hs9⟩ := hw9
                  have hR : Rep g ad A s S53 H1 locs := hR.call ht9 hB9 hw9 hS hFc
                  have hsh := hsh.tr hs9
                  replace h := h  S53 hq54
                  clear hB9 hz9 hk9 hvm9 ht9 hw9 hs9 hS
                  generalize H1 = H at hR ⊢
                  refine lv_iconst (v := 1) hx hb dX14_workOne_144 (by decide) ?_
                  exact W.zret (v := 1) hx hb hr (nz (Or.inr rfl)) (fun t9 ht9 hW9 => ⟨⟨_, S53, rfl, ⟨h, hR.w, hsh, (Or.inr rfl)⟩, ⟨by rw [ht9]; exact hR.P, hR.D⟩⟩, hR.sS.F ht9⟩) hR.sS.2.2 dX14_workOne_145
              · replace h := h.2 (k_nle (by decide) rfl c46)
                refine lv_iconst (v := (-1)) hx hb dX14_workOne_125 (by decide) ?_
                refine lv_goto (tgt := 141) hx hb dX14_workOne_126 (by decide) ?_
                obtain ⟨Q55, h0, h⟩ := h
                have hFc := rfree hR hA
                refine va_callv (va_runV (As := [.int (-1)]) (rest := []) ⟨hx, hb, hml, hown, hts⟩ (r_putInt l g ad H.size S22 (-1 : Int32) hR.w  Q55 h0) (cwV 1 hts (gd2_V kx_652 kx_653 kx_654 kx_177 kx_655) rfl rfl rfl (by decide +kernel) ⟨Nat.le_of_ble_eq_true rfl, Nat.le_of_ble_eq_true rfl⟩) ⟨rblind, va_recv hR.K hR.P (ci := 13) (q0 := 0) rfl (hR.at14 hR.w.1), fun U hU hW9 => rmk hU hW9 hR hex hE hFc⟩ rfl rfl hl.1 rfl (lv_room (Nat.le_of_ble_eq_true rfl)) dX14_workOne_141 ⟨Nat.le_of_ble_eq_true rfl, Nat.le_of_ble_eq_true rfl⟩) hR.sS (fun q _ h => hFc q h) hFc (fun  S56 t9 H1 locs ht9 hvm9 hw9 hB9 hz9 hk9 hS => ?_)
                obtain ⟨hq57, hw9, hs9⟩ := hw9
                have hR : Rep g ad A s S56 H1 locs := hR.call ht9 hB9 hw9 hS hFc
                have hsh := hsh.tr hs9
                replace h := h  S56 hq57
                clear hB9 hz9 hk9 hvm9 ht9 hw9 hs9 hS
                generalize H1 = H at hR ⊢
                refine lv_iconst (v := 1) hx hb dX14_workOne_144 (by decide) ?_
                exact W.zret (v := 1) hx hb hr (nz (Or.inr rfl)) (fun t9 ht9 hW9 => ⟨⟨_, S56, rfl, ⟨h, hR.w, hsh, (Or.inr rfl)⟩, ⟨by rw [ht9]; exact hR.P, hR.D⟩⟩, hR.sS.F ht9⟩) hR.sS.2.2 dX14_workOne_145
          refine lv_if_eq (tgt := 104) hx hb dX14_workOne_97 (by decide) (fun c58 => ?_) (fun c58 => ?_)
          · replace h := h.1 (k_eq rfl (by decide) c58)
            refine lv_iconst (v := 1) hx hb dX14_workOne_104 (by decide) ?_
            exact J_105 U94 1 v94_1 v94_2 t94_0 _ _ ls h hz_v94_2 hsh hR (lv_sub hl [1, 2, 3, 0] rfl)
          · replace h := h.2 (k_ne rfl (by decide) c58)
            refine lv_iconst (v := 2) hx hb dX14_workOne_100 (by decide) ?_
            refine lv_goto (tgt := 105) hx hb dX14_workOne_101 (by decide) ?_
            exact J_105 U94 2 v94_1 v94_2 t94_0 _ _ ls h hz_v94_2 hsh hR (lv_sub hl [1, 2, 3, 0] rfl)
        have J_81 : ∀ (U81 : MS) (v81_1 : Int32) (v81_2 : Int32) (H : Heap) (locs : List Loc) (ls : Array Slot), w_workOne_J81 Q U81 v81_1 v81_2 → (v81_2 = 0 ∨ v81_2 = 1) → shy S U81 → Rep g ad A s U81 H locs → lv_has ls 7 [(0, .ref (ad 0)), (1, .int v81_1), (2, .int v81_2)] → W p l e (headSpec (wt2 yX14_workOne cX14_workOne 7 (some .boolean)) ({ frames := 3, cells := 0, slots := 0, locals := 71 })).room s m ([.ref (ad 0), .int x1] : List Value).toArray below meth c H locs 0 0 (MQ below (va_Qi (fun (r : Int32) (u : MS) => Q r u ∧ wfM u ∧ shy S u ∧ (r = 0 ∨ r = 1)) (fun (u : MS) (t : State) => qE g ad A u t) A) ([.ref (ad 0), .int x1] : List Value).toArray s 0 0 A) (F0 m 81 ls []) := by
          intro U81 v81_1 v81_2 H locs ls h hz_v81_2 hsh hR hl
          unfold w_workOne_J81 at h
          refine lv_aload_n hx hb dX14_workOne_81 rfl (lv_at hl 0 rfl) ?_
          refine lv_iload_n hx hb dX14_workOne_82 rfl (lv_at hl 2 rfl) ?_
          have J_91 : ∀ (U91 : MS) (t91_0 : Int32) (v91_1 : Int32) (v91_2 : Int32) (H : Heap) (locs : List Loc) (ls : Array Slot), w_workOne_J91 Q U91 t91_0 v91_1 v91_2 → (v91_2 = 0 ∨ v91_2 = 1) → shy S U91 → Rep g ad A s U91 H locs → lv_has ls 7 [(0, .ref (ad 0)), (1, .int v91_1), (2, .int v91_2)] → W p l e (headSpec (wt2 yX14_workOne cX14_workOne 7 (some .boolean)) ({ frames := 3, cells := 0, slots := 0, locals := 71 })).room s m ([.ref (ad 0), .int x1] : List Value).toArray below meth c H locs 0 0 (MQ below (va_Qi (fun (r : Int32) (u : MS) => Q r u ∧ wfM u ∧ shy S u ∧ (r = 0 ∨ r = 1)) (fun (u : MS) (t : State) => qE g ad A u t) A) ([.ref (ad 0), .int x1] : List Value).toArray s 0 0 A) (F0 m 91 ls [.int t91_0, .ref (ad 0)]) := by
            intro U91 t91_0 v91_1 v91_2 H locs ls h hz_v91_2 hsh hR hl
            unfold w_workOne_J91 at h
            obtain ⟨Q59, h0, h⟩ := h
            have hFc := rfree hR hA
            refine va_calll (va_runV (As := [.int t91_0]) (rest := []) ⟨hx, hb, hml, hown, hts⟩ (r_got l g ad H.size U91 t91_0 hR.w  Q59 h0) (cwV 1 hts (gd2_V kx_635 kx_636 kx_637 kx_177 kx_638) rfl rfl rfl (by decide +kernel) ⟨Nat.le_of_ble_eq_true rfl, Nat.le_of_ble_eq_true rfl⟩) ⟨rblind, va_recv hR.K hR.P (ci := 13) (q0 := 0) rfl (hR.at14 hR.w.1), fun U hU hW9 => rmk hU hW9 hR hex hE hFc⟩ rfl rfl hl.1 rfl (lv_room (Nat.le_of_ble_eq_true rfl)) dX14_workOne_91 ⟨Nat.le_of_ble_eq_true rfl, Nat.le_of_ble_eq_true rfl⟩) hR.sS (fun q _ h => hFc q h) hFc (fun r60 S61 t9 H1 locs ht9 hvm9 hw9 hB9 hz9 hk9 hS => ?_)
            obtain ⟨hq62, hw9, hs9⟩ := hw9
            have hR : Rep g ad A s S61 H1 locs := hR.call ht9 hB9 hw9 hS hFc
            have hsh := hsh.tr hs9
            replace h := h r60 S61 hq62
            clear hB9 hz9 hk9 hvm9 ht9 hw9 hs9 hS
            generalize H1 = H at hR ⊢
            exact J_94 S61 r60 v91_1 v91_2 _ _ ls h hz_v91_2 hsh hR (lv_sub hl [0, 1, 2] rfl)
          refine lv_if_eq (tgt := 90) hx hb dX14_workOne_83 (by decide) (fun c63 => ?_) (fun c63 => ?_)
          · replace h := h.1 (k_eq rfl (by decide) c63)
            refine lv_iconst (v := 1) hx hb dX14_workOne_90 (by decide) ?_
            exact J_91 U81 1 v81_1 v81_2 _ _ ls h hz_v81_2 hsh hR (lv_sub hl [0, 1, 2] rfl)
          · replace h := h.2 (k_ne rfl (by decide) c63)
            refine lv_iconst (v := 2) hx hb dX14_workOne_86 (by decide) ?_
            refine lv_goto (tgt := 91) hx hb dX14_workOne_87 (by decide) ?_
            exact J_91 U81 2 v81_1 v81_2 _ _ ls h hz_v81_2 hsh hR (lv_sub hl [0, 1, 2] rfl)
        refine lv_icmp_lt (tgt := 81) hx hb dX14_workOne_64 (by decide) (fun c64 => ?_) (fun c64 => ?_)
        · replace h := h.1 (k_lt rfl (by decide) c64)
          exact J_81 U19 v19_1 t19_0 _ _ ls h hz_t19_0 hsh hR (lv_sub hl [1, 2, 0] rfl)
        · replace h := h.2 (k_nlt rfl (by decide) c64)
          refine lv_iload_n hx hb dX14_workOne_67 rfl (lv_at hl 2 rfl) ?_
          refine lv_bipush (v := 125) hx hb dX14_workOne_68 (by decide) ?_
          refine lv_icmp_gt (tgt := 81) hx hb dX14_workOne_70 (by decide) (fun c65 => ?_) (fun c65 => ?_)
          · replace h := h.1 (k_lt (by decide) rfl c65)
            exact J_81 U19 v19_1 t19_0 _ _ ls h hz_t19_0 hsh hR (lv_sub hl [1, 2, 0] rfl)
          · replace h := h.2 (k_nlt (by decide) rfl c65)
            refine lv_aload_n hx hb dX14_workOne_73 rfl (lv_at hl 1 rfl) ?_
            refine lv_iconst (v := 1) hx hb dX14_workOne_74 (by decide) ?_
            obtain ⟨Q66, h0, h⟩ := h
            have hFc := rfree hR hA
            refine va_calll (va_runV (As := [.int 1]) (rest := []) ⟨hx, hb, hml, hown, hts⟩ (r_got l g ad H.size U19 (1 : Int32) hR.w  Q66 h0) (cwV 1 hts (gd2_V kx_635 kx_636 kx_637 kx_177 kx_638) rfl rfl rfl (by decide +kernel) ⟨Nat.le_of_ble_eq_true rfl, Nat.le_of_ble_eq_true rfl⟩) ⟨rblind, va_recv hR.K hR.P (ci := 13) (q0 := 0) rfl (hR.at14 hR.w.1), fun U hU hW9 => rmk hU hW9 hR hex hE hFc⟩ rfl rfl hl.1 rfl (lv_room (Nat.le_of_ble_eq_true rfl)) dX14_workOne_75 ⟨Nat.le_of_ble_eq_true rfl, Nat.le_of_ble_eq_true rfl⟩) hR.sS (fun q _ h => hFc q h) hFc (fun r67 S68 t9 H1 locs ht9 hvm9 hw9 hB9 hz9 hk9 hS => ?_)
            obtain ⟨hq69, hw9, hs9⟩ := hw9
            have hR : Rep g ad A s S68 H1 locs := hR.call ht9 hB9 hw9 hS hFc
            have hsh := hsh.tr hs9
            replace h := h r67 S68 hq69
            clear hB9 hz9 hk9 hvm9 ht9 hw9 hs9 hS
            generalize H1 = H at hR ⊢
            refine lv_goto (tgt := 94) hx hb dX14_workOne_78 (by decide) ?_
            exact J_94 S68 r67 v19_1 t19_0 _ _ ls h hz_t19_0 hsh hR (lv_sub hl [1, 2, 0] rfl)
      · replace h := h.1 (k_eq rfl (by decide) c19)
        exact J_32 U19 t19_0 _ _ ls h hz_t19_0 hsh hR (lv_sub hl [1, 0] rfl)
  have J_14 : ∀ (U14 : MS) (v14_1 : Int32) (H : Heap) (locs : List Loc) (ls : Array Slot), w_workOne_J14 Q U14 v14_1 → shy S U14 → Rep g ad A s U14 H locs → lv_has ls 7 [(0, .ref (ad 0)), (1, .int v14_1)] → W p l e (headSpec (wt2 yX14_workOne cX14_workOne 7 (some .boolean)) ({ frames := 3, cells := 0, slots := 0, locals := 71 })).room s m ([.ref (ad 0), .int x1] : List Value).toArray below meth c H locs 0 0 (MQ below (va_Qi (fun (r : Int32) (u : MS) => Q r u ∧ wfM u ∧ shy S u ∧ (r = 0 ∨ r = 1)) (fun (u : MS) (t : State) => qE g ad A u t) A) ([.ref (ad 0), .int x1] : List Value).toArray s 0 0 A) (F0 m 14 ls []) := by
    intro U14 v14_1 H locs ls h hsh hR hl
    unfold w_workOne_J14 at h
    refine lv_iconst (v := 1) hx hb dX14_workOne_14 (by decide) ?_
    refine lv_goto (tgt := 19) hx hb dX14_workOne_15 (by decide) ?_
    exact J_19 U14 1 v14_1 _ _ ls h (Or.inr rfl) hsh hR (lv_sub hl [0, 1] rfl)
  refine lv_icmp_eq (tgt := 14) hx hb dX14_workOne_4 (by decide) (fun c70 => ?_) (fun c70 => ?_)
  · replace h := h.1 (k_eq rfl (by decide) c70)
    exact J_14 S x1 _ _ ls h  hsh hR (lv_sub hl [0, 1] rfl)
  · replace h := h.2 (k_ne rfl (by decide) c70)
    refine lv_iload_n hx hb dX14_workOne_7 rfl (lv_at hl 1 rfl) ?_
    refine lv_iconst (v := 2) hx hb dX14_workOne_8 (by decide) ?_
    refine lv_irem hx hb dX14_workOne_9 (by decide) ?_
    refine lv_topi (fun z71 ez71 => ?_)
    obtain rfl : z71 = (x1 - x1 / (2 : Int32) * (2 : Int32)) := ez71
    refine lv_iconst (v := 1) hx hb dX14_workOne_10 (by decide) ?_
    refine lv_icmp_ne (tgt := 18) hx hb dX14_workOne_11 (by decide) (fun c72 => ?_) (fun c72 => ?_)
    · replace h := h.2 (k_ne rfl (by decide) c72)
      refine lv_iconst (v := 0) hx hb dX14_workOne_18 (by decide) ?_
      exact J_19 S 0 x1 _ _ ls h (Or.inl rfl) hsh hR (lv_sub hl [0, 1] rfl)
    · replace h := h.1 (k_eq rfl (by decide) c72)
      exact J_14 S x1 _ _ ls h  hsh hR (lv_sub hl [0, 1] rfl)
def w_leave_J96 (Q : MS → Prop) (U96 : MS) : Prop := (((0 : Int) ≤ ((qI U96 0 97) - (1 : Int32)).toInt ∧ ((qI U96 0 97) - (1 : Int32)).toInt < 60) ∧ (∃ Q8, w_goTo U96 ((qI U96 43 ((((qI U96 0 97) - (1 : Int32)).toInt).toNat)) + (1 : Int32)) Q8 ∧ ∀ S9, Q8 S9 → Q S9))
def w_leave_J93 (Q : MS → Prop) (U93 : MS) (t93_0 : Int32) (t93_1 : Int64) : Prop := (∃ Q13, w_put U93 t93_1 t93_0 Q13 ∧ ∀ S14, Q13 S14 → w_leave_J96 Q S14)
def w_leave_J27 (Q : MS → Prop) (U27 : MS) (t27_0 : Int64) (v27_1 : Int32) : Prop := (∀ S2, S2 = wI U27 0 97 ((qI U27 0 97) - (1 : Int32)) → (((qI S2 0 97).toInt = 0 → (∀ S20, S20 = wI S2 0 98 0 → (∀ S21, S21 = wJ S20 0 101 t27_0 → Q S21))) ∧ (¬ (qI S2 0 97).toInt = 0 → ((v27_1.toInt = 172 → (∃ Q17, w_putInt S2 (t27_0.toInt32) Q17 ∧ ∀ S18, Q17 S18 → w_leave_J96 Q S18)) ∧ (¬ v27_1.toInt = 172 → ((v27_1.toInt = 177 → w_leave_J96 Q S2) ∧ (¬ v27_1.toInt = 177 → ((v27_1.toInt = 173 → w_leave_J93 Q S2 2 t27_0) ∧ (¬ v27_1.toInt = 173 → w_leave_J93 Q S2 1 t27_0)))))))))
def w_leave_J24 (Q : MS → Prop) (U24 : MS) (t24_0 : Int32) (v24_1 : Int32) : Prop := (∃ Q23, w_got U24 t24_0 Q23 ∧ ∀ r24 S25, Q23 r24 S25 → w_leave_J27 Q S25 r24 v24_1)
def w_leave (S : MS) (x1 : Int32) (Q : MS → Prop) : Prop := ((x1.toInt = 177 → w_leave_J27 Q S 0 x1) ∧ (¬ x1.toInt = 177 → ((x1.toInt = 173 → w_leave_J24 Q S 2 x1) ∧ (¬ x1.toInt = 173 → w_leave_J24 Q S 1 x1))))
set_option maxHeartbeats 2000000 in
set_option maxRecDepth 100000 in
theorem r_leave (l : Launch) (g : Gr) (ad : Nat → Nat) (sz : Nat) (S : MS) (x1 : Int32) (hw : wfM S) (Q : MS → Prop) (h : w_leave S x1 Q) : Met l yX14_leave (wt2 yX14_leave cX14_leave 4 none) ({ frames := 2, cells := 0, slots := 0, locals := 48 }) (va_Pc [.ref (ad 0), .int x1] (st_R g ad sz S)) (va_Qv (fun (u : MS) => Q u ∧ wfM u ∧ shy S u) (fun (u : MS) (t : State) => qE g ad (va_A (Wd g ad S) sz) u t) (va_A (Wd g ad S) sz)) 0 0 (va_A (Wd g ad S) sz) := by
  refine Met.ofW (cc := cX14_leave) (maxL := 4) (ret := none) (by decide) rfl ?_
  intro p e s m args below meth c s₁ B hml hv
  obtain ⟨rfl, hsz, hP, hK, hD0, hex, hE⟩ := hv
  have hx := B.exec
  have hb := B.bytes
  have hr := B.returns
  have hts0 := atoms_spec (ws := wt2 yX14_leave cX14_leave 4 none) B.pre
  have hts : ∀ w ∈ tb2, w.before _ s = true := fun w h => hts0 w (List.mem_cons_of_mem _ h)
  have hown : s.vm.findClass RX14 = some m.cls := findClass_of_methodNamed B.named
  subst hsz
  have hD := hD0.self (sz := s.heap.size)
  generalize hAe : va_A (Wd g ad S) s.heap.size = A at hD hE ⊢
  have hA : ∀ q : Nat, s.heap.size ≤ q → A q := fun q h => by rw [← hAe]; exact Or.inr h
  have hR : Rep g ad A s S s.heap [] := ⟨hK, hP, hD, va_S.rf, hw⟩
  clear hK hP hD hD0
  have hl := lv_entry ([.ref (ad 0), .int x1]) (n := 4) (Nat.le_of_ble_eq_true rfl)
  rw [lg_entry_eq]
  generalize (lg_sl ([.ref (ad 0), .int x1]) ++ List.replicate (4 - (lg_sl ([.ref (ad 0), .int x1])).length) Slot.unset).toArray = ls at hl ⊢
  have hl : lv_has ls 4 [(0, .ref (ad 0)), (1, .int x1)] := hl
  have hsh : shy S S := shy.rf
  unfold w_leave at h
  refine lv_iload_n hx hb dX14_leave_0 rfl (lv_at hl 1 rfl) ?_
  refine lv_sipush (v := 177) hx hb dX14_leave_1 (by decide) ?_
  have J_27 : ∀ (U27 : MS) (t27_0 : Int64) (v27_1 : Int32) (H : Heap) (locs : List Loc) (ls : Array Slot), w_leave_J27 Q U27 t27_0 v27_1 → shy S U27 → Rep g ad A s U27 H locs → lv_has ls 4 [(0, .ref (ad 0)), (1, .int v27_1)] → W p l e (headSpec (wt2 yX14_leave cX14_leave 4 none) ({ frames := 2, cells := 0, slots := 0, locals := 48 })).room s m ([.ref (ad 0), .int x1] : List Value).toArray below meth c H locs 0 0 (MQ below (va_Qv (fun (u : MS) => Q u ∧ wfM u ∧ shy S u) (fun (u : MS) (t : State) => qE g ad A u t) A) ([.ref (ad 0), .int x1] : List Value).toArray s 0 0 A) (F0 m 27 ls [.long t27_0]) := by
    intro U27 t27_0 v27_1 H locs ls h hsh hR hl
    unfold w_leave_J27 at h
    refine lv_lstore_n (lv' := [(2, .long t27_0), (0, .ref (ad 0)), (1, .int v27_1)]) hx hb dX14_leave_27 rfl hl (by decide) rfl (fun ls hl => ?_)
    refine lv_aload_n hx hb dX14_leave_28 rfl (lv_at hl 1 rfl) ?_
    refine lv_dup hx hb dX14_leave_29 rfl ?_
    refine va_get (D := rD g) (ci := 13) (v := .int (qI U27 0 97)) (C := RX14) (T := TX14) (N := 143) hx hb hts in2X14 hown hR.K hR.P 0 (hR.at14 hR.w.1) rfl 97 (by decide) (hts _ kx_616) (fun _ h9 => h9) rfl dX14_leave_30 ?_
    refine lv_iconst (v := 1) hx hb dX14_leave_33 (by decide) ?_
    refine lv_isub hx hb dX14_leave_34 ?_
    refine lv_topi (fun z1 ez1 => ?_)
    obtain rfl : z1 = ((qI U27 0 97) - (1 : Int32)) := ez1
    refine va_put (D := rD g) (ci := 13) (v := .int ((qI U27 0 97) - (1 : Int32))) (ty := .int) (C := RX14) (T := TX14) (N := 143) hx hb hts in2X14 tyX14 tyX14_ok nmX14 hown hR.K hR.P hR.D hR.sS 0 (hR.at14 hR.w.1) rfl 97 (by decide) (hts _ kx_616) (fun _ h9 => h9) rfl (by decide +kernel) rfl rfl (Nat.le_of_ble_eq_true rfl) dX14_leave_35 (fun H locs hP hD hS => ?_)
    have hR : Rep g ad A s (wI U27 0 97 ((qI U27 0 97) - (1 : Int32))) H locs := hR.pI hR.w.1 F14_s97 hP hD hS
    obtain ⟨S2, eS2⟩ : ∃ z, z = wI U27 0 97 ((qI U27 0 97) - (1 : Int32)) := ⟨_, rfl⟩
    rw [← eS2] at hR
    replace h := h S2 eS2
    have hsh : shy S S2 := by rw [eS2]; exact hsh
    refine lv_aload_n hx hb dX14_leave_38 rfl (lv_at hl 1 rfl) ?_
    refine va_get (D := rD g) (ci := 13) (v := .int (qI S2 0 97)) (C := RX14) (T := TX14) (N := 143) hx hb hts in2X14 hown hR.K hR.P 0 (hR.at14 hR.w.1) rfl 97 (by decide) (hts _ kx_616) (fun _ h9 => h9) rfl dX14_leave_39 ?_
    refine lv_if_ne (tgt := 56) hx hb dX14_leave_42 (by decide) (fun c3 => ?_) (fun c3 => ?_)
    · replace h := h.2 (k_ne rfl (by decide) c3)
      refine lv_iload_n hx hb dX14_leave_56 rfl (lv_at hl 2 rfl) ?_
      refine lv_sipush (v := 172) hx hb dX14_leave_57 (by decide) ?_
      have J_96 : ∀ (U96 : MS) (H : Heap) (locs : List Loc) (ls : Array Slot), w_leave_J96 Q U96 → shy S U96 → Rep g ad A s U96 H locs → lv_has ls 4 [(0, .ref (ad 0))] → W p l e (headSpec (wt2 yX14_leave cX14_leave 4 none) ({ frames := 2, cells := 0, slots := 0, locals := 48 })).room s m ([.ref (ad 0), .int x1] : List Value).toArray below meth c H locs 0 0 (MQ below (va_Qv (fun (u : MS) => Q u ∧ wfM u ∧ shy S u) (fun (u : MS) (t : State) => qE g ad A u t) A) ([.ref (ad 0), .int x1] : List Value).toArray s 0 0 A) (F0 m 96 ls []) := by
        intro U96 H locs ls h hsh hR hl
        unfold w_leave_J96 at h
        refine lv_aload_n hx hb dX14_leave_96 rfl (lv_at hl 0 rfl) ?_
        refine lv_aload_n hx hb dX14_leave_97 rfl (lv_at hl 0 rfl) ?_
        refine va_get (D := rD g) (ci := 13) (v := .ref (ad 43)) (C := RX14) (T := TX14) (N := 143) hx hb hts in2X14 hown hR.K hR.P 0 (hR.at14 hR.w.1) rfl 90 (by decide) (hts _ kx_622) (fun _ h9 => h9) (congrArg (fun z => some (vf ad z)) (hR.w.2.1 _ fin_90).1) dX14_leave_98 ?_
        refine lv_aload_n hx hb dX14_leave_101 rfl (lv_at hl 0 rfl) ?_
        refine va_get (D := rD g) (ci := 13) (v := .int (qI U96 0 97)) (C := RX14) (T := TX14) (N := 143) hx hb hts in2X14 hown hR.K hR.P 0 (hR.at14 hR.w.1) rfl 97 (by decide) (hts _ kx_616) (fun _ h9 => h9) rfl dX14_leave_102 ?_
        refine lv_iconst (v := 1) hx hb dX14_leave_105 (by decide) ?_
        refine lv_isub hx hb dX14_leave_106 ?_
        refine lv_topi (fun z4 ez4 => ?_)
        obtain rfl : z4 = ((qI U96 0 97) - (1 : Int32)) := ez4
        obtain ⟨hv5, h⟩ := h
        refine va_iald hx hb hR.K hR.P 43 1 (hR.atI (hR.w.2.1 _ fin_90).2.1) rfl (k_ixN (k_ix (n := 60) (x := ((qI U96 0 97) - (1 : Int32))) (a := ((qI U96 0 97) - (1 : Int32)).toInt) rfl hv5) (hR.w.2.1 _ fin_90).2.2) dX14_leave_107 ?_
        refine lv_topi (fun z6 ez6 => ?_)
        obtain rfl : z6 = (qI U96 43 ((((qI U96 0 97) - (1 : Int32)).toInt).toNat)) := ez6
        refine lv_iconst (v := 1) hx hb dX14_leave_108 (by decide) ?_
        refine lv_iadd hx hb dX14_leave_109 ?_
        refine lv_topi (fun z7 ez7 => ?_)
        obtain rfl : z7 = ((qI U96 43 ((((qI U96 0 97) - (1 : Int32)).toInt).toNat)) + (1 : Int32)) := ez7
        obtain ⟨Q8, h0, h⟩ := h
        have hFc := rfree hR hA
        refine va_callv (va_runV (As := [.int ((qI U96 43 ((((qI U96 0 97) - (1 : Int32)).toInt).toNat)) + (1 : Int32))]) (rest := []) ⟨hx, hb, hml, hown, hts⟩ (r_goTo l g ad H.size U96 ((qI U96 43 ((((qI U96 0 97) - (1 : Int32)).toInt).toNat)) + (1 : Int32)) hR.w  Q8 h0) (cwV 1 hts (gd2_V kx_644 kx_645 kx_646 kx_177 kx_647) rfl rfl rfl (by decide +kernel) ⟨Nat.le_of_ble_eq_true rfl, Nat.le_of_ble_eq_true rfl⟩) ⟨rblind, va_recv hR.K hR.P (ci := 13) (q0 := 0) rfl (hR.at14 hR.w.1), fun U hU hW9 => rmk hU hW9 hR hex hE hFc⟩ rfl rfl hl.1 rfl (lv_room (Nat.le_of_ble_eq_true rfl)) dX14_leave_110 ⟨Nat.le_of_ble_eq_true rfl, Nat.le_of_ble_eq_true rfl⟩) hR.sS (fun q _ h => hFc q h) hFc (fun  S9 t9 H1 locs ht9 hvm9 hw9 hB9 hz9 hk9 hS => ?_)
        obtain ⟨hq10, hw9, hs9⟩ := hw9
        have hR : Rep g ad A s S9 H1 locs := hR.call ht9 hB9 hw9 hS hFc
        have hsh := hsh.tr hs9
        replace h := h  S9 hq10
        clear hB9 hz9 hk9 hvm9 ht9 hw9 hs9 hS
        generalize H1 = H at hR ⊢
        exact W.vret hx hb hr (fun t9 ht9 hW9 => ⟨⟨S9, rfl, ⟨h, hR.w, hsh⟩, ⟨by rw [ht9]; exact hR.P, hR.D⟩⟩, hR.sS.F ht9⟩) hR.sS.2.2 dX14_leave_113
      refine lv_icmp_ne (tgt := 72) hx hb dX14_leave_60 (by decide) (fun c11 => ?_) (fun c11 => ?_)
      · replace h := h.2 (k_ne rfl (by decide) c11)
        refine lv_iload_n hx hb dX14_leave_72 rfl (lv_at hl 2 rfl) ?_
        refine lv_sipush (v := 177) hx hb dX14_leave_73 (by decide) ?_
        refine lv_icmp_eq (tgt := 96) hx hb dX14_leave_76 (by decide) (fun c12 => ?_) (fun c12 => ?_)
        · replace h := h.1 (k_eq rfl (by decide) c12)
          exact J_96 S2 _ _ ls h  hsh hR (lv_sub hl [1] rfl)
        · replace h := h.2 (k_ne rfl (by decide) c12)
          refine lv_aload_n hx hb dX14_leave_79 rfl (lv_at hl 1 rfl) ?_
          refine lv_lload_n hx hb dX14_leave_80 rfl (lv_at hl 0 rfl) ?_
          refine lv_iload_n hx hb dX14_leave_81 rfl (lv_at hl 2 rfl) ?_
          refine lv_sipush (v := 173) hx hb dX14_leave_82 (by decide) ?_
          have J_93 : ∀ (U93 : MS) (t93_0 : Int32) (t93_1 : Int64) (H : Heap) (locs : List Loc) (ls : Array Slot), w_leave_J93 Q U93 t93_0 t93_1 → shy S U93 → Rep g ad A s U93 H locs → lv_has ls 4 [(0, .ref (ad 0))] → W p l e (headSpec (wt2 yX14_leave cX14_leave 4 none) ({ frames := 2, cells := 0, slots := 0, locals := 48 })).room s m ([.ref (ad 0), .int x1] : List Value).toArray below meth c H locs 0 0 (MQ below (va_Qv (fun (u : MS) => Q u ∧ wfM u ∧ shy S u) (fun (u : MS) (t : State) => qE g ad A u t) A) ([.ref (ad 0), .int x1] : List Value).toArray s 0 0 A) (F0 m 93 ls [.int t93_0, .long t93_1, .ref (ad 0)]) := by
            intro U93 t93_0 t93_1 H locs ls h hsh hR hl
            unfold w_leave_J93 at h
            obtain ⟨Q13, h0, h⟩ := h
            have hFc := rfree hR hA
            refine va_callv (va_runV (As := [.long t93_1, .int t93_0]) (rest := []) ⟨hx, hb, hml, hown, hts⟩ (r_put l g ad H.size U93 t93_1 t93_0 hR.w  Q13 h0) (cwV 2 hts (gd2_V kx_948 kx_949 kx_950 kx_177 kx_951) rfl rfl rfl (by decide +kernel) ⟨Nat.le_of_ble_eq_true rfl, Nat.le_of_ble_eq_true rfl⟩) ⟨rblind, va_recv hR.K hR.P (ci := 13) (q0 := 0) rfl (hR.at14 hR.w.1), fun U hU hW9 => rmk hU hW9 hR hex hE hFc⟩ rfl rfl hl.1 rfl (lv_room (Nat.le_of_ble_eq_true rfl)) dX14_leave_93 ⟨Nat.le_of_ble_eq_true rfl, Nat.le_of_ble_eq_true rfl⟩) hR.sS (fun q _ h => hFc q h) hFc (fun  S14 t9 H1 locs ht9 hvm9 hw9 hB9 hz9 hk9 hS => ?_)
            obtain ⟨hq15, hw9, hs9⟩ := hw9
            have hR : Rep g ad A s S14 H1 locs := hR.call ht9 hB9 hw9 hS hFc
            have hsh := hsh.tr hs9
            replace h := h  S14 hq15
            clear hB9 hz9 hk9 hvm9 ht9 hw9 hs9 hS
            generalize H1 = H at hR ⊢
            exact J_96 S14 _ _ ls h  hsh hR (lv_sub hl [0] rfl)
          refine lv_icmp_ne (tgt := 92) hx hb dX14_leave_85 (by decide) (fun c16 => ?_) (fun c16 => ?_)
          · replace h := h.2 (k_ne rfl (by decide) c16)
            refine lv_iconst (v := 1) hx hb dX14_leave_92 (by decide) ?_
            exact J_93 S2 1 t27_0 _ _ ls h  hsh hR (lv_sub hl [1] rfl)
          · replace h := h.1 (k_eq rfl (by decide) c16)
            refine lv_iconst (v := 2) hx hb dX14_leave_88 (by decide) ?_
            refine lv_goto (tgt := 93) hx hb dX14_leave_89 (by decide) ?_
            exact J_93 S2 2 t27_0 _ _ ls h  hsh hR (lv_sub hl [1] rfl)
      · replace h := h.1 (k_eq rfl (by decide) c11)
        refine lv_aload_n hx hb dX14_leave_63 rfl (lv_at hl 1 rfl) ?_
        refine lv_lload_n hx hb dX14_leave_64 rfl (lv_at hl 0 rfl) ?_
        refine lv_l2i (v := (t27_0.toInt32)) hx hb dX14_leave_65 rfl ?_
        obtain ⟨Q17, h0, h⟩ := h
        have hFc := rfree hR hA
        refine va_callv (va_runV (As := [.int (t27_0.toInt32)]) (rest := []) ⟨hx, hb, hml, hown, hts⟩ (r_putInt l g ad H.size S2 (t27_0.toInt32) hR.w  Q17 h0) (cwV 1 hts (gd2_V kx_652 kx_653 kx_654 kx_177 kx_655) rfl rfl rfl (by decide +kernel) ⟨Nat.le_of_ble_eq_true rfl, Nat.le_of_ble_eq_true rfl⟩) ⟨rblind, va_recv hR.K hR.P (ci := 13) (q0 := 0) rfl (hR.at14 hR.w.1), fun U hU hW9 => rmk hU hW9 hR hex hE hFc⟩ rfl rfl hl.1 rfl (lv_room (Nat.le_of_ble_eq_true rfl)) dX14_leave_66 ⟨Nat.le_of_ble_eq_true rfl, Nat.le_of_ble_eq_true rfl⟩) hR.sS (fun q _ h => hFc q h) hFc (fun  S18 t9 H1 locs ht9 hvm9 hw9 hB9 hz9 hk9 hS => ?_)
        obtain ⟨hq19, hw9, hs9⟩ := hw9
        have hR : Rep g ad A s S18 H1 locs := hR.call ht9 hB9 hw9 hS hFc
        have hsh := hsh.tr hs9
        replace h := h  S18 hq19
        clear hB9 hz9 hk9 hvm9 ht9 hw9 hs9 hS
        generalize H1 = H at hR ⊢
        refine lv_goto (tgt := 96) hx hb dX14_leave_69 (by decide) ?_
        exact J_96 S18 _ _ ls h  hsh hR (lv_sub hl [1] rfl)
    · replace h := h.1 (k_eq rfl (by decide) c3)
      refine lv_aload_n hx hb dX14_leave_45 rfl (lv_at hl 1 rfl) ?_
      refine lv_iconst (v := 0) hx hb dX14_leave_46 (by decide) ?_
      refine va_put (D := rD g) (ci := 13) (v := .int 0) (ty := .int) (C := RX14) (T := TX14) (N := 143) hx hb hts in2X14 tyX14 tyX14_ok nmX14 hown hR.K hR.P hR.D hR.sS 0 (hR.at14 hR.w.1) rfl 98 (by decide) (hts _ kx_617) (fun _ h9 => h9) rfl (by decide +kernel) rfl rfl (Nat.le_of_ble_eq_true rfl) dX14_leave_47 (fun H locs hP hD hS => ?_)
      have hR : Rep g ad A s (wI S2 0 98 0) H locs := hR.pI hR.w.1 F14_s98 hP hD hS
      obtain ⟨S20, eS20⟩ : ∃ z, z = wI S2 0 98 0 := ⟨_, rfl⟩
      rw [← eS20] at hR
      replace h := h S20 eS20
      have hsh : shy S S20 := by rw [eS20]; exact hsh
      refine lv_aload_n hx hb dX14_leave_50 rfl (lv_at hl 1 rfl) ?_
      refine lv_lload_n hx hb dX14_leave_51 rfl (lv_at hl 0 rfl) ?_
      refine va_put (D := rD g) (ci := 13) (v := .long t27_0) (ty := .long) (C := RX14) (T := TX14) (N := 143) hx hb hts in2X14 tyX14 tyX14_ok nmX14 hown hR.K hR.P hR.D hR.sS 0 (hR.at14 hR.w.1) rfl 101 (by decide) (hts _ kx_619) (fun _ h9 => h9) rfl (by decide +kernel) rfl rfl (Nat.le_of_ble_eq_true rfl) dX14_leave_52 (fun H locs hP hD hS => ?_)
      have hR : Rep g ad A s (wJ S20 0 101 t27_0) H locs := hR.pJ hR.w.1 F14_s101 hP hD hS
      obtain ⟨S21, eS21⟩ : ∃ z, z = wJ S20 0 101 t27_0 := ⟨_, rfl⟩
      rw [← eS21] at hR
      replace h := h S21 eS21
      have hsh : shy S S21 := by rw [eS21]; exact hsh
      exact W.vret hx hb hr (fun t9 ht9 hW9 => ⟨⟨S21, rfl, ⟨h, hR.w, hsh⟩, ⟨by rw [ht9]; exact hR.P, hR.D⟩⟩, hR.sS.F ht9⟩) hR.sS.2.2 dX14_leave_55
  refine lv_icmp_ne (tgt := 11) hx hb dX14_leave_4 (by decide) (fun c22 => ?_) (fun c22 => ?_)
  · replace h := h.2 (k_ne rfl (by decide) c22)
    refine lv_aload_n hx hb dX14_leave_11 rfl (lv_at hl 0 rfl) ?_
    refine lv_iload_n hx hb dX14_leave_12 rfl (lv_at hl 1 rfl) ?_
    refine lv_sipush (v := 173) hx hb dX14_leave_13 (by decide) ?_
    have J_24 : ∀ (U24 : MS) (t24_0 : Int32) (v24_1 : Int32) (H : Heap) (locs : List Loc) (ls : Array Slot), w_leave_J24 Q U24 t24_0 v24_1 → shy S U24 → Rep g ad A s U24 H locs → lv_has ls 4 [(0, .ref (ad 0)), (1, .int v24_1)] → W p l e (headSpec (wt2 yX14_leave cX14_leave 4 none) ({ frames := 2, cells := 0, slots := 0, locals := 48 })).room s m ([.ref (ad 0), .int x1] : List Value).toArray below meth c H locs 0 0 (MQ below (va_Qv (fun (u : MS) => Q u ∧ wfM u ∧ shy S u) (fun (u : MS) (t : State) => qE g ad A u t) A) ([.ref (ad 0), .int x1] : List Value).toArray s 0 0 A) (F0 m 24 ls [.int t24_0, .ref (ad 0)]) := by
      intro U24 t24_0 v24_1 H locs ls h hsh hR hl
      unfold w_leave_J24 at h
      obtain ⟨Q23, h0, h⟩ := h
      have hFc := rfree hR hA
      refine va_calll (va_runV (As := [.int t24_0]) (rest := []) ⟨hx, hb, hml, hown, hts⟩ (r_got l g ad H.size U24 t24_0 hR.w  Q23 h0) (cwV 1 hts (gd2_V kx_635 kx_636 kx_637 kx_177 kx_638) rfl rfl rfl (by decide +kernel) ⟨Nat.le_of_ble_eq_true rfl, Nat.le_of_ble_eq_true rfl⟩) ⟨rblind, va_recv hR.K hR.P (ci := 13) (q0 := 0) rfl (hR.at14 hR.w.1), fun U hU hW9 => rmk hU hW9 hR hex hE hFc⟩ rfl rfl hl.1 rfl (lv_room (Nat.le_of_ble_eq_true rfl)) dX14_leave_24 ⟨Nat.le_of_ble_eq_true rfl, Nat.le_of_ble_eq_true rfl⟩) hR.sS (fun q _ h => hFc q h) hFc (fun r24 S25 t9 H1 locs ht9 hvm9 hw9 hB9 hz9 hk9 hS => ?_)
      obtain ⟨hq26, hw9, hs9⟩ := hw9
      have hR : Rep g ad A s S25 H1 locs := hR.call ht9 hB9 hw9 hS hFc
      have hsh := hsh.tr hs9
      replace h := h r24 S25 hq26
      clear hB9 hz9 hk9 hvm9 ht9 hw9 hs9 hS
      generalize H1 = H at hR ⊢
      exact J_27 S25 r24 v24_1 _ _ ls h  hsh hR (lv_sub hl [0, 1] rfl)
    refine lv_icmp_ne (tgt := 23) hx hb dX14_leave_16 (by decide) (fun c27 => ?_) (fun c27 => ?_)
    · replace h := h.2 (k_ne rfl (by decide) c27)
      refine lv_iconst (v := 1) hx hb dX14_leave_23 (by decide) ?_
      exact J_24 S 1 x1 _ _ ls h  hsh hR (lv_sub hl [0, 1] rfl)
    · replace h := h.1 (k_eq rfl (by decide) c27)
      refine lv_iconst (v := 2) hx hb dX14_leave_19 (by decide) ?_
      refine lv_goto (tgt := 24) hx hb dX14_leave_20 (by decide) ?_
      exact J_24 S 2 x1 _ _ ls h  hsh hR (lv_sub hl [0, 1] rfl)
  · replace h := h.1 (k_eq rfl (by decide) c22)
    refine lv_lconst (v := 0) hx hb dX14_leave_7 (by decide) ?_
    refine lv_goto (tgt := 27) hx hb dX14_leave_8 (by decide) ?_
    exact J_27 S 0 x1 _ _ ls h  hsh hR (lv_sub hl [0, 1] rfl)
def w_made_J36 (Q : Int32 → MS → Prop) (U36 : MS) : Prop := (∀ S4, S4 = wI U36 0 98 4 → Q (0 : Int32) S4)
def w_made (S : MS) (x1 : Int32) (Q : Int32 → MS → Prop) : Prop := ((0 ≤ x1.toInt → ((0 < (lg_cmp (((qI S 0 86).toInt64) + (x1.toInt64)) (20000 : Int64)).toInt → w_made_J36 Q S) ∧ (¬ 0 < (lg_cmp (((qI S 0 86).toInt64) + (x1.toInt64)) (20000 : Int64)).toInt → (((qI S 0 85).toInt = 400 → w_made_J36 Q S) ∧ (¬ (qI S 0 85).toInt = 400 → (∀ S8, S8 = wI S 0 85 ((qI S 0 85) + (1 : Int32)) → (((0 : Int) ≤ (qI S8 0 85).toInt ∧ (qI S8 0 85).toInt < 401) ∧ (∀ S10, S10 = wI S8 39 (((qI S8 0 85).toInt).toNat) (qI S8 0 86) → (((0 : Int) ≤ (qI S10 0 85).toInt ∧ (qI S10 0 85).toInt < 401) ∧ (∀ S12, S12 = wI S10 40 (((qI S10 0 85).toInt).toNat) x1 → (∀ S14, S14 = wI S12 0 86 ((qI S12 0 86) + x1) → (∃ Q15, w_put S14 ((qI S14 0 85).toInt64) (1 : Int32) Q15 ∧ ∀ S16, Q15 S16 → Q (1 : Int32) S16)))))))))))) ∧ (¬ 0 ≤ x1.toInt → (∃ Q18, w_throwError S (3 : Int32) Q18 ∧ ∀ S19, Q18 S19 → Q (0 : Int32) S19)))
set_option maxHeartbeats 2000000 in
set_option maxRecDepth 100000 in
theorem r_made (l : Launch) (g : Gr) (ad : Nat → Nat) (sz : Nat) (S : MS) (x1 : Int32) (hw : wfM S) (Q : Int32 → MS → Prop) (h : w_made S x1 Q) : Met l yX14_made (wt2 yX14_made cX14_made 2 (some .boolean)) ({ frames := 3, cells := 0, slots := 0, locals := 71 }) (va_Pc [.ref (ad 0), .int x1] (st_R g ad sz S)) (va_Qi (fun (r : Int32) (u : MS) => Q r u ∧ wfM u ∧ shy S u ∧ (r = 0 ∨ r = 1)) (fun (u : MS) (t : State) => qE g ad (va_A (Wd g ad S) sz) u t) (va_A (Wd g ad S) sz)) 0 0 (va_A (Wd g ad S) sz) := by
  refine Met.ofW (cc := cX14_made) (maxL := 2) (ret := (some .boolean)) (by decide) rfl ?_
  intro p e s m args below meth c s₁ B hml hv
  obtain ⟨rfl, hsz, hP, hK, hD0, hex, hE⟩ := hv
  have hx := B.exec
  have hb := B.bytes
  have hr := B.returns
  have hts0 := atoms_spec (ws := wt2 yX14_made cX14_made 2 (some .boolean)) B.pre
  have hts : ∀ w ∈ tb2, w.before _ s = true := fun w h => hts0 w (List.mem_cons_of_mem _ h)
  have hown : s.vm.findClass RX14 = some m.cls := findClass_of_methodNamed B.named
  subst hsz
  have hD := hD0.self (sz := s.heap.size)
  generalize hAe : va_A (Wd g ad S) s.heap.size = A at hD hE ⊢
  have hA : ∀ q : Nat, s.heap.size ≤ q → A q := fun q h => by rw [← hAe]; exact Or.inr h
  have hR : Rep g ad A s S s.heap [] := ⟨hK, hP, hD, va_S.rf, hw⟩
  clear hK hP hD hD0
  have hl := lv_entry ([.ref (ad 0), .int x1]) (n := 2) (Nat.le_of_ble_eq_true rfl)
  rw [lg_entry_eq]
  generalize (lg_sl ([.ref (ad 0), .int x1]) ++ List.replicate (2 - (lg_sl ([.ref (ad 0), .int x1])).length) Slot.unset).toArray = ls at hl ⊢
  have hl : lv_has ls 2 [(0, .ref (ad 0)), (1, .int x1)] := hl
  have hsh : shy S S := shy.rf
  unfold w_made at h
  refine lv_iload_n hx hb dX14_made_0 rfl (lv_at hl 1 rfl) ?_
  refine lv_if_ge (tgt := 11) hx hb dX14_made_1 (by decide) (fun c1 => ?_) (fun c1 => ?_)
  · replace h := h.1 (k_le (by decide) rfl c1)
    refine lv_aload_n hx hb dX14_made_11 rfl (lv_at hl 0 rfl) ?_
    refine va_get (D := rD g) (ci := 13) (v := .int (qI S 0 86)) (C := RX14) (T := TX14) (N := 143) hx hb hts in2X14 hown hR.K hR.P 0 (hR.at14 hR.w.1) rfl 86 (by decide) (hts _ kx_610) (fun _ h9 => h9) rfl dX14_made_12 ?_
    refine lv_i2l (v := ((qI S 0 86).toInt64)) hx hb dX14_made_15 rfl ?_
    refine lv_iload_n hx hb dX14_made_16 rfl (lv_at hl 1 rfl) ?_
    refine lv_i2l (v := (x1.toInt64)) hx hb dX14_made_17 rfl ?_
    refine lv_ladd hx hb dX14_made_18 ?_
    refine lv_topl (fun z2 ez2 => ?_)
    obtain rfl : z2 = (((qI S 0 86).toInt64) + (x1.toInt64)) := ez2
    refine lv_ldc2 hx hb hown (hts _ kx_666) dX14_made_19 ?_
    refine W.lcmp hx hb dX14_made_22 ?_
    refine lv_topi (fun z3 ez3 => ?_)
    obtain rfl : z3 = (lg_cmp (((qI S 0 86).toInt64) + (x1.toInt64)) (20000 : Int64)) := ez3
    have J_36 : ∀ (U36 : MS) (H : Heap) (locs : List Loc) (ls : Array Slot), w_made_J36 Q U36 → shy S U36 → Rep g ad A s U36 H locs → lv_has ls 2 [(0, .ref (ad 0))] → W p l e (headSpec (wt2 yX14_made cX14_made 2 (some .boolean)) ({ frames := 3, cells := 0, slots := 0, locals := 71 })).room s m ([.ref (ad 0), .int x1] : List Value).toArray below meth c H locs 0 0 (MQ below (va_Qi (fun (r : Int32) (u : MS) => Q r u ∧ wfM u ∧ shy S u ∧ (r = 0 ∨ r = 1)) (fun (u : MS) (t : State) => qE g ad A u t) A) ([.ref (ad 0), .int x1] : List Value).toArray s 0 0 A) (F0 m 36 ls []) := by
      intro U36 H locs ls h hsh hR hl
      unfold w_made_J36 at h
      refine lv_aload_n hx hb dX14_made_36 rfl (lv_at hl 0 rfl) ?_
      refine lv_iconst (v := 4) hx hb dX14_made_37 (by decide) ?_
      refine va_put (D := rD g) (ci := 13) (v := .int 4) (ty := .int) (C := RX14) (T := TX14) (N := 143) hx hb hts in2X14 tyX14 tyX14_ok nmX14 hown hR.K hR.P hR.D hR.sS 0 (hR.at14 hR.w.1) rfl 98 (by decide) (hts _ kx_617) (fun _ h9 => h9) rfl (by decide +kernel) rfl rfl (Nat.le_of_ble_eq_true rfl) dX14_made_38 (fun H locs hP hD hS => ?_)
      have hR : Rep g ad A s (wI U36 0 98 4) H locs := hR.pI hR.w.1 F14_s98 hP hD hS
      obtain ⟨S4, eS4⟩ : ∃ z, z = wI U36 0 98 4 := ⟨_, rfl⟩
      rw [← eS4] at hR
      replace h := h S4 eS4
      have hsh : shy S S4 := by rw [eS4]; exact hsh
      refine lv_iconst (v := 0) hx hb dX14_made_41 (by decide) ?_
      exact W.zret (v := 0) hx hb hr (nz (Or.inl rfl)) (fun t9 ht9 hW9 => ⟨⟨_, S4, rfl, ⟨h, hR.w, hsh, (Or.inl rfl)⟩, ⟨by rw [ht9]; exact hR.P, hR.D⟩⟩, hR.sS.F ht9⟩) hR.sS.2.2 dX14_made_42
    refine lv_if_gt (tgt := 36) hx hb dX14_made_23 (by decide) (fun c5 => ?_) (fun c5 => ?_)
    · replace h := h.1 (k_lt (by decide) rfl c5)
      exact J_36 S _ _ ls h  hsh hR (lv_sub hl [0] rfl)
    · replace h := h.2 (k_nlt (by decide) rfl c5)
      refine lv_aload_n hx hb dX14_made_26 rfl (lv_at hl 0 rfl) ?_
      refine va_get (D := rD g) (ci := 13) (v := .int (qI S 0 85)) (C := RX14) (T := TX14) (N := 143) hx hb hts in2X14 hown hR.K hR.P 0 (hR.at14 hR.w.1) rfl 85 (by decide) (hts _ kx_609) (fun _ h9 => h9) rfl dX14_made_27 ?_
      refine lv_sipush (v := 400) hx hb dX14_made_30 (by decide) ?_
      refine lv_icmp_ne (tgt := 43) hx hb dX14_made_33 (by decide) (fun c6 => ?_) (fun c6 => ?_)
      · replace h := h.2 (k_ne rfl (by decide) c6)
        refine lv_aload_n hx hb dX14_made_43 rfl (lv_at hl 0 rfl) ?_
        refine lv_dup hx hb dX14_made_44 rfl ?_
        refine va_get (D := rD g) (ci := 13) (v := .int (qI S 0 85)) (C := RX14) (T := TX14) (N := 143) hx hb hts in2X14 hown hR.K hR.P 0 (hR.at14 hR.w.1) rfl 85 (by decide) (hts _ kx_609) (fun _ h9 => h9) rfl dX14_made_45 ?_
        refine lv_iconst (v := 1) hx hb dX14_made_48 (by decide) ?_
        refine lv_iadd hx hb dX14_made_49 ?_
        refine lv_topi (fun z7 ez7 => ?_)
        obtain rfl : z7 = ((qI S 0 85) + (1 : Int32)) := ez7
        refine va_put (D := rD g) (ci := 13) (v := .int ((qI S 0 85) + (1 : Int32))) (ty := .int) (C := RX14) (T := TX14) (N := 143) hx hb hts in2X14 tyX14 tyX14_ok nmX14 hown hR.K hR.P hR.D hR.sS 0 (hR.at14 hR.w.1) rfl 85 (by decide) (hts _ kx_609) (fun _ h9 => h9) rfl (by decide +kernel) rfl rfl (Nat.le_of_ble_eq_true rfl) dX14_made_50 (fun H locs hP hD hS => ?_)
        have hR : Rep g ad A s (wI S 0 85 ((qI S 0 85) + (1 : Int32))) H locs := hR.pI hR.w.1 F14_s85 hP hD hS
        obtain ⟨S8, eS8⟩ : ∃ z, z = wI S 0 85 ((qI S 0 85) + (1 : Int32)) := ⟨_, rfl⟩
        rw [← eS8] at hR
        replace h := h S8 eS8
        have hsh : shy S S8 := by rw [eS8]; exact hsh
        refine lv_aload_n hx hb dX14_made_53 rfl (lv_at hl 0 rfl) ?_
        refine va_get (D := rD g) (ci := 13) (v := .ref (ad 39)) (C := RX14) (T := TX14) (N := 143) hx hb hts in2X14 hown hR.K hR.P 0 (hR.at14 hR.w.1) rfl 83 (by decide) (hts _ kx_667) (fun _ h9 => h9) (congrArg (fun z => some (vf ad z)) (hR.w.2.1 _ fin_83).1) dX14_made_54 ?_
        refine lv_aload_n hx hb dX14_made_57 rfl (lv_at hl 0 rfl) ?_
        refine va_get (D := rD g) (ci := 13) (v := .int (qI S8 0 85)) (C := RX14) (T := TX14) (N := 143) hx hb hts in2X14 hown hR.K hR.P 0 (hR.at14 hR.w.1) rfl 85 (by decide) (hts _ kx_609) (fun _ h9 => h9) rfl dX14_made_58 ?_
        refine lv_aload_n hx hb dX14_made_61 rfl (lv_at hl 0 rfl) ?_
        refine va_get (D := rD g) (ci := 13) (v := .int (qI S8 0 86)) (C := RX14) (T := TX14) (N := 143) hx hb hts in2X14 hown hR.K hR.P 0 (hR.at14 hR.w.1) rfl 86 (by decide) (hts _ kx_610) (fun _ h9 => h9) rfl dX14_made_62 ?_
        obtain ⟨hv9, h⟩ := h
        refine va_iast hx hb hR.K hR.P hR.D hR.sS 39 1 (hR.atI (hR.w.2.1 _ fin_83).2.1) rfl (k_ixN (k_ix (n := 401) (x := (qI S8 0 85)) (a := (qI S8 0 85).toInt) rfl hv9) (hR.w.2.1 _ fin_83).2.2) dX14_made_65 (fun H locs hP hD hS => ?_)
        have hR : Rep g ad A s (wI S8 39 (((qI S8 0 85).toInt).toNat) (qI S8 0 86)) H locs := hR.aI (hR.w.2.1 _ fin_83).2.1 hP hD hS
        obtain ⟨S10, eS10⟩ : ∃ z, z = wI S8 39 (((qI S8 0 85).toInt).toNat) (qI S8 0 86) := ⟨_, rfl⟩
        rw [← eS10] at hR
        replace h := h S10 eS10
        have hsh : shy S S10 := by rw [eS10]; exact hsh
        refine lv_aload_n hx hb dX14_made_66 rfl (lv_at hl 0 rfl) ?_
        refine va_get (D := rD g) (ci := 13) (v := .ref (ad 40)) (C := RX14) (T := TX14) (N := 143) hx hb hts in2X14 hown hR.K hR.P 0 (hR.at14 hR.w.1) rfl 84 (by decide) (hts _ kx_668) (fun _ h9 => h9) (congrArg (fun z => some (vf ad z)) (hR.w.2.1 _ fin_84).1) dX14_made_67 ?_
        refine lv_aload_n hx hb dX14_made_70 rfl (lv_at hl 0 rfl) ?_
        refine va_get (D := rD g) (ci := 13) (v := .int (qI S10 0 85)) (C := RX14) (T := TX14) (N := 143) hx hb hts in2X14 hown hR.K hR.P 0 (hR.at14 hR.w.1) rfl 85 (by decide) (hts _ kx_609) (fun _ h9 => h9) rfl dX14_made_71 ?_
        refine lv_iload_n hx hb dX14_made_74 rfl (lv_at hl 1 rfl) ?_
        obtain ⟨hv11, h⟩ := h
        refine va_iast hx hb hR.K hR.P hR.D hR.sS 40 1 (hR.atI (hR.w.2.1 _ fin_84).2.1) rfl (k_ixN (k_ix (n := 401) (x := (qI S10 0 85)) (a := (qI S10 0 85).toInt) rfl hv11) (hR.w.2.1 _ fin_84).2.2) dX14_made_75 (fun H locs hP hD hS => ?_)
        have hR : Rep g ad A s (wI S10 40 (((qI S10 0 85).toInt).toNat) x1) H locs := hR.aI (hR.w.2.1 _ fin_84).2.1 hP hD hS
        obtain ⟨S12, eS12⟩ : ∃ z, z = wI S10 40 (((qI S10 0 85).toInt).toNat) x1 := ⟨_, rfl⟩
        rw [← eS12] at hR
        replace h := h S12 eS12
        have hsh : shy S S12 := by rw [eS12]; exact hsh
        refine lv_aload_n hx hb dX14_made_76 rfl (lv_at hl 0 rfl) ?_
        refine lv_dup hx hb dX14_made_77 rfl ?_
        refine va_get (D := rD g) (ci := 13) (v := .int (qI S12 0 86)) (C := RX14) (T := TX14) (N := 143) hx hb hts in2X14 hown hR.K hR.P 0 (hR.at14 hR.w.1) rfl 86 (by decide) (hts _ kx_610) (fun _ h9 => h9) rfl dX14_made_78 ?_
        refine lv_iload_n hx hb dX14_made_81 rfl (lv_at hl 1 rfl) ?_
        refine lv_iadd hx hb dX14_made_82 ?_
        refine lv_topi (fun z13 ez13 => ?_)
        obtain rfl : z13 = ((qI S12 0 86) + x1) := ez13
        refine va_put (D := rD g) (ci := 13) (v := .int ((qI S12 0 86) + x1)) (ty := .int) (C := RX14) (T := TX14) (N := 143) hx hb hts in2X14 tyX14 tyX14_ok nmX14 hown hR.K hR.P hR.D hR.sS 0 (hR.at14 hR.w.1) rfl 86 (by decide) (hts _ kx_610) (fun _ h9 => h9) rfl (by decide +kernel) rfl rfl (Nat.le_of_ble_eq_true rfl) dX14_made_83 (fun H locs hP hD hS => ?_)
        have hR : Rep g ad A s (wI S12 0 86 ((qI S12 0 86) + x1)) H locs := hR.pI hR.w.1 F14_s86 hP hD hS
        obtain ⟨S14, eS14⟩ : ∃ z, z = wI S12 0 86 ((qI S12 0 86) + x1) := ⟨_, rfl⟩
        rw [← eS14] at hR
        replace h := h S14 eS14
        have hsh : shy S S14 := by rw [eS14]; exact hsh
        refine lv_aload_n hx hb dX14_made_86 rfl (lv_at hl 0 rfl) ?_
        refine lv_aload_n hx hb dX14_made_87 rfl (lv_at hl 0 rfl) ?_
        refine va_get (D := rD g) (ci := 13) (v := .int (qI S14 0 85)) (C := RX14) (T := TX14) (N := 143) hx hb hts in2X14 hown hR.K hR.P 0 (hR.at14 hR.w.1) rfl 85 (by decide) (hts _ kx_609) (fun _ h9 => h9) rfl dX14_made_88 ?_
        refine lv_i2l (v := ((qI S14 0 85).toInt64)) hx hb dX14_made_91 rfl ?_
        refine lv_iconst (v := 1) hx hb dX14_made_92 (by decide) ?_
        obtain ⟨Q15, h0, h⟩ := h
        have hFc := rfree hR hA
        refine va_callv (va_runV (As := [.long ((qI S14 0 85).toInt64), .int 1]) (rest := []) ⟨hx, hb, hml, hown, hts⟩ (r_put l g ad H.size S14 ((qI S14 0 85).toInt64) (1 : Int32) hR.w  Q15 h0) (cwV 2 hts (gd2_V kx_948 kx_949 kx_950 kx_177 kx_951) rfl rfl rfl (by decide +kernel) ⟨Nat.le_of_ble_eq_true rfl, Nat.le_of_ble_eq_true rfl⟩) ⟨rblind, va_recv hR.K hR.P (ci := 13) (q0 := 0) rfl (hR.at14 hR.w.1), fun U hU hW9 => rmk hU hW9 hR hex hE hFc⟩ rfl rfl hl.1 rfl (lv_room (Nat.le_of_ble_eq_true rfl)) dX14_made_93 ⟨Nat.le_of_ble_eq_true rfl, Nat.le_of_ble_eq_true rfl⟩) hR.sS (fun q _ h => hFc q h) hFc (fun  S16 t9 H1 locs ht9 hvm9 hw9 hB9 hz9 hk9 hS => ?_)
        obtain ⟨hq17, hw9, hs9⟩ := hw9
        have hR : Rep g ad A s S16 H1 locs := hR.call ht9 hB9 hw9 hS hFc
        have hsh := hsh.tr hs9
        replace h := h  S16 hq17
        clear hB9 hz9 hk9 hvm9 ht9 hw9 hs9 hS
        generalize H1 = H at hR ⊢
        refine lv_iconst (v := 1) hx hb dX14_made_96 (by decide) ?_
        exact W.zret (v := 1) hx hb hr (nz (Or.inr rfl)) (fun t9 ht9 hW9 => ⟨⟨_, S16, rfl, ⟨h, hR.w, hsh, (Or.inr rfl)⟩, ⟨by rw [ht9]; exact hR.P, hR.D⟩⟩, hR.sS.F ht9⟩) hR.sS.2.2 dX14_made_97
      · replace h := h.1 (k_eq rfl (by decide) c6)
        exact J_36 S _ _ ls h  hsh hR (lv_sub hl [0] rfl)
  · replace h := h.2 (k_nle (by decide) rfl c1)
    refine lv_aload_n hx hb dX14_made_4 rfl (lv_at hl 0 rfl) ?_
    refine lv_iconst (v := 3) hx hb dX14_made_5 (by decide) ?_
    obtain ⟨Q18, h0, h⟩ := h
    have hFc := rfree hR hA
    refine va_callv (va_runV (As := [.int 3]) (rest := []) ⟨hx, hb, hml, hown, hts⟩ (r_throwError l g ad s.heap.size S (3 : Int32) hR.w  Q18 h0) (cwV 1 hts (gd2_V kx_962 kx_963 kx_964 kx_177 kx_965) rfl rfl rfl (by decide +kernel) ⟨Nat.le_of_ble_eq_true rfl, Nat.le_of_ble_eq_true rfl⟩) ⟨rblind, va_recv hR.K hR.P (ci := 13) (q0 := 0) rfl (hR.at14 hR.w.1), fun U hU hW9 => rmk hU hW9 hR hex hE hFc⟩ rfl rfl hl.1 rfl (lv_room (Nat.le_of_ble_eq_true rfl)) dX14_made_6 ⟨Nat.le_of_ble_eq_true rfl, Nat.le_of_ble_eq_true rfl⟩) hR.sS (fun q _ h => hFc q h) hFc (fun  S19 t9 H1 locs ht9 hvm9 hw9 hB9 hz9 hk9 hS => ?_)
    obtain ⟨hq20, hw9, hs9⟩ := hw9
    have hR : Rep g ad A s S19 H1 locs := hR.call ht9 hB9 hw9 hS hFc
    have hsh := hsh.tr hs9
    replace h := h  S19 hq20
    clear hB9 hz9 hk9 hvm9 ht9 hw9 hs9 hS
    generalize H1 = H at hR ⊢
    refine lv_iconst (v := 0) hx hb dX14_made_9 (by decide) ?_
    exact W.zret (v := 0) hx hb hr (nz (Or.inl rfl)) (fun t9 ht9 hW9 => ⟨⟨_, S19, rfl, ⟨h, hR.w, hsh, (Or.inl rfl)⟩, ⟨by rw [ht9]; exact hR.P, hR.D⟩⟩, hR.sS.F ht9⟩) hR.sS.2.2 dX14_made_10
def w_draw_J205 (Q : MS → Prop) (k167 : MS → Int32 → Prop) (U205 : MS) (v205_3 : Int32) : Prop := (((0 : Int) ≤ v205_3.toInt ∧ v205_3.toInt < 1201) ∧ (∀ S22, S22 = wI U205 50 v205_3.toInt.toNat ((qI U205 0 105) - (1 : Int32)) → (∀ a23 : Int32, a23 = (v205_3 + Int32.ofInt 1) → k167 S22 a23)))
def w_draw_L167 (Q : MS → Prop) : Nat → MS → Int32 → Prop
  | 0, _, _ => False
  | n167 + 1, U167, v167_3 => (((qI U167 0 52).toInt ≤ v167_3.toInt → (((0 : Int) ≤ (qI U167 0 105).toInt ∧ (qI U167 0 105).toInt < 1201) ∧ (∀ S11, S11 = wI U167 49 (((qI U167 0 105).toInt).toNat) (qI U167 0 52) → (∃ Q12, w_edges S11 Q12 ∧ ∀ S13, Q12 S13 → (∃ Q15, w_reach S13 Q15 ∧ ∀ S16, Q15 S16 → Q S16))))) ∧ (¬ (qI U167 0 52).toInt ≤ v167_3.toInt → (((0 : Int) ≤ v167_3.toInt ∧ v167_3.toInt < 1201) ∧ (((qI U167 50 v167_3.toInt.toNat).toInt = 1 → (((0 : Int) ≤ (qI U167 0 105).toInt ∧ (qI U167 0 105).toInt < 1201) ∧ (∀ S26, S26 = wI U167 49 (((qI U167 0 105).toInt).toNat) v167_3 → (∀ S28, S28 = wI S26 0 105 ((qI S26 0 105) + (1 : Int32)) → w_draw_J205 Q (w_draw_L167 Q n167) S28 v167_3)))) ∧ (¬ (qI U167 50 v167_3.toInt.toNat).toInt = 1 → w_draw_J205 Q (w_draw_L167 Q n167) U167 v167_3)))))
def w_draw_L129 (Q : MS → Prop) (k118 : MS → Int32 → Prop) : Nat → MS → Int32 → Int32 → Prop
  | 0, _, _, _ => False
  | n129 + 1, U129, v129_3, v129_4 => ((3 ≤ v129_4.toInt → (∀ a30 : Int32, a30 = (v129_3 + Int32.ofInt 1) → k118 U129 a30)) ∧ (¬ 3 ≤ v129_4.toInt → (d_catchWord U129 v129_3 v129_4 ∧ (((0 : Int) ≤ (f_catchWord U129 v129_3 v129_4).toInt ∧ (f_catchWord U129 v129_3 v129_4).toInt < 1201) ∧ (∀ S35, S35 = wI U129 50 (((f_catchWord U129 v129_3 v129_4).toInt).toNat) (1 : Int32) → (∀ a36 : Int32, a36 = (v129_4 + Int32.ofInt 1) → (w_draw_L129 Q k118 n129) S35 v129_3 a36))))))
def w_draw_L118 (Q : MS → Prop) : Nat → MS → Int32 → Prop
  | 0, _, _ => False
  | n118 + 1, U118, v118_3 => (((qI U118 0 54).toInt ≤ v118_3.toInt → (∀ S8, S8 = wI U118 0 105 0 → (∃ n, w_draw_L167 Q n S8 0))) ∧ (¬ (qI U118 0 54).toInt ≤ v118_3.toInt → (∃ n, w_draw_L129 Q (w_draw_L118 Q n118) n U118 v118_3 0)))
def w_draw_L81 (Q : MS → Prop) (k38 : MS → Int32 → Prop) : Nat → MS → Int32 → Int32 → Prop
  | 0, _, _, _ => False
  | n81 + 1, U81, v81_3, v81_5 => (d_ways U81 v81_3 ∧ (((f_ways U81 v81_3).toInt ≤ v81_5.toInt → (∀ a48 : Int32, a48 = (v81_3 + Int32.ofInt 1) → k38 U81 a48)) ∧ (¬ (f_ways U81 v81_3).toInt ≤ v81_5.toInt → (d_way U81 v81_3 v81_5 ∧ (((0 : Int) ≤ (f_way U81 v81_3 v81_5).toInt ∧ (f_way U81 v81_3 v81_5).toInt < 1201) ∧ (∀ S53, S53 = wI U81 50 (((f_way U81 v81_3 v81_5).toInt).toNat) (1 : Int32) → (∀ a54 : Int32, a54 = (v81_5 + Int32.ofInt 1) → (w_draw_L81 Q k38 n81) S53 v81_3 a54)))))))
def w_draw_J78 (Q : MS → Prop) (k38 : MS → Int32 → Prop) (U78 : MS) (v78_3 : Int32) : Prop := (∃ n, w_draw_L81 Q k38 n U78 v78_3 0)
def w_draw_J69 (Q : MS → Prop) (k38 : MS → Int32 → Prop) (U69 : MS) (v69_3 : Int32) : Prop := (((0 : Int) ≤ (v69_3 + (1 : Int32)).toInt ∧ (v69_3 + (1 : Int32)).toInt < 1201) ∧ (∀ S57, S57 = wI U69 50 (((v69_3 + (1 : Int32)).toInt).toNat) (1 : Int32) → w_draw_J78 Q k38 S57 v69_3))
def w_draw_L38 (Q : MS → Prop) : Nat → MS → Int32 → Prop
  | 0, _, _ => False
  | n38 + 1, U38, v38_3 => (((qI U38 0 52).toInt ≤ v38_3.toInt → (∃ n, w_draw_L118 Q n U38 0)) ∧ (¬ (qI U38 0 52).toInt ≤ v38_3.toInt → (d_op U38 v38_3 ∧ (∀ a40 : Int32, a40 = (f_op U38 v38_3) → (d_isJump U38 a40 ∧ (((f_isJump U38 a40).toInt = 0 → (d_goesOn U38 a40 ∧ (((f_goesOn U38 a40).toInt = 0 → w_draw_J69 Q (w_draw_L38 Q n38) U38 v38_3) ∧ (¬ (f_goesOn U38 a40).toInt = 0 → w_draw_J78 Q (w_draw_L38 Q n38) U38 v38_3)))) ∧ (¬ (f_isJump U38 a40).toInt = 0 → w_draw_J69 Q (w_draw_L38 Q n38) U38 v38_3)))))))
def w_draw_L8 (Q : MS → Prop) : Nat → MS → Int32 → Prop
  | 0, _, _ => False
  | n8 + 1, U8, v8_3 => (((qI U8 0 52).toInt < v8_3.toInt → (∀ S5, S5 = wI U8 50 0 (1 : Int32) → (∃ n, w_draw_L38 Q n S5 0))) ∧ (¬ (qI U8 0 52).toInt < v8_3.toInt → (((0 : Int) ≤ v8_3.toInt ∧ v8_3.toInt < 1201) ∧ (∀ S64, S64 = wI U8 50 v8_3.toInt.toNat (0 : Int32) → (∀ a65 : Int32, a65 = (v8_3 + Int32.ofInt 1) → (w_draw_L8 Q n8) S64 a65)))))
def w_draw (S : MS) (p1 : Nat) (x2 : Int32) (Q : MS → Prop) : Prop := (∃ Q1, w_look S p1 x2 Q1 ∧ ∀ S2, Q1 S2 → (∃ n, w_draw_L8 Q n S2 0))
set_option maxHeartbeats 2000000 in
set_option maxRecDepth 100000 in
theorem r_draw (l : Launch) (g : Gr) (ad : Nat → Nat) (sz : Nat) (S : MS) (p1 : Nat) (x2 : Int32) (hw : wfM S) (hT_p1 : qT S p1 = 11) (Q : MS → Prop) (h : w_draw S p1 x2 Q) : Met l yX14_draw (wt2 yX14_draw cX14_draw 6 none) ({ frames := 3, cells := 0, slots := 0, locals := 67 }) (va_Pc [.ref (ad 0), .ref (ad p1), .int x2] (st_R g ad sz S)) (va_Qv (fun (u : MS) => Q u ∧ wfM u ∧ shy S u) (fun (u : MS) (t : State) => qE g ad (va_A (Wd g ad S) sz) u t) (va_A (Wd g ad S) sz)) 0 0 (va_A (Wd g ad S) sz) := by
  refine Met.ofW (cc := cX14_draw) (maxL := 6) (ret := none) (by decide) rfl ?_
  intro p e s m args below meth c s₁ B hml hv
  obtain ⟨rfl, hsz, hP, hK, hD0, hex, hE⟩ := hv
  have hx := B.exec
  have hb := B.bytes
  have hr := B.returns
  have hts0 := atoms_spec (ws := wt2 yX14_draw cX14_draw 6 none) B.pre
  have hts : ∀ w ∈ tb2, w.before _ s = true := fun w h => hts0 w (List.mem_cons_of_mem _ h)
  have hown : s.vm.findClass RX14 = some m.cls := findClass_of_methodNamed B.named
  subst hsz
  have hD := hD0.self (sz := s.heap.size)
  generalize hAe : va_A (Wd g ad S) s.heap.size = A at hD hE ⊢
  have hA : ∀ q : Nat, s.heap.size ≤ q → A q := fun q h => by rw [← hAe]; exact Or.inr h
  have hR : Rep g ad A s S s.heap [] := ⟨hK, hP, hD, va_S.rf, hw⟩
  clear hK hP hD hD0
  have hl := lv_entry ([.ref (ad 0), .ref (ad p1), .int x2]) (n := 6) (Nat.le_of_ble_eq_true rfl)
  rw [lg_entry_eq]
  generalize (lg_sl ([.ref (ad 0), .ref (ad p1), .int x2]) ++ List.replicate (6 - (lg_sl ([.ref (ad 0), .ref (ad p1), .int x2])).length) Slot.unset).toArray = ls at hl ⊢
  have hl : lv_has ls 6 [(0, .ref (ad 0)), (1, .ref (ad p1)), (2, .int x2)] := hl
  have hsh : shy S S := shy.rf
  unfold w_draw at h
  refine lv_aload_n hx hb dX14_draw_0 rfl (lv_at hl 0 rfl) ?_
  refine lv_aload_n hx hb dX14_draw_1 rfl (lv_at hl 1 rfl) ?_
  refine lv_iload_n hx hb dX14_draw_2 rfl (lv_at hl 2 rfl) ?_
  obtain ⟨Q1, h0, h⟩ := h
  have hFc := rfree hR hA
  refine va_callv (va_runV (As := [.ref (ad p1), .int x2]) (rest := []) ⟨hx, hb, hml, hown, hts⟩ (r_look l g ad s.heap.size S p1 x2 hR.w hT_p1 Q1 h0) (cwV 2 hts (gd2_V kx_498 kx_499 kx_500 kx_177 kx_501) rfl rfl rfl (by decide +kernel) ⟨Nat.le_of_ble_eq_true rfl, Nat.le_of_ble_eq_true rfl⟩) ⟨rblind, va_recv hR.K hR.P (ci := 13) (q0 := 0) rfl (hR.at14 hR.w.1), fun U hU hW9 => rmk hU hW9 hR hex hE hFc⟩ rfl rfl hl.1 rfl (lv_room (Nat.le_of_ble_eq_true rfl)) dX14_draw_3 ⟨Nat.le_of_ble_eq_true rfl, Nat.le_of_ble_eq_true rfl⟩) hR.sS (fun q _ h => hFc q h) hFc (fun  S2 t9 H1 locs ht9 hvm9 hw9 hB9 hz9 hk9 hS => ?_)
  obtain ⟨hq3, hw9, hs9⟩ := hw9
  have hR : Rep g ad A s S2 H1 locs := hR.call ht9 hB9 hw9 hS hFc
  have hsh := hsh.tr hs9
  replace h := h  S2 hq3
  have hT_p1 := hs9.T hT_p1 (by decide)
  clear hB9 hz9 hk9 hvm9 ht9 hw9 hs9 hS
  generalize H1 = H at hR ⊢
  refine lv_iconst (v := 0) hx hb dX14_draw_6 (by decide) ?_
  refine lv_istore_n (lv' := [(3, .int 0), (0, .ref (ad 0)), (1, .ref (ad p1)), (2, .int x2)]) hx hb dX14_draw_7 rfl hl (by decide) rfl (fun ls hl => ?_)
  have J_8 : ∀ (n8 : Nat) (U8 : MS) (v8_3 : Int32) (H : Heap) (locs : List Loc) (ls : Array Slot), w_draw_L8 Q n8 U8 v8_3 → shy S U8 → Rep g ad A s U8 H locs → lv_has ls 6 [(0, .ref (ad 0)), (3, .int v8_3)] → W p l e (headSpec (wt2 yX14_draw cX14_draw 6 none) ({ frames := 3, cells := 0, slots := 0, locals := 67 })).room s m ([.ref (ad 0), .ref (ad p1), .int x2] : List Value).toArray below meth c H locs 0 0 (MQ below (va_Qv (fun (u : MS) => Q u ∧ wfM u ∧ shy S u) (fun (u : MS) (t : State) => qE g ad A u t) A) ([.ref (ad 0), .ref (ad p1), .int x2] : List Value).toArray s 0 0 A) (F0 m 8 ls []) := by
    intro n8
    induction n8 with
    | zero => intro U8 v8_3 H locs ls h hsh hR hl; unfold w_draw_L8 at h; exact h.elim
    | succ n8 ih_8 =>
      intro U8 v8_3 H locs ls h hsh hR hl
      unfold w_draw_L8 at h
      refine lv_iload_n hx hb dX14_draw_8 rfl (lv_at hl 1 rfl) ?_
      refine lv_aload_n hx hb dX14_draw_9 rfl (lv_at hl 0 rfl) ?_
      refine va_get (D := rD g) (ci := 13) (v := .int (qI U8 0 52)) (C := RX14) (T := TX14) (N := 143) hx hb hts in2X14 hown hR.K hR.P 0 (hR.at14 hR.w.1) rfl 52 (by decide) (hts _ kx_370) (fun _ h9 => h9) rfl dX14_draw_10 ?_
      refine lv_icmp_gt (tgt := 29) hx hb dX14_draw_13 (by decide) (fun c4 => ?_) (fun c4 => ?_)
      · replace h := h.1 (k_lt rfl rfl c4)
        refine lv_aload_n hx hb dX14_draw_29 rfl (lv_at hl 0 rfl) ?_
        refine va_get (D := rD g) (ci := 13) (v := .ref (ad 50)) (C := RX14) (T := TX14) (N := 143) hx hb hts in2X14 hown hR.K hR.P 0 (hR.at14 hR.w.1) rfl 104 (by decide) (hts _ kx_669) (fun _ h9 => h9) (congrArg (fun z => some (vf ad z)) (hR.w.2.1 _ fin_104).1) dX14_draw_30 ?_
        refine lv_iconst (v := 0) hx hb dX14_draw_33 (by decide) ?_
        refine lv_iconst (v := 1) hx hb dX14_draw_34 (by decide) ?_
        refine va_iast hx hb hR.K hR.P hR.D hR.sS 50 1 (hR.atI (hR.w.2.1 _ fin_104).2.1) rfl (k_ixN (k_ix (n := 1201) (x := (0 : Int32)) (a := 0) (by decide) (by decide)) (hR.w.2.1 _ fin_104).2.2) dX14_draw_35 (fun H locs hP hD hS => ?_)
        have hR : Rep g ad A s (wI U8 50 0 (1 : Int32)) H locs := hR.aI (hR.w.2.1 _ fin_104).2.1 hP hD hS
        obtain ⟨S5, eS5⟩ : ∃ z, z = wI U8 50 0 (1 : Int32) := ⟨_, rfl⟩
        rw [← eS5] at hR
        replace h := h S5 eS5
        have hsh : shy S S5 := by rw [eS5]; exact hsh
        refine lv_iconst (v := 0) hx hb dX14_draw_36 (by decide) ?_
        refine lv_istore_n (lv' := [(3, .int 0), (0, .ref (ad 0))]) hx hb dX14_draw_37 rfl hl (by decide) rfl (fun ls hl => ?_)
        have J_38 : ∀ (n38 : Nat) (U38 : MS) (v38_3 : Int32) (H : Heap) (locs : List Loc) (ls : Array Slot), w_draw_L38 Q n38 U38 v38_3 → shy S U38 → Rep g ad A s U38 H locs → lv_has ls 6 [(0, .ref (ad 0)), (3, .int v38_3)] → W p l e (headSpec (wt2 yX14_draw cX14_draw 6 none) ({ frames := 3, cells := 0, slots := 0, locals := 67 })).room s m ([.ref (ad 0), .ref (ad p1), .int x2] : List Value).toArray below meth c H locs 0 0 (MQ below (va_Qv (fun (u : MS) => Q u ∧ wfM u ∧ shy S u) (fun (u : MS) (t : State) => qE g ad A u t) A) ([.ref (ad 0), .ref (ad p1), .int x2] : List Value).toArray s 0 0 A) (F0 m 38 ls []) := by
          intro n38
          induction n38 with
          | zero => intro U38 v38_3 H locs ls h hsh hR hl; unfold w_draw_L38 at h; exact h.elim
          | succ n38 ih_38 =>
            intro U38 v38_3 H locs ls h hsh hR hl
            unfold w_draw_L38 at h
            refine lv_iload_n hx hb dX14_draw_38 rfl (lv_at hl 1 rfl) ?_
            refine lv_aload_n hx hb dX14_draw_39 rfl (lv_at hl 0 rfl) ?_
            refine va_get (D := rD g) (ci := 13) (v := .int (qI U38 0 52)) (C := RX14) (T := TX14) (N := 143) hx hb hts in2X14 hown hR.K hR.P 0 (hR.at14 hR.w.1) rfl 52 (by decide) (hts _ kx_370) (fun _ h9 => h9) rfl dX14_draw_40 ?_
            refine lv_icmp_ge (tgt := 116) hx hb dX14_draw_43 (by decide) (fun c6 => ?_) (fun c6 => ?_)
            · replace h := h.1 (k_le rfl rfl c6)
              refine lv_iconst (v := 0) hx hb dX14_draw_116 (by decide) ?_
              refine lv_istore_n (lv' := [(3, .int 0), (0, .ref (ad 0))]) hx hb dX14_draw_117 rfl hl (by decide) rfl (fun ls hl => ?_)
              have J_118 : ∀ (n118 : Nat) (U118 : MS) (v118_3 : Int32) (H : Heap) (locs : List Loc) (ls : Array Slot), w_draw_L118 Q n118 U118 v118_3 → shy S U118 → Rep g ad A s U118 H locs → lv_has ls 6 [(0, .ref (ad 0)), (3, .int v118_3)] → W p l e (headSpec (wt2 yX14_draw cX14_draw 6 none) ({ frames := 3, cells := 0, slots := 0, locals := 67 })).room s m ([.ref (ad 0), .ref (ad p1), .int x2] : List Value).toArray below meth c H locs 0 0 (MQ below (va_Qv (fun (u : MS) => Q u ∧ wfM u ∧ shy S u) (fun (u : MS) (t : State) => qE g ad A u t) A) ([.ref (ad 0), .ref (ad p1), .int x2] : List Value).toArray s 0 0 A) (F0 m 118 ls []) := by
                intro n118
                induction n118 with
                | zero => intro U118 v118_3 H locs ls h hsh hR hl; unfold w_draw_L118 at h; exact h.elim
                | succ n118 ih_118 =>
                  intro U118 v118_3 H locs ls h hsh hR hl
                  unfold w_draw_L118 at h
                  refine lv_iload_n hx hb dX14_draw_118 rfl (lv_at hl 1 rfl) ?_
                  refine lv_aload_n hx hb dX14_draw_119 rfl (lv_at hl 0 rfl) ?_
                  refine va_get (D := rD g) (ci := 13) (v := .int (qI U118 0 54)) (C := RX14) (T := TX14) (N := 143) hx hb hts in2X14 hown hR.K hR.P 0 (hR.at14 hR.w.1) rfl 54 (by decide) (hts _ kx_374) (fun _ h9 => h9) rfl dX14_draw_120 ?_
                  refine lv_icmp_ge (tgt := 160) hx hb dX14_draw_123 (by decide) (fun c7 => ?_) (fun c7 => ?_)
                  · replace h := h.1 (k_le rfl rfl c7)
                    refine lv_aload_n hx hb dX14_draw_160 rfl (lv_at hl 0 rfl) ?_
                    refine lv_iconst (v := 0) hx hb dX14_draw_161 (by decide) ?_
                    refine va_put (D := rD g) (ci := 13) (v := .int 0) (ty := .int) (C := RX14) (T := TX14) (N := 143) hx hb hts in2X14 tyX14 tyX14_ok nmX14 hown hR.K hR.P hR.D hR.sS 0 (hR.at14 hR.w.1) rfl 105 (by decide) (hts _ kx_670) (fun _ h9 => h9) rfl (by decide +kernel) rfl rfl (Nat.le_of_ble_eq_true rfl) dX14_draw_162 (fun H locs hP hD hS => ?_)
                    have hR : Rep g ad A s (wI U118 0 105 0) H locs := hR.pI hR.w.1 F14_s105 hP hD hS
                    obtain ⟨S8, eS8⟩ : ∃ z, z = wI U118 0 105 0 := ⟨_, rfl⟩
                    rw [← eS8] at hR
                    replace h := h S8 eS8
                    have hsh : shy S S8 := by rw [eS8]; exact hsh
                    refine lv_iconst (v := 0) hx hb dX14_draw_165 (by decide) ?_
                    refine lv_istore_n (lv' := [(3, .int 0), (0, .ref (ad 0))]) hx hb dX14_draw_166 rfl hl (by decide) rfl (fun ls hl => ?_)
                    have J_167 : ∀ (n167 : Nat) (U167 : MS) (v167_3 : Int32) (H : Heap) (locs : List Loc) (ls : Array Slot), w_draw_L167 Q n167 U167 v167_3 → shy S U167 → Rep g ad A s U167 H locs → lv_has ls 6 [(0, .ref (ad 0)), (3, .int v167_3)] → W p l e (headSpec (wt2 yX14_draw cX14_draw 6 none) ({ frames := 3, cells := 0, slots := 0, locals := 67 })).room s m ([.ref (ad 0), .ref (ad p1), .int x2] : List Value).toArray below meth c H locs 0 0 (MQ below (va_Qv (fun (u : MS) => Q u ∧ wfM u ∧ shy S u) (fun (u : MS) (t : State) => qE g ad A u t) A) ([.ref (ad 0), .ref (ad p1), .int x2] : List Value).toArray s 0 0 A) (F0 m 167 ls []) := by
                      intro n167
                      induction n167 with
                      | zero => intro U167 v167_3 H locs ls h hsh hR hl; unfold w_draw_L167 at h; exact h.elim
                      | succ n167 ih_167 =>
                        intro U167 v167_3 H locs ls h hsh hR hl
                        unfold w_draw_L167 at h
                        refine lv_iload_n hx hb dX14_draw_167 rfl (lv_at hl 1 rfl) ?_
                        refine lv_aload_n hx hb dX14_draw_168 rfl (lv_at hl 0 rfl) ?_
                        refine va_get (D := rD g) (ci := 13) (v := .int (qI U167 0 52)) (C := RX14) (T := TX14) (N := 143) hx hb hts in2X14 hown hR.K hR.P 0 (hR.at14 hR.w.1) rfl 52 (by decide) (hts _ kx_370) (fun _ h9 => h9) rfl dX14_draw_169 ?_
                        refine lv_icmp_ge (tgt := 223) hx hb dX14_draw_172 (by decide) (fun c9 => ?_) (fun c9 => ?_)
                        · replace h := h.1 (k_le rfl rfl c9)
                          refine lv_aload_n hx hb dX14_draw_223 rfl (lv_at hl 0 rfl) ?_
                          refine va_get (D := rD g) (ci := 13) (v := .ref (ad 49)) (C := RX14) (T := TX14) (N := 143) hx hb hts in2X14 hown hR.K hR.P 0 (hR.at14 hR.w.1) rfl 103 (by decide) (hts _ kx_671) (fun _ h9 => h9) (congrArg (fun z => some (vf ad z)) (hR.w.2.1 _ fin_103).1) dX14_draw_224 ?_
                          refine lv_aload_n hx hb dX14_draw_227 rfl (lv_at hl 0 rfl) ?_
                          refine va_get (D := rD g) (ci := 13) (v := .int (qI U167 0 105)) (C := RX14) (T := TX14) (N := 143) hx hb hts in2X14 hown hR.K hR.P 0 (hR.at14 hR.w.1) rfl 105 (by decide) (hts _ kx_670) (fun _ h9 => h9) rfl dX14_draw_228 ?_
                          refine lv_aload_n hx hb dX14_draw_231 rfl (lv_at hl 0 rfl) ?_
                          refine va_get (D := rD g) (ci := 13) (v := .int (qI U167 0 52)) (C := RX14) (T := TX14) (N := 143) hx hb hts in2X14 hown hR.K hR.P 0 (hR.at14 hR.w.1) rfl 52 (by decide) (hts _ kx_370) (fun _ h9 => h9) rfl dX14_draw_232 ?_
                          obtain ⟨hv10, h⟩ := h
                          refine va_iast hx hb hR.K hR.P hR.D hR.sS 49 1 (hR.atI (hR.w.2.1 _ fin_103).2.1) rfl (k_ixN (k_ix (n := 1201) (x := (qI U167 0 105)) (a := (qI U167 0 105).toInt) rfl hv10) (hR.w.2.1 _ fin_103).2.2) dX14_draw_235 (fun H locs hP hD hS => ?_)
                          have hR : Rep g ad A s (wI U167 49 (((qI U167 0 105).toInt).toNat) (qI U167 0 52)) H locs := hR.aI (hR.w.2.1 _ fin_103).2.1 hP hD hS
                          obtain ⟨S11, eS11⟩ : ∃ z, z = wI U167 49 (((qI U167 0 105).toInt).toNat) (qI U167 0 52) := ⟨_, rfl⟩
                          rw [← eS11] at hR
                          replace h := h S11 eS11
                          have hsh : shy S S11 := by rw [eS11]; exact hsh
                          refine lv_aload_n hx hb dX14_draw_236 rfl (lv_at hl 0 rfl) ?_
                          obtain ⟨Q12, h0, h⟩ := h
                          have hFc := rfree hR hA
                          refine va_callv (va_runV (As := []) (rest := []) ⟨hx, hb, hml, hown, hts⟩ (r_edges l g ad H.size S11 hR.w  Q12 h0) (cwV 0 hts (gd2_V kx_970 kx_971 kx_972 kx_177 kx_973) rfl rfl rfl (by decide +kernel) ⟨Nat.le_of_ble_eq_true rfl, Nat.le_of_ble_eq_true rfl⟩) ⟨rblind, va_recv hR.K hR.P (ci := 13) (q0 := 0) rfl (hR.at14 hR.w.1), fun U hU hW9 => rmk hU hW9 hR hex hE hFc⟩ rfl rfl hl.1 rfl (lv_room (Nat.le_of_ble_eq_true rfl)) dX14_draw_237 ⟨Nat.le_of_ble_eq_true rfl, Nat.le_of_ble_eq_true rfl⟩) hR.sS (fun q _ h => hFc q h) hFc (fun  S13 t9 H1 locs ht9 hvm9 hw9 hB9 hz9 hk9 hS => ?_)
                          obtain ⟨hq14, hw9, hs9⟩ := hw9
                          have hR : Rep g ad A s S13 H1 locs := hR.call ht9 hB9 hw9 hS hFc
                          have hsh := hsh.tr hs9
                          replace h := h  S13 hq14
                          clear hB9 hz9 hk9 hvm9 ht9 hw9 hs9 hS
                          generalize H1 = H at hR ⊢
                          refine lv_aload_n hx hb dX14_draw_240 rfl (lv_at hl 0 rfl) ?_
                          obtain ⟨Q15, h0, h⟩ := h
                          have hFc := rfree hR hA
                          refine va_callv (va_runV (As := []) (rest := []) ⟨hx, hb, hml, hown, hts⟩ (r_reach l g ad H.size S13 hR.w  Q15 h0) (cwV 0 hts (gd2_V kx_974 kx_975 kx_976 kx_177 kx_977) rfl rfl rfl (by decide +kernel) ⟨Nat.le_of_ble_eq_true rfl, Nat.le_of_ble_eq_true rfl⟩) ⟨rblind, va_recv hR.K hR.P (ci := 13) (q0 := 0) rfl (hR.at14 hR.w.1), fun U hU hW9 => rmk hU hW9 hR hex hE hFc⟩ rfl rfl hl.1 rfl (lv_room (Nat.le_of_ble_eq_true rfl)) dX14_draw_241 ⟨Nat.le_of_ble_eq_true rfl, Nat.le_of_ble_eq_true rfl⟩) hR.sS (fun q _ h => hFc q h) hFc (fun  S16 t9 H1 locs ht9 hvm9 hw9 hB9 hz9 hk9 hS => ?_)
                          obtain ⟨hq17, hw9, hs9⟩ := hw9
                          have hR : Rep g ad A s S16 H1 locs := hR.call ht9 hB9 hw9 hS hFc
                          have hsh := hsh.tr hs9
                          replace h := h  S16 hq17
                          clear hB9 hz9 hk9 hvm9 ht9 hw9 hs9 hS
                          generalize H1 = H at hR ⊢
                          exact W.vret hx hb hr (fun t9 ht9 hW9 => ⟨⟨S16, rfl, ⟨h, hR.w, hsh⟩, ⟨by rw [ht9]; exact hR.P, hR.D⟩⟩, hR.sS.F ht9⟩) hR.sS.2.2 dX14_draw_244
                        · replace h := h.2 (k_nle rfl rfl c9)
                          refine lv_aload_n hx hb dX14_draw_175 rfl (lv_at hl 0 rfl) ?_
                          refine va_get (D := rD g) (ci := 13) (v := .ref (ad 50)) (C := RX14) (T := TX14) (N := 143) hx hb hts in2X14 hown hR.K hR.P 0 (hR.at14 hR.w.1) rfl 104 (by decide) (hts _ kx_669) (fun _ h9 => h9) (congrArg (fun z => some (vf ad z)) (hR.w.2.1 _ fin_104).1) dX14_draw_176 ?_
                          refine lv_iload_n hx hb dX14_draw_179 rfl (lv_at hl 1 rfl) ?_
                          obtain ⟨hv18, h⟩ := h
                          refine va_iald hx hb hR.K hR.P 50 1 (hR.atI (hR.w.2.1 _ fin_104).2.1) rfl (k_ixN (k_ix (n := 1201) (x := v167_3) (a := v167_3.toInt) rfl hv18) (hR.w.2.1 _ fin_104).2.2) dX14_draw_180 ?_
                          refine lv_topi (fun z19 ez19 => ?_)
                          obtain rfl : z19 = (qI U167 50 v167_3.toInt.toNat) := ez19
                          refine lv_iconst (v := 1) hx hb dX14_draw_181 (by decide) ?_
                          have J_205 : ∀ (U205 : MS) (v205_3 : Int32) (H : Heap) (locs : List Loc) (ls : Array Slot), w_draw_J205 Q (w_draw_L167 Q n167) U205 v205_3 → shy S U205 → Rep g ad A s U205 H locs → lv_has ls 6 [(0, .ref (ad 0)), (3, .int v205_3)] → W p l e (headSpec (wt2 yX14_draw cX14_draw 6 none) ({ frames := 3, cells := 0, slots := 0, locals := 67 })).room s m ([.ref (ad 0), .ref (ad p1), .int x2] : List Value).toArray below meth c H locs 0 0 (MQ below (va_Qv (fun (u : MS) => Q u ∧ wfM u ∧ shy S u) (fun (u : MS) (t : State) => qE g ad A u t) A) ([.ref (ad 0), .ref (ad p1), .int x2] : List Value).toArray s 0 0 A) (F0 m 205 ls []) := by
                            intro U205 v205_3 H locs ls h hsh hR hl
                            unfold w_draw_J205 at h
                            refine lv_aload_n hx hb dX14_draw_205 rfl (lv_at hl 0 rfl) ?_
                            refine va_get (D := rD g) (ci := 13) (v := .ref (ad 50)) (C := RX14) (T := TX14) (N := 143) hx hb hts in2X14 hown hR.K hR.P 0 (hR.at14 hR.w.1) rfl 104 (by decide) (hts _ kx_669) (fun _ h9 => h9) (congrArg (fun z => some (vf ad z)) (hR.w.2.1 _ fin_104).1) dX14_draw_206 ?_
                            refine lv_iload_n hx hb dX14_draw_209 rfl (lv_at hl 1 rfl) ?_
                            refine lv_aload_n hx hb dX14_draw_210 rfl (lv_at hl 0 rfl) ?_
                            refine va_get (D := rD g) (ci := 13) (v := .int (qI U205 0 105)) (C := RX14) (T := TX14) (N := 143) hx hb hts in2X14 hown hR.K hR.P 0 (hR.at14 hR.w.1) rfl 105 (by decide) (hts _ kx_670) (fun _ h9 => h9) rfl dX14_draw_211 ?_
                            refine lv_iconst (v := 1) hx hb dX14_draw_214 (by decide) ?_
                            refine lv_isub hx hb dX14_draw_215 ?_
                            refine lv_topi (fun z20 ez20 => ?_)
                            obtain rfl : z20 = ((qI U205 0 105) - (1 : Int32)) := ez20
                            obtain ⟨hv21, h⟩ := h
                            refine va_iast hx hb hR.K hR.P hR.D hR.sS 50 1 (hR.atI (hR.w.2.1 _ fin_104).2.1) rfl (k_ixN (k_ix (n := 1201) (x := v205_3) (a := v205_3.toInt) rfl hv21) (hR.w.2.1 _ fin_104).2.2) dX14_draw_216 (fun H locs hP hD hS => ?_)
                            have hR : Rep g ad A s (wI U205 50 v205_3.toInt.toNat ((qI U205 0 105) - (1 : Int32))) H locs := hR.aI (hR.w.2.1 _ fin_104).2.1 hP hD hS
                            obtain ⟨S22, eS22⟩ : ∃ z, z = wI U205 50 v205_3.toInt.toNat ((qI U205 0 105) - (1 : Int32)) := ⟨_, rfl⟩
                            rw [← eS22] at hR
                            replace h := h S22 eS22
                            have hsh : shy S S22 := by rw [eS22]; exact hsh
                            obtain ⟨a23, ea23⟩ : ∃ z, z = (v205_3 + Int32.ofInt 1) := ⟨_, rfl⟩
                            replace h := h a23 ea23
                            refine lv_iinc (v := a23) (lv' := [(3, .int a23), (0, .ref (ad 0))]) hx hb dX14_draw_217 hl (k := 1) rfl ea23.symm (by decide) rfl (fun ls hl => ?_)
                            refine lv_goto (tgt := 167) hx hb dX14_draw_220 (by decide) ?_
                            exact ih_167 S22 a23 _ _ ls h  hsh hR (lv_sub hl [1, 0] rfl)
                          refine lv_icmp_ne (tgt := 205) hx hb dX14_draw_182 (by decide) (fun c24 => ?_) (fun c24 => ?_)
                          · replace h := h.2 (k_ne rfl (by decide) c24)
                            exact J_205 U167 v167_3 _ _ ls h  hsh hR (lv_sub hl [0, 1] rfl)
                          · replace h := h.1 (k_eq rfl (by decide) c24)
                            refine lv_aload_n hx hb dX14_draw_185 rfl (lv_at hl 0 rfl) ?_
                            refine va_get (D := rD g) (ci := 13) (v := .ref (ad 49)) (C := RX14) (T := TX14) (N := 143) hx hb hts in2X14 hown hR.K hR.P 0 (hR.at14 hR.w.1) rfl 103 (by decide) (hts _ kx_671) (fun _ h9 => h9) (congrArg (fun z => some (vf ad z)) (hR.w.2.1 _ fin_103).1) dX14_draw_186 ?_
                            refine lv_aload_n hx hb dX14_draw_189 rfl (lv_at hl 0 rfl) ?_
                            refine va_get (D := rD g) (ci := 13) (v := .int (qI U167 0 105)) (C := RX14) (T := TX14) (N := 143) hx hb hts in2X14 hown hR.K hR.P 0 (hR.at14 hR.w.1) rfl 105 (by decide) (hts _ kx_670) (fun _ h9 => h9) rfl dX14_draw_190 ?_
                            refine lv_iload_n hx hb dX14_draw_193 rfl (lv_at hl 1 rfl) ?_
                            obtain ⟨hv25, h⟩ := h
                            refine va_iast hx hb hR.K hR.P hR.D hR.sS 49 1 (hR.atI (hR.w.2.1 _ fin_103).2.1) rfl (k_ixN (k_ix (n := 1201) (x := (qI U167 0 105)) (a := (qI U167 0 105).toInt) rfl hv25) (hR.w.2.1 _ fin_103).2.2) dX14_draw_194 (fun H locs hP hD hS => ?_)
                            have hR : Rep g ad A s (wI U167 49 (((qI U167 0 105).toInt).toNat) v167_3) H locs := hR.aI (hR.w.2.1 _ fin_103).2.1 hP hD hS
                            obtain ⟨S26, eS26⟩ : ∃ z, z = wI U167 49 (((qI U167 0 105).toInt).toNat) v167_3 := ⟨_, rfl⟩
                            rw [← eS26] at hR
                            replace h := h S26 eS26
                            have hsh : shy S S26 := by rw [eS26]; exact hsh
                            refine lv_aload_n hx hb dX14_draw_195 rfl (lv_at hl 0 rfl) ?_
                            refine lv_dup hx hb dX14_draw_196 rfl ?_
                            refine va_get (D := rD g) (ci := 13) (v := .int (qI S26 0 105)) (C := RX14) (T := TX14) (N := 143) hx hb hts in2X14 hown hR.K hR.P 0 (hR.at14 hR.w.1) rfl 105 (by decide) (hts _ kx_670) (fun _ h9 => h9) rfl dX14_draw_197 ?_
                            refine lv_iconst (v := 1) hx hb dX14_draw_200 (by decide) ?_
                            refine lv_iadd hx hb dX14_draw_201 ?_
                            refine lv_topi (fun z27 ez27 => ?_)
                            obtain rfl : z27 = ((qI S26 0 105) + (1 : Int32)) := ez27
                            refine va_put (D := rD g) (ci := 13) (v := .int ((qI S26 0 105) + (1 : Int32))) (ty := .int) (C := RX14) (T := TX14) (N := 143) hx hb hts in2X14 tyX14 tyX14_ok nmX14 hown hR.K hR.P hR.D hR.sS 0 (hR.at14 hR.w.1) rfl 105 (by decide) (hts _ kx_670) (fun _ h9 => h9) rfl (by decide +kernel) rfl rfl (Nat.le_of_ble_eq_true rfl) dX14_draw_202 (fun H locs hP hD hS => ?_)
                            have hR : Rep g ad A s (wI S26 0 105 ((qI S26 0 105) + (1 : Int32))) H locs := hR.pI hR.w.1 F14_s105 hP hD hS
                            obtain ⟨S28, eS28⟩ : ∃ z, z = wI S26 0 105 ((qI S26 0 105) + (1 : Int32)) := ⟨_, rfl⟩
                            rw [← eS28] at hR
                            replace h := h S28 eS28
                            have hsh : shy S S28 := by rw [eS28]; exact hsh
                            exact J_205 S28 v167_3 _ _ ls h  hsh hR (lv_sub hl [0, 1] rfl)
                    obtain ⟨n9, h⟩ := h
                    exact J_167 n9 S8 0 _ _ ls h  hsh hR (lv_sub hl [1, 0] rfl)
                  · replace h := h.2 (k_nle rfl rfl c7)
                    refine lv_iconst (v := 0) hx hb dX14_draw_126 (by decide) ?_
                    refine lv_istore (lv' := [(4, .int 0), (0, .ref (ad 0)), (3, .int v118_3)]) hx hb dX14_draw_127 hl (by decide) rfl (fun ls hl => ?_)
                    have J_129 : ∀ (n129 : Nat) (U129 : MS) (v129_3 : Int32) (v129_4 : Int32) (H : Heap) (locs : List Loc) (ls : Array Slot), w_draw_L129 Q (w_draw_L118 Q n118) n129 U129 v129_3 v129_4 → shy S U129 → Rep g ad A s U129 H locs → lv_has ls 6 [(0, .ref (ad 0)), (3, .int v129_3), (4, .int v129_4)] → W p l e (headSpec (wt2 yX14_draw cX14_draw 6 none) ({ frames := 3, cells := 0, slots := 0, locals := 67 })).room s m ([.ref (ad 0), .ref (ad p1), .int x2] : List Value).toArray below meth c H locs 0 0 (MQ below (va_Qv (fun (u : MS) => Q u ∧ wfM u ∧ shy S u) (fun (u : MS) (t : State) => qE g ad A u t) A) ([.ref (ad 0), .ref (ad p1), .int x2] : List Value).toArray s 0 0 A) (F0 m 129 ls []) := by
                      intro n129
                      induction n129 with
                      | zero => intro U129 v129_3 v129_4 H locs ls h hsh hR hl; unfold w_draw_L129 at h; exact h.elim
                      | succ n129 ih_129 =>
                        intro U129 v129_3 v129_4 H locs ls h hsh hR hl
                        unfold w_draw_L129 at h
                        refine lv_iload hx hb dX14_draw_129 (lv_at hl 2 rfl) ?_
                        refine lv_iconst (v := 3) hx hb dX14_draw_131 (by decide) ?_
                        refine lv_icmp_ge (tgt := 154) hx hb dX14_draw_132 (by decide) (fun c29 => ?_) (fun c29 => ?_)
                        · replace h := h.1 (k_le (by decide) rfl c29)
                          obtain ⟨a30, ea30⟩ : ∃ z, z = (v129_3 + Int32.ofInt 1) := ⟨_, rfl⟩
                          replace h := h a30 ea30
                          refine lv_iinc (v := a30) (lv' := [(3, .int a30), (0, .ref (ad 0)), (4, .int v129_4)]) hx hb dX14_draw_154 hl (k := 1) rfl ea30.symm (by decide) rfl (fun ls hl => ?_)
                          refine lv_goto (tgt := 118) hx hb dX14_draw_157 (by decide) ?_
                          exact ih_118 U129 a30 _ _ ls h  hsh hR (lv_sub hl [1, 0] rfl)
                        · replace h := h.2 (k_nle (by decide) rfl c29)
                          refine lv_aload_n hx hb dX14_draw_135 rfl (lv_at hl 0 rfl) ?_
                          refine va_get (D := rD g) (ci := 13) (v := .ref (ad 50)) (C := RX14) (T := TX14) (N := 143) hx hb hts in2X14 hown hR.K hR.P 0 (hR.at14 hR.w.1) rfl 104 (by decide) (hts _ kx_669) (fun _ h9 => h9) (congrArg (fun z => some (vf ad z)) (hR.w.2.1 _ fin_104).1) dX14_draw_136 ?_
                          refine lv_aload_n hx hb dX14_draw_139 rfl (lv_at hl 0 rfl) ?_
                          refine lv_iload_n hx hb dX14_draw_140 rfl (lv_at hl 1 rfl) ?_
                          refine lv_iload hx hb dX14_draw_141 (lv_at hl 2 rfl) ?_
                          obtain ⟨hv31, h⟩ := h
                          have hFc := rfree hR hA
                          refine va_calli (va_runV (As := [.int v129_3, .int v129_4]) (rest := [.ref (ad 50)]) ⟨hx, hb, hml, hown, hts⟩ (r_catchWord l g ad H.size U129 v129_3 v129_4 hR.w  hv31) (cwV 2 hts (gd2_V kx_375 kx_376 kx_377 kx_177 kx_378) rfl rfl rfl (by decide +kernel) ⟨Nat.le_of_ble_eq_true rfl, Nat.le_of_ble_eq_true rfl⟩) ⟨rblind, va_recv hR.K hR.P (ci := 13) (q0 := 0) rfl (hR.at14 hR.w.1), fun U hU hW9 => rmk hU hW9 hR hex hE hFc⟩ rfl rfl hl.1 rfl (lv_room (Nat.le_of_ble_eq_true rfl)) dX14_draw_143 ⟨Nat.le_of_ble_eq_true rfl, Nat.le_of_ble_eq_true rfl⟩) hR.sS (fun q _ h => hFc q h) hFc (fun r32 u9 t9 H1 locs ht9 hvm9 hw9 hB9 hz9 hk9 hS => ?_)
                          have hR : Rep g ad A s U129 H1 locs := hR.call ht9 hB9 hR.w hS hFc
                          obtain rfl : r32 = (f_catchWord U129 v129_3 v129_4) := hw9
                          clear hB9 hz9 hk9 hvm9 ht9 hS
                          generalize H1 = H at hR ⊢
                          refine lv_iconst (v := 1) hx hb dX14_draw_146 (by decide) ?_
                          obtain ⟨hv34, h⟩ := h
                          refine va_iast hx hb hR.K hR.P hR.D hR.sS 50 1 (hR.atI (hR.w.2.1 _ fin_104).2.1) rfl (k_ixN (k_ix (n := 1201) (x := (f_catchWord U129 v129_3 v129_4)) (a := (f_catchWord U129 v129_3 v129_4).toInt) rfl hv34) (hR.w.2.1 _ fin_104).2.2) dX14_draw_147 (fun H locs hP hD hS => ?_)
                          have hR : Rep g ad A s (wI U129 50 (((f_catchWord U129 v129_3 v129_4).toInt).toNat) (1 : Int32)) H locs := hR.aI (hR.w.2.1 _ fin_104).2.1 hP hD hS
                          obtain ⟨S35, eS35⟩ : ∃ z, z = wI U129 50 (((f_catchWord U129 v129_3 v129_4).toInt).toNat) (1 : Int32) := ⟨_, rfl⟩
                          rw [← eS35] at hR
                          replace h := h S35 eS35
                          have hsh : shy S S35 := by rw [eS35]; exact hsh
                          obtain ⟨a36, ea36⟩ : ∃ z, z = (v129_4 + Int32.ofInt 1) := ⟨_, rfl⟩
                          replace h := h a36 ea36
                          refine lv_iinc (v := a36) (lv' := [(4, .int a36), (0, .ref (ad 0)), (3, .int v129_3)]) hx hb dX14_draw_148 hl (k := 2) rfl ea36.symm (by decide) rfl (fun ls hl => ?_)
                          refine lv_goto (tgt := 129) hx hb dX14_draw_151 (by decide) ?_
                          exact ih_129 S35 v129_3 a36 _ _ ls h  hsh hR (lv_sub hl [1, 2, 0] rfl)
                    obtain ⟨n9, h⟩ := h
                    exact J_129 n9 U118 v118_3 0 _ _ ls h  hsh hR (lv_sub hl [1, 2, 0] rfl)
              obtain ⟨n9, h⟩ := h
              exact J_118 n9 U38 0 _ _ ls h  hsh hR (lv_sub hl [1, 0] rfl)
            · replace h := h.2 (k_nle rfl rfl c6)
              refine lv_aload_n hx hb dX14_draw_46 rfl (lv_at hl 0 rfl) ?_
              refine lv_iload_n hx hb dX14_draw_47 rfl (lv_at hl 1 rfl) ?_
              obtain ⟨hv37, h⟩ := h
              have hFc := rfree hR hA
              refine va_calli (va_runV (As := [.int v38_3]) (rest := []) ⟨hx, hb, hml, hown, hts⟩ (r_op l g ad H.size U38 v38_3 hR.w  hv37) (cwV 1 hts (gd2_V kx_379 kx_380 kx_381 kx_177 kx_382) rfl rfl rfl (by decide +kernel) ⟨Nat.le_of_ble_eq_true rfl, Nat.le_of_ble_eq_true rfl⟩) ⟨rblind, va_recv hR.K hR.P (ci := 13) (q0 := 0) rfl (hR.at14 hR.w.1), fun U hU hW9 => rmk hU hW9 hR hex hE hFc⟩ rfl rfl hl.1 rfl (lv_room (Nat.le_of_ble_eq_true rfl)) dX14_draw_48 ⟨Nat.le_of_ble_eq_true rfl, Nat.le_of_ble_eq_true rfl⟩) hR.sS (fun q _ h => hFc q h) hFc (fun r38 u9 t9 H1 locs ht9 hvm9 hw9 hB9 hz9 hk9 hS => ?_)
              have hR : Rep g ad A s U38 H1 locs := hR.call ht9 hB9 hR.w hS hFc
              obtain rfl : r38 = (f_op U38 v38_3) := hw9
              clear hB9 hz9 hk9 hvm9 ht9 hS
              generalize H1 = H at hR ⊢
              obtain ⟨a40, ea40⟩ : ∃ z, z = (f_op U38 v38_3) := ⟨_, rfl⟩
              rw [← ea40]
              replace h := h a40 ea40
              refine lv_istore (lv' := [(4, .int a40), (0, .ref (ad 0)), (3, .int v38_3)]) hx hb dX14_draw_51 hl (by decide) rfl (fun ls hl => ?_)
              refine lv_iload hx hb dX14_draw_53 (lv_at hl 0 rfl) ?_
              obtain ⟨hv41, h⟩ := h
              have hFc := rfree hR hA
              refine va_calli (va_runS (As := [.int a40]) (rest := []) ⟨hx, hb, hml, hown, hts⟩ (r_isJump l g ad H.size U38 a40 hR.w  hv41) (va_cwS 1 hts (gd2_S kx_383 kx_384 kx_177 kx_385) rfl rfl rfl (by decide +kernel) ⟨Nat.le_of_ble_eq_true rfl, Nat.le_of_ble_eq_true rfl⟩) ⟨rblind, fun U hU hW9 => rmk hU hW9 hR hex hE hFc⟩ rfl rfl hl.1 rfl (lv_room (Nat.le_of_ble_eq_true rfl)) dX14_draw_55 ⟨Nat.le_of_ble_eq_true rfl, Nat.le_of_ble_eq_true rfl⟩) hR.sS (fun q _ h => hFc q h) hFc (fun r42 u9 t9 H1 locs ht9 hvm9 hw9 hB9 hz9 hk9 hS => ?_)
              have hR : Rep g ad A s U38 H1 locs := hR.call ht9 hB9 hR.w hS hFc
              obtain ⟨rfl, hz_r42⟩ := hw9
              clear hB9 hz9 hk9 hvm9 ht9 hS
              generalize H1 = H at hR ⊢
              have J_78 : ∀ (U78 : MS) (v78_3 : Int32) (H : Heap) (locs : List Loc) (ls : Array Slot), w_draw_J78 Q (w_draw_L38 Q n38) U78 v78_3 → shy S U78 → Rep g ad A s U78 H locs → lv_has ls 6 [(0, .ref (ad 0)), (3, .int v78_3)] → W p l e (headSpec (wt2 yX14_draw cX14_draw 6 none) ({ frames := 3, cells := 0, slots := 0, locals := 67 })).room s m ([.ref (ad 0), .ref (ad p1), .int x2] : List Value).toArray below meth c H locs 0 0 (MQ below (va_Qv (fun (u : MS) => Q u ∧ wfM u ∧ shy S u) (fun (u : MS) (t : State) => qE g ad A u t) A) ([.ref (ad 0), .ref (ad p1), .int x2] : List Value).toArray s 0 0 A) (F0 m 78 ls []) := by
                intro U78 v78_3 H locs ls h hsh hR hl
                unfold w_draw_J78 at h
                refine lv_iconst (v := 0) hx hb dX14_draw_78 (by decide) ?_
                refine lv_istore (lv' := [(5, .int 0), (0, .ref (ad 0)), (3, .int v78_3)]) hx hb dX14_draw_79 hl (by decide) rfl (fun ls hl => ?_)
                have J_81 : ∀ (n81 : Nat) (U81 : MS) (v81_3 : Int32) (v81_5 : Int32) (H : Heap) (locs : List Loc) (ls : Array Slot), w_draw_L81 Q (w_draw_L38 Q n38) n81 U81 v81_3 v81_5 → shy S U81 → Rep g ad A s U81 H locs → lv_has ls 6 [(0, .ref (ad 0)), (3, .int v81_3), (5, .int v81_5)] → W p l e (headSpec (wt2 yX14_draw cX14_draw 6 none) ({ frames := 3, cells := 0, slots := 0, locals := 67 })).room s m ([.ref (ad 0), .ref (ad p1), .int x2] : List Value).toArray below meth c H locs 0 0 (MQ below (va_Qv (fun (u : MS) => Q u ∧ wfM u ∧ shy S u) (fun (u : MS) (t : State) => qE g ad A u t) A) ([.ref (ad 0), .ref (ad p1), .int x2] : List Value).toArray s 0 0 A) (F0 m 81 ls []) := by
                  intro n81
                  induction n81 with
                  | zero => intro U81 v81_3 v81_5 H locs ls h hsh hR hl; unfold w_draw_L81 at h; exact h.elim
                  | succ n81 ih_81 =>
                    intro U81 v81_3 v81_5 H locs ls h hsh hR hl
                    unfold w_draw_L81 at h
                    refine lv_iload hx hb dX14_draw_81 (lv_at hl 2 rfl) ?_
                    refine lv_aload_n hx hb dX14_draw_83 rfl (lv_at hl 0 rfl) ?_
                    refine lv_iload_n hx hb dX14_draw_84 rfl (lv_at hl 1 rfl) ?_
                    obtain ⟨hv44, h⟩ := h
                    have hFc := rfree hR hA
                    refine va_calli (va_runV (As := [.int v81_3]) (rest := [.int v81_5]) ⟨hx, hb, hml, hown, hts⟩ (r_ways l g ad H.size U81 v81_3 hR.w  hv44) (cwV 1 hts (gd2_V kx_435 kx_436 kx_437 kx_177 kx_438) rfl rfl rfl (by decide +kernel) ⟨Nat.le_of_ble_eq_true rfl, Nat.le_of_ble_eq_true rfl⟩) ⟨rblind, va_recv hR.K hR.P (ci := 13) (q0 := 0) rfl (hR.at14 hR.w.1), fun U hU hW9 => rmk hU hW9 hR hex hE hFc⟩ rfl rfl hl.1 rfl (lv_room (Nat.le_of_ble_eq_true rfl)) dX14_draw_85 ⟨Nat.le_of_ble_eq_true rfl, Nat.le_of_ble_eq_true rfl⟩) hR.sS (fun q _ h => hFc q h) hFc (fun r45 u9 t9 H1 locs ht9 hvm9 hw9 hB9 hz9 hk9 hS => ?_)
                    have hR : Rep g ad A s U81 H1 locs := hR.call ht9 hB9 hR.w hS hFc
                    obtain rfl : r45 = (f_ways U81 v81_3) := hw9
                    clear hB9 hz9 hk9 hvm9 ht9 hS
                    generalize H1 = H at hR ⊢
                    refine lv_icmp_ge (tgt := 110) hx hb dX14_draw_88 (by decide) (fun c47 => ?_) (fun c47 => ?_)
                    · replace h := h.1 (k_le rfl rfl c47)
                      obtain ⟨a48, ea48⟩ : ∃ z, z = (v81_3 + Int32.ofInt 1) := ⟨_, rfl⟩
                      replace h := h a48 ea48
                      refine lv_iinc (v := a48) (lv' := [(3, .int a48), (0, .ref (ad 0)), (5, .int v81_5)]) hx hb dX14_draw_110 hl (k := 1) rfl ea48.symm (by decide) rfl (fun ls hl => ?_)
                      refine lv_goto (tgt := 38) hx hb dX14_draw_113 (by decide) ?_
                      exact ih_38 U81 a48 _ _ ls h  hsh hR (lv_sub hl [1, 0] rfl)
                    · replace h := h.2 (k_nle rfl rfl c47)
                      refine lv_aload_n hx hb dX14_draw_91 rfl (lv_at hl 0 rfl) ?_
                      refine va_get (D := rD g) (ci := 13) (v := .ref (ad 50)) (C := RX14) (T := TX14) (N := 143) hx hb hts in2X14 hown hR.K hR.P 0 (hR.at14 hR.w.1) rfl 104 (by decide) (hts _ kx_669) (fun _ h9 => h9) (congrArg (fun z => some (vf ad z)) (hR.w.2.1 _ fin_104).1) dX14_draw_92 ?_
                      refine lv_aload_n hx hb dX14_draw_95 rfl (lv_at hl 0 rfl) ?_
                      refine lv_iload_n hx hb dX14_draw_96 rfl (lv_at hl 1 rfl) ?_
                      refine lv_iload hx hb dX14_draw_97 (lv_at hl 2 rfl) ?_
                      obtain ⟨hv49, h⟩ := h
                      have hFc := rfree hR hA
                      refine va_calli (va_runV (As := [.int v81_3, .int v81_5]) (rest := [.ref (ad 50)]) ⟨hx, hb, hml, hown, hts⟩ (r_way l g ad H.size U81 v81_3 v81_5 hR.w  hv49) (cwV 2 hts (gd2_V kx_443 kx_444 kx_445 kx_177 kx_446) rfl rfl rfl (by decide +kernel) ⟨Nat.le_of_ble_eq_true rfl, Nat.le_of_ble_eq_true rfl⟩) ⟨rblind, va_recv hR.K hR.P (ci := 13) (q0 := 0) rfl (hR.at14 hR.w.1), fun U hU hW9 => rmk hU hW9 hR hex hE hFc⟩ rfl rfl hl.1 rfl (lv_room (Nat.le_of_ble_eq_true rfl)) dX14_draw_99 ⟨Nat.le_of_ble_eq_true rfl, Nat.le_of_ble_eq_true rfl⟩) hR.sS (fun q _ h => hFc q h) hFc (fun r50 u9 t9 H1 locs ht9 hvm9 hw9 hB9 hz9 hk9 hS => ?_)
                      have hR : Rep g ad A s U81 H1 locs := hR.call ht9 hB9 hR.w hS hFc
                      obtain rfl : r50 = (f_way U81 v81_3 v81_5) := hw9
                      clear hB9 hz9 hk9 hvm9 ht9 hS
                      generalize H1 = H at hR ⊢
                      refine lv_iconst (v := 1) hx hb dX14_draw_102 (by decide) ?_
                      obtain ⟨hv52, h⟩ := h
                      refine va_iast hx hb hR.K hR.P hR.D hR.sS 50 1 (hR.atI (hR.w.2.1 _ fin_104).2.1) rfl (k_ixN (k_ix (n := 1201) (x := (f_way U81 v81_3 v81_5)) (a := (f_way U81 v81_3 v81_5).toInt) rfl hv52) (hR.w.2.1 _ fin_104).2.2) dX14_draw_103 (fun H locs hP hD hS => ?_)
                      have hR : Rep g ad A s (wI U81 50 (((f_way U81 v81_3 v81_5).toInt).toNat) (1 : Int32)) H locs := hR.aI (hR.w.2.1 _ fin_104).2.1 hP hD hS
                      obtain ⟨S53, eS53⟩ : ∃ z, z = wI U81 50 (((f_way U81 v81_3 v81_5).toInt).toNat) (1 : Int32) := ⟨_, rfl⟩
                      rw [← eS53] at hR
                      replace h := h S53 eS53
                      have hsh : shy S S53 := by rw [eS53]; exact hsh
                      obtain ⟨a54, ea54⟩ : ∃ z, z = (v81_5 + Int32.ofInt 1) := ⟨_, rfl⟩
                      replace h := h a54 ea54
                      refine lv_iinc (v := a54) (lv' := [(5, .int a54), (0, .ref (ad 0)), (3, .int v81_3)]) hx hb dX14_draw_104 hl (k := 2) rfl ea54.symm (by decide) rfl (fun ls hl => ?_)
                      refine lv_goto (tgt := 81) hx hb dX14_draw_107 (by decide) ?_
                      exact ih_81 S53 v81_3 a54 _ _ ls h  hsh hR (lv_sub hl [1, 2, 0] rfl)
                obtain ⟨n9, h⟩ := h
                exact J_81 n9 U78 v78_3 0 _ _ ls h  hsh hR (lv_sub hl [1, 2, 0] rfl)
              have J_69 : ∀ (U69 : MS) (v69_3 : Int32) (H : Heap) (locs : List Loc) (ls : Array Slot), w_draw_J69 Q (w_draw_L38 Q n38) U69 v69_3 → shy S U69 → Rep g ad A s U69 H locs → lv_has ls 6 [(0, .ref (ad 0)), (3, .int v69_3)] → W p l e (headSpec (wt2 yX14_draw cX14_draw 6 none) ({ frames := 3, cells := 0, slots := 0, locals := 67 })).room s m ([.ref (ad 0), .ref (ad p1), .int x2] : List Value).toArray below meth c H locs 0 0 (MQ below (va_Qv (fun (u : MS) => Q u ∧ wfM u ∧ shy S u) (fun (u : MS) (t : State) => qE g ad A u t) A) ([.ref (ad 0), .ref (ad p1), .int x2] : List Value).toArray s 0 0 A) (F0 m 69 ls []) := by
                intro U69 v69_3 H locs ls h hsh hR hl
                unfold w_draw_J69 at h
                refine lv_aload_n hx hb dX14_draw_69 rfl (lv_at hl 0 rfl) ?_
                refine va_get (D := rD g) (ci := 13) (v := .ref (ad 50)) (C := RX14) (T := TX14) (N := 143) hx hb hts in2X14 hown hR.K hR.P 0 (hR.at14 hR.w.1) rfl 104 (by decide) (hts _ kx_669) (fun _ h9 => h9) (congrArg (fun z => some (vf ad z)) (hR.w.2.1 _ fin_104).1) dX14_draw_70 ?_
                refine lv_iload_n hx hb dX14_draw_73 rfl (lv_at hl 1 rfl) ?_
                refine lv_iconst (v := 1) hx hb dX14_draw_74 (by decide) ?_
                refine lv_iadd hx hb dX14_draw_75 ?_
                refine lv_topi (fun z55 ez55 => ?_)
                obtain rfl : z55 = (v69_3 + (1 : Int32)) := ez55
                refine lv_iconst (v := 1) hx hb dX14_draw_76 (by decide) ?_
                obtain ⟨hv56, h⟩ := h
                refine va_iast hx hb hR.K hR.P hR.D hR.sS 50 1 (hR.atI (hR.w.2.1 _ fin_104).2.1) rfl (k_ixN (k_ix (n := 1201) (x := (v69_3 + (1 : Int32))) (a := (v69_3 + (1 : Int32)).toInt) rfl hv56) (hR.w.2.1 _ fin_104).2.2) dX14_draw_77 (fun H locs hP hD hS => ?_)
                have hR : Rep g ad A s (wI U69 50 (((v69_3 + (1 : Int32)).toInt).toNat) (1 : Int32)) H locs := hR.aI (hR.w.2.1 _ fin_104).2.1 hP hD hS
                obtain ⟨S57, eS57⟩ : ∃ z, z = wI U69 50 (((v69_3 + (1 : Int32)).toInt).toNat) (1 : Int32) := ⟨_, rfl⟩
                rw [← eS57] at hR
                replace h := h S57 eS57
                have hsh : shy S S57 := by rw [eS57]; exact hsh
                exact J_78 S57 v69_3 _ _ ls h  hsh hR (lv_sub hl [0, 1] rfl)
              refine lv_if_ne (tgt := 69) hx hb dX14_draw_58 (by decide) (fun c58 => ?_) (fun c58 => ?_)
              · replace h := h.2 (k_ne rfl (by decide) c58)
                exact J_69 U38 v38_3 _ _ ls h  hsh hR (lv_sub hl [1, 2] rfl)
              · replace h := h.1 (k_eq rfl (by decide) c58)
                refine lv_iload hx hb dX14_draw_61 (lv_at hl 0 rfl) ?_
                obtain ⟨hv59, h⟩ := h
                have hFc := rfree hR hA
                refine va_calli (va_runS (As := [.int a40]) (rest := []) ⟨hx, hb, hml, hown, hts⟩ (r_goesOn l g ad H.size U38 a40 hR.w  hv59) (va_cwS 1 hts (gd2_S kx_428 kx_429 kx_177 kx_430) rfl rfl rfl (by decide +kernel) ⟨Nat.le_of_ble_eq_true rfl, Nat.le_of_ble_eq_true rfl⟩) ⟨rblind, fun U hU hW9 => rmk hU hW9 hR hex hE hFc⟩ rfl rfl hl.1 rfl (lv_room (Nat.le_of_ble_eq_true rfl)) dX14_draw_63 ⟨Nat.le_of_ble_eq_true rfl, Nat.le_of_ble_eq_true rfl⟩) hR.sS (fun q _ h => hFc q h) hFc (fun r60 u9 t9 H1 locs ht9 hvm9 hw9 hB9 hz9 hk9 hS => ?_)
                have hR : Rep g ad A s U38 H1 locs := hR.call ht9 hB9 hR.w hS hFc
                obtain ⟨rfl, hz_r60⟩ := hw9
                clear hB9 hz9 hk9 hvm9 ht9 hS
                generalize H1 = H at hR ⊢
                refine lv_if_ne (tgt := 78) hx hb dX14_draw_66 (by decide) (fun c62 => ?_) (fun c62 => ?_)
                · replace h := h.2 (k_ne rfl (by decide) c62)
                  exact J_78 U38 v38_3 _ _ ls h  hsh hR (lv_sub hl [1, 2] rfl)
                · replace h := h.1 (k_eq rfl (by decide) c62)
                  exact J_69 U38 v38_3 _ _ ls h  hsh hR (lv_sub hl [1, 2] rfl)
        obtain ⟨n9, h⟩ := h
        exact J_38 n9 S5 0 _ _ ls h  hsh hR (lv_sub hl [1, 0] rfl)
      · replace h := h.2 (k_nlt rfl rfl c4)
        refine lv_aload_n hx hb dX14_draw_16 rfl (lv_at hl 0 rfl) ?_
        refine va_get (D := rD g) (ci := 13) (v := .ref (ad 50)) (C := RX14) (T := TX14) (N := 143) hx hb hts in2X14 hown hR.K hR.P 0 (hR.at14 hR.w.1) rfl 104 (by decide) (hts _ kx_669) (fun _ h9 => h9) (congrArg (fun z => some (vf ad z)) (hR.w.2.1 _ fin_104).1) dX14_draw_17 ?_
        refine lv_iload_n hx hb dX14_draw_20 rfl (lv_at hl 1 rfl) ?_
        refine lv_iconst (v := 0) hx hb dX14_draw_21 (by decide) ?_
        obtain ⟨hv63, h⟩ := h
        refine va_iast hx hb hR.K hR.P hR.D hR.sS 50 1 (hR.atI (hR.w.2.1 _ fin_104).2.1) rfl (k_ixN (k_ix (n := 1201) (x := v8_3) (a := v8_3.toInt) rfl hv63) (hR.w.2.1 _ fin_104).2.2) dX14_draw_22 (fun H locs hP hD hS => ?_)
        have hR : Rep g ad A s (wI U8 50 v8_3.toInt.toNat (0 : Int32)) H locs := hR.aI (hR.w.2.1 _ fin_104).2.1 hP hD hS
        obtain ⟨S64, eS64⟩ : ∃ z, z = wI U8 50 v8_3.toInt.toNat (0 : Int32) := ⟨_, rfl⟩
        rw [← eS64] at hR
        replace h := h S64 eS64
        have hsh : shy S S64 := by rw [eS64]; exact hsh
        obtain ⟨a65, ea65⟩ : ∃ z, z = (v8_3 + Int32.ofInt 1) := ⟨_, rfl⟩
        replace h := h a65 ea65
        refine lv_iinc (v := a65) (lv' := [(3, .int a65), (0, .ref (ad 0))]) hx hb dX14_draw_23 hl (k := 1) rfl ea65.symm (by decide) rfl (fun ls hl => ?_)
        refine lv_goto (tgt := 8) hx hb dX14_draw_26 (by decide) ?_
        exact ih_8 S64 a65 _ _ ls h  hsh hR (lv_sub hl [1, 0] rfl)
  obtain ⟨n9, h⟩ := h
  exact J_8 n9 S2 0 _ _ ls h  hsh hR (lv_sub hl [1, 0] rfl)
def w_dominate_J235 (Q : MS → Prop) (k200 : MS → Int32 → Prop) (U235 : MS) (t235_0 : Int32) (t235_1 : Int32) (v235_2 : Int32) : Prop := (((0 : Int) ≤ t235_1.toInt ∧ t235_1.toInt < 1200) ∧ (∀ S10, S10 = wI U235 55 t235_1.toInt.toNat t235_0 → (∀ a11 : Int32, a11 = (v235_2 + Int32.ofInt 1) → k200 S10 a11)))
def w_dominate_J234 (Q : MS → Prop) (k200 : MS → Int32 → Prop) (U234 : MS) (t234_0 : Int32) (v234_2 : Int32) : Prop := w_dominate_J235 Q k200 U234 (-1) t234_0 v234_2
def w_dominate_L200 (Q : MS → Prop) : Nat → MS → Int32 → Prop
  | 0, _, _ => False
  | n200 + 1, U200, v200_2 => (((qI U200 0 105).toInt ≤ v200_2.toInt → Q U200) ∧ (¬ (qI U200 0 105).toInt ≤ v200_2.toInt → (((0 : Int) ≤ v200_2.toInt ∧ v200_2.toInt < 1200) ∧ (((qI U200 53 v200_2.toInt.toNat).toInt = 0 → w_dominate_J234 Q (w_dominate_L200 Q n200) U200 v200_2 v200_2) ∧ (¬ (qI U200 53 v200_2.toInt.toNat).toInt = 0 → ((v200_2.toInt ≤ 0 → w_dominate_J234 Q (w_dominate_L200 Q n200) U200 v200_2 v200_2) ∧ (¬ v200_2.toInt ≤ 0 → (∃ Q14, w_nearestOf U200 v200_2 Q14 ∧ ∀ r15 S16, Q14 r15 S16 → w_dominate_J235 Q (w_dominate_L200 Q n200) S16 r15 v200_2 v200_2))))))))
def w_dominate_J186 (Q : MS → Prop) (k159 : MS → Int32 → Int32 → Prop) (U186 : MS) (v186_2 : Int32) (v186_3 : Int32) : Prop := (∀ a25 : Int32, a25 = (v186_3 + Int32.ofInt 1) → k159 U186 v186_2 a25)
def w_dominate_L159 (Q : MS → Prop) (k142 : MS → Int32 → Prop) : Nat → MS → Int32 → Int32 → Prop
  | 0, _, _, _ => False
  | n159 + 1, U159, v159_2, v159_3 => (((qI U159 0 105).toInt ≤ v159_3.toInt → (∀ a21 : Int32, a21 = (v159_2 + Int32.ofInt 1) → k142 U159 a21)) ∧ (¬ (qI U159 0 105).toInt ≤ v159_3.toInt → (d_dominates U159 v159_3 v159_2 ∧ (((f_dominates U159 v159_3 v159_2).toInt = 0 → w_dominate_J186 Q (w_dominate_L159 Q k142 n159) U159 v159_2 v159_3) ∧ (¬ (f_dominates U159 v159_3 v159_2).toInt = 0 → (((0 : Int) ≤ v159_2.toInt ∧ v159_2.toInt < 1200) ∧ (((0 : Int) ≤ v159_2.toInt ∧ v159_2.toInt < 1200) ∧ (∀ S31, S31 = wI U159 59 v159_2.toInt.toNat ((qI U159 59 v159_2.toInt.toNat) + (1 : Int32)) → w_dominate_J186 Q (w_dominate_L159 Q k142 n159) S31 v159_2 v159_3))))))))
def w_dominate_L142 (Q : MS → Prop) : Nat → MS → Int32 → Prop
  | 0, _, _ => False
  | n142 + 1, U142, v142_2 => (((qI U142 0 105).toInt ≤ v142_2.toInt → (∃ n, w_dominate_L200 Q n U142 0)) ∧ (¬ (qI U142 0 105).toInt ≤ v142_2.toInt → (((0 : Int) ≤ v142_2.toInt ∧ v142_2.toInt < 1200) ∧ (∀ S19, S19 = wI U142 59 v142_2.toInt.toNat (0 : Int32) → (∃ n, w_dominate_L159 Q (w_dominate_L142 Q n142) n S19 v142_2 0)))))
def w_dominate_J131 (Q : MS → Prop) (k65 : MS → Int32 → Int32 → Prop) (U131 : MS) (v131_1 : Int32) (v131_2 : Int32) : Prop := (∀ a38 : Int32, a38 = (v131_2 + Int32.ofInt 1) → k65 U131 v131_1 a38)
def w_dominate_J124 (Q : MS → Prop) (k80 : MS → Int32 → Int32 → Int32 → Prop) (U124 : MS) (t124_0 : Int32) (v124_2 : Int32) (v124_3 : Int32) : Prop := (∀ a50 : Int32, a50 = (v124_3 + Int32.ofInt 1) → k80 U124 t124_0 v124_2 a50)
def w_dominate_J119 (Q : MS → Prop) (k80 : MS → Int32 → Int32 → Int32 → Prop) (U119 : MS) (v119_2 : Int32) (v119_3 : Int32) : Prop := w_dominate_J124 Q k80 U119 1 v119_2 v119_3
def w_dominate_L80 (Q : MS → Prop) (k65 : MS → Int32 → Int32 → Prop) : Nat → MS → Int32 → Int32 → Int32 → Prop
  | 0, _, _, _, _ => False
  | n80 + 1, U80, v80_1, v80_2, v80_3 => (((0 : Int) ≤ v80_2.toInt ∧ v80_2.toInt < 1200) ∧ (((qI U80 53 v80_2.toInt.toNat).toInt = 0 → w_dominate_J131 Q k65 U80 v80_1 v80_2) ∧ (¬ (qI U80 53 v80_2.toInt.toNat).toInt = 0 → (((0 : Int) ≤ (v80_2 + (1 : Int32)).toInt ∧ (v80_2 + (1 : Int32)).toInt < 1202) ∧ (((qI U80 51 (((v80_2 + (1 : Int32)).toInt).toNat)).toInt ≤ v80_3.toInt → w_dominate_J131 Q k65 U80 v80_1 v80_2) ∧ (¬ (qI U80 51 (((v80_2 + (1 : Int32)).toInt).toNat)).toInt ≤ v80_3.toInt → (((0 : Int) ≤ v80_3.toInt ∧ v80_3.toInt < 24000) ∧ (∃ Q46, w_narrowed U80 v80_2 (qI U80 52 v80_3.toInt.toNat) Q46 ∧ ∀ r47 S48, Q46 r47 S48 → ((r47.toInt = 0 → ((v80_1.toInt = 0 → w_dominate_J124 Q (w_dominate_L80 Q k65 n80) S48 0 v80_2 v80_3) ∧ (¬ v80_1.toInt = 0 → w_dominate_J119 Q (w_dominate_L80 Q k65 n80) S48 v80_2 v80_3))) ∧ (¬ r47.toInt = 0 → w_dominate_J119 Q (w_dominate_L80 Q k65 n80) S48 v80_2 v80_3))))))))))
def w_dominate_L65 (Q : MS → Prop) (k57 : MS → Int32 → Prop) : Nat → MS → Int32 → Int32 → Prop
  | 0, _, _, _ => False
  | n65 + 1, U65, v65_1, v65_2 => (((qI U65 0 105).toInt ≤ v65_2.toInt → k57 U65 v65_1) ∧ (¬ (qI U65 0 105).toInt ≤ v65_2.toInt → (((0 : Int) ≤ v65_2.toInt ∧ v65_2.toInt < 1202) ∧ (∀ a35 : Int32, a35 = (qI U65 51 v65_2.toInt.toNat) → (∃ n, w_dominate_L80 Q (w_dominate_L65 Q k57 n65) n U65 v65_1 v65_2 a35)))))
def w_dominate_L57 (Q : MS → Prop) : Nat → MS → Int32 → Prop
  | 0, _, _ => False
  | n57 + 1, U57, v57_1 => ((v57_1.toInt = 0 → (∃ n, w_dominate_L142 Q n U57 0)) ∧ (¬ v57_1.toInt = 0 → (∃ n, w_dominate_L65 Q (w_dominate_L57 Q n57) n U57 0 0)))
def w_dominate_J48 (Q : MS → Prop) (k28 : MS → Int32 → Prop) (U48 : MS) (t48_0 : Int32) (t48_1 : Int32) (v48_1 : Int32) : Prop := (((0 : Int) ≤ t48_1.toInt ∧ t48_1.toInt < 45600) ∧ (∀ S54, S54 = wI U48 54 t48_1.toInt.toNat t48_0 → (∀ a55 : Int32, a55 = (v48_1 + Int32.ofInt 1) → k28 S54 a55)))
def w_dominate_L28 (Q : MS → Prop) : Nat → MS → Int32 → Prop
  | 0, _, _ => False
  | n28 + 1, U28, v28_1 => ((38 ≤ v28_1.toInt → (∃ n, w_dominate_L57 Q n U28 1)) ∧ (¬ 38 ≤ v28_1.toInt → ((v28_1.toInt = 0 → w_dominate_J48 Q (w_dominate_L28 Q n28) U28 1 v28_1 v28_1) ∧ (¬ v28_1.toInt = 0 → w_dominate_J48 Q (w_dominate_L28 Q n28) U28 0 v28_1 v28_1))))
def w_dominate_L2 (Q : MS → Prop) : Nat → MS → Int32 → Prop
  | 0, _, _ => False
  | n2 + 1, U2, v2_1 => ((((qI U2 0 105) * (38 : Int32)).toInt ≤ v2_1.toInt → (∃ n, w_dominate_L28 Q n U2 0)) ∧ (¬ ((qI U2 0 105) * (38 : Int32)).toInt ≤ v2_1.toInt → (((0 : Int) ≤ v2_1.toInt ∧ v2_1.toInt < 45600) ∧ (∀ S58, S58 = wI U2 54 v2_1.toInt.toNat (-1 : Int32) → (∀ a59 : Int32, a59 = (v2_1 + Int32.ofInt 1) → (w_dominate_L2 Q n2) S58 a59)))))
def w_dominate (S : MS) (Q : MS → Prop) : Prop := (∃ n, w_dominate_L2 Q n S 0)
set_option maxHeartbeats 2000000 in
set_option maxRecDepth 100000 in
theorem r_dominate (l : Launch) (g : Gr) (ad : Nat → Nat) (sz : Nat) (S : MS) (hw : wfM S) (Q : MS → Prop) (h : w_dominate S Q) : Met l yX14_dominate (wt2 yX14_dominate cX14_dominate 4 none) ({ frames := 2, cells := 0, slots := 0, locals := 46 }) (va_Pc [.ref (ad 0)] (st_R g ad sz S)) (va_Qv (fun (u : MS) => Q u ∧ wfM u ∧ shy S u) (fun (u : MS) (t : State) => qE g ad (va_A (Wd g ad S) sz) u t) (va_A (Wd g ad S) sz)) 0 0 (va_A (Wd g ad S) sz) := by
  refine Met.ofW (cc := cX14_dominate) (maxL := 4) (ret := none) (by decide) rfl ?_
  intro p e s m args below meth c s₁ B hml hv
  obtain ⟨rfl, hsz, hP, hK, hD0, hex, hE⟩ := hv
  have hx := B.exec
  have hb := B.bytes
  have hr := B.returns
  have hts0 := atoms_spec (ws := wt2 yX14_dominate cX14_dominate 4 none) B.pre
  have hts : ∀ w ∈ tb2, w.before _ s = true := fun w h => hts0 w (List.mem_cons_of_mem _ h)
  have hown : s.vm.findClass RX14 = some m.cls := findClass_of_methodNamed B.named
  subst hsz
  have hD := hD0.self (sz := s.heap.size)
  generalize hAe : va_A (Wd g ad S) s.heap.size = A at hD hE ⊢
  have hA : ∀ q : Nat, s.heap.size ≤ q → A q := fun q h => by rw [← hAe]; exact Or.inr h
  have hR : Rep g ad A s S s.heap [] := ⟨hK, hP, hD, va_S.rf, hw⟩
  clear hK hP hD hD0
  have hl := lv_entry ([.ref (ad 0)]) (n := 4) (Nat.le_of_ble_eq_true rfl)
  rw [lg_entry_eq]
  generalize (lg_sl ([.ref (ad 0)]) ++ List.replicate (4 - (lg_sl ([.ref (ad 0)])).length) Slot.unset).toArray = ls at hl ⊢
  have hl : lv_has ls 4 [(0, .ref (ad 0))] := hl
  have hsh : shy S S := shy.rf
  unfold w_dominate at h
  refine lv_iconst (v := 0) hx hb dX14_dominate_0 (by decide) ?_
  refine lv_istore_n (lv' := [(1, .int 0), (0, .ref (ad 0))]) hx hb dX14_dominate_1 rfl hl (by decide) rfl (fun ls hl => ?_)
  have J_2 : ∀ (n2 : Nat) (U2 : MS) (v2_1 : Int32) (H : Heap) (locs : List Loc) (ls : Array Slot), w_dominate_L2 Q n2 U2 v2_1 → shy S U2 → Rep g ad A s U2 H locs → lv_has ls 4 [(0, .ref (ad 0)), (1, .int v2_1)] → W p l e (headSpec (wt2 yX14_dominate cX14_dominate 4 none) ({ frames := 2, cells := 0, slots := 0, locals := 46 })).room s m ([.ref (ad 0)] : List Value).toArray below meth c H locs 0 0 (MQ below (va_Qv (fun (u : MS) => Q u ∧ wfM u ∧ shy S u) (fun (u : MS) (t : State) => qE g ad A u t) A) ([.ref (ad 0)] : List Value).toArray s 0 0 A) (F0 m 2 ls []) := by
    intro n2
    induction n2 with
    | zero => intro U2 v2_1 H locs ls h hsh hR hl; unfold w_dominate_L2 at h; exact h.elim
    | succ n2 ih_2 =>
      intro U2 v2_1 H locs ls h hsh hR hl
      unfold w_dominate_L2 at h
      refine lv_iload_n hx hb dX14_dominate_2 rfl (lv_at hl 1 rfl) ?_
      refine lv_aload_n hx hb dX14_dominate_3 rfl (lv_at hl 0 rfl) ?_
      refine va_get (D := rD g) (ci := 13) (v := .int (qI U2 0 105)) (C := RX14) (T := TX14) (N := 143) hx hb hts in2X14 hown hR.K hR.P 0 (hR.at14 hR.w.1) rfl 105 (by decide) (hts _ kx_670) (fun _ h9 => h9) rfl dX14_dominate_4 ?_
      refine lv_bipush (v := 38) hx hb dX14_dominate_7 (by decide) ?_
      refine lv_imul hx hb dX14_dominate_9 ?_
      refine lv_topi (fun z1 ez1 => ?_)
      obtain rfl : z1 = ((qI U2 0 105) * (38 : Int32)) := ez1
      refine lv_icmp_ge (tgt := 26) hx hb dX14_dominate_10 (by decide) (fun c2 => ?_) (fun c2 => ?_)
      · replace h := h.1 (k_le rfl rfl c2)
        refine lv_iconst (v := 0) hx hb dX14_dominate_26 (by decide) ?_
        refine lv_istore_n (lv' := [(1, .int 0), (0, .ref (ad 0))]) hx hb dX14_dominate_27 rfl hl (by decide) rfl (fun ls hl => ?_)
        have J_28 : ∀ (n28 : Nat) (U28 : MS) (v28_1 : Int32) (H : Heap) (locs : List Loc) (ls : Array Slot), w_dominate_L28 Q n28 U28 v28_1 → shy S U28 → Rep g ad A s U28 H locs → lv_has ls 4 [(0, .ref (ad 0)), (1, .int v28_1)] → W p l e (headSpec (wt2 yX14_dominate cX14_dominate 4 none) ({ frames := 2, cells := 0, slots := 0, locals := 46 })).room s m ([.ref (ad 0)] : List Value).toArray below meth c H locs 0 0 (MQ below (va_Qv (fun (u : MS) => Q u ∧ wfM u ∧ shy S u) (fun (u : MS) (t : State) => qE g ad A u t) A) ([.ref (ad 0)] : List Value).toArray s 0 0 A) (F0 m 28 ls []) := by
          intro n28
          induction n28 with
          | zero => intro U28 v28_1 H locs ls h hsh hR hl; unfold w_dominate_L28 at h; exact h.elim
          | succ n28 ih_28 =>
            intro U28 v28_1 H locs ls h hsh hR hl
            unfold w_dominate_L28 at h
            refine lv_iload_n hx hb dX14_dominate_28 rfl (lv_at hl 1 rfl) ?_
            refine lv_bipush (v := 38) hx hb dX14_dominate_29 (by decide) ?_
            refine lv_icmp_ge (tgt := 55) hx hb dX14_dominate_31 (by decide) (fun c3 => ?_) (fun c3 => ?_)
            · replace h := h.1 (k_le (by decide) rfl c3)
              refine lv_iconst (v := 1) hx hb dX14_dominate_55 (by decide) ?_
              refine lv_istore_n (lv' := [(1, .int 1), (0, .ref (ad 0))]) hx hb dX14_dominate_56 rfl hl (by decide) rfl (fun ls hl => ?_)
              have J_57 : ∀ (n57 : Nat) (U57 : MS) (v57_1 : Int32) (H : Heap) (locs : List Loc) (ls : Array Slot), w_dominate_L57 Q n57 U57 v57_1 → shy S U57 → Rep g ad A s U57 H locs → lv_has ls 4 [(0, .ref (ad 0)), (1, .int v57_1)] → W p l e (headSpec (wt2 yX14_dominate cX14_dominate 4 none) ({ frames := 2, cells := 0, slots := 0, locals := 46 })).room s m ([.ref (ad 0)] : List Value).toArray below meth c H locs 0 0 (MQ below (va_Qv (fun (u : MS) => Q u ∧ wfM u ∧ shy S u) (fun (u : MS) (t : State) => qE g ad A u t) A) ([.ref (ad 0)] : List Value).toArray s 0 0 A) (F0 m 57 ls []) := by
                intro n57
                induction n57 with
                | zero => intro U57 v57_1 H locs ls h hsh hR hl; unfold w_dominate_L57 at h; exact h.elim
                | succ n57 ih_57 =>
                  intro U57 v57_1 H locs ls h hsh hR hl
                  unfold w_dominate_L57 at h
                  refine lv_iload_n hx hb dX14_dominate_57 rfl (lv_at hl 1 rfl) ?_
                  refine lv_if_eq (tgt := 140) hx hb dX14_dominate_58 (by decide) (fun c4 => ?_) (fun c4 => ?_)
                  · replace h := h.1 (k_eq rfl (by decide) c4)
                    refine lv_iconst (v := 0) hx hb dX14_dominate_140 (by decide) ?_
                    refine lv_istore_n (lv' := [(2, .int 0), (0, .ref (ad 0)), (1, .int v57_1)]) hx hb dX14_dominate_141 rfl hl (by decide) rfl (fun ls hl => ?_)
                    have J_142 : ∀ (n142 : Nat) (U142 : MS) (v142_2 : Int32) (H : Heap) (locs : List Loc) (ls : Array Slot), w_dominate_L142 Q n142 U142 v142_2 → shy S U142 → Rep g ad A s U142 H locs → lv_has ls 4 [(0, .ref (ad 0)), (2, .int v142_2)] → W p l e (headSpec (wt2 yX14_dominate cX14_dominate 4 none) ({ frames := 2, cells := 0, slots := 0, locals := 46 })).room s m ([.ref (ad 0)] : List Value).toArray below meth c H locs 0 0 (MQ below (va_Qv (fun (u : MS) => Q u ∧ wfM u ∧ shy S u) (fun (u : MS) (t : State) => qE g ad A u t) A) ([.ref (ad 0)] : List Value).toArray s 0 0 A) (F0 m 142 ls []) := by
                      intro n142
                      induction n142 with
                      | zero => intro U142 v142_2 H locs ls h hsh hR hl; unfold w_dominate_L142 at h; exact h.elim
                      | succ n142 ih_142 =>
                        intro U142 v142_2 H locs ls h hsh hR hl
                        unfold w_dominate_L142 at h
                        refine lv_iload_n hx hb dX14_dominate_142 rfl (lv_at hl 1 rfl) ?_
                        refine lv_aload_n hx hb dX14_dominate_143 rfl (lv_at hl 0 rfl) ?_
                        refine va_get (D := rD g) (ci := 13) (v := .int (qI U142 0 105)) (C := RX14) (T := TX14) (N := 143) hx hb hts in2X14 hown hR.K hR.P 0 (hR.at14 hR.w.1) rfl 105 (by decide) (hts _ kx_670) (fun _ h9 => h9) rfl dX14_dominate_144 ?_
                        refine lv_icmp_ge (tgt := 198) hx hb dX14_dominate_147 (by decide) (fun c5 => ?_) (fun c5 => ?_)
                        · replace h := h.1 (k_le rfl rfl c5)
                          refine lv_iconst (v := 0) hx hb dX14_dominate_198 (by decide) ?_
                          refine lv_istore_n (lv' := [(2, .int 0), (0, .ref (ad 0))]) hx hb dX14_dominate_199 rfl hl (by decide) rfl (fun ls hl => ?_)
                          have J_200 : ∀ (n200 : Nat) (U200 : MS) (v200_2 : Int32) (H : Heap) (locs : List Loc) (ls : Array Slot), w_dominate_L200 Q n200 U200 v200_2 → shy S U200 → Rep g ad A s U200 H locs → lv_has ls 4 [(0, .ref (ad 0)), (2, .int v200_2)] → W p l e (headSpec (wt2 yX14_dominate cX14_dominate 4 none) ({ frames := 2, cells := 0, slots := 0, locals := 46 })).room s m ([.ref (ad 0)] : List Value).toArray below meth c H locs 0 0 (MQ below (va_Qv (fun (u : MS) => Q u ∧ wfM u ∧ shy S u) (fun (u : MS) (t : State) => qE g ad A u t) A) ([.ref (ad 0)] : List Value).toArray s 0 0 A) (F0 m 200 ls []) := by
                            intro n200
                            induction n200 with
                            | zero => intro U200 v200_2 H locs ls h hsh hR hl; unfold w_dominate_L200 at h; exact h.elim
                            | succ n200 ih_200 =>
                              intro U200 v200_2 H locs ls h hsh hR hl
                              unfold w_dominate_L200 at h
                              refine lv_iload_n hx hb dX14_dominate_200 rfl (lv_at hl 1 rfl) ?_
                              refine lv_aload_n hx hb dX14_dominate_201 rfl (lv_at hl 0 rfl) ?_
                              refine va_get (D := rD g) (ci := 13) (v := .int (qI U200 0 105)) (C := RX14) (T := TX14) (N := 143) hx hb hts in2X14 hown hR.K hR.P 0 (hR.at14 hR.w.1) rfl 105 (by decide) (hts _ kx_670) (fun _ h9 => h9) rfl dX14_dominate_202 ?_
                              refine lv_icmp_ge (tgt := 242) hx hb dX14_dominate_205 (by decide) (fun c6 => ?_) (fun c6 => ?_)
                              · replace h := h.1 (k_le rfl rfl c6)
                                exact W.vret hx hb hr (fun t9 ht9 hW9 => ⟨⟨U200, rfl, ⟨h, hR.w, hsh⟩, ⟨by rw [ht9]; exact hR.P, hR.D⟩⟩, hR.sS.F ht9⟩) hR.sS.2.2 dX14_dominate_242
                              · replace h := h.2 (k_nle rfl rfl c6)
                                refine lv_aload_n hx hb dX14_dominate_208 rfl (lv_at hl 0 rfl) ?_
                                refine va_get (D := rD g) (ci := 13) (v := .ref (ad 55)) (C := RX14) (T := TX14) (N := 143) hx hb hts in2X14 hown hR.K hR.P 0 (hR.at14 hR.w.1) rfl 113 (by decide) (hts _ kx_681) (fun _ h9 => h9) (congrArg (fun z => some (vf ad z)) (hR.w.2.1 _ fin_113).1) dX14_dominate_209 ?_
                                refine lv_iload_n hx hb dX14_dominate_212 rfl (lv_at hl 1 rfl) ?_
                                refine lv_aload_n hx hb dX14_dominate_213 rfl (lv_at hl 0 rfl) ?_
                                refine va_get (D := rD g) (ci := 13) (v := .ref (ad 53)) (C := RX14) (T := TX14) (N := 143) hx hb hts in2X14 hown hR.K hR.P 0 (hR.at14 hR.w.1) rfl 111 (by decide) (hts _ kx_679) (fun _ h9 => h9) (congrArg (fun z => some (vf ad z)) (hR.w.2.1 _ fin_111).1) dX14_dominate_214 ?_
                                refine lv_iload_n hx hb dX14_dominate_217 rfl (lv_at hl 1 rfl) ?_
                                obtain ⟨hv7, h⟩ := h
                                refine va_zald hx hb hR.K hR.P 53 2 (hR.atZ (hR.w.2.1 _ fin_111).2.1) rfl (k_ixN (k_ix (n := 1200) (x := v200_2) (a := v200_2.toInt) rfl hv7) (hR.w.2.1 _ fin_111).2.2) dX14_dominate_218 ?_
                                refine lv_topi (fun z8 ez8 => ?_)
                                obtain rfl : z8 = (qI U200 53 v200_2.toInt.toNat) := ez8
                                have J_235 : ∀ (U235 : MS) (t235_0 : Int32) (t235_1 : Int32) (v235_2 : Int32) (H : Heap) (locs : List Loc) (ls : Array Slot), w_dominate_J235 Q (w_dominate_L200 Q n200) U235 t235_0 t235_1 v235_2 → shy S U235 → Rep g ad A s U235 H locs → lv_has ls 4 [(0, .ref (ad 0)), (2, .int v235_2)] → W p l e (headSpec (wt2 yX14_dominate cX14_dominate 4 none) ({ frames := 2, cells := 0, slots := 0, locals := 46 })).room s m ([.ref (ad 0)] : List Value).toArray below meth c H locs 0 0 (MQ below (va_Qv (fun (u : MS) => Q u ∧ wfM u ∧ shy S u) (fun (u : MS) (t : State) => qE g ad A u t) A) ([.ref (ad 0)] : List Value).toArray s 0 0 A) (F0 m 235 ls [.int t235_0, .int t235_1, .ref (ad 55)]) := by
                                  intro U235 t235_0 t235_1 v235_2 H locs ls h hsh hR hl
                                  unfold w_dominate_J235 at h
                                  obtain ⟨hv9, h⟩ := h
                                  refine va_iast hx hb hR.K hR.P hR.D hR.sS 55 1 (hR.atI (hR.w.2.1 _ fin_113).2.1) rfl (k_ixN (k_ix (n := 1200) (x := t235_1) (a := t235_1.toInt) rfl hv9) (hR.w.2.1 _ fin_113).2.2) dX14_dominate_235 (fun H locs hP hD hS => ?_)
                                  have hR : Rep g ad A s (wI U235 55 t235_1.toInt.toNat t235_0) H locs := hR.aI (hR.w.2.1 _ fin_113).2.1 hP hD hS
                                  obtain ⟨S10, eS10⟩ : ∃ z, z = wI U235 55 t235_1.toInt.toNat t235_0 := ⟨_, rfl⟩
                                  rw [← eS10] at hR
                                  replace h := h S10 eS10
                                  have hsh : shy S S10 := by rw [eS10]; exact hsh
                                  obtain ⟨a11, ea11⟩ : ∃ z, z = (v235_2 + Int32.ofInt 1) := ⟨_, rfl⟩
                                  replace h := h a11 ea11
                                  refine lv_iinc (v := a11) (lv' := [(2, .int a11), (0, .ref (ad 0))]) hx hb dX14_dominate_236 hl (k := 1) rfl ea11.symm (by decide) rfl (fun ls hl => ?_)
                                  refine lv_goto (tgt := 200) hx hb dX14_dominate_239 (by decide) ?_
                                  exact ih_200 S10 a11 _ _ ls h  hsh hR (lv_sub hl [1, 0] rfl)
                                have J_234 : ∀ (U234 : MS) (t234_0 : Int32) (v234_2 : Int32) (H : Heap) (locs : List Loc) (ls : Array Slot), w_dominate_J234 Q (w_dominate_L200 Q n200) U234 t234_0 v234_2 → shy S U234 → Rep g ad A s U234 H locs → lv_has ls 4 [(0, .ref (ad 0)), (2, .int v234_2)] → W p l e (headSpec (wt2 yX14_dominate cX14_dominate 4 none) ({ frames := 2, cells := 0, slots := 0, locals := 46 })).room s m ([.ref (ad 0)] : List Value).toArray below meth c H locs 0 0 (MQ below (va_Qv (fun (u : MS) => Q u ∧ wfM u ∧ shy S u) (fun (u : MS) (t : State) => qE g ad A u t) A) ([.ref (ad 0)] : List Value).toArray s 0 0 A) (F0 m 234 ls [.int t234_0, .ref (ad 55)]) := by
                                  intro U234 t234_0 v234_2 H locs ls h hsh hR hl
                                  unfold w_dominate_J234 at h
                                  refine lv_iconst (v := (-1)) hx hb dX14_dominate_234 (by decide) ?_
                                  exact J_235 U234 (-1) t234_0 v234_2 _ _ ls h  hsh hR (lv_sub hl [0, 1] rfl)
                                refine lv_if_eq (tgt := 234) hx hb dX14_dominate_219 (by decide) (fun c12 => ?_) (fun c12 => ?_)
                                · replace h := h.1 (k_eq rfl (by decide) c12)
                                  exact J_234 U200 v200_2 v200_2 _ _ ls h  hsh hR (lv_sub hl [0, 1] rfl)
                                · replace h := h.2 (k_ne rfl (by decide) c12)
                                  refine lv_iload_n hx hb dX14_dominate_222 rfl (lv_at hl 1 rfl) ?_
                                  refine lv_if_le (tgt := 234) hx hb dX14_dominate_223 (by decide) (fun c13 => ?_) (fun c13 => ?_)
                                  · replace h := h.1 (k_le rfl (by decide) c13)
                                    exact J_234 U200 v200_2 v200_2 _ _ ls h  hsh hR (lv_sub hl [0, 1] rfl)
                                  · replace h := h.2 (k_nle rfl (by decide) c13)
                                    refine lv_aload_n hx hb dX14_dominate_226 rfl (lv_at hl 0 rfl) ?_
                                    refine lv_iload_n hx hb dX14_dominate_227 rfl (lv_at hl 1 rfl) ?_
                                    obtain ⟨Q14, h0, h⟩ := h
                                    have hFc := rfree hR hA
                                    refine va_calli (va_runV (As := [.int v200_2]) (rest := [.int v200_2, .ref (ad 55)]) ⟨hx, hb, hml, hown, hts⟩ (r_nearestOf l g ad H.size U200 v200_2 hR.w  Q14 h0) (cwV 1 hts (gd2_V kx_978 kx_979 kx_980 kx_177 kx_981) rfl rfl rfl (by decide +kernel) ⟨Nat.le_of_ble_eq_true rfl, Nat.le_of_ble_eq_true rfl⟩) ⟨rblind, va_recv hR.K hR.P (ci := 13) (q0 := 0) rfl (hR.at14 hR.w.1), fun U hU hW9 => rmk hU hW9 hR hex hE hFc⟩ rfl rfl hl.1 rfl (lv_room (Nat.le_of_ble_eq_true rfl)) dX14_dominate_228 ⟨Nat.le_of_ble_eq_true rfl, Nat.le_of_ble_eq_true rfl⟩) hR.sS (fun q _ h => hFc q h) hFc (fun r15 S16 t9 H1 locs ht9 hvm9 hw9 hB9 hz9 hk9 hS => ?_)
                                    obtain ⟨hq17, hw9, hs9⟩ := hw9
                                    have hR : Rep g ad A s S16 H1 locs := hR.call ht9 hB9 hw9 hS hFc
                                    have hsh := hsh.tr hs9
                                    replace h := h r15 S16 hq17
                                    clear hB9 hz9 hk9 hvm9 ht9 hw9 hs9 hS
                                    generalize H1 = H at hR ⊢
                                    refine lv_goto (tgt := 235) hx hb dX14_dominate_231 (by decide) ?_
                                    exact J_235 S16 r15 v200_2 v200_2 _ _ ls h  hsh hR (lv_sub hl [0, 1] rfl)
                          obtain ⟨n9, h⟩ := h
                          exact J_200 n9 U142 0 _ _ ls h  hsh hR (lv_sub hl [1, 0] rfl)
                        · replace h := h.2 (k_nle rfl rfl c5)
                          refine lv_aload_n hx hb dX14_dominate_150 rfl (lv_at hl 0 rfl) ?_
                          refine va_get (D := rD g) (ci := 13) (v := .ref (ad 59)) (C := RX14) (T := TX14) (N := 143) hx hb hts in2X14 hown hR.K hR.P 0 (hR.at14 hR.w.1) rfl 117 (by decide) (hts _ kx_686) (fun _ h9 => h9) (congrArg (fun z => some (vf ad z)) (hR.w.2.1 _ fin_117).1) dX14_dominate_151 ?_
                          refine lv_iload_n hx hb dX14_dominate_154 rfl (lv_at hl 1 rfl) ?_
                          refine lv_iconst (v := 0) hx hb dX14_dominate_155 (by decide) ?_
                          obtain ⟨hv18, h⟩ := h
                          refine va_iast hx hb hR.K hR.P hR.D hR.sS 59 1 (hR.atI (hR.w.2.1 _ fin_117).2.1) rfl (k_ixN (k_ix (n := 1200) (x := v142_2) (a := v142_2.toInt) rfl hv18) (hR.w.2.1 _ fin_117).2.2) dX14_dominate_156 (fun H locs hP hD hS => ?_)
                          have hR : Rep g ad A s (wI U142 59 v142_2.toInt.toNat (0 : Int32)) H locs := hR.aI (hR.w.2.1 _ fin_117).2.1 hP hD hS
                          obtain ⟨S19, eS19⟩ : ∃ z, z = wI U142 59 v142_2.toInt.toNat (0 : Int32) := ⟨_, rfl⟩
                          rw [← eS19] at hR
                          replace h := h S19 eS19
                          have hsh : shy S S19 := by rw [eS19]; exact hsh
                          refine lv_iconst (v := 0) hx hb dX14_dominate_157 (by decide) ?_
                          refine lv_istore_n (lv' := [(3, .int 0), (0, .ref (ad 0)), (2, .int v142_2)]) hx hb dX14_dominate_158 rfl hl (by decide) rfl (fun ls hl => ?_)
                          have J_159 : ∀ (n159 : Nat) (U159 : MS) (v159_2 : Int32) (v159_3 : Int32) (H : Heap) (locs : List Loc) (ls : Array Slot), w_dominate_L159 Q (w_dominate_L142 Q n142) n159 U159 v159_2 v159_3 → shy S U159 → Rep g ad A s U159 H locs → lv_has ls 4 [(0, .ref (ad 0)), (2, .int v159_2), (3, .int v159_3)] → W p l e (headSpec (wt2 yX14_dominate cX14_dominate 4 none) ({ frames := 2, cells := 0, slots := 0, locals := 46 })).room s m ([.ref (ad 0)] : List Value).toArray below meth c H locs 0 0 (MQ below (va_Qv (fun (u : MS) => Q u ∧ wfM u ∧ shy S u) (fun (u : MS) (t : State) => qE g ad A u t) A) ([.ref (ad 0)] : List Value).toArray s 0 0 A) (F0 m 159 ls []) := by
                            intro n159
                            induction n159 with
                            | zero => intro U159 v159_2 v159_3 H locs ls h hsh hR hl; unfold w_dominate_L159 at h; exact h.elim
                            | succ n159 ih_159 =>
                              intro U159 v159_2 v159_3 H locs ls h hsh hR hl
                              unfold w_dominate_L159 at h
                              refine lv_iload_n hx hb dX14_dominate_159 rfl (lv_at hl 2 rfl) ?_
                              refine lv_aload_n hx hb dX14_dominate_160 rfl (lv_at hl 0 rfl) ?_
                              refine va_get (D := rD g) (ci := 13) (v := .int (qI U159 0 105)) (C := RX14) (T := TX14) (N := 143) hx hb hts in2X14 hown hR.K hR.P 0 (hR.at14 hR.w.1) rfl 105 (by decide) (hts _ kx_670) (fun _ h9 => h9) rfl dX14_dominate_161 ?_
                              refine lv_icmp_ge (tgt := 192) hx hb dX14_dominate_164 (by decide) (fun c20 => ?_) (fun c20 => ?_)
                              · replace h := h.1 (k_le rfl rfl c20)
                                obtain ⟨a21, ea21⟩ : ∃ z, z = (v159_2 + Int32.ofInt 1) := ⟨_, rfl⟩
                                replace h := h a21 ea21
                                refine lv_iinc (v := a21) (lv' := [(2, .int a21), (0, .ref (ad 0)), (3, .int v159_3)]) hx hb dX14_dominate_192 hl (k := 1) rfl ea21.symm (by decide) rfl (fun ls hl => ?_)
                                refine lv_goto (tgt := 142) hx hb dX14_dominate_195 (by decide) ?_
                                exact ih_142 U159 a21 _ _ ls h  hsh hR (lv_sub hl [1, 0] rfl)
                              · replace h := h.2 (k_nle rfl rfl c20)
                                refine lv_aload_n hx hb dX14_dominate_167 rfl (lv_at hl 0 rfl) ?_
                                refine lv_iload_n hx hb dX14_dominate_168 rfl (lv_at hl 2 rfl) ?_
                                refine lv_iload_n hx hb dX14_dominate_169 rfl (lv_at hl 1 rfl) ?_
                                obtain ⟨hv22, h⟩ := h
                                have hFc := rfree hR hA
                                refine va_calli (va_runV (As := [.int v159_3, .int v159_2]) (rest := []) ⟨hx, hb, hml, hown, hts⟩ (r_dominates l g ad H.size U159 v159_3 v159_2 hR.w  hv22) (cwV 2 hts (gd2_V kx_682 kx_683 kx_684 kx_177 kx_685) rfl rfl rfl (by decide +kernel) ⟨Nat.le_of_ble_eq_true rfl, Nat.le_of_ble_eq_true rfl⟩) ⟨rblind, va_recv hR.K hR.P (ci := 13) (q0 := 0) rfl (hR.at14 hR.w.1), fun U hU hW9 => rmk hU hW9 hR hex hE hFc⟩ rfl rfl hl.1 rfl (lv_room (Nat.le_of_ble_eq_true rfl)) dX14_dominate_170 ⟨Nat.le_of_ble_eq_true rfl, Nat.le_of_ble_eq_true rfl⟩) hR.sS (fun q _ h => hFc q h) hFc (fun r23 u9 t9 H1 locs ht9 hvm9 hw9 hB9 hz9 hk9 hS => ?_)
                                have hR : Rep g ad A s U159 H1 locs := hR.call ht9 hB9 hR.w hS hFc
                                obtain ⟨rfl, hz_r23⟩ := hw9
                                clear hB9 hz9 hk9 hvm9 ht9 hS
                                generalize H1 = H at hR ⊢
                                have J_186 : ∀ (U186 : MS) (v186_2 : Int32) (v186_3 : Int32) (H : Heap) (locs : List Loc) (ls : Array Slot), w_dominate_J186 Q (w_dominate_L159 Q (w_dominate_L142 Q n142) n159) U186 v186_2 v186_3 → shy S U186 → Rep g ad A s U186 H locs → lv_has ls 4 [(0, .ref (ad 0)), (2, .int v186_2), (3, .int v186_3)] → W p l e (headSpec (wt2 yX14_dominate cX14_dominate 4 none) ({ frames := 2, cells := 0, slots := 0, locals := 46 })).room s m ([.ref (ad 0)] : List Value).toArray below meth c H locs 0 0 (MQ below (va_Qv (fun (u : MS) => Q u ∧ wfM u ∧ shy S u) (fun (u : MS) (t : State) => qE g ad A u t) A) ([.ref (ad 0)] : List Value).toArray s 0 0 A) (F0 m 186 ls []) := by
                                  intro U186 v186_2 v186_3 H locs ls h hsh hR hl
                                  unfold w_dominate_J186 at h
                                  obtain ⟨a25, ea25⟩ : ∃ z, z = (v186_3 + Int32.ofInt 1) := ⟨_, rfl⟩
                                  replace h := h a25 ea25
                                  refine lv_iinc (v := a25) (lv' := [(3, .int a25), (0, .ref (ad 0)), (2, .int v186_2)]) hx hb dX14_dominate_186 hl (k := 2) rfl ea25.symm (by decide) rfl (fun ls hl => ?_)
                                  refine lv_goto (tgt := 159) hx hb dX14_dominate_189 (by decide) ?_
                                  exact ih_159 U186 v186_2 a25 _ _ ls h  hsh hR (lv_sub hl [1, 2, 0] rfl)
                                refine lv_if_eq (tgt := 186) hx hb dX14_dominate_173 (by decide) (fun c26 => ?_) (fun c26 => ?_)
                                · replace h := h.1 (k_eq rfl (by decide) c26)
                                  exact J_186 U159 v159_2 v159_3 _ _ ls h  hsh hR (lv_sub hl [0, 1, 2] rfl)
                                · replace h := h.2 (k_ne rfl (by decide) c26)
                                  refine lv_aload_n hx hb dX14_dominate_176 rfl (lv_at hl 0 rfl) ?_
                                  refine va_get (D := rD g) (ci := 13) (v := .ref (ad 59)) (C := RX14) (T := TX14) (N := 143) hx hb hts in2X14 hown hR.K hR.P 0 (hR.at14 hR.w.1) rfl 117 (by decide) (hts _ kx_686) (fun _ h9 => h9) (congrArg (fun z => some (vf ad z)) (hR.w.2.1 _ fin_117).1) dX14_dominate_177 ?_
                                  refine lv_iload_n hx hb dX14_dominate_180 rfl (lv_at hl 1 rfl) ?_
                                  refine lv_dup2_11 hx hb dX14_dominate_181 rfl rfl ?_
                                  obtain ⟨hv27, h⟩ := h
                                  refine va_iald hx hb hR.K hR.P 59 1 (hR.atI (hR.w.2.1 _ fin_117).2.1) rfl (k_ixN (k_ix (n := 1200) (x := v159_2) (a := v159_2.toInt) rfl hv27) (hR.w.2.1 _ fin_117).2.2) dX14_dominate_182 ?_
                                  refine lv_topi (fun z28 ez28 => ?_)
                                  obtain rfl : z28 = (qI U159 59 v159_2.toInt.toNat) := ez28
                                  refine lv_iconst (v := 1) hx hb dX14_dominate_183 (by decide) ?_
                                  refine lv_iadd hx hb dX14_dominate_184 ?_
                                  refine lv_topi (fun z29 ez29 => ?_)
                                  obtain rfl : z29 = ((qI U159 59 v159_2.toInt.toNat) + (1 : Int32)) := ez29
                                  obtain ⟨hv30, h⟩ := h
                                  refine va_iast hx hb hR.K hR.P hR.D hR.sS 59 1 (hR.atI (hR.w.2.1 _ fin_117).2.1) rfl (k_ixN (k_ix (n := 1200) (x := v159_2) (a := v159_2.toInt) rfl hv30) (hR.w.2.1 _ fin_117).2.2) dX14_dominate_185 (fun H locs hP hD hS => ?_)
                                  have hR : Rep g ad A s (wI U159 59 v159_2.toInt.toNat ((qI U159 59 v159_2.toInt.toNat) + (1 : Int32))) H locs := hR.aI (hR.w.2.1 _ fin_117).2.1 hP hD hS
                                  obtain ⟨S31, eS31⟩ : ∃ z, z = wI U159 59 v159_2.toInt.toNat ((qI U159 59 v159_2.toInt.toNat) + (1 : Int32)) := ⟨_, rfl⟩
                                  rw [← eS31] at hR
                                  replace h := h S31 eS31
                                  have hsh : shy S S31 := by rw [eS31]; exact hsh
                                  exact J_186 S31 v159_2 v159_3 _ _ ls h  hsh hR (lv_sub hl [0, 1, 2] rfl)
                          obtain ⟨n9, h⟩ := h
                          exact J_159 n9 S19 v142_2 0 _ _ ls h  hsh hR (lv_sub hl [1, 2, 0] rfl)
                    obtain ⟨n9, h⟩ := h
                    exact J_142 n9 U57 0 _ _ ls h  hsh hR (lv_sub hl [1, 0] rfl)
                  · replace h := h.2 (k_ne rfl (by decide) c4)
                    refine lv_iconst (v := 0) hx hb dX14_dominate_61 (by decide) ?_
                    refine lv_istore_n (lv' := [(1, .int 0), (0, .ref (ad 0))]) hx hb dX14_dominate_62 rfl hl (by decide) rfl (fun ls hl => ?_)
                    refine lv_iconst (v := 0) hx hb dX14_dominate_63 (by decide) ?_
                    refine lv_istore_n (lv' := [(2, .int 0), (1, .int 0), (0, .ref (ad 0))]) hx hb dX14_dominate_64 rfl hl (by decide) rfl (fun ls hl => ?_)
                    have J_65 : ∀ (n65 : Nat) (U65 : MS) (v65_1 : Int32) (v65_2 : Int32) (H : Heap) (locs : List Loc) (ls : Array Slot), w_dominate_L65 Q (w_dominate_L57 Q n57) n65 U65 v65_1 v65_2 → shy S U65 → Rep g ad A s U65 H locs → lv_has ls 4 [(0, .ref (ad 0)), (1, .int v65_1), (2, .int v65_2)] → W p l e (headSpec (wt2 yX14_dominate cX14_dominate 4 none) ({ frames := 2, cells := 0, slots := 0, locals := 46 })).room s m ([.ref (ad 0)] : List Value).toArray below meth c H locs 0 0 (MQ below (va_Qv (fun (u : MS) => Q u ∧ wfM u ∧ shy S u) (fun (u : MS) (t : State) => qE g ad A u t) A) ([.ref (ad 0)] : List Value).toArray s 0 0 A) (F0 m 65 ls []) := by
                      intro n65
                      induction n65 with
                      | zero => intro U65 v65_1 v65_2 H locs ls h hsh hR hl; unfold w_dominate_L65 at h; exact h.elim
                      | succ n65 ih_65 =>
                        intro U65 v65_1 v65_2 H locs ls h hsh hR hl
                        unfold w_dominate_L65 at h
                        refine lv_iload_n hx hb dX14_dominate_65 rfl (lv_at hl 2 rfl) ?_
                        refine lv_aload_n hx hb dX14_dominate_66 rfl (lv_at hl 0 rfl) ?_
                        refine va_get (D := rD g) (ci := 13) (v := .int (qI U65 0 105)) (C := RX14) (T := TX14) (N := 143) hx hb hts in2X14 hown hR.K hR.P 0 (hR.at14 hR.w.1) rfl 105 (by decide) (hts _ kx_670) (fun _ h9 => h9) rfl dX14_dominate_67 ?_
                        refine lv_icmp_ge (tgt := 137) hx hb dX14_dominate_70 (by decide) (fun c32 => ?_) (fun c32 => ?_)
                        · replace h := h.1 (k_le rfl rfl c32)
                          refine lv_goto (tgt := 57) hx hb dX14_dominate_137 (by decide) ?_
                          exact ih_57 U65 v65_1 _ _ ls h  hsh hR (lv_sub hl [0, 1] rfl)
                        · replace h := h.2 (k_nle rfl rfl c32)
                          refine lv_aload_n hx hb dX14_dominate_73 rfl (lv_at hl 0 rfl) ?_
                          refine va_get (D := rD g) (ci := 13) (v := .ref (ad 51)) (C := RX14) (T := TX14) (N := 143) hx hb hts in2X14 hown hR.K hR.P 0 (hR.at14 hR.w.1) rfl 108 (by decide) (hts _ kx_672) (fun _ h9 => h9) (congrArg (fun z => some (vf ad z)) (hR.w.2.1 _ fin_108).1) dX14_dominate_74 ?_
                          refine lv_iload_n hx hb dX14_dominate_77 rfl (lv_at hl 2 rfl) ?_
                          obtain ⟨hv33, h⟩ := h
                          refine va_iald hx hb hR.K hR.P 51 1 (hR.atI (hR.w.2.1 _ fin_108).2.1) rfl (k_ixN (k_ix (n := 1202) (x := v65_2) (a := v65_2.toInt) rfl hv33) (hR.w.2.1 _ fin_108).2.2) dX14_dominate_78 ?_
                          refine lv_topi (fun z34 ez34 => ?_)
                          obtain rfl : z34 = (qI U65 51 v65_2.toInt.toNat) := ez34
                          obtain ⟨a35, ea35⟩ : ∃ z, z = (qI U65 51 v65_2.toInt.toNat) := ⟨_, rfl⟩
                          rw [← ea35]
                          replace h := h a35 ea35
                          refine lv_istore_n (lv' := [(3, .int a35), (0, .ref (ad 0)), (1, .int v65_1), (2, .int v65_2)]) hx hb dX14_dominate_79 rfl hl (by decide) rfl (fun ls hl => ?_)
                          have J_80 : ∀ (n80 : Nat) (U80 : MS) (v80_1 : Int32) (v80_2 : Int32) (v80_3 : Int32) (H : Heap) (locs : List Loc) (ls : Array Slot), w_dominate_L80 Q (w_dominate_L65 Q (w_dominate_L57 Q n57) n65) n80 U80 v80_1 v80_2 v80_3 → shy S U80 → Rep g ad A s U80 H locs → lv_has ls 4 [(0, .ref (ad 0)), (1, .int v80_1), (2, .int v80_2), (3, .int v80_3)] → W p l e (headSpec (wt2 yX14_dominate cX14_dominate 4 none) ({ frames := 2, cells := 0, slots := 0, locals := 46 })).room s m ([.ref (ad 0)] : List Value).toArray below meth c H locs 0 0 (MQ below (va_Qv (fun (u : MS) => Q u ∧ wfM u ∧ shy S u) (fun (u : MS) (t : State) => qE g ad A u t) A) ([.ref (ad 0)] : List Value).toArray s 0 0 A) (F0 m 80 ls []) := by
                            intro n80
                            induction n80 with
                            | zero => intro U80 v80_1 v80_2 v80_3 H locs ls h hsh hR hl; unfold w_dominate_L80 at h; exact h.elim
                            | succ n80 ih_80 =>
                              intro U80 v80_1 v80_2 v80_3 H locs ls h hsh hR hl
                              unfold w_dominate_L80 at h
                              refine lv_aload_n hx hb dX14_dominate_80 rfl (lv_at hl 0 rfl) ?_
                              refine va_get (D := rD g) (ci := 13) (v := .ref (ad 53)) (C := RX14) (T := TX14) (N := 143) hx hb hts in2X14 hown hR.K hR.P 0 (hR.at14 hR.w.1) rfl 111 (by decide) (hts _ kx_679) (fun _ h9 => h9) (congrArg (fun z => some (vf ad z)) (hR.w.2.1 _ fin_111).1) dX14_dominate_81 ?_
                              refine lv_iload_n hx hb dX14_dominate_84 rfl (lv_at hl 2 rfl) ?_
                              obtain ⟨hv36, h⟩ := h
                              refine va_zald hx hb hR.K hR.P 53 2 (hR.atZ (hR.w.2.1 _ fin_111).2.1) rfl (k_ixN (k_ix (n := 1200) (x := v80_2) (a := v80_2.toInt) rfl hv36) (hR.w.2.1 _ fin_111).2.2) dX14_dominate_85 ?_
                              refine lv_topi (fun z37 ez37 => ?_)
                              obtain rfl : z37 = (qI U80 53 v80_2.toInt.toNat) := ez37
                              have J_131 : ∀ (U131 : MS) (v131_1 : Int32) (v131_2 : Int32) (H : Heap) (locs : List Loc) (ls : Array Slot), w_dominate_J131 Q (w_dominate_L65 Q (w_dominate_L57 Q n57) n65) U131 v131_1 v131_2 → shy S U131 → Rep g ad A s U131 H locs → lv_has ls 4 [(0, .ref (ad 0)), (1, .int v131_1), (2, .int v131_2)] → W p l e (headSpec (wt2 yX14_dominate cX14_dominate 4 none) ({ frames := 2, cells := 0, slots := 0, locals := 46 })).room s m ([.ref (ad 0)] : List Value).toArray below meth c H locs 0 0 (MQ below (va_Qv (fun (u : MS) => Q u ∧ wfM u ∧ shy S u) (fun (u : MS) (t : State) => qE g ad A u t) A) ([.ref (ad 0)] : List Value).toArray s 0 0 A) (F0 m 131 ls []) := by
                                intro U131 v131_1 v131_2 H locs ls h hsh hR hl
                                unfold w_dominate_J131 at h
                                obtain ⟨a38, ea38⟩ : ∃ z, z = (v131_2 + Int32.ofInt 1) := ⟨_, rfl⟩
                                replace h := h a38 ea38
                                refine lv_iinc (v := a38) (lv' := [(2, .int a38), (0, .ref (ad 0)), (1, .int v131_1)]) hx hb dX14_dominate_131 hl (k := 2) rfl ea38.symm (by decide) rfl (fun ls hl => ?_)
                                refine lv_goto (tgt := 65) hx hb dX14_dominate_134 (by decide) ?_
                                exact ih_65 U131 v131_1 a38 _ _ ls h  hsh hR (lv_sub hl [1, 2, 0] rfl)
                              refine lv_if_eq (tgt := 131) hx hb dX14_dominate_86 (by decide) (fun c39 => ?_) (fun c39 => ?_)
                              · replace h := h.1 (k_eq rfl (by decide) c39)
                                exact J_131 U80 v80_1 v80_2 _ _ ls h  hsh hR (lv_sub hl [0, 1, 2] rfl)
                              · replace h := h.2 (k_ne rfl (by decide) c39)
                                refine lv_iload_n hx hb dX14_dominate_89 rfl (lv_at hl 3 rfl) ?_
                                refine lv_aload_n hx hb dX14_dominate_90 rfl (lv_at hl 0 rfl) ?_
                                refine va_get (D := rD g) (ci := 13) (v := .ref (ad 51)) (C := RX14) (T := TX14) (N := 143) hx hb hts in2X14 hown hR.K hR.P 0 (hR.at14 hR.w.1) rfl 108 (by decide) (hts _ kx_672) (fun _ h9 => h9) (congrArg (fun z => some (vf ad z)) (hR.w.2.1 _ fin_108).1) dX14_dominate_91 ?_
                                refine lv_iload_n hx hb dX14_dominate_94 rfl (lv_at hl 2 rfl) ?_
                                refine lv_iconst (v := 1) hx hb dX14_dominate_95 (by decide) ?_
                                refine lv_iadd hx hb dX14_dominate_96 ?_
                                refine lv_topi (fun z40 ez40 => ?_)
                                obtain rfl : z40 = (v80_2 + (1 : Int32)) := ez40
                                obtain ⟨hv41, h⟩ := h
                                refine va_iald hx hb hR.K hR.P 51 1 (hR.atI (hR.w.2.1 _ fin_108).2.1) rfl (k_ixN (k_ix (n := 1202) (x := (v80_2 + (1 : Int32))) (a := (v80_2 + (1 : Int32)).toInt) rfl hv41) (hR.w.2.1 _ fin_108).2.2) dX14_dominate_97 ?_
                                refine lv_topi (fun z42 ez42 => ?_)
                                obtain rfl : z42 = (qI U80 51 (((v80_2 + (1 : Int32)).toInt).toNat)) := ez42
                                refine lv_icmp_ge (tgt := 131) hx hb dX14_dominate_98 (by decide) (fun c43 => ?_) (fun c43 => ?_)
                                · replace h := h.1 (k_le rfl rfl c43)
                                  exact J_131 U80 v80_1 v80_2 _ _ ls h  hsh hR (lv_sub hl [0, 1, 2] rfl)
                                · replace h := h.2 (k_nle rfl rfl c43)
                                  refine lv_aload_n hx hb dX14_dominate_101 rfl (lv_at hl 0 rfl) ?_
                                  refine lv_iload_n hx hb dX14_dominate_102 rfl (lv_at hl 2 rfl) ?_
                                  refine lv_aload_n hx hb dX14_dominate_103 rfl (lv_at hl 0 rfl) ?_
                                  refine va_get (D := rD g) (ci := 13) (v := .ref (ad 52)) (C := RX14) (T := TX14) (N := 143) hx hb hts in2X14 hown hR.K hR.P 0 (hR.at14 hR.w.1) rfl 109 (by decide) (hts _ kx_674) (fun _ h9 => h9) (congrArg (fun z => some (vf ad z)) (hR.w.2.1 _ fin_109).1) dX14_dominate_104 ?_
                                  refine lv_iload_n hx hb dX14_dominate_107 rfl (lv_at hl 3 rfl) ?_
                                  obtain ⟨hv44, h⟩ := h
                                  refine va_iald hx hb hR.K hR.P 52 1 (hR.atI (hR.w.2.1 _ fin_109).2.1) rfl (k_ixN (k_ix (n := 24000) (x := v80_3) (a := v80_3.toInt) rfl hv44) (hR.w.2.1 _ fin_109).2.2) dX14_dominate_108 ?_
                                  refine lv_topi (fun z45 ez45 => ?_)
                                  obtain rfl : z45 = (qI U80 52 v80_3.toInt.toNat) := ez45
                                  obtain ⟨Q46, h0, h⟩ := h
                                  have hFc := rfree hR hA
                                  refine va_calli (va_runV (As := [.int v80_2, .int (qI U80 52 v80_3.toInt.toNat)]) (rest := []) ⟨hx, hb, hml, hown, hts⟩ (r_narrowed l g ad H.size U80 v80_2 (qI U80 52 v80_3.toInt.toNat) hR.w  Q46 h0) (cwV 2 hts (gd2_V kx_982 kx_983 kx_984 kx_177 kx_985) rfl rfl rfl (by decide +kernel) ⟨Nat.le_of_ble_eq_true rfl, Nat.le_of_ble_eq_true rfl⟩) ⟨rblind, va_recv hR.K hR.P (ci := 13) (q0 := 0) rfl (hR.at14 hR.w.1), fun U hU hW9 => rmk hU hW9 hR hex hE hFc⟩ rfl rfl hl.1 rfl (lv_room (Nat.le_of_ble_eq_true rfl)) dX14_dominate_109 ⟨Nat.le_of_ble_eq_true rfl, Nat.le_of_ble_eq_true rfl⟩) hR.sS (fun q _ h => hFc q h) hFc (fun r47 S48 t9 H1 locs ht9 hvm9 hw9 hB9 hz9 hk9 hS => ?_)
                                  obtain ⟨hq49, hw9, hs9, hz_r47⟩ := hw9
                                  have hR : Rep g ad A s S48 H1 locs := hR.call ht9 hB9 hw9 hS hFc
                                  have hsh := hsh.tr hs9
                                  replace h := h r47 S48 hq49
                                  clear hB9 hz9 hk9 hvm9 ht9 hw9 hs9 hS
                                  generalize H1 = H at hR ⊢
                                  have J_124 : ∀ (U124 : MS) (t124_0 : Int32) (v124_2 : Int32) (v124_3 : Int32) (H : Heap) (locs : List Loc) (ls : Array Slot), w_dominate_J124 Q (w_dominate_L80 Q (w_dominate_L65 Q (w_dominate_L57 Q n57) n65) n80) U124 t124_0 v124_2 v124_3 → (t124_0 = 0 ∨ t124_0 = 1) → shy S U124 → Rep g ad A s U124 H locs → lv_has ls 4 [(0, .ref (ad 0)), (2, .int v124_2), (3, .int v124_3)] → W p l e (headSpec (wt2 yX14_dominate cX14_dominate 4 none) ({ frames := 2, cells := 0, slots := 0, locals := 46 })).room s m ([.ref (ad 0)] : List Value).toArray below meth c H locs 0 0 (MQ below (va_Qv (fun (u : MS) => Q u ∧ wfM u ∧ shy S u) (fun (u : MS) (t : State) => qE g ad A u t) A) ([.ref (ad 0)] : List Value).toArray s 0 0 A) (F0 m 124 ls [.int t124_0]) := by
                                    intro U124 t124_0 v124_2 v124_3 H locs ls h hz_t124_0 hsh hR hl
                                    unfold w_dominate_J124 at h
                                    refine lv_istore_n (lv' := [(1, .int t124_0), (0, .ref (ad 0)), (2, .int v124_2), (3, .int v124_3)]) hx hb dX14_dominate_124 rfl hl (by decide) rfl (fun ls hl => ?_)
                                    obtain ⟨a50, ea50⟩ : ∃ z, z = (v124_3 + Int32.ofInt 1) := ⟨_, rfl⟩
                                    replace h := h a50 ea50
                                    refine lv_iinc (v := a50) (lv' := [(3, .int a50), (1, .int t124_0), (0, .ref (ad 0)), (2, .int v124_2)]) hx hb dX14_dominate_125 hl (k := 3) rfl ea50.symm (by decide) rfl (fun ls hl => ?_)
                                    refine lv_goto (tgt := 80) hx hb dX14_dominate_128 (by decide) ?_
                                    exact ih_80 U124 t124_0 v124_2 a50 _ _ ls h  hsh hR (lv_sub hl [2, 1, 3, 0] rfl)
                                  have J_119 : ∀ (U119 : MS) (v119_2 : Int32) (v119_3 : Int32) (H : Heap) (locs : List Loc) (ls : Array Slot), w_dominate_J119 Q (w_dominate_L80 Q (w_dominate_L65 Q (w_dominate_L57 Q n57) n65) n80) U119 v119_2 v119_3 → shy S U119 → Rep g ad A s U119 H locs → lv_has ls 4 [(0, .ref (ad 0)), (2, .int v119_2), (3, .int v119_3)] → W p l e (headSpec (wt2 yX14_dominate cX14_dominate 4 none) ({ frames := 2, cells := 0, slots := 0, locals := 46 })).room s m ([.ref (ad 0)] : List Value).toArray below meth c H locs 0 0 (MQ below (va_Qv (fun (u : MS) => Q u ∧ wfM u ∧ shy S u) (fun (u : MS) (t : State) => qE g ad A u t) A) ([.ref (ad 0)] : List Value).toArray s 0 0 A) (F0 m 119 ls []) := by
                                    intro U119 v119_2 v119_3 H locs ls h hsh hR hl
                                    unfold w_dominate_J119 at h
                                    refine lv_iconst (v := 1) hx hb dX14_dominate_119 (by decide) ?_
                                    refine lv_goto (tgt := 124) hx hb dX14_dominate_120 (by decide) ?_
                                    exact J_124 U119 1 v119_2 v119_3 _ _ ls h (Or.inr rfl) hsh hR (lv_sub hl [0, 1, 2] rfl)
                                  refine lv_if_ne (tgt := 119) hx hb dX14_dominate_112 (by decide) (fun c51 => ?_) (fun c51 => ?_)
                                  · replace h := h.2 (k_ne rfl (by decide) c51)
                                    exact J_119 S48 v80_2 v80_3 _ _ ls h  hsh hR (lv_sub hl [0, 2, 3] rfl)
                                  · replace h := h.1 (k_eq rfl (by decide) c51)
                                    refine lv_iload_n hx hb dX14_dominate_115 rfl (lv_at hl 1 rfl) ?_
                                    refine lv_if_eq (tgt := 123) hx hb dX14_dominate_116 (by decide) (fun c52 => ?_) (fun c52 => ?_)
                                    · replace h := h.1 (k_eq rfl (by decide) c52)
                                      refine lv_iconst (v := 0) hx hb dX14_dominate_123 (by decide) ?_
                                      exact J_124 S48 0 v80_2 v80_3 _ _ ls h (Or.inl rfl) hsh hR (lv_sub hl [0, 2, 3] rfl)
                                    · replace h := h.2 (k_ne rfl (by decide) c52)
                                      exact J_119 S48 v80_2 v80_3 _ _ ls h  hsh hR (lv_sub hl [0, 2, 3] rfl)
                          obtain ⟨n9, h⟩ := h
                          exact J_80 n9 U65 v65_1 v65_2 a35 _ _ ls h  hsh hR (lv_sub hl [1, 2, 3, 0] rfl)
                    obtain ⟨n9, h⟩ := h
                    exact J_65 n9 U57 0 0 _ _ ls h  hsh hR (lv_sub hl [2, 1, 0] rfl)
              obtain ⟨n9, h⟩ := h
              exact J_57 n9 U28 1 _ _ ls h  hsh hR (lv_sub hl [1, 0] rfl)
            · replace h := h.2 (k_nle (by decide) rfl c3)
              refine lv_aload_n hx hb dX14_dominate_34 rfl (lv_at hl 0 rfl) ?_
              refine va_get (D := rD g) (ci := 13) (v := .ref (ad 54)) (C := RX14) (T := TX14) (N := 143) hx hb hts in2X14 hown hR.K hR.P 0 (hR.at14 hR.w.1) rfl 112 (by decide) (hts _ kx_680) (fun _ h9 => h9) (congrArg (fun z => some (vf ad z)) (hR.w.2.1 _ fin_112).1) dX14_dominate_35 ?_
              refine lv_iload_n hx hb dX14_dominate_38 rfl (lv_at hl 1 rfl) ?_
              refine lv_iload_n hx hb dX14_dominate_39 rfl (lv_at hl 1 rfl) ?_
              have J_48 : ∀ (U48 : MS) (t48_0 : Int32) (t48_1 : Int32) (v48_1 : Int32) (H : Heap) (locs : List Loc) (ls : Array Slot), w_dominate_J48 Q (w_dominate_L28 Q n28) U48 t48_0 t48_1 v48_1 → (t48_0 = 0 ∨ t48_0 = 1) → shy S U48 → Rep g ad A s U48 H locs → lv_has ls 4 [(0, .ref (ad 0)), (1, .int v48_1)] → W p l e (headSpec (wt2 yX14_dominate cX14_dominate 4 none) ({ frames := 2, cells := 0, slots := 0, locals := 46 })).room s m ([.ref (ad 0)] : List Value).toArray below meth c H locs 0 0 (MQ below (va_Qv (fun (u : MS) => Q u ∧ wfM u ∧ shy S u) (fun (u : MS) (t : State) => qE g ad A u t) A) ([.ref (ad 0)] : List Value).toArray s 0 0 A) (F0 m 48 ls [.int t48_0, .int t48_1, .ref (ad 54)]) := by
                intro U48 t48_0 t48_1 v48_1 H locs ls h hz_t48_0 hsh hR hl
                unfold w_dominate_J48 at h
                obtain ⟨hv53, h⟩ := h
                refine va_iast hx hb hR.K hR.P hR.D hR.sS 54 1 (hR.atI (hR.w.2.1 _ fin_112).2.1) rfl (k_ixN (k_ix (n := 45600) (x := t48_1) (a := t48_1.toInt) rfl hv53) (hR.w.2.1 _ fin_112).2.2) dX14_dominate_48 (fun H locs hP hD hS => ?_)
                have hR : Rep g ad A s (wI U48 54 t48_1.toInt.toNat t48_0) H locs := hR.aI (hR.w.2.1 _ fin_112).2.1 hP hD hS
                obtain ⟨S54, eS54⟩ : ∃ z, z = wI U48 54 t48_1.toInt.toNat t48_0 := ⟨_, rfl⟩
                rw [← eS54] at hR
                replace h := h S54 eS54
                have hsh : shy S S54 := by rw [eS54]; exact hsh
                obtain ⟨a55, ea55⟩ : ∃ z, z = (v48_1 + Int32.ofInt 1) := ⟨_, rfl⟩
                replace h := h a55 ea55
                refine lv_iinc (v := a55) (lv' := [(1, .int a55), (0, .ref (ad 0))]) hx hb dX14_dominate_49 hl (k := 1) rfl ea55.symm (by decide) rfl (fun ls hl => ?_)
                refine lv_goto (tgt := 28) hx hb dX14_dominate_52 (by decide) ?_
                exact ih_28 S54 a55 _ _ ls h  hsh hR (lv_sub hl [1, 0] rfl)
              refine lv_if_ne (tgt := 47) hx hb dX14_dominate_40 (by decide) (fun c56 => ?_) (fun c56 => ?_)
              · replace h := h.2 (k_ne rfl (by decide) c56)
                refine lv_iconst (v := 0) hx hb dX14_dominate_47 (by decide) ?_
                exact J_48 U28 0 v28_1 v28_1 _ _ ls h (Or.inl rfl) hsh hR (lv_sub hl [0, 1] rfl)
              · replace h := h.1 (k_eq rfl (by decide) c56)
                refine lv_iconst (v := 1) hx hb dX14_dominate_43 (by decide) ?_
                refine lv_goto (tgt := 48) hx hb dX14_dominate_44 (by decide) ?_
                exact J_48 U28 1 v28_1 v28_1 _ _ ls h (Or.inr rfl) hsh hR (lv_sub hl [0, 1] rfl)
        obtain ⟨n9, h⟩ := h
        exact J_28 n9 U2 0 _ _ ls h  hsh hR (lv_sub hl [1, 0] rfl)
      · replace h := h.2 (k_nle rfl rfl c2)
        refine lv_aload_n hx hb dX14_dominate_13 rfl (lv_at hl 0 rfl) ?_
        refine va_get (D := rD g) (ci := 13) (v := .ref (ad 54)) (C := RX14) (T := TX14) (N := 143) hx hb hts in2X14 hown hR.K hR.P 0 (hR.at14 hR.w.1) rfl 112 (by decide) (hts _ kx_680) (fun _ h9 => h9) (congrArg (fun z => some (vf ad z)) (hR.w.2.1 _ fin_112).1) dX14_dominate_14 ?_
        refine lv_iload_n hx hb dX14_dominate_17 rfl (lv_at hl 1 rfl) ?_
        refine lv_iconst (v := (-1)) hx hb dX14_dominate_18 (by decide) ?_
        obtain ⟨hv57, h⟩ := h
        refine va_iast hx hb hR.K hR.P hR.D hR.sS 54 1 (hR.atI (hR.w.2.1 _ fin_112).2.1) rfl (k_ixN (k_ix (n := 45600) (x := v2_1) (a := v2_1.toInt) rfl hv57) (hR.w.2.1 _ fin_112).2.2) dX14_dominate_19 (fun H locs hP hD hS => ?_)
        have hR : Rep g ad A s (wI U2 54 v2_1.toInt.toNat (-1 : Int32)) H locs := hR.aI (hR.w.2.1 _ fin_112).2.1 hP hD hS
        obtain ⟨S58, eS58⟩ : ∃ z, z = wI U2 54 v2_1.toInt.toNat (-1 : Int32) := ⟨_, rfl⟩
        rw [← eS58] at hR
        replace h := h S58 eS58
        have hsh : shy S S58 := by rw [eS58]; exact hsh
        obtain ⟨a59, ea59⟩ : ∃ z, z = (v2_1 + Int32.ofInt 1) := ⟨_, rfl⟩
        replace h := h a59 ea59
        refine lv_iinc (v := a59) (lv' := [(1, .int a59), (0, .ref (ad 0))]) hx hb dX14_dominate_20 hl (k := 1) rfl ea59.symm (by decide) rfl (fun ls hl => ?_)
        refine lv_goto (tgt := 2) hx hb dX14_dominate_23 (by decide) ?_
        exact ih_2 S58 a59 _ _ ls h  hsh hR (lv_sub hl [1, 0] rfl)
  obtain ⟨n9, h⟩ := h
  exact J_2 n9 S 0 _ _ ls h  hsh hR (lv_sub hl [1, 0] rfl)
