def w_plain_J542 (Q : Int32 → MS → Prop) (U542 : MS) (t542_0 : Int32) (t542_1 : Int64) : Prop := (∃ Q216, w_put U542 t542_1 t542_0 Q216 ∧ ∀ S217, Q216 S217 → Q (1 : Int32) S217)
def w_plain_J576 (Q : Int32 → MS → Prop) (U576 : MS) (t576_0 : Int32) (t576_2 : Int32) : Prop := (∃ Q234, w_got U576 t576_0 Q234 ∧ ∀ r235 S236, Q234 r235 S236 → (((0 : Int) ≤ t576_2.toInt ∧ t576_2.toInt < 24) ∧ (∀ S239, S239 = wJ S236 37 t576_2.toInt.toNat r235 → Q (1 : Int32) S239)))
def w_plain (S : MS) (x1 : Int32) (x2 : Int32) (x3 : Int32) (Q : Int32 → MS → Prop) : Prop := ((x2.toInt = 0 → Q (1 : Int32) S) ∧ (¬ x2.toInt = 0 → ((x2.toInt = 1 → (∃ Q1, w_put S 0 (1 : Int32) Q1 ∧ ∀ S2, Q1 S2 → Q (1 : Int32) S2)) ∧ (¬ x2.toInt = 1 → ((x2.toInt = 18 → (∃ Q4, w_putInt S x3 Q4 ∧ ∀ S5, Q4 S5 → Q (1 : Int32) S5)) ∧ (¬ x2.toInt = 18 → ((x2.toInt = 20 → (d_longOf S x1 ∧ (∃ Q10, w_put S (f_longOf S x1) (2 : Int32) Q10 ∧ ∀ S11, Q10 S11 → Q (1 : Int32) S11))) ∧ (¬ x2.toInt = 20 → ((x2.toInt = 21 → (d_slot S x3 ∧ (((0 : Int) ≤ (f_slot S x3).toInt ∧ (f_slot S x3).toInt < 1440) ∧ (d_slot S x3 ∧ (((0 : Int) ≤ (f_slot S x3).toInt ∧ (f_slot S x3).toInt < 1440) ∧ (∃ Q23, w_putTagged S (qJ S 45 (((f_slot S x3).toInt).toNat)) (qI S 47 (((f_slot S x3).toInt).toNat)) (1 : Int32) Q23 ∧ ∀ S24, Q23 S24 → Q (1 : Int32) S24)))))) ∧ (¬ x2.toInt = 21 → ((x2.toInt = 22 → (d_slot S x3 ∧ (((0 : Int) ≤ (f_slot S x3).toInt ∧ (f_slot S x3).toInt < 1440) ∧ (∃ Q31, w_put S (qJ S 45 (((f_slot S x3).toInt).toNat)) (2 : Int32) Q31 ∧ ∀ S32, Q31 S32 → Q (1 : Int32) S32)))) ∧ (¬ x2.toInt = 22 → ((x2.toInt = 25 → (d_slot S x3 ∧ (((0 : Int) ≤ (f_slot S x3).toInt ∧ (f_slot S x3).toInt < 1440) ∧ (d_slot S x3 ∧ (((0 : Int) ≤ (f_slot S x3).toInt ∧ (f_slot S x3).toInt < 1440) ∧ (∃ Q44, w_putTagged S (qJ S 45 (((f_slot S x3).toInt).toNat)) (qI S 47 (((f_slot S x3).toInt).toNat)) (1 : Int32) Q44 ∧ ∀ S45, Q44 S45 → Q (1 : Int32) S45)))))) ∧ (¬ x2.toInt = 25 → ((x2.toInt = 54 → (d_slot S x3 ∧ (d_tagAt S (1 : Int32) ∧ (((0 : Int) ≤ (f_slot S x3).toInt ∧ (f_slot S x3).toInt < 1440) ∧ (∀ S54, S54 = wI S 47 (((f_slot S x3).toInt).toNat) (vp_nar .byte ((f_tagAt S (1 : Int32)).toInt8.toInt32)) → (d_slot S54 x3 ∧ (∃ Q58, w_got S54 (1 : Int32) Q58 ∧ ∀ r59 S60, Q58 r59 S60 → (((0 : Int) ≤ (f_slot S54 x3).toInt ∧ (f_slot S54 x3).toInt < 1440) ∧ (∀ S63, S63 = wJ S60 45 (((f_slot S54 x3).toInt).toNat) r59 → Q (1 : Int32) S63))))))))) ∧ (¬ x2.toInt = 54 → ((x2.toInt = 55 → (d_slot S x3 ∧ (d_tagAt S (2 : Int32) ∧ (((0 : Int) ≤ (f_slot S x3).toInt ∧ (f_slot S x3).toInt < 1440) ∧ (∀ S71, S71 = wI S 47 (((f_slot S x3).toInt).toNat) (vp_nar .byte ((f_tagAt S (2 : Int32)).toInt8.toInt32)) → (d_slot S71 (x3 + (1 : Int32)) ∧ (d_tagAt S71 (1 : Int32) ∧ (((0 : Int) ≤ (f_slot S71 (x3 + (1 : Int32))).toInt ∧ (f_slot S71 (x3 + (1 : Int32))).toInt < 1440) ∧ (∀ S80, S80 = wI S71 47 (((f_slot S71 (x3 + (1 : Int32))).toInt).toNat) (vp_nar .byte ((f_tagAt S71 (1 : Int32)).toInt8.toInt32)) → (d_slot S80 x3 ∧ (∃ Q84, w_got S80 (2 : Int32) Q84 ∧ ∀ r85 S86, Q84 r85 S86 → (((0 : Int) ≤ (f_slot S80 x3).toInt ∧ (f_slot S80 x3).toInt < 1440) ∧ (∀ S89, S89 = wJ S86 45 (((f_slot S80 x3).toInt).toNat) r85 → Q (1 : Int32) S89))))))))))))) ∧ (¬ x2.toInt = 55 → ((x2.toInt = 58 → (d_slot S x3 ∧ (d_tagAt S (1 : Int32) ∧ (((0 : Int) ≤ (f_slot S x3).toInt ∧ (f_slot S x3).toInt < 1440) ∧ (∀ S97, S97 = wI S 47 (((f_slot S x3).toInt).toNat) (vp_nar .byte ((f_tagAt S (1 : Int32)).toInt8.toInt32)) → (d_slot S97 x3 ∧ (∃ Q101, w_got S97 (1 : Int32) Q101 ∧ ∀ r102 S103, Q101 r102 S103 → (((0 : Int) ≤ (f_slot S97 x3).toInt ∧ (f_slot S97 x3).toInt < 1440) ∧ (∀ S106, S106 = wJ S103 45 (((f_slot S97 x3).toInt).toNat) r102 → Q (1 : Int32) S106))))))))) ∧ (¬ x2.toInt = 58 → ((x2.toInt = 87 → (((0 : Int) ≤ ((qI S 0 97) - (1 : Int32)).toInt ∧ ((qI S 0 97) - (1 : Int32)).toInt < 60) ∧ (((0 : Int) ≤ ((qI S 0 97) - (1 : Int32)).toInt ∧ ((qI S 0 97) - (1 : Int32)).toInt < 60) ∧ (∀ S112, S112 = wI S 44 ((((qI S 0 97) - (1 : Int32)).toInt).toNat) ((qI S 44 ((((qI S 0 97) - (1 : Int32)).toInt).toNat)) - (1 : Int32)) → Q (1 : Int32) S112)))) ∧ (¬ x2.toInt = 87 → ((x2.toInt = 88 → (((0 : Int) ≤ ((qI S 0 97) - (1 : Int32)).toInt ∧ ((qI S 0 97) - (1 : Int32)).toInt < 60) ∧ (((0 : Int) ≤ ((qI S 0 97) - (1 : Int32)).toInt ∧ ((qI S 0 97) - (1 : Int32)).toInt < 60) ∧ (∀ S118, S118 = wI S 44 ((((qI S 0 97) - (1 : Int32)).toInt).toNat) ((qI S 44 ((((qI S 0 97) - (1 : Int32)).toInt).toNat)) - (2 : Int32)) → Q (1 : Int32) S118)))) ∧ (¬ x2.toInt = 88 → ((x2.toInt = 89 → (∃ Q119, w_shuffle S x2 Q119 ∧ ∀ S120, Q119 S120 → Q (1 : Int32) S120)) ∧ (¬ x2.toInt = 89 → ((x2.toInt = 90 → (∃ Q122, w_shuffle S x2 Q122 ∧ ∀ S123, Q122 S123 → Q (1 : Int32) S123)) ∧ (¬ x2.toInt = 90 → ((x2.toInt = 92 → (∃ Q125, w_shuffle S x2 Q125 ∧ ∀ S126, Q125 S126 → Q (1 : Int32) S126)) ∧ (¬ x2.toInt = 92 → ((x2.toInt = 95 → (∃ Q128, w_shuffle S x2 Q128 ∧ ∀ S129, Q128 S129 → Q (1 : Int32) S129)) ∧ (¬ x2.toInt = 95 → ((x2.toInt = 132 → (d_slot S x3 ∧ (d_slot S x3 ∧ (((0 : Int) ≤ (f_slot S x3).toInt ∧ (f_slot S x3).toInt < 1440) ∧ (d_second S x1 ∧ (((0 : Int) ≤ (f_slot S x3).toInt ∧ (f_slot S x3).toInt < 1440) ∧ (∀ S144, S144 = wJ S 45 (((f_slot S x3).toInt).toNat) ((((qJ S 45 (((f_slot S x3).toInt).toNat)).toInt32) + (f_second S x1)).toInt64) → Q (1 : Int32) S144))))))) ∧ (¬ x2.toInt = 132 → ((x2.toInt = 133 → (∃ Q145, w_got S (1 : Int32) Q145 ∧ ∀ r146 S147, Q145 r146 S147 → (d_turned S147 x2 r146 ∧ (∃ Q152, w_put S147 (f_turned S147 x2 r146) (2 : Int32) Q152 ∧ ∀ S153, Q152 S153 → Q (1 : Int32) S153)))) ∧ (¬ x2.toInt = 133 → ((x2.toInt = 136 → (∃ Q155, w_got S (2 : Int32) Q155 ∧ ∀ r156 S157, Q155 r156 S157 → (d_turned S157 x2 r156 ∧ (∃ Q162, w_putInt S157 ((f_turned S157 x2 r156).toInt32) Q162 ∧ ∀ S163, Q162 S163 → Q (1 : Int32) S163)))) ∧ (¬ x2.toInt = 136 → ((x2.toInt = 145 → (∃ Q165, w_got S (1 : Int32) Q165 ∧ ∀ r166 S167, Q165 r166 S167 → (d_turned S167 x2 r166 ∧ (∃ Q172, w_putInt S167 ((f_turned S167 x2 r166).toInt32) Q172 ∧ ∀ S173, Q172 S173 → Q (1 : Int32) S173)))) ∧ (¬ x2.toInt = 145 → ((x2.toInt = 146 → (∃ Q175, w_got S (1 : Int32) Q175 ∧ ∀ r176 S177, Q175 r176 S177 → (d_turned S177 x2 r176 ∧ (∃ Q182, w_putInt S177 ((f_turned S177 x2 r176).toInt32) Q182 ∧ ∀ S183, Q182 S183 → Q (1 : Int32) S183)))) ∧ (¬ x2.toInt = 146 → ((x2.toInt = 147 → (∃ Q185, w_got S (1 : Int32) Q185 ∧ ∀ r186 S187, Q185 r186 S187 → (d_turned S187 x2 r186 ∧ (∃ Q192, w_putInt S187 ((f_turned S187 x2 r186).toInt32) Q192 ∧ ∀ S193, Q192 S193 → Q (1 : Int32) S193)))) ∧ (¬ x2.toInt = 147 → ((x2.toInt = 178 → ((qR S 0 80 = some (qO S 0 80)) ∧ ((qR S (qO S 0 80) 7 = some (qO S (qO S 0 80) 7)) ∧ (((0 : Int) ≤ x3.toInt ∧ x3.toInt < (qN S (qO S (qO S 0 80) 7) : Int)) ∧ ((qR S (qO S (qO S 0 80) 7) x3.toInt.toNat = some (qO S (qO S (qO S 0 80) 7) x3.toInt.toNat)) ∧ (((sEq S (qO S (qO S (qO S 0 80) 7) x3.toInt.toNat) 10000016).toInt = 0 → (((0 : Int) ≤ x3.toInt ∧ x3.toInt < 24) ∧ ((qR S 0 80 = some (qO S 0 80)) ∧ ((qR S (qO S 0 80) 7 = some (qO S (qO S 0 80) 7)) ∧ (((0 : Int) ≤ x3.toInt ∧ x3.toInt < (qN S (qO S (qO S 0 80) 7) : Int)) ∧ ((qR S (qO S (qO S 0 80) 7) x3.toInt.toNat = some (qO S (qO S (qO S 0 80) 7) x3.toInt.toNat)) ∧ (((sEq S (qO S (qO S (qO S 0 80) 7) x3.toInt.toNat) 10000022).toInt = 0 → w_plain_J542 Q S 1 (qJ S 37 x3.toInt.toNat)) ∧ (¬ (sEq S (qO S (qO S (qO S 0 80) 7) x3.toInt.toNat) 10000022).toInt = 0 → w_plain_J542 Q S 2 (qJ S 37 x3.toInt.toNat))))))))) ∧ (¬ (sEq S (qO S (qO S (qO S 0 80) 7) x3.toInt.toNat) 10000016).toInt = 0 → (((0 : Int) ≤ x3.toInt ∧ x3.toInt < 24) ∧ (∃ Q222, w_putInt S ((qJ S 37 x3.toInt.toNat).toInt32) Q222 ∧ ∀ S223, Q222 S223 → Q (1 : Int32) S223))))))))) ∧ (¬ x2.toInt = 178 → ((x2.toInt = 179 → ((qR S 0 80 = some (qO S 0 80)) ∧ ((qR S (qO S 0 80) 7 = some (qO S (qO S 0 80) 7)) ∧ (((0 : Int) ≤ x3.toInt ∧ x3.toInt < (qN S (qO S (qO S 0 80) 7) : Int)) ∧ ((qR S (qO S (qO S 0 80) 7) x3.toInt.toNat = some (qO S (qO S (qO S 0 80) 7) x3.toInt.toNat)) ∧ (((sEq S (qO S (qO S (qO S 0 80) 7) x3.toInt.toNat) 10000022).toInt = 0 → w_plain_J576 Q S 1 x3) ∧ (¬ (sEq S (qO S (qO S (qO S 0 80) 7) x3.toInt.toNat) 10000022).toInt = 0 → w_plain_J576 Q S 2 x3))))))) ∧ (¬ x2.toInt = 179 → (∃ Q241, w_onArrays S x2 Q241 ∧ ∀ r242 S243, Q241 r242 S243 → Q r242 S243)))))))))))))))))))))))))))))))))))))))))))))))))
set_option maxHeartbeats 2000000 in
set_option maxRecDepth 100000 in
theorem r_plain (l : Launch) (g : Gr) (ad : Nat → Nat) (sz : Nat) (S : MS) (x1 : Int32) (x2 : Int32) (x3 : Int32) (hw : wfM S) (Q : Int32 → MS → Prop) (h : w_plain S x1 x2 x3 Q) : Met l yX14_plain (wt2 yX14_plain cX14_plain 4 (some .boolean)) ({ frames := 5, cells := 0, slots := 0, locals := 116 }) (va_Pc [.ref (ad 0), .int x1, .int x2, .int x3] (st_R g ad sz S)) (va_Qi (fun (r : Int32) (u : MS) => Q r u ∧ wfM u ∧ shy S u ∧ (r = 0 ∨ r = 1)) (fun (u : MS) (t : State) => qE g ad (va_A (Wd g ad S) sz) u t) (va_A (Wd g ad S) sz)) 0 0 (va_A (Wd g ad S) sz) := by
  refine Met.ofW (cc := cX14_plain) (maxL := 4) (ret := (some .boolean)) (by decide) rfl ?_
  intro p e s m args below meth c s₁ B hml hv
  obtain ⟨rfl, hsz, hP, hK, hD0, hex, hE⟩ := hv
  have hx := B.exec
  have hb := B.bytes
  have hr := B.returns
  have hts0 := atoms_spec (ws := wt2 yX14_plain cX14_plain 4 (some .boolean)) B.pre
  have hts : ∀ w ∈ tb2, w.before _ s = true := fun w h => hts0 w (List.mem_cons_of_mem _ h)
  have hown : s.vm.findClass RX14 = some m.cls := findClass_of_methodNamed B.named
  subst hsz
  have hD := hD0.self (sz := s.heap.size)
  generalize hAe : va_A (Wd g ad S) s.heap.size = A at hD hE ⊢
  have hA : ∀ q : Nat, s.heap.size ≤ q → A q := fun q h => by rw [← hAe]; exact Or.inr h
  have hR : Rep g ad A s S s.heap [] := ⟨hK, hP, hD, va_S.rf, hw⟩
  clear hK hP hD hD0
  have hl := lv_entry ([.ref (ad 0), .int x1, .int x2, .int x3]) (n := 4) (Nat.le_of_ble_eq_true rfl)
  rw [lg_entry_eq]
  generalize (lg_sl ([.ref (ad 0), .int x1, .int x2, .int x3]) ++ List.replicate (4 - (lg_sl ([.ref (ad 0), .int x1, .int x2, .int x3])).length) Slot.unset).toArray = ls at hl ⊢
  have hl : lv_has ls 4 [(0, .ref (ad 0)), (1, .int x1), (2, .int x2), (3, .int x3)] := hl
  have hsh : shy S S := shy.rf
  unfold w_plain at h
  refine lv_iload_n hx hb dX14_plain_0 rfl (lv_at hl 2 rfl) ?_
  by_cases c9_0 : x2.toInt = 0
  · refine lv_lookup (off := 203) (tgt := 204) hx hb dX14_plain_1 (by decide) (by rw [c9_0]; decide) (by decide) ?_
    replace h := h.1 (c9_0)
    refine lv_iconst (v := 1) hx hb dX14_plain_204 (by decide) ?_
    exact W.zret (v := 1) hx hb hr (nz (Or.inr rfl)) (fun t9 ht9 hW9 => ⟨⟨_, S, rfl, ⟨h, hR.w, hsh, (Or.inr rfl)⟩, ⟨by rw [ht9]; exact hR.P, hR.D⟩⟩, hR.sS.F ht9⟩) hR.sS.2.2 dX14_plain_205
  replace h := h.2 c9_0
  by_cases c9_1 : x2.toInt = 1
  · refine lv_lookup (off := 205) (tgt := 206) hx hb dX14_plain_1 (by decide) (by rw [c9_1]; decide) (by decide) ?_
    replace h := h.1 (c9_1)
    refine lv_aload_n hx hb dX14_plain_206 rfl (lv_at hl 0 rfl) ?_
    refine lv_lconst (v := 0) hx hb dX14_plain_207 (by decide) ?_
    refine lv_iconst (v := 1) hx hb dX14_plain_208 (by decide) ?_
    obtain ⟨Q1, h0, h⟩ := h
    have hFc := rfree hR hA
    refine va_callv (va_runV (As := [.long 0, .int 1]) (rest := []) ⟨hx, hb, hml, hown, hts⟩ (r_put l g ad s.heap.size S 0 (1 : Int32) hR.w  Q1 h0) (cwV 2 hts (gd2_V kx_948 kx_949 kx_950 kx_177 kx_951) rfl rfl rfl (by decide +kernel) ⟨Nat.le_of_ble_eq_true rfl, Nat.le_of_ble_eq_true rfl⟩) ⟨rblind, va_recv hR.K hR.P (ci := 13) (q0 := 0) rfl (hR.at14 hR.w.1), fun U hU hW9 => rmk hU hW9 hR hex hE hFc⟩ rfl rfl hl.1 rfl (lv_room (Nat.le_of_ble_eq_true rfl)) dX14_plain_209 ⟨Nat.le_of_ble_eq_true rfl, Nat.le_of_ble_eq_true rfl⟩) hR.sS (fun q _ h => hFc q h) hFc (fun  S2 t9 H1 locs ht9 hvm9 hw9 hB9 hz9 hk9 hS => ?_)
    obtain ⟨hq3, hw9, hs9⟩ := hw9
    have hR : Rep g ad A s S2 H1 locs := hR.call ht9 hB9 hw9 hS hFc
    have hsh := hsh.tr hs9
    replace h := h  S2 hq3
    clear hB9 hz9 hk9 hvm9 ht9 hw9 hs9 hS
    generalize H1 = H at hR ⊢
    refine lv_iconst (v := 1) hx hb dX14_plain_212 (by decide) ?_
    exact W.zret (v := 1) hx hb hr (nz (Or.inr rfl)) (fun t9 ht9 hW9 => ⟨⟨_, S2, rfl, ⟨h, hR.w, hsh, (Or.inr rfl)⟩, ⟨by rw [ht9]; exact hR.P, hR.D⟩⟩, hR.sS.F ht9⟩) hR.sS.2.2 dX14_plain_213
  replace h := h.2 c9_1
  by_cases c9_18 : x2.toInt = 18
  · refine lv_lookup (off := 213) (tgt := 214) hx hb dX14_plain_1 (by decide) (by rw [c9_18]; decide) (by decide) ?_
    replace h := h.1 (c9_18)
    refine lv_aload_n hx hb dX14_plain_214 rfl (lv_at hl 0 rfl) ?_
    refine lv_iload_n hx hb dX14_plain_215 rfl (lv_at hl 3 rfl) ?_
    obtain ⟨Q4, h0, h⟩ := h
    have hFc := rfree hR hA
    refine va_callv (va_runV (As := [.int x3]) (rest := []) ⟨hx, hb, hml, hown, hts⟩ (r_putInt l g ad s.heap.size S x3 hR.w  Q4 h0) (cwV 1 hts (gd2_V kx_652 kx_653 kx_654 kx_177 kx_655) rfl rfl rfl (by decide +kernel) ⟨Nat.le_of_ble_eq_true rfl, Nat.le_of_ble_eq_true rfl⟩) ⟨rblind, va_recv hR.K hR.P (ci := 13) (q0 := 0) rfl (hR.at14 hR.w.1), fun U hU hW9 => rmk hU hW9 hR hex hE hFc⟩ rfl rfl hl.1 rfl (lv_room (Nat.le_of_ble_eq_true rfl)) dX14_plain_216 ⟨Nat.le_of_ble_eq_true rfl, Nat.le_of_ble_eq_true rfl⟩) hR.sS (fun q _ h => hFc q h) hFc (fun  S5 t9 H1 locs ht9 hvm9 hw9 hB9 hz9 hk9 hS => ?_)
    obtain ⟨hq6, hw9, hs9⟩ := hw9
    have hR : Rep g ad A s S5 H1 locs := hR.call ht9 hB9 hw9 hS hFc
    have hsh := hsh.tr hs9
    replace h := h  S5 hq6
    clear hB9 hz9 hk9 hvm9 ht9 hw9 hs9 hS
    generalize H1 = H at hR ⊢
    refine lv_iconst (v := 1) hx hb dX14_plain_219 (by decide) ?_
    exact W.zret (v := 1) hx hb hr (nz (Or.inr rfl)) (fun t9 ht9 hW9 => ⟨⟨_, S5, rfl, ⟨h, hR.w, hsh, (Or.inr rfl)⟩, ⟨by rw [ht9]; exact hR.P, hR.D⟩⟩, hR.sS.F ht9⟩) hR.sS.2.2 dX14_plain_220
  replace h := h.2 c9_18
  by_cases c9_20 : x2.toInt = 20
  · refine lv_lookup (off := 220) (tgt := 221) hx hb dX14_plain_1 (by decide) (by rw [c9_20]; decide) (by decide) ?_
    replace h := h.1 (c9_20)
    refine lv_aload_n hx hb dX14_plain_221 rfl (lv_at hl 0 rfl) ?_
    refine lv_aload_n hx hb dX14_plain_222 rfl (lv_at hl 0 rfl) ?_
    refine lv_iload_n hx hb dX14_plain_223 rfl (lv_at hl 1 rfl) ?_
    obtain ⟨hv7, h⟩ := h
    have hFc := rfree hR hA
    refine va_calll (va_runV (As := [.int x1]) (rest := [.ref (ad 0)]) ⟨hx, hb, hml, hown, hts⟩ (r_longOf l g ad s.heap.size S x1 hR.w  hv7) (cwV 1 hts (gd2_V kx_559 kx_560 kx_561 kx_177 kx_562) rfl rfl rfl (by decide +kernel) ⟨Nat.le_of_ble_eq_true rfl, Nat.le_of_ble_eq_true rfl⟩) ⟨rblind, va_recv hR.K hR.P (ci := 13) (q0 := 0) rfl (hR.at14 hR.w.1), fun U hU hW9 => rmk hU hW9 hR hex hE hFc⟩ rfl rfl hl.1 rfl (lv_room (Nat.le_of_ble_eq_true rfl)) dX14_plain_224 ⟨Nat.le_of_ble_eq_true rfl, Nat.le_of_ble_eq_true rfl⟩) hR.sS (fun q _ h => hFc q h) hFc (fun r8 u9 t9 H1 locs ht9 hvm9 hw9 hB9 hz9 hk9 hS => ?_)
    have hR : Rep g ad A s S H1 locs := hR.call ht9 hB9 hR.w hS hFc
    obtain rfl : r8 = (f_longOf S x1) := hw9
    clear hB9 hz9 hk9 hvm9 ht9 hS
    generalize H1 = H at hR ⊢
    refine lv_iconst (v := 2) hx hb dX14_plain_227 (by decide) ?_
    obtain ⟨Q10, h0, h⟩ := h
    have hFc := rfree hR hA
    refine va_callv (va_runV (As := [.long (f_longOf S x1), .int 2]) (rest := []) ⟨hx, hb, hml, hown, hts⟩ (r_put l g ad H.size S (f_longOf S x1) (2 : Int32) hR.w  Q10 h0) (cwV 2 hts (gd2_V kx_948 kx_949 kx_950 kx_177 kx_951) rfl rfl rfl (by decide +kernel) ⟨Nat.le_of_ble_eq_true rfl, Nat.le_of_ble_eq_true rfl⟩) ⟨rblind, va_recv hR.K hR.P (ci := 13) (q0 := 0) rfl (hR.at14 hR.w.1), fun U hU hW9 => rmk hU hW9 hR hex hE hFc⟩ rfl rfl hl.1 rfl (lv_room (Nat.le_of_ble_eq_true rfl)) dX14_plain_228 ⟨Nat.le_of_ble_eq_true rfl, Nat.le_of_ble_eq_true rfl⟩) hR.sS (fun q _ h => hFc q h) hFc (fun  S11 t9 H1 locs ht9 hvm9 hw9 hB9 hz9 hk9 hS => ?_)
    obtain ⟨hq12, hw9, hs9⟩ := hw9
    have hR : Rep g ad A s S11 H1 locs := hR.call ht9 hB9 hw9 hS hFc
    have hsh := hsh.tr hs9
    replace h := h  S11 hq12
    clear hB9 hz9 hk9 hvm9 ht9 hw9 hs9 hS
    generalize H1 = H at hR ⊢
    refine lv_iconst (v := 1) hx hb dX14_plain_231 (by decide) ?_
    exact W.zret (v := 1) hx hb hr (nz (Or.inr rfl)) (fun t9 ht9 hW9 => ⟨⟨_, S11, rfl, ⟨h, hR.w, hsh, (Or.inr rfl)⟩, ⟨by rw [ht9]; exact hR.P, hR.D⟩⟩, hR.sS.F ht9⟩) hR.sS.2.2 dX14_plain_232
  replace h := h.2 c9_20
  by_cases c9_21 : x2.toInt = 21
  · refine lv_lookup (off := 232) (tgt := 233) hx hb dX14_plain_1 (by decide) (by rw [c9_21]; decide) (by decide) ?_
    replace h := h.1 (c9_21)
    refine lv_aload_n hx hb dX14_plain_233 rfl (lv_at hl 0 rfl) ?_
    refine lv_aload_n hx hb dX14_plain_234 rfl (lv_at hl 0 rfl) ?_
    refine va_get (D := rD g) (ci := 13) (v := .ref (ad 45)) (C := RX14) (T := TX14) (N := 143) hx hb hts in2X14 hown hR.K hR.P 0 (hR.at14 hR.w.1) rfl 92 (by decide) (hts _ kx_624) (fun _ h9 => h9) (congrArg (fun z => some (vf ad z)) (hR.w.2.1 _ fin_92).1) dX14_plain_235 ?_
    refine lv_aload_n hx hb dX14_plain_238 rfl (lv_at hl 0 rfl) ?_
    refine lv_iload_n hx hb dX14_plain_239 rfl (lv_at hl 3 rfl) ?_
    obtain ⟨hv13, h⟩ := h
    have hFc := rfree hR hA
    refine va_calli (va_runV (As := [.int x3]) (rest := [.ref (ad 45), .ref (ad 0)]) ⟨hx, hb, hml, hown, hts⟩ (r_slot l g ad s.heap.size S x3 hR.w  hv13) (cwV 1 hts (gd2_V kx_658 kx_659 kx_660 kx_177 kx_661) rfl rfl rfl (by decide +kernel) ⟨Nat.le_of_ble_eq_true rfl, Nat.le_of_ble_eq_true rfl⟩) ⟨rblind, va_recv hR.K hR.P (ci := 13) (q0 := 0) rfl (hR.at14 hR.w.1), fun U hU hW9 => rmk hU hW9 hR hex hE hFc⟩ rfl rfl hl.1 rfl (lv_room (Nat.le_of_ble_eq_true rfl)) dX14_plain_240 ⟨Nat.le_of_ble_eq_true rfl, Nat.le_of_ble_eq_true rfl⟩) hR.sS (fun q _ h => hFc q h) hFc (fun r14 u9 t9 H1 locs ht9 hvm9 hw9 hB9 hz9 hk9 hS => ?_)
    have hR : Rep g ad A s S H1 locs := hR.call ht9 hB9 hR.w hS hFc
    obtain rfl : r14 = (f_slot S x3) := hw9
    clear hB9 hz9 hk9 hvm9 ht9 hS
    generalize H1 = H at hR ⊢
    obtain ⟨hv16, h⟩ := h
    refine va_lald hx hb hR.K hR.P 45 3 (hR.atL (hR.w.2.1 _ fin_92).2.1) rfl (k_ixN (k_ix (n := 1440) (x := (f_slot S x3)) (a := (f_slot S x3).toInt) rfl hv16) (hR.w.2.1 _ fin_92).2.2) dX14_plain_243 ?_
    refine lv_topl (fun z17 ez17 => ?_)
    obtain rfl : z17 = (qJ S 45 (((f_slot S x3).toInt).toNat)) := ez17
    refine lv_aload_n hx hb dX14_plain_244 rfl (lv_at hl 0 rfl) ?_
    refine va_get (D := rD g) (ci := 13) (v := .ref (ad 47)) (C := RX14) (T := TX14) (N := 143) hx hb hts in2X14 hown hR.K hR.P 0 (hR.at14 hR.w.1) rfl 94 (by decide) (hts _ kx_625) (fun _ h9 => h9) (congrArg (fun z => some (vf ad z)) (hR.w.2.1 _ fin_94).1) dX14_plain_245 ?_
    refine lv_aload_n hx hb dX14_plain_248 rfl (lv_at hl 0 rfl) ?_
    refine lv_iload_n hx hb dX14_plain_249 rfl (lv_at hl 3 rfl) ?_
    obtain ⟨hv18, h⟩ := h
    have hFc := rfree hR hA
    refine va_calli (va_runV (As := [.int x3]) (rest := [.ref (ad 47), .long (qJ S 45 (((f_slot S x3).toInt).toNat)), .ref (ad 0)]) ⟨hx, hb, hml, hown, hts⟩ (r_slot l g ad H.size S x3 hR.w  hv18) (cwV 1 hts (gd2_V kx_658 kx_659 kx_660 kx_177 kx_661) rfl rfl rfl (by decide +kernel) ⟨Nat.le_of_ble_eq_true rfl, Nat.le_of_ble_eq_true rfl⟩) ⟨rblind, va_recv hR.K hR.P (ci := 13) (q0 := 0) rfl (hR.at14 hR.w.1), fun U hU hW9 => rmk hU hW9 hR hex hE hFc⟩ rfl rfl hl.1 rfl (lv_room (Nat.le_of_ble_eq_true rfl)) dX14_plain_250 ⟨Nat.le_of_ble_eq_true rfl, Nat.le_of_ble_eq_true rfl⟩) hR.sS (fun q _ h => hFc q h) hFc (fun r19 u9 t9 H1 locs ht9 hvm9 hw9 hB9 hz9 hk9 hS => ?_)
    have hR : Rep g ad A s S H1 locs := hR.call ht9 hB9 hR.w hS hFc
    obtain rfl : r19 = (f_slot S x3) := hw9
    clear hB9 hz9 hk9 hvm9 ht9 hS
    generalize H1 = H at hR ⊢
    obtain ⟨hv21, h⟩ := h
    refine va_bald hx hb hR.K hR.P 47 0 (hR.atB (hR.w.2.1 _ fin_94).2.1) rfl (k_ixN (k_ix (n := 1440) (x := (f_slot S x3)) (a := (f_slot S x3).toInt) rfl hv21) (hR.w.2.1 _ fin_94).2.2) dX14_plain_253 ?_
    refine lv_topi (fun z22 ez22 => ?_)
    obtain rfl : z22 = (qI S 47 (((f_slot S x3).toInt).toNat)) := ez22
    refine lv_iconst (v := 1) hx hb dX14_plain_254 (by decide) ?_
    obtain ⟨Q23, h0, h⟩ := h
    have hFc := rfree hR hA
    refine va_callv (va_runV (As := [.long (qJ S 45 (((f_slot S x3).toInt).toNat)), .int (qI S 47 (((f_slot S x3).toInt).toNat)), .int 1]) (rest := []) ⟨hx, hb, hml, hown, hts⟩ (r_putTagged l g ad H.size S (qJ S 45 (((f_slot S x3).toInt).toNat)) (qI S 47 (((f_slot S x3).toInt).toNat)) (1 : Int32) hR.w  Q23 h0) (cwV 3 hts (gd2_V kx_631 kx_632 kx_633 kx_177 kx_634) rfl rfl rfl (by decide +kernel) ⟨Nat.le_of_ble_eq_true rfl, Nat.le_of_ble_eq_true rfl⟩) ⟨rblind, va_recv hR.K hR.P (ci := 13) (q0 := 0) rfl (hR.at14 hR.w.1), fun U hU hW9 => rmk hU hW9 hR hex hE hFc⟩ rfl rfl hl.1 rfl (lv_room (Nat.le_of_ble_eq_true rfl)) dX14_plain_255 ⟨Nat.le_of_ble_eq_true rfl, Nat.le_of_ble_eq_true rfl⟩) hR.sS (fun q _ h => hFc q h) hFc (fun  S24 t9 H1 locs ht9 hvm9 hw9 hB9 hz9 hk9 hS => ?_)
    obtain ⟨hq25, hw9, hs9⟩ := hw9
    have hR : Rep g ad A s S24 H1 locs := hR.call ht9 hB9 hw9 hS hFc
    have hsh := hsh.tr hs9
    replace h := h  S24 hq25
    clear hB9 hz9 hk9 hvm9 ht9 hw9 hs9 hS
    generalize H1 = H at hR ⊢
    refine lv_iconst (v := 1) hx hb dX14_plain_258 (by decide) ?_
    exact W.zret (v := 1) hx hb hr (nz (Or.inr rfl)) (fun t9 ht9 hW9 => ⟨⟨_, S24, rfl, ⟨h, hR.w, hsh, (Or.inr rfl)⟩, ⟨by rw [ht9]; exact hR.P, hR.D⟩⟩, hR.sS.F ht9⟩) hR.sS.2.2 dX14_plain_259
  replace h := h.2 c9_21
  by_cases c9_22 : x2.toInt = 22
  · refine lv_lookup (off := 259) (tgt := 260) hx hb dX14_plain_1 (by decide) (by rw [c9_22]; decide) (by decide) ?_
    replace h := h.1 (c9_22)
    refine lv_aload_n hx hb dX14_plain_260 rfl (lv_at hl 0 rfl) ?_
    refine lv_aload_n hx hb dX14_plain_261 rfl (lv_at hl 0 rfl) ?_
    refine va_get (D := rD g) (ci := 13) (v := .ref (ad 45)) (C := RX14) (T := TX14) (N := 143) hx hb hts in2X14 hown hR.K hR.P 0 (hR.at14 hR.w.1) rfl 92 (by decide) (hts _ kx_624) (fun _ h9 => h9) (congrArg (fun z => some (vf ad z)) (hR.w.2.1 _ fin_92).1) dX14_plain_262 ?_
    refine lv_aload_n hx hb dX14_plain_265 rfl (lv_at hl 0 rfl) ?_
    refine lv_iload_n hx hb dX14_plain_266 rfl (lv_at hl 3 rfl) ?_
    obtain ⟨hv26, h⟩ := h
    have hFc := rfree hR hA
    refine va_calli (va_runV (As := [.int x3]) (rest := [.ref (ad 45), .ref (ad 0)]) ⟨hx, hb, hml, hown, hts⟩ (r_slot l g ad s.heap.size S x3 hR.w  hv26) (cwV 1 hts (gd2_V kx_658 kx_659 kx_660 kx_177 kx_661) rfl rfl rfl (by decide +kernel) ⟨Nat.le_of_ble_eq_true rfl, Nat.le_of_ble_eq_true rfl⟩) ⟨rblind, va_recv hR.K hR.P (ci := 13) (q0 := 0) rfl (hR.at14 hR.w.1), fun U hU hW9 => rmk hU hW9 hR hex hE hFc⟩ rfl rfl hl.1 rfl (lv_room (Nat.le_of_ble_eq_true rfl)) dX14_plain_267 ⟨Nat.le_of_ble_eq_true rfl, Nat.le_of_ble_eq_true rfl⟩) hR.sS (fun q _ h => hFc q h) hFc (fun r27 u9 t9 H1 locs ht9 hvm9 hw9 hB9 hz9 hk9 hS => ?_)
    have hR : Rep g ad A s S H1 locs := hR.call ht9 hB9 hR.w hS hFc
    obtain rfl : r27 = (f_slot S x3) := hw9
    clear hB9 hz9 hk9 hvm9 ht9 hS
    generalize H1 = H at hR ⊢
    obtain ⟨hv29, h⟩ := h
    refine va_lald hx hb hR.K hR.P 45 3 (hR.atL (hR.w.2.1 _ fin_92).2.1) rfl (k_ixN (k_ix (n := 1440) (x := (f_slot S x3)) (a := (f_slot S x3).toInt) rfl hv29) (hR.w.2.1 _ fin_92).2.2) dX14_plain_270 ?_
    refine lv_topl (fun z30 ez30 => ?_)
    obtain rfl : z30 = (qJ S 45 (((f_slot S x3).toInt).toNat)) := ez30
    refine lv_iconst (v := 2) hx hb dX14_plain_271 (by decide) ?_
    obtain ⟨Q31, h0, h⟩ := h
    have hFc := rfree hR hA
    refine va_callv (va_runV (As := [.long (qJ S 45 (((f_slot S x3).toInt).toNat)), .int 2]) (rest := []) ⟨hx, hb, hml, hown, hts⟩ (r_put l g ad H.size S (qJ S 45 (((f_slot S x3).toInt).toNat)) (2 : Int32) hR.w  Q31 h0) (cwV 2 hts (gd2_V kx_948 kx_949 kx_950 kx_177 kx_951) rfl rfl rfl (by decide +kernel) ⟨Nat.le_of_ble_eq_true rfl, Nat.le_of_ble_eq_true rfl⟩) ⟨rblind, va_recv hR.K hR.P (ci := 13) (q0 := 0) rfl (hR.at14 hR.w.1), fun U hU hW9 => rmk hU hW9 hR hex hE hFc⟩ rfl rfl hl.1 rfl (lv_room (Nat.le_of_ble_eq_true rfl)) dX14_plain_272 ⟨Nat.le_of_ble_eq_true rfl, Nat.le_of_ble_eq_true rfl⟩) hR.sS (fun q _ h => hFc q h) hFc (fun  S32 t9 H1 locs ht9 hvm9 hw9 hB9 hz9 hk9 hS => ?_)
    obtain ⟨hq33, hw9, hs9⟩ := hw9
    have hR : Rep g ad A s S32 H1 locs := hR.call ht9 hB9 hw9 hS hFc
    have hsh := hsh.tr hs9
    replace h := h  S32 hq33
    clear hB9 hz9 hk9 hvm9 ht9 hw9 hs9 hS
    generalize H1 = H at hR ⊢
    refine lv_iconst (v := 1) hx hb dX14_plain_275 (by decide) ?_
    exact W.zret (v := 1) hx hb hr (nz (Or.inr rfl)) (fun t9 ht9 hW9 => ⟨⟨_, S32, rfl, ⟨h, hR.w, hsh, (Or.inr rfl)⟩, ⟨by rw [ht9]; exact hR.P, hR.D⟩⟩, hR.sS.F ht9⟩) hR.sS.2.2 dX14_plain_276
  replace h := h.2 c9_22
  by_cases c9_25 : x2.toInt = 25
  · refine lv_lookup (off := 232) (tgt := 233) hx hb dX14_plain_1 (by decide) (by rw [c9_25]; decide) (by decide) ?_
    replace h := h.1 (c9_25)
    refine lv_aload_n hx hb dX14_plain_233 rfl (lv_at hl 0 rfl) ?_
    refine lv_aload_n hx hb dX14_plain_234 rfl (lv_at hl 0 rfl) ?_
    refine va_get (D := rD g) (ci := 13) (v := .ref (ad 45)) (C := RX14) (T := TX14) (N := 143) hx hb hts in2X14 hown hR.K hR.P 0 (hR.at14 hR.w.1) rfl 92 (by decide) (hts _ kx_624) (fun _ h9 => h9) (congrArg (fun z => some (vf ad z)) (hR.w.2.1 _ fin_92).1) dX14_plain_235 ?_
    refine lv_aload_n hx hb dX14_plain_238 rfl (lv_at hl 0 rfl) ?_
    refine lv_iload_n hx hb dX14_plain_239 rfl (lv_at hl 3 rfl) ?_
    obtain ⟨hv34, h⟩ := h
    have hFc := rfree hR hA
    refine va_calli (va_runV (As := [.int x3]) (rest := [.ref (ad 45), .ref (ad 0)]) ⟨hx, hb, hml, hown, hts⟩ (r_slot l g ad s.heap.size S x3 hR.w  hv34) (cwV 1 hts (gd2_V kx_658 kx_659 kx_660 kx_177 kx_661) rfl rfl rfl (by decide +kernel) ⟨Nat.le_of_ble_eq_true rfl, Nat.le_of_ble_eq_true rfl⟩) ⟨rblind, va_recv hR.K hR.P (ci := 13) (q0 := 0) rfl (hR.at14 hR.w.1), fun U hU hW9 => rmk hU hW9 hR hex hE hFc⟩ rfl rfl hl.1 rfl (lv_room (Nat.le_of_ble_eq_true rfl)) dX14_plain_240 ⟨Nat.le_of_ble_eq_true rfl, Nat.le_of_ble_eq_true rfl⟩) hR.sS (fun q _ h => hFc q h) hFc (fun r35 u9 t9 H1 locs ht9 hvm9 hw9 hB9 hz9 hk9 hS => ?_)
    have hR : Rep g ad A s S H1 locs := hR.call ht9 hB9 hR.w hS hFc
    obtain rfl : r35 = (f_slot S x3) := hw9
    clear hB9 hz9 hk9 hvm9 ht9 hS
    generalize H1 = H at hR ⊢
    obtain ⟨hv37, h⟩ := h
    refine va_lald hx hb hR.K hR.P 45 3 (hR.atL (hR.w.2.1 _ fin_92).2.1) rfl (k_ixN (k_ix (n := 1440) (x := (f_slot S x3)) (a := (f_slot S x3).toInt) rfl hv37) (hR.w.2.1 _ fin_92).2.2) dX14_plain_243 ?_
    refine lv_topl (fun z38 ez38 => ?_)
    obtain rfl : z38 = (qJ S 45 (((f_slot S x3).toInt).toNat)) := ez38
    refine lv_aload_n hx hb dX14_plain_244 rfl (lv_at hl 0 rfl) ?_
    refine va_get (D := rD g) (ci := 13) (v := .ref (ad 47)) (C := RX14) (T := TX14) (N := 143) hx hb hts in2X14 hown hR.K hR.P 0 (hR.at14 hR.w.1) rfl 94 (by decide) (hts _ kx_625) (fun _ h9 => h9) (congrArg (fun z => some (vf ad z)) (hR.w.2.1 _ fin_94).1) dX14_plain_245 ?_
    refine lv_aload_n hx hb dX14_plain_248 rfl (lv_at hl 0 rfl) ?_
    refine lv_iload_n hx hb dX14_plain_249 rfl (lv_at hl 3 rfl) ?_
    obtain ⟨hv39, h⟩ := h
    have hFc := rfree hR hA
    refine va_calli (va_runV (As := [.int x3]) (rest := [.ref (ad 47), .long (qJ S 45 (((f_slot S x3).toInt).toNat)), .ref (ad 0)]) ⟨hx, hb, hml, hown, hts⟩ (r_slot l g ad H.size S x3 hR.w  hv39) (cwV 1 hts (gd2_V kx_658 kx_659 kx_660 kx_177 kx_661) rfl rfl rfl (by decide +kernel) ⟨Nat.le_of_ble_eq_true rfl, Nat.le_of_ble_eq_true rfl⟩) ⟨rblind, va_recv hR.K hR.P (ci := 13) (q0 := 0) rfl (hR.at14 hR.w.1), fun U hU hW9 => rmk hU hW9 hR hex hE hFc⟩ rfl rfl hl.1 rfl (lv_room (Nat.le_of_ble_eq_true rfl)) dX14_plain_250 ⟨Nat.le_of_ble_eq_true rfl, Nat.le_of_ble_eq_true rfl⟩) hR.sS (fun q _ h => hFc q h) hFc (fun r40 u9 t9 H1 locs ht9 hvm9 hw9 hB9 hz9 hk9 hS => ?_)
    have hR : Rep g ad A s S H1 locs := hR.call ht9 hB9 hR.w hS hFc
    obtain rfl : r40 = (f_slot S x3) := hw9
    clear hB9 hz9 hk9 hvm9 ht9 hS
    generalize H1 = H at hR ⊢
    obtain ⟨hv42, h⟩ := h
    refine va_bald hx hb hR.K hR.P 47 0 (hR.atB (hR.w.2.1 _ fin_94).2.1) rfl (k_ixN (k_ix (n := 1440) (x := (f_slot S x3)) (a := (f_slot S x3).toInt) rfl hv42) (hR.w.2.1 _ fin_94).2.2) dX14_plain_253 ?_
    refine lv_topi (fun z43 ez43 => ?_)
    obtain rfl : z43 = (qI S 47 (((f_slot S x3).toInt).toNat)) := ez43
    refine lv_iconst (v := 1) hx hb dX14_plain_254 (by decide) ?_
    obtain ⟨Q44, h0, h⟩ := h
    have hFc := rfree hR hA
    refine va_callv (va_runV (As := [.long (qJ S 45 (((f_slot S x3).toInt).toNat)), .int (qI S 47 (((f_slot S x3).toInt).toNat)), .int 1]) (rest := []) ⟨hx, hb, hml, hown, hts⟩ (r_putTagged l g ad H.size S (qJ S 45 (((f_slot S x3).toInt).toNat)) (qI S 47 (((f_slot S x3).toInt).toNat)) (1 : Int32) hR.w  Q44 h0) (cwV 3 hts (gd2_V kx_631 kx_632 kx_633 kx_177 kx_634) rfl rfl rfl (by decide +kernel) ⟨Nat.le_of_ble_eq_true rfl, Nat.le_of_ble_eq_true rfl⟩) ⟨rblind, va_recv hR.K hR.P (ci := 13) (q0 := 0) rfl (hR.at14 hR.w.1), fun U hU hW9 => rmk hU hW9 hR hex hE hFc⟩ rfl rfl hl.1 rfl (lv_room (Nat.le_of_ble_eq_true rfl)) dX14_plain_255 ⟨Nat.le_of_ble_eq_true rfl, Nat.le_of_ble_eq_true rfl⟩) hR.sS (fun q _ h => hFc q h) hFc (fun  S45 t9 H1 locs ht9 hvm9 hw9 hB9 hz9 hk9 hS => ?_)
    obtain ⟨hq46, hw9, hs9⟩ := hw9
    have hR : Rep g ad A s S45 H1 locs := hR.call ht9 hB9 hw9 hS hFc
    have hsh := hsh.tr hs9
    replace h := h  S45 hq46
    clear hB9 hz9 hk9 hvm9 ht9 hw9 hs9 hS
    generalize H1 = H at hR ⊢
    refine lv_iconst (v := 1) hx hb dX14_plain_258 (by decide) ?_
    exact W.zret (v := 1) hx hb hr (nz (Or.inr rfl)) (fun t9 ht9 hW9 => ⟨⟨_, S45, rfl, ⟨h, hR.w, hsh, (Or.inr rfl)⟩, ⟨by rw [ht9]; exact hR.P, hR.D⟩⟩, hR.sS.F ht9⟩) hR.sS.2.2 dX14_plain_259
  replace h := h.2 c9_25
  by_cases c9_54 : x2.toInt = 54
  · refine lv_lookup (off := 276) (tgt := 277) hx hb dX14_plain_1 (by decide) (by rw [c9_54]; decide) (by decide) ?_
    replace h := h.1 (c9_54)
    refine lv_aload_n hx hb dX14_plain_277 rfl (lv_at hl 0 rfl) ?_
    refine va_get (D := rD g) (ci := 13) (v := .ref (ad 47)) (C := RX14) (T := TX14) (N := 143) hx hb hts in2X14 hown hR.K hR.P 0 (hR.at14 hR.w.1) rfl 94 (by decide) (hts _ kx_625) (fun _ h9 => h9) (congrArg (fun z => some (vf ad z)) (hR.w.2.1 _ fin_94).1) dX14_plain_278 ?_
    refine lv_aload_n hx hb dX14_plain_281 rfl (lv_at hl 0 rfl) ?_
    refine lv_iload_n hx hb dX14_plain_282 rfl (lv_at hl 3 rfl) ?_
    obtain ⟨hv47, h⟩ := h
    have hFc := rfree hR hA
    refine va_calli (va_runV (As := [.int x3]) (rest := [.ref (ad 47)]) ⟨hx, hb, hml, hown, hts⟩ (r_slot l g ad s.heap.size S x3 hR.w  hv47) (cwV 1 hts (gd2_V kx_658 kx_659 kx_660 kx_177 kx_661) rfl rfl rfl (by decide +kernel) ⟨Nat.le_of_ble_eq_true rfl, Nat.le_of_ble_eq_true rfl⟩) ⟨rblind, va_recv hR.K hR.P (ci := 13) (q0 := 0) rfl (hR.at14 hR.w.1), fun U hU hW9 => rmk hU hW9 hR hex hE hFc⟩ rfl rfl hl.1 rfl (lv_room (Nat.le_of_ble_eq_true rfl)) dX14_plain_283 ⟨Nat.le_of_ble_eq_true rfl, Nat.le_of_ble_eq_true rfl⟩) hR.sS (fun q _ h => hFc q h) hFc (fun r48 u9 t9 H1 locs ht9 hvm9 hw9 hB9 hz9 hk9 hS => ?_)
    have hR : Rep g ad A s S H1 locs := hR.call ht9 hB9 hR.w hS hFc
    obtain rfl : r48 = (f_slot S x3) := hw9
    clear hB9 hz9 hk9 hvm9 ht9 hS
    generalize H1 = H at hR ⊢
    refine lv_aload_n hx hb dX14_plain_286 rfl (lv_at hl 0 rfl) ?_
    refine lv_iconst (v := 1) hx hb dX14_plain_287 (by decide) ?_
    obtain ⟨hv50, h⟩ := h
    have hFc := rfree hR hA
    refine va_calli (va_runV (As := [.int 1]) (rest := [.int (f_slot S x3), .ref (ad 47)]) ⟨hx, hb, hml, hown, hts⟩ (r_tagAt l g ad H.size S (1 : Int32) hR.w  hv50) (cwV 1 hts (gd2_V kx_640 kx_641 kx_642 kx_177 kx_643) rfl rfl rfl (by decide +kernel) ⟨Nat.le_of_ble_eq_true rfl, Nat.le_of_ble_eq_true rfl⟩) ⟨rblind, va_recv hR.K hR.P (ci := 13) (q0 := 0) rfl (hR.at14 hR.w.1), fun U hU hW9 => rmk hU hW9 hR hex hE hFc⟩ rfl rfl hl.1 rfl (lv_room (Nat.le_of_ble_eq_true rfl)) dX14_plain_288 ⟨Nat.le_of_ble_eq_true rfl, Nat.le_of_ble_eq_true rfl⟩) hR.sS (fun q _ h => hFc q h) hFc (fun r51 u9 t9 H1 locs ht9 hvm9 hw9 hB9 hz9 hk9 hS => ?_)
    have hR : Rep g ad A s S H1 locs := hR.call ht9 hB9 hR.w hS hFc
    obtain rfl : r51 = (f_tagAt S (1 : Int32)) := hw9
    clear hB9 hz9 hk9 hvm9 ht9 hS
    generalize H1 = H at hR ⊢
    refine lv_i2b (v := ((f_tagAt S (1 : Int32)).toInt8.toInt32)) hx hb dX14_plain_291 rfl ?_
    obtain ⟨hv53, h⟩ := h
    refine va_bast hx hb hR.K hR.P hR.D hR.sS 47 0 (hR.atB (hR.w.2.1 _ fin_94).2.1) rfl (k_ixN (k_ix (n := 1440) (x := (f_slot S x3)) (a := (f_slot S x3).toInt) rfl hv53) (hR.w.2.1 _ fin_94).2.2) dX14_plain_292 (fun H locs hP hD hS => ?_)
    have hR : Rep g ad A s (wI S 47 (((f_slot S x3).toInt).toNat) (vp_nar .byte ((f_tagAt S (1 : Int32)).toInt8.toInt32))) H locs := hR.aB (hR.w.2.1 _ fin_94).2.1 hP hD hS
    obtain ⟨S54, eS54⟩ : ∃ z, z = wI S 47 (((f_slot S x3).toInt).toNat) (vp_nar .byte ((f_tagAt S (1 : Int32)).toInt8.toInt32)) := ⟨_, rfl⟩
    rw [← eS54] at hR
    replace h := h S54 eS54
    have hsh : shy S S54 := by rw [eS54]; exact hsh
    refine lv_aload_n hx hb dX14_plain_293 rfl (lv_at hl 0 rfl) ?_
    refine va_get (D := rD g) (ci := 13) (v := .ref (ad 45)) (C := RX14) (T := TX14) (N := 143) hx hb hts in2X14 hown hR.K hR.P 0 (hR.at14 hR.w.1) rfl 92 (by decide) (hts _ kx_624) (fun _ h9 => h9) (congrArg (fun z => some (vf ad z)) (hR.w.2.1 _ fin_92).1) dX14_plain_294 ?_
    refine lv_aload_n hx hb dX14_plain_297 rfl (lv_at hl 0 rfl) ?_
    refine lv_iload_n hx hb dX14_plain_298 rfl (lv_at hl 3 rfl) ?_
    obtain ⟨hv55, h⟩ := h
    have hFc := rfree hR hA
    refine va_calli (va_runV (As := [.int x3]) (rest := [.ref (ad 45)]) ⟨hx, hb, hml, hown, hts⟩ (r_slot l g ad H.size S54 x3 hR.w  hv55) (cwV 1 hts (gd2_V kx_658 kx_659 kx_660 kx_177 kx_661) rfl rfl rfl (by decide +kernel) ⟨Nat.le_of_ble_eq_true rfl, Nat.le_of_ble_eq_true rfl⟩) ⟨rblind, va_recv hR.K hR.P (ci := 13) (q0 := 0) rfl (hR.at14 hR.w.1), fun U hU hW9 => rmk hU hW9 hR hex hE hFc⟩ rfl rfl hl.1 rfl (lv_room (Nat.le_of_ble_eq_true rfl)) dX14_plain_299 ⟨Nat.le_of_ble_eq_true rfl, Nat.le_of_ble_eq_true rfl⟩) hR.sS (fun q _ h => hFc q h) hFc (fun r56 u9 t9 H1 locs ht9 hvm9 hw9 hB9 hz9 hk9 hS => ?_)
    have hR : Rep g ad A s S54 H1 locs := hR.call ht9 hB9 hR.w hS hFc
    obtain rfl : r56 = (f_slot S54 x3) := hw9
    clear hB9 hz9 hk9 hvm9 ht9 hS
    generalize H1 = H at hR ⊢
    refine lv_aload_n hx hb dX14_plain_302 rfl (lv_at hl 0 rfl) ?_
    refine lv_iconst (v := 1) hx hb dX14_plain_303 (by decide) ?_
    obtain ⟨Q58, h0, h⟩ := h
    have hFc := rfree hR hA
    refine va_calll (va_runV (As := [.int 1]) (rest := [.int (f_slot S54 x3), .ref (ad 45)]) ⟨hx, hb, hml, hown, hts⟩ (r_got l g ad H.size S54 (1 : Int32) hR.w  Q58 h0) (cwV 1 hts (gd2_V kx_635 kx_636 kx_637 kx_177 kx_638) rfl rfl rfl (by decide +kernel) ⟨Nat.le_of_ble_eq_true rfl, Nat.le_of_ble_eq_true rfl⟩) ⟨rblind, va_recv hR.K hR.P (ci := 13) (q0 := 0) rfl (hR.at14 hR.w.1), fun U hU hW9 => rmk hU hW9 hR hex hE hFc⟩ rfl rfl hl.1 rfl (lv_room (Nat.le_of_ble_eq_true rfl)) dX14_plain_304 ⟨Nat.le_of_ble_eq_true rfl, Nat.le_of_ble_eq_true rfl⟩) hR.sS (fun q _ h => hFc q h) hFc (fun r59 S60 t9 H1 locs ht9 hvm9 hw9 hB9 hz9 hk9 hS => ?_)
    obtain ⟨hq61, hw9, hs9⟩ := hw9
    have hR : Rep g ad A s S60 H1 locs := hR.call ht9 hB9 hw9 hS hFc
    have hsh := hsh.tr hs9
    replace h := h r59 S60 hq61
    clear hB9 hz9 hk9 hvm9 ht9 hw9 hs9 hS
    generalize H1 = H at hR ⊢
    obtain ⟨hv62, h⟩ := h
    refine va_last hx hb hR.K hR.P hR.D hR.sS 45 3 (hR.atL (hR.w.2.1 _ fin_92).2.1) rfl (k_ixN (k_ix (n := 1440) (x := (f_slot S54 x3)) (a := (f_slot S54 x3).toInt) rfl hv62) (hR.w.2.1 _ fin_92).2.2) dX14_plain_307 (fun H locs hP hD hS => ?_)
    have hR : Rep g ad A s (wJ S60 45 (((f_slot S54 x3).toInt).toNat) r59) H locs := hR.aL (hR.w.2.1 _ fin_92).2.1 hP hD hS
    obtain ⟨S63, eS63⟩ : ∃ z, z = wJ S60 45 (((f_slot S54 x3).toInt).toNat) r59 := ⟨_, rfl⟩
    rw [← eS63] at hR
    replace h := h S63 eS63
    have hsh : shy S S63 := by rw [eS63]; exact hsh
    refine lv_iconst (v := 1) hx hb dX14_plain_308 (by decide) ?_
    exact W.zret (v := 1) hx hb hr (nz (Or.inr rfl)) (fun t9 ht9 hW9 => ⟨⟨_, S63, rfl, ⟨h, hR.w, hsh, (Or.inr rfl)⟩, ⟨by rw [ht9]; exact hR.P, hR.D⟩⟩, hR.sS.F ht9⟩) hR.sS.2.2 dX14_plain_309
  replace h := h.2 c9_54
  by_cases c9_55 : x2.toInt = 55
  · refine lv_lookup (off := 309) (tgt := 310) hx hb dX14_plain_1 (by decide) (by rw [c9_55]; decide) (by decide) ?_
    replace h := h.1 (c9_55)
    refine lv_aload_n hx hb dX14_plain_310 rfl (lv_at hl 0 rfl) ?_
    refine va_get (D := rD g) (ci := 13) (v := .ref (ad 47)) (C := RX14) (T := TX14) (N := 143) hx hb hts in2X14 hown hR.K hR.P 0 (hR.at14 hR.w.1) rfl 94 (by decide) (hts _ kx_625) (fun _ h9 => h9) (congrArg (fun z => some (vf ad z)) (hR.w.2.1 _ fin_94).1) dX14_plain_311 ?_
    refine lv_aload_n hx hb dX14_plain_314 rfl (lv_at hl 0 rfl) ?_
    refine lv_iload_n hx hb dX14_plain_315 rfl (lv_at hl 3 rfl) ?_
    obtain ⟨hv64, h⟩ := h
    have hFc := rfree hR hA
    refine va_calli (va_runV (As := [.int x3]) (rest := [.ref (ad 47)]) ⟨hx, hb, hml, hown, hts⟩ (r_slot l g ad s.heap.size S x3 hR.w  hv64) (cwV 1 hts (gd2_V kx_658 kx_659 kx_660 kx_177 kx_661) rfl rfl rfl (by decide +kernel) ⟨Nat.le_of_ble_eq_true rfl, Nat.le_of_ble_eq_true rfl⟩) ⟨rblind, va_recv hR.K hR.P (ci := 13) (q0 := 0) rfl (hR.at14 hR.w.1), fun U hU hW9 => rmk hU hW9 hR hex hE hFc⟩ rfl rfl hl.1 rfl (lv_room (Nat.le_of_ble_eq_true rfl)) dX14_plain_316 ⟨Nat.le_of_ble_eq_true rfl, Nat.le_of_ble_eq_true rfl⟩) hR.sS (fun q _ h => hFc q h) hFc (fun r65 u9 t9 H1 locs ht9 hvm9 hw9 hB9 hz9 hk9 hS => ?_)
    have hR : Rep g ad A s S H1 locs := hR.call ht9 hB9 hR.w hS hFc
    obtain rfl : r65 = (f_slot S x3) := hw9
    clear hB9 hz9 hk9 hvm9 ht9 hS
    generalize H1 = H at hR ⊢
    refine lv_aload_n hx hb dX14_plain_319 rfl (lv_at hl 0 rfl) ?_
    refine lv_iconst (v := 2) hx hb dX14_plain_320 (by decide) ?_
    obtain ⟨hv67, h⟩ := h
    have hFc := rfree hR hA
    refine va_calli (va_runV (As := [.int 2]) (rest := [.int (f_slot S x3), .ref (ad 47)]) ⟨hx, hb, hml, hown, hts⟩ (r_tagAt l g ad H.size S (2 : Int32) hR.w  hv67) (cwV 1 hts (gd2_V kx_640 kx_641 kx_642 kx_177 kx_643) rfl rfl rfl (by decide +kernel) ⟨Nat.le_of_ble_eq_true rfl, Nat.le_of_ble_eq_true rfl⟩) ⟨rblind, va_recv hR.K hR.P (ci := 13) (q0 := 0) rfl (hR.at14 hR.w.1), fun U hU hW9 => rmk hU hW9 hR hex hE hFc⟩ rfl rfl hl.1 rfl (lv_room (Nat.le_of_ble_eq_true rfl)) dX14_plain_321 ⟨Nat.le_of_ble_eq_true rfl, Nat.le_of_ble_eq_true rfl⟩) hR.sS (fun q _ h => hFc q h) hFc (fun r68 u9 t9 H1 locs ht9 hvm9 hw9 hB9 hz9 hk9 hS => ?_)
    have hR : Rep g ad A s S H1 locs := hR.call ht9 hB9 hR.w hS hFc
    obtain rfl : r68 = (f_tagAt S (2 : Int32)) := hw9
    clear hB9 hz9 hk9 hvm9 ht9 hS
    generalize H1 = H at hR ⊢
    refine lv_i2b (v := ((f_tagAt S (2 : Int32)).toInt8.toInt32)) hx hb dX14_plain_324 rfl ?_
    obtain ⟨hv70, h⟩ := h
    refine va_bast hx hb hR.K hR.P hR.D hR.sS 47 0 (hR.atB (hR.w.2.1 _ fin_94).2.1) rfl (k_ixN (k_ix (n := 1440) (x := (f_slot S x3)) (a := (f_slot S x3).toInt) rfl hv70) (hR.w.2.1 _ fin_94).2.2) dX14_plain_325 (fun H locs hP hD hS => ?_)
    have hR : Rep g ad A s (wI S 47 (((f_slot S x3).toInt).toNat) (vp_nar .byte ((f_tagAt S (2 : Int32)).toInt8.toInt32))) H locs := hR.aB (hR.w.2.1 _ fin_94).2.1 hP hD hS
    obtain ⟨S71, eS71⟩ : ∃ z, z = wI S 47 (((f_slot S x3).toInt).toNat) (vp_nar .byte ((f_tagAt S (2 : Int32)).toInt8.toInt32)) := ⟨_, rfl⟩
    rw [← eS71] at hR
    replace h := h S71 eS71
    have hsh : shy S S71 := by rw [eS71]; exact hsh
    refine lv_aload_n hx hb dX14_plain_326 rfl (lv_at hl 0 rfl) ?_
    refine va_get (D := rD g) (ci := 13) (v := .ref (ad 47)) (C := RX14) (T := TX14) (N := 143) hx hb hts in2X14 hown hR.K hR.P 0 (hR.at14 hR.w.1) rfl 94 (by decide) (hts _ kx_625) (fun _ h9 => h9) (congrArg (fun z => some (vf ad z)) (hR.w.2.1 _ fin_94).1) dX14_plain_327 ?_
    refine lv_aload_n hx hb dX14_plain_330 rfl (lv_at hl 0 rfl) ?_
    refine lv_iload_n hx hb dX14_plain_331 rfl (lv_at hl 3 rfl) ?_
    refine lv_iconst (v := 1) hx hb dX14_plain_332 (by decide) ?_
    refine lv_iadd hx hb dX14_plain_333 ?_
    refine lv_topi (fun z72 ez72 => ?_)
    obtain rfl : z72 = (x3 + (1 : Int32)) := ez72
    obtain ⟨hv73, h⟩ := h
    have hFc := rfree hR hA
    refine va_calli (va_runV (As := [.int (x3 + (1 : Int32))]) (rest := [.ref (ad 47)]) ⟨hx, hb, hml, hown, hts⟩ (r_slot l g ad H.size S71 (x3 + (1 : Int32)) hR.w  hv73) (cwV 1 hts (gd2_V kx_658 kx_659 kx_660 kx_177 kx_661) rfl rfl rfl (by decide +kernel) ⟨Nat.le_of_ble_eq_true rfl, Nat.le_of_ble_eq_true rfl⟩) ⟨rblind, va_recv hR.K hR.P (ci := 13) (q0 := 0) rfl (hR.at14 hR.w.1), fun U hU hW9 => rmk hU hW9 hR hex hE hFc⟩ rfl rfl hl.1 rfl (lv_room (Nat.le_of_ble_eq_true rfl)) dX14_plain_334 ⟨Nat.le_of_ble_eq_true rfl, Nat.le_of_ble_eq_true rfl⟩) hR.sS (fun q _ h => hFc q h) hFc (fun r74 u9 t9 H1 locs ht9 hvm9 hw9 hB9 hz9 hk9 hS => ?_)
    have hR : Rep g ad A s S71 H1 locs := hR.call ht9 hB9 hR.w hS hFc
    obtain rfl : r74 = (f_slot S71 (x3 + (1 : Int32))) := hw9
    clear hB9 hz9 hk9 hvm9 ht9 hS
    generalize H1 = H at hR ⊢
    refine lv_aload_n hx hb dX14_plain_337 rfl (lv_at hl 0 rfl) ?_
    refine lv_iconst (v := 1) hx hb dX14_plain_338 (by decide) ?_
    obtain ⟨hv76, h⟩ := h
    have hFc := rfree hR hA
    refine va_calli (va_runV (As := [.int 1]) (rest := [.int (f_slot S71 (x3 + (1 : Int32))), .ref (ad 47)]) ⟨hx, hb, hml, hown, hts⟩ (r_tagAt l g ad H.size S71 (1 : Int32) hR.w  hv76) (cwV 1 hts (gd2_V kx_640 kx_641 kx_642 kx_177 kx_643) rfl rfl rfl (by decide +kernel) ⟨Nat.le_of_ble_eq_true rfl, Nat.le_of_ble_eq_true rfl⟩) ⟨rblind, va_recv hR.K hR.P (ci := 13) (q0 := 0) rfl (hR.at14 hR.w.1), fun U hU hW9 => rmk hU hW9 hR hex hE hFc⟩ rfl rfl hl.1 rfl (lv_room (Nat.le_of_ble_eq_true rfl)) dX14_plain_339 ⟨Nat.le_of_ble_eq_true rfl, Nat.le_of_ble_eq_true rfl⟩) hR.sS (fun q _ h => hFc q h) hFc (fun r77 u9 t9 H1 locs ht9 hvm9 hw9 hB9 hz9 hk9 hS => ?_)
    have hR : Rep g ad A s S71 H1 locs := hR.call ht9 hB9 hR.w hS hFc
    obtain rfl : r77 = (f_tagAt S71 (1 : Int32)) := hw9
    clear hB9 hz9 hk9 hvm9 ht9 hS
    generalize H1 = H at hR ⊢
    refine lv_i2b (v := ((f_tagAt S71 (1 : Int32)).toInt8.toInt32)) hx hb dX14_plain_342 rfl ?_
    obtain ⟨hv79, h⟩ := h
    refine va_bast hx hb hR.K hR.P hR.D hR.sS 47 0 (hR.atB (hR.w.2.1 _ fin_94).2.1) rfl (k_ixN (k_ix (n := 1440) (x := (f_slot S71 (x3 + (1 : Int32)))) (a := (f_slot S71 (x3 + (1 : Int32))).toInt) rfl hv79) (hR.w.2.1 _ fin_94).2.2) dX14_plain_343 (fun H locs hP hD hS => ?_)
    have hR : Rep g ad A s (wI S71 47 (((f_slot S71 (x3 + (1 : Int32))).toInt).toNat) (vp_nar .byte ((f_tagAt S71 (1 : Int32)).toInt8.toInt32))) H locs := hR.aB (hR.w.2.1 _ fin_94).2.1 hP hD hS
    obtain ⟨S80, eS80⟩ : ∃ z, z = wI S71 47 (((f_slot S71 (x3 + (1 : Int32))).toInt).toNat) (vp_nar .byte ((f_tagAt S71 (1 : Int32)).toInt8.toInt32)) := ⟨_, rfl⟩
    rw [← eS80] at hR
    replace h := h S80 eS80
    have hsh : shy S S80 := by rw [eS80]; exact hsh
    refine lv_aload_n hx hb dX14_plain_344 rfl (lv_at hl 0 rfl) ?_
    refine va_get (D := rD g) (ci := 13) (v := .ref (ad 45)) (C := RX14) (T := TX14) (N := 143) hx hb hts in2X14 hown hR.K hR.P 0 (hR.at14 hR.w.1) rfl 92 (by decide) (hts _ kx_624) (fun _ h9 => h9) (congrArg (fun z => some (vf ad z)) (hR.w.2.1 _ fin_92).1) dX14_plain_345 ?_
    refine lv_aload_n hx hb dX14_plain_348 rfl (lv_at hl 0 rfl) ?_
    refine lv_iload_n hx hb dX14_plain_349 rfl (lv_at hl 3 rfl) ?_
    obtain ⟨hv81, h⟩ := h
    have hFc := rfree hR hA
    refine va_calli (va_runV (As := [.int x3]) (rest := [.ref (ad 45)]) ⟨hx, hb, hml, hown, hts⟩ (r_slot l g ad H.size S80 x3 hR.w  hv81) (cwV 1 hts (gd2_V kx_658 kx_659 kx_660 kx_177 kx_661) rfl rfl rfl (by decide +kernel) ⟨Nat.le_of_ble_eq_true rfl, Nat.le_of_ble_eq_true rfl⟩) ⟨rblind, va_recv hR.K hR.P (ci := 13) (q0 := 0) rfl (hR.at14 hR.w.1), fun U hU hW9 => rmk hU hW9 hR hex hE hFc⟩ rfl rfl hl.1 rfl (lv_room (Nat.le_of_ble_eq_true rfl)) dX14_plain_350 ⟨Nat.le_of_ble_eq_true rfl, Nat.le_of_ble_eq_true rfl⟩) hR.sS (fun q _ h => hFc q h) hFc (fun r82 u9 t9 H1 locs ht9 hvm9 hw9 hB9 hz9 hk9 hS => ?_)
    have hR : Rep g ad A s S80 H1 locs := hR.call ht9 hB9 hR.w hS hFc
    obtain rfl : r82 = (f_slot S80 x3) := hw9
    clear hB9 hz9 hk9 hvm9 ht9 hS
    generalize H1 = H at hR ⊢
    refine lv_aload_n hx hb dX14_plain_353 rfl (lv_at hl 0 rfl) ?_
    refine lv_iconst (v := 2) hx hb dX14_plain_354 (by decide) ?_
    obtain ⟨Q84, h0, h⟩ := h
    have hFc := rfree hR hA
    refine va_calll (va_runV (As := [.int 2]) (rest := [.int (f_slot S80 x3), .ref (ad 45)]) ⟨hx, hb, hml, hown, hts⟩ (r_got l g ad H.size S80 (2 : Int32) hR.w  Q84 h0) (cwV 1 hts (gd2_V kx_635 kx_636 kx_637 kx_177 kx_638) rfl rfl rfl (by decide +kernel) ⟨Nat.le_of_ble_eq_true rfl, Nat.le_of_ble_eq_true rfl⟩) ⟨rblind, va_recv hR.K hR.P (ci := 13) (q0 := 0) rfl (hR.at14 hR.w.1), fun U hU hW9 => rmk hU hW9 hR hex hE hFc⟩ rfl rfl hl.1 rfl (lv_room (Nat.le_of_ble_eq_true rfl)) dX14_plain_355 ⟨Nat.le_of_ble_eq_true rfl, Nat.le_of_ble_eq_true rfl⟩) hR.sS (fun q _ h => hFc q h) hFc (fun r85 S86 t9 H1 locs ht9 hvm9 hw9 hB9 hz9 hk9 hS => ?_)
    obtain ⟨hq87, hw9, hs9⟩ := hw9
    have hR : Rep g ad A s S86 H1 locs := hR.call ht9 hB9 hw9 hS hFc
    have hsh := hsh.tr hs9
    replace h := h r85 S86 hq87
    clear hB9 hz9 hk9 hvm9 ht9 hw9 hs9 hS
    generalize H1 = H at hR ⊢
    obtain ⟨hv88, h⟩ := h
    refine va_last hx hb hR.K hR.P hR.D hR.sS 45 3 (hR.atL (hR.w.2.1 _ fin_92).2.1) rfl (k_ixN (k_ix (n := 1440) (x := (f_slot S80 x3)) (a := (f_slot S80 x3).toInt) rfl hv88) (hR.w.2.1 _ fin_92).2.2) dX14_plain_358 (fun H locs hP hD hS => ?_)
    have hR : Rep g ad A s (wJ S86 45 (((f_slot S80 x3).toInt).toNat) r85) H locs := hR.aL (hR.w.2.1 _ fin_92).2.1 hP hD hS
    obtain ⟨S89, eS89⟩ : ∃ z, z = wJ S86 45 (((f_slot S80 x3).toInt).toNat) r85 := ⟨_, rfl⟩
    rw [← eS89] at hR
    replace h := h S89 eS89
    have hsh : shy S S89 := by rw [eS89]; exact hsh
    refine lv_iconst (v := 1) hx hb dX14_plain_359 (by decide) ?_
    exact W.zret (v := 1) hx hb hr (nz (Or.inr rfl)) (fun t9 ht9 hW9 => ⟨⟨_, S89, rfl, ⟨h, hR.w, hsh, (Or.inr rfl)⟩, ⟨by rw [ht9]; exact hR.P, hR.D⟩⟩, hR.sS.F ht9⟩) hR.sS.2.2 dX14_plain_360
  replace h := h.2 c9_55
  by_cases c9_58 : x2.toInt = 58
  · refine lv_lookup (off := 276) (tgt := 277) hx hb dX14_plain_1 (by decide) (by rw [c9_58]; decide) (by decide) ?_
    replace h := h.1 (c9_58)
    refine lv_aload_n hx hb dX14_plain_277 rfl (lv_at hl 0 rfl) ?_
    refine va_get (D := rD g) (ci := 13) (v := .ref (ad 47)) (C := RX14) (T := TX14) (N := 143) hx hb hts in2X14 hown hR.K hR.P 0 (hR.at14 hR.w.1) rfl 94 (by decide) (hts _ kx_625) (fun _ h9 => h9) (congrArg (fun z => some (vf ad z)) (hR.w.2.1 _ fin_94).1) dX14_plain_278 ?_
    refine lv_aload_n hx hb dX14_plain_281 rfl (lv_at hl 0 rfl) ?_
    refine lv_iload_n hx hb dX14_plain_282 rfl (lv_at hl 3 rfl) ?_
    obtain ⟨hv90, h⟩ := h
    have hFc := rfree hR hA
    refine va_calli (va_runV (As := [.int x3]) (rest := [.ref (ad 47)]) ⟨hx, hb, hml, hown, hts⟩ (r_slot l g ad s.heap.size S x3 hR.w  hv90) (cwV 1 hts (gd2_V kx_658 kx_659 kx_660 kx_177 kx_661) rfl rfl rfl (by decide +kernel) ⟨Nat.le_of_ble_eq_true rfl, Nat.le_of_ble_eq_true rfl⟩) ⟨rblind, va_recv hR.K hR.P (ci := 13) (q0 := 0) rfl (hR.at14 hR.w.1), fun U hU hW9 => rmk hU hW9 hR hex hE hFc⟩ rfl rfl hl.1 rfl (lv_room (Nat.le_of_ble_eq_true rfl)) dX14_plain_283 ⟨Nat.le_of_ble_eq_true rfl, Nat.le_of_ble_eq_true rfl⟩) hR.sS (fun q _ h => hFc q h) hFc (fun r91 u9 t9 H1 locs ht9 hvm9 hw9 hB9 hz9 hk9 hS => ?_)
    have hR : Rep g ad A s S H1 locs := hR.call ht9 hB9 hR.w hS hFc
    obtain rfl : r91 = (f_slot S x3) := hw9
    clear hB9 hz9 hk9 hvm9 ht9 hS
    generalize H1 = H at hR ⊢
    refine lv_aload_n hx hb dX14_plain_286 rfl (lv_at hl 0 rfl) ?_
    refine lv_iconst (v := 1) hx hb dX14_plain_287 (by decide) ?_
    obtain ⟨hv93, h⟩ := h
    have hFc := rfree hR hA
    refine va_calli (va_runV (As := [.int 1]) (rest := [.int (f_slot S x3), .ref (ad 47)]) ⟨hx, hb, hml, hown, hts⟩ (r_tagAt l g ad H.size S (1 : Int32) hR.w  hv93) (cwV 1 hts (gd2_V kx_640 kx_641 kx_642 kx_177 kx_643) rfl rfl rfl (by decide +kernel) ⟨Nat.le_of_ble_eq_true rfl, Nat.le_of_ble_eq_true rfl⟩) ⟨rblind, va_recv hR.K hR.P (ci := 13) (q0 := 0) rfl (hR.at14 hR.w.1), fun U hU hW9 => rmk hU hW9 hR hex hE hFc⟩ rfl rfl hl.1 rfl (lv_room (Nat.le_of_ble_eq_true rfl)) dX14_plain_288 ⟨Nat.le_of_ble_eq_true rfl, Nat.le_of_ble_eq_true rfl⟩) hR.sS (fun q _ h => hFc q h) hFc (fun r94 u9 t9 H1 locs ht9 hvm9 hw9 hB9 hz9 hk9 hS => ?_)
    have hR : Rep g ad A s S H1 locs := hR.call ht9 hB9 hR.w hS hFc
    obtain rfl : r94 = (f_tagAt S (1 : Int32)) := hw9
    clear hB9 hz9 hk9 hvm9 ht9 hS
    generalize H1 = H at hR ⊢
    refine lv_i2b (v := ((f_tagAt S (1 : Int32)).toInt8.toInt32)) hx hb dX14_plain_291 rfl ?_
    obtain ⟨hv96, h⟩ := h
    refine va_bast hx hb hR.K hR.P hR.D hR.sS 47 0 (hR.atB (hR.w.2.1 _ fin_94).2.1) rfl (k_ixN (k_ix (n := 1440) (x := (f_slot S x3)) (a := (f_slot S x3).toInt) rfl hv96) (hR.w.2.1 _ fin_94).2.2) dX14_plain_292 (fun H locs hP hD hS => ?_)
    have hR : Rep g ad A s (wI S 47 (((f_slot S x3).toInt).toNat) (vp_nar .byte ((f_tagAt S (1 : Int32)).toInt8.toInt32))) H locs := hR.aB (hR.w.2.1 _ fin_94).2.1 hP hD hS
    obtain ⟨S97, eS97⟩ : ∃ z, z = wI S 47 (((f_slot S x3).toInt).toNat) (vp_nar .byte ((f_tagAt S (1 : Int32)).toInt8.toInt32)) := ⟨_, rfl⟩
    rw [← eS97] at hR
    replace h := h S97 eS97
    have hsh : shy S S97 := by rw [eS97]; exact hsh
    refine lv_aload_n hx hb dX14_plain_293 rfl (lv_at hl 0 rfl) ?_
    refine va_get (D := rD g) (ci := 13) (v := .ref (ad 45)) (C := RX14) (T := TX14) (N := 143) hx hb hts in2X14 hown hR.K hR.P 0 (hR.at14 hR.w.1) rfl 92 (by decide) (hts _ kx_624) (fun _ h9 => h9) (congrArg (fun z => some (vf ad z)) (hR.w.2.1 _ fin_92).1) dX14_plain_294 ?_
    refine lv_aload_n hx hb dX14_plain_297 rfl (lv_at hl 0 rfl) ?_
    refine lv_iload_n hx hb dX14_plain_298 rfl (lv_at hl 3 rfl) ?_
    obtain ⟨hv98, h⟩ := h
    have hFc := rfree hR hA
    refine va_calli (va_runV (As := [.int x3]) (rest := [.ref (ad 45)]) ⟨hx, hb, hml, hown, hts⟩ (r_slot l g ad H.size S97 x3 hR.w  hv98) (cwV 1 hts (gd2_V kx_658 kx_659 kx_660 kx_177 kx_661) rfl rfl rfl (by decide +kernel) ⟨Nat.le_of_ble_eq_true rfl, Nat.le_of_ble_eq_true rfl⟩) ⟨rblind, va_recv hR.K hR.P (ci := 13) (q0 := 0) rfl (hR.at14 hR.w.1), fun U hU hW9 => rmk hU hW9 hR hex hE hFc⟩ rfl rfl hl.1 rfl (lv_room (Nat.le_of_ble_eq_true rfl)) dX14_plain_299 ⟨Nat.le_of_ble_eq_true rfl, Nat.le_of_ble_eq_true rfl⟩) hR.sS (fun q _ h => hFc q h) hFc (fun r99 u9 t9 H1 locs ht9 hvm9 hw9 hB9 hz9 hk9 hS => ?_)
    have hR : Rep g ad A s S97 H1 locs := hR.call ht9 hB9 hR.w hS hFc
    obtain rfl : r99 = (f_slot S97 x3) := hw9
    clear hB9 hz9 hk9 hvm9 ht9 hS
    generalize H1 = H at hR ⊢
    refine lv_aload_n hx hb dX14_plain_302 rfl (lv_at hl 0 rfl) ?_
    refine lv_iconst (v := 1) hx hb dX14_plain_303 (by decide) ?_
    obtain ⟨Q101, h0, h⟩ := h
    have hFc := rfree hR hA
    refine va_calll (va_runV (As := [.int 1]) (rest := [.int (f_slot S97 x3), .ref (ad 45)]) ⟨hx, hb, hml, hown, hts⟩ (r_got l g ad H.size S97 (1 : Int32) hR.w  Q101 h0) (cwV 1 hts (gd2_V kx_635 kx_636 kx_637 kx_177 kx_638) rfl rfl rfl (by decide +kernel) ⟨Nat.le_of_ble_eq_true rfl, Nat.le_of_ble_eq_true rfl⟩) ⟨rblind, va_recv hR.K hR.P (ci := 13) (q0 := 0) rfl (hR.at14 hR.w.1), fun U hU hW9 => rmk hU hW9 hR hex hE hFc⟩ rfl rfl hl.1 rfl (lv_room (Nat.le_of_ble_eq_true rfl)) dX14_plain_304 ⟨Nat.le_of_ble_eq_true rfl, Nat.le_of_ble_eq_true rfl⟩) hR.sS (fun q _ h => hFc q h) hFc (fun r102 S103 t9 H1 locs ht9 hvm9 hw9 hB9 hz9 hk9 hS => ?_)
    obtain ⟨hq104, hw9, hs9⟩ := hw9
    have hR : Rep g ad A s S103 H1 locs := hR.call ht9 hB9 hw9 hS hFc
    have hsh := hsh.tr hs9
    replace h := h r102 S103 hq104
    clear hB9 hz9 hk9 hvm9 ht9 hw9 hs9 hS
    generalize H1 = H at hR ⊢
    obtain ⟨hv105, h⟩ := h
    refine va_last hx hb hR.K hR.P hR.D hR.sS 45 3 (hR.atL (hR.w.2.1 _ fin_92).2.1) rfl (k_ixN (k_ix (n := 1440) (x := (f_slot S97 x3)) (a := (f_slot S97 x3).toInt) rfl hv105) (hR.w.2.1 _ fin_92).2.2) dX14_plain_307 (fun H locs hP hD hS => ?_)
    have hR : Rep g ad A s (wJ S103 45 (((f_slot S97 x3).toInt).toNat) r102) H locs := hR.aL (hR.w.2.1 _ fin_92).2.1 hP hD hS
    obtain ⟨S106, eS106⟩ : ∃ z, z = wJ S103 45 (((f_slot S97 x3).toInt).toNat) r102 := ⟨_, rfl⟩
    rw [← eS106] at hR
    replace h := h S106 eS106
    have hsh : shy S S106 := by rw [eS106]; exact hsh
    refine lv_iconst (v := 1) hx hb dX14_plain_308 (by decide) ?_
    exact W.zret (v := 1) hx hb hr (nz (Or.inr rfl)) (fun t9 ht9 hW9 => ⟨⟨_, S106, rfl, ⟨h, hR.w, hsh, (Or.inr rfl)⟩, ⟨by rw [ht9]; exact hR.P, hR.D⟩⟩, hR.sS.F ht9⟩) hR.sS.2.2 dX14_plain_309
  replace h := h.2 c9_58
  by_cases c9_87 : x2.toInt = 87
  · refine lv_lookup (off := 390) (tgt := 391) hx hb dX14_plain_1 (by decide) (by rw [c9_87]; decide) (by decide) ?_
    replace h := h.1 (c9_87)
    refine lv_aload_n hx hb dX14_plain_391 rfl (lv_at hl 0 rfl) ?_
    refine va_get (D := rD g) (ci := 13) (v := .ref (ad 44)) (C := RX14) (T := TX14) (N := 143) hx hb hts in2X14 hown hR.K hR.P 0 (hR.at14 hR.w.1) rfl 91 (by decide) (hts _ kx_623) (fun _ h9 => h9) (congrArg (fun z => some (vf ad z)) (hR.w.2.1 _ fin_91).1) dX14_plain_392 ?_
    refine lv_aload_n hx hb dX14_plain_395 rfl (lv_at hl 0 rfl) ?_
    refine va_get (D := rD g) (ci := 13) (v := .int (qI S 0 97)) (C := RX14) (T := TX14) (N := 143) hx hb hts in2X14 hown hR.K hR.P 0 (hR.at14 hR.w.1) rfl 97 (by decide) (hts _ kx_616) (fun _ h9 => h9) rfl dX14_plain_396 ?_
    refine lv_iconst (v := 1) hx hb dX14_plain_399 (by decide) ?_
    refine lv_isub hx hb dX14_plain_400 ?_
    refine lv_topi (fun z107 ez107 => ?_)
    obtain rfl : z107 = ((qI S 0 97) - (1 : Int32)) := ez107
    refine lv_dup2_11 hx hb dX14_plain_401 rfl rfl ?_
    obtain ⟨hv108, h⟩ := h
    refine va_iald hx hb hR.K hR.P 44 1 (hR.atI (hR.w.2.1 _ fin_91).2.1) rfl (k_ixN (k_ix (n := 60) (x := ((qI S 0 97) - (1 : Int32))) (a := ((qI S 0 97) - (1 : Int32)).toInt) rfl hv108) (hR.w.2.1 _ fin_91).2.2) dX14_plain_402 ?_
    refine lv_topi (fun z109 ez109 => ?_)
    obtain rfl : z109 = (qI S 44 ((((qI S 0 97) - (1 : Int32)).toInt).toNat)) := ez109
    refine lv_iconst (v := 1) hx hb dX14_plain_403 (by decide) ?_
    refine lv_isub hx hb dX14_plain_404 ?_
    refine lv_topi (fun z110 ez110 => ?_)
    obtain rfl : z110 = ((qI S 44 ((((qI S 0 97) - (1 : Int32)).toInt).toNat)) - (1 : Int32)) := ez110
    obtain ⟨hv111, h⟩ := h
    refine va_iast hx hb hR.K hR.P hR.D hR.sS 44 1 (hR.atI (hR.w.2.1 _ fin_91).2.1) rfl (k_ixN (k_ix (n := 60) (x := ((qI S 0 97) - (1 : Int32))) (a := ((qI S 0 97) - (1 : Int32)).toInt) rfl hv111) (hR.w.2.1 _ fin_91).2.2) dX14_plain_405 (fun H locs hP hD hS => ?_)
    have hR : Rep g ad A s (wI S 44 ((((qI S 0 97) - (1 : Int32)).toInt).toNat) ((qI S 44 ((((qI S 0 97) - (1 : Int32)).toInt).toNat)) - (1 : Int32))) H locs := hR.aI (hR.w.2.1 _ fin_91).2.1 hP hD hS
    obtain ⟨S112, eS112⟩ : ∃ z, z = wI S 44 ((((qI S 0 97) - (1 : Int32)).toInt).toNat) ((qI S 44 ((((qI S 0 97) - (1 : Int32)).toInt).toNat)) - (1 : Int32)) := ⟨_, rfl⟩
    rw [← eS112] at hR
    replace h := h S112 eS112
    have hsh : shy S S112 := by rw [eS112]; exact hsh
    refine lv_iconst (v := 1) hx hb dX14_plain_406 (by decide) ?_
    exact W.zret (v := 1) hx hb hr (nz (Or.inr rfl)) (fun t9 ht9 hW9 => ⟨⟨_, S112, rfl, ⟨h, hR.w, hsh, (Or.inr rfl)⟩, ⟨by rw [ht9]; exact hR.P, hR.D⟩⟩, hR.sS.F ht9⟩) hR.sS.2.2 dX14_plain_407
  replace h := h.2 c9_87
  by_cases c9_88 : x2.toInt = 88
  · refine lv_lookup (off := 407) (tgt := 408) hx hb dX14_plain_1 (by decide) (by rw [c9_88]; decide) (by decide) ?_
    replace h := h.1 (c9_88)
    refine lv_aload_n hx hb dX14_plain_408 rfl (lv_at hl 0 rfl) ?_
    refine va_get (D := rD g) (ci := 13) (v := .ref (ad 44)) (C := RX14) (T := TX14) (N := 143) hx hb hts in2X14 hown hR.K hR.P 0 (hR.at14 hR.w.1) rfl 91 (by decide) (hts _ kx_623) (fun _ h9 => h9) (congrArg (fun z => some (vf ad z)) (hR.w.2.1 _ fin_91).1) dX14_plain_409 ?_
    refine lv_aload_n hx hb dX14_plain_412 rfl (lv_at hl 0 rfl) ?_
    refine va_get (D := rD g) (ci := 13) (v := .int (qI S 0 97)) (C := RX14) (T := TX14) (N := 143) hx hb hts in2X14 hown hR.K hR.P 0 (hR.at14 hR.w.1) rfl 97 (by decide) (hts _ kx_616) (fun _ h9 => h9) rfl dX14_plain_413 ?_
    refine lv_iconst (v := 1) hx hb dX14_plain_416 (by decide) ?_
    refine lv_isub hx hb dX14_plain_417 ?_
    refine lv_topi (fun z113 ez113 => ?_)
    obtain rfl : z113 = ((qI S 0 97) - (1 : Int32)) := ez113
    refine lv_dup2_11 hx hb dX14_plain_418 rfl rfl ?_
    obtain ⟨hv114, h⟩ := h
    refine va_iald hx hb hR.K hR.P 44 1 (hR.atI (hR.w.2.1 _ fin_91).2.1) rfl (k_ixN (k_ix (n := 60) (x := ((qI S 0 97) - (1 : Int32))) (a := ((qI S 0 97) - (1 : Int32)).toInt) rfl hv114) (hR.w.2.1 _ fin_91).2.2) dX14_plain_419 ?_
    refine lv_topi (fun z115 ez115 => ?_)
    obtain rfl : z115 = (qI S 44 ((((qI S 0 97) - (1 : Int32)).toInt).toNat)) := ez115
    refine lv_iconst (v := 2) hx hb dX14_plain_420 (by decide) ?_
    refine lv_isub hx hb dX14_plain_421 ?_
    refine lv_topi (fun z116 ez116 => ?_)
    obtain rfl : z116 = ((qI S 44 ((((qI S 0 97) - (1 : Int32)).toInt).toNat)) - (2 : Int32)) := ez116
    obtain ⟨hv117, h⟩ := h
    refine va_iast hx hb hR.K hR.P hR.D hR.sS 44 1 (hR.atI (hR.w.2.1 _ fin_91).2.1) rfl (k_ixN (k_ix (n := 60) (x := ((qI S 0 97) - (1 : Int32))) (a := ((qI S 0 97) - (1 : Int32)).toInt) rfl hv117) (hR.w.2.1 _ fin_91).2.2) dX14_plain_422 (fun H locs hP hD hS => ?_)
    have hR : Rep g ad A s (wI S 44 ((((qI S 0 97) - (1 : Int32)).toInt).toNat) ((qI S 44 ((((qI S 0 97) - (1 : Int32)).toInt).toNat)) - (2 : Int32))) H locs := hR.aI (hR.w.2.1 _ fin_91).2.1 hP hD hS
    obtain ⟨S118, eS118⟩ : ∃ z, z = wI S 44 ((((qI S 0 97) - (1 : Int32)).toInt).toNat) ((qI S 44 ((((qI S 0 97) - (1 : Int32)).toInt).toNat)) - (2 : Int32)) := ⟨_, rfl⟩
    rw [← eS118] at hR
    replace h := h S118 eS118
    have hsh : shy S S118 := by rw [eS118]; exact hsh
    refine lv_iconst (v := 1) hx hb dX14_plain_423 (by decide) ?_
    exact W.zret (v := 1) hx hb hr (nz (Or.inr rfl)) (fun t9 ht9 hW9 => ⟨⟨_, S118, rfl, ⟨h, hR.w, hsh, (Or.inr rfl)⟩, ⟨by rw [ht9]; exact hR.P, hR.D⟩⟩, hR.sS.F ht9⟩) hR.sS.2.2 dX14_plain_424
  replace h := h.2 c9_88
  by_cases c9_89 : x2.toInt = 89
  · refine lv_lookup (off := 424) (tgt := 425) hx hb dX14_plain_1 (by decide) (by rw [c9_89]; decide) (by decide) ?_
    replace h := h.1 (c9_89)
    refine lv_aload_n hx hb dX14_plain_425 rfl (lv_at hl 0 rfl) ?_
    refine lv_iload_n hx hb dX14_plain_426 rfl (lv_at hl 2 rfl) ?_
    obtain ⟨Q119, h0, h⟩ := h
    have hFc := rfree hR hA
    refine va_callv (va_runV (As := [.int x2]) (rest := []) ⟨hx, hb, hml, hown, hts⟩ (r_shuffle l g ad s.heap.size S x2 hR.w  Q119 h0) (cwV 1 hts (gd2_V kx_966 kx_967 kx_968 kx_177 kx_969) rfl rfl rfl (by decide +kernel) ⟨Nat.le_of_ble_eq_true rfl, Nat.le_of_ble_eq_true rfl⟩) ⟨rblind, va_recv hR.K hR.P (ci := 13) (q0 := 0) rfl (hR.at14 hR.w.1), fun U hU hW9 => rmk hU hW9 hR hex hE hFc⟩ rfl rfl hl.1 rfl (lv_room (Nat.le_of_ble_eq_true rfl)) dX14_plain_427 ⟨Nat.le_of_ble_eq_true rfl, Nat.le_of_ble_eq_true rfl⟩) hR.sS (fun q _ h => hFc q h) hFc (fun  S120 t9 H1 locs ht9 hvm9 hw9 hB9 hz9 hk9 hS => ?_)
    obtain ⟨hq121, hw9, hs9⟩ := hw9
    have hR : Rep g ad A s S120 H1 locs := hR.call ht9 hB9 hw9 hS hFc
    have hsh := hsh.tr hs9
    replace h := h  S120 hq121
    clear hB9 hz9 hk9 hvm9 ht9 hw9 hs9 hS
    generalize H1 = H at hR ⊢
    refine lv_iconst (v := 1) hx hb dX14_plain_430 (by decide) ?_
    exact W.zret (v := 1) hx hb hr (nz (Or.inr rfl)) (fun t9 ht9 hW9 => ⟨⟨_, S120, rfl, ⟨h, hR.w, hsh, (Or.inr rfl)⟩, ⟨by rw [ht9]; exact hR.P, hR.D⟩⟩, hR.sS.F ht9⟩) hR.sS.2.2 dX14_plain_431
  replace h := h.2 c9_89
  by_cases c9_90 : x2.toInt = 90
  · refine lv_lookup (off := 424) (tgt := 425) hx hb dX14_plain_1 (by decide) (by rw [c9_90]; decide) (by decide) ?_
    replace h := h.1 (c9_90)
    refine lv_aload_n hx hb dX14_plain_425 rfl (lv_at hl 0 rfl) ?_
    refine lv_iload_n hx hb dX14_plain_426 rfl (lv_at hl 2 rfl) ?_
    obtain ⟨Q122, h0, h⟩ := h
    have hFc := rfree hR hA
    refine va_callv (va_runV (As := [.int x2]) (rest := []) ⟨hx, hb, hml, hown, hts⟩ (r_shuffle l g ad s.heap.size S x2 hR.w  Q122 h0) (cwV 1 hts (gd2_V kx_966 kx_967 kx_968 kx_177 kx_969) rfl rfl rfl (by decide +kernel) ⟨Nat.le_of_ble_eq_true rfl, Nat.le_of_ble_eq_true rfl⟩) ⟨rblind, va_recv hR.K hR.P (ci := 13) (q0 := 0) rfl (hR.at14 hR.w.1), fun U hU hW9 => rmk hU hW9 hR hex hE hFc⟩ rfl rfl hl.1 rfl (lv_room (Nat.le_of_ble_eq_true rfl)) dX14_plain_427 ⟨Nat.le_of_ble_eq_true rfl, Nat.le_of_ble_eq_true rfl⟩) hR.sS (fun q _ h => hFc q h) hFc (fun  S123 t9 H1 locs ht9 hvm9 hw9 hB9 hz9 hk9 hS => ?_)
    obtain ⟨hq124, hw9, hs9⟩ := hw9
    have hR : Rep g ad A s S123 H1 locs := hR.call ht9 hB9 hw9 hS hFc
    have hsh := hsh.tr hs9
    replace h := h  S123 hq124
    clear hB9 hz9 hk9 hvm9 ht9 hw9 hs9 hS
    generalize H1 = H at hR ⊢
    refine lv_iconst (v := 1) hx hb dX14_plain_430 (by decide) ?_
    exact W.zret (v := 1) hx hb hr (nz (Or.inr rfl)) (fun t9 ht9 hW9 => ⟨⟨_, S123, rfl, ⟨h, hR.w, hsh, (Or.inr rfl)⟩, ⟨by rw [ht9]; exact hR.P, hR.D⟩⟩, hR.sS.F ht9⟩) hR.sS.2.2 dX14_plain_431
  replace h := h.2 c9_90
  by_cases c9_92 : x2.toInt = 92
  · refine lv_lookup (off := 424) (tgt := 425) hx hb dX14_plain_1 (by decide) (by rw [c9_92]; decide) (by decide) ?_
    replace h := h.1 (c9_92)
    refine lv_aload_n hx hb dX14_plain_425 rfl (lv_at hl 0 rfl) ?_
    refine lv_iload_n hx hb dX14_plain_426 rfl (lv_at hl 2 rfl) ?_
    obtain ⟨Q125, h0, h⟩ := h
    have hFc := rfree hR hA
    refine va_callv (va_runV (As := [.int x2]) (rest := []) ⟨hx, hb, hml, hown, hts⟩ (r_shuffle l g ad s.heap.size S x2 hR.w  Q125 h0) (cwV 1 hts (gd2_V kx_966 kx_967 kx_968 kx_177 kx_969) rfl rfl rfl (by decide +kernel) ⟨Nat.le_of_ble_eq_true rfl, Nat.le_of_ble_eq_true rfl⟩) ⟨rblind, va_recv hR.K hR.P (ci := 13) (q0 := 0) rfl (hR.at14 hR.w.1), fun U hU hW9 => rmk hU hW9 hR hex hE hFc⟩ rfl rfl hl.1 rfl (lv_room (Nat.le_of_ble_eq_true rfl)) dX14_plain_427 ⟨Nat.le_of_ble_eq_true rfl, Nat.le_of_ble_eq_true rfl⟩) hR.sS (fun q _ h => hFc q h) hFc (fun  S126 t9 H1 locs ht9 hvm9 hw9 hB9 hz9 hk9 hS => ?_)
    obtain ⟨hq127, hw9, hs9⟩ := hw9
    have hR : Rep g ad A s S126 H1 locs := hR.call ht9 hB9 hw9 hS hFc
    have hsh := hsh.tr hs9
    replace h := h  S126 hq127
    clear hB9 hz9 hk9 hvm9 ht9 hw9 hs9 hS
    generalize H1 = H at hR ⊢
    refine lv_iconst (v := 1) hx hb dX14_plain_430 (by decide) ?_
    exact W.zret (v := 1) hx hb hr (nz (Or.inr rfl)) (fun t9 ht9 hW9 => ⟨⟨_, S126, rfl, ⟨h, hR.w, hsh, (Or.inr rfl)⟩, ⟨by rw [ht9]; exact hR.P, hR.D⟩⟩, hR.sS.F ht9⟩) hR.sS.2.2 dX14_plain_431
  replace h := h.2 c9_92
  by_cases c9_95 : x2.toInt = 95
  · refine lv_lookup (off := 424) (tgt := 425) hx hb dX14_plain_1 (by decide) (by rw [c9_95]; decide) (by decide) ?_
    replace h := h.1 (c9_95)
    refine lv_aload_n hx hb dX14_plain_425 rfl (lv_at hl 0 rfl) ?_
    refine lv_iload_n hx hb dX14_plain_426 rfl (lv_at hl 2 rfl) ?_
    obtain ⟨Q128, h0, h⟩ := h
    have hFc := rfree hR hA
    refine va_callv (va_runV (As := [.int x2]) (rest := []) ⟨hx, hb, hml, hown, hts⟩ (r_shuffle l g ad s.heap.size S x2 hR.w  Q128 h0) (cwV 1 hts (gd2_V kx_966 kx_967 kx_968 kx_177 kx_969) rfl rfl rfl (by decide +kernel) ⟨Nat.le_of_ble_eq_true rfl, Nat.le_of_ble_eq_true rfl⟩) ⟨rblind, va_recv hR.K hR.P (ci := 13) (q0 := 0) rfl (hR.at14 hR.w.1), fun U hU hW9 => rmk hU hW9 hR hex hE hFc⟩ rfl rfl hl.1 rfl (lv_room (Nat.le_of_ble_eq_true rfl)) dX14_plain_427 ⟨Nat.le_of_ble_eq_true rfl, Nat.le_of_ble_eq_true rfl⟩) hR.sS (fun q _ h => hFc q h) hFc (fun  S129 t9 H1 locs ht9 hvm9 hw9 hB9 hz9 hk9 hS => ?_)
    obtain ⟨hq130, hw9, hs9⟩ := hw9
    have hR : Rep g ad A s S129 H1 locs := hR.call ht9 hB9 hw9 hS hFc
    have hsh := hsh.tr hs9
    replace h := h  S129 hq130
    clear hB9 hz9 hk9 hvm9 ht9 hw9 hs9 hS
    generalize H1 = H at hR ⊢
    refine lv_iconst (v := 1) hx hb dX14_plain_430 (by decide) ?_
    exact W.zret (v := 1) hx hb hr (nz (Or.inr rfl)) (fun t9 ht9 hW9 => ⟨⟨_, S129, rfl, ⟨h, hR.w, hsh, (Or.inr rfl)⟩, ⟨by rw [ht9]; exact hR.P, hR.D⟩⟩, hR.sS.F ht9⟩) hR.sS.2.2 dX14_plain_431
  replace h := h.2 c9_95
  by_cases c9_132 : x2.toInt = 132
  · refine lv_lookup (off := 360) (tgt := 361) hx hb dX14_plain_1 (by decide) (by rw [c9_132]; decide) (by decide) ?_
    replace h := h.1 (c9_132)
    refine lv_aload_n hx hb dX14_plain_361 rfl (lv_at hl 0 rfl) ?_
    refine va_get (D := rD g) (ci := 13) (v := .ref (ad 45)) (C := RX14) (T := TX14) (N := 143) hx hb hts in2X14 hown hR.K hR.P 0 (hR.at14 hR.w.1) rfl 92 (by decide) (hts _ kx_624) (fun _ h9 => h9) (congrArg (fun z => some (vf ad z)) (hR.w.2.1 _ fin_92).1) dX14_plain_362 ?_
    refine lv_aload_n hx hb dX14_plain_365 rfl (lv_at hl 0 rfl) ?_
    refine lv_iload_n hx hb dX14_plain_366 rfl (lv_at hl 3 rfl) ?_
    obtain ⟨hv131, h⟩ := h
    have hFc := rfree hR hA
    refine va_calli (va_runV (As := [.int x3]) (rest := [.ref (ad 45)]) ⟨hx, hb, hml, hown, hts⟩ (r_slot l g ad s.heap.size S x3 hR.w  hv131) (cwV 1 hts (gd2_V kx_658 kx_659 kx_660 kx_177 kx_661) rfl rfl rfl (by decide +kernel) ⟨Nat.le_of_ble_eq_true rfl, Nat.le_of_ble_eq_true rfl⟩) ⟨rblind, va_recv hR.K hR.P (ci := 13) (q0 := 0) rfl (hR.at14 hR.w.1), fun U hU hW9 => rmk hU hW9 hR hex hE hFc⟩ rfl rfl hl.1 rfl (lv_room (Nat.le_of_ble_eq_true rfl)) dX14_plain_367 ⟨Nat.le_of_ble_eq_true rfl, Nat.le_of_ble_eq_true rfl⟩) hR.sS (fun q _ h => hFc q h) hFc (fun r132 u9 t9 H1 locs ht9 hvm9 hw9 hB9 hz9 hk9 hS => ?_)
    have hR : Rep g ad A s S H1 locs := hR.call ht9 hB9 hR.w hS hFc
    obtain rfl : r132 = (f_slot S x3) := hw9
    clear hB9 hz9 hk9 hvm9 ht9 hS
    generalize H1 = H at hR ⊢
    refine lv_aload_n hx hb dX14_plain_370 rfl (lv_at hl 0 rfl) ?_
    refine va_get (D := rD g) (ci := 13) (v := .ref (ad 45)) (C := RX14) (T := TX14) (N := 143) hx hb hts in2X14 hown hR.K hR.P 0 (hR.at14 hR.w.1) rfl 92 (by decide) (hts _ kx_624) (fun _ h9 => h9) (congrArg (fun z => some (vf ad z)) (hR.w.2.1 _ fin_92).1) dX14_plain_371 ?_
    refine lv_aload_n hx hb dX14_plain_374 rfl (lv_at hl 0 rfl) ?_
    refine lv_iload_n hx hb dX14_plain_375 rfl (lv_at hl 3 rfl) ?_
    obtain ⟨hv134, h⟩ := h
    have hFc := rfree hR hA
    refine va_calli (va_runV (As := [.int x3]) (rest := [.ref (ad 45), .int (f_slot S x3), .ref (ad 45)]) ⟨hx, hb, hml, hown, hts⟩ (r_slot l g ad H.size S x3 hR.w  hv134) (cwV 1 hts (gd2_V kx_658 kx_659 kx_660 kx_177 kx_661) rfl rfl rfl (by decide +kernel) ⟨Nat.le_of_ble_eq_true rfl, Nat.le_of_ble_eq_true rfl⟩) ⟨rblind, va_recv hR.K hR.P (ci := 13) (q0 := 0) rfl (hR.at14 hR.w.1), fun U hU hW9 => rmk hU hW9 hR hex hE hFc⟩ rfl rfl hl.1 rfl (lv_room (Nat.le_of_ble_eq_true rfl)) dX14_plain_376 ⟨Nat.le_of_ble_eq_true rfl, Nat.le_of_ble_eq_true rfl⟩) hR.sS (fun q _ h => hFc q h) hFc (fun r135 u9 t9 H1 locs ht9 hvm9 hw9 hB9 hz9 hk9 hS => ?_)
    have hR : Rep g ad A s S H1 locs := hR.call ht9 hB9 hR.w hS hFc
    obtain rfl : r135 = (f_slot S x3) := hw9
    clear hB9 hz9 hk9 hvm9 ht9 hS
    generalize H1 = H at hR ⊢
    obtain ⟨hv137, h⟩ := h
    refine va_lald hx hb hR.K hR.P 45 3 (hR.atL (hR.w.2.1 _ fin_92).2.1) rfl (k_ixN (k_ix (n := 1440) (x := (f_slot S x3)) (a := (f_slot S x3).toInt) rfl hv137) (hR.w.2.1 _ fin_92).2.2) dX14_plain_379 ?_
    refine lv_topl (fun z138 ez138 => ?_)
    obtain rfl : z138 = (qJ S 45 (((f_slot S x3).toInt).toNat)) := ez138
    refine lv_l2i (v := ((qJ S 45 (((f_slot S x3).toInt).toNat)).toInt32)) hx hb dX14_plain_380 rfl ?_
    refine lv_aload_n hx hb dX14_plain_381 rfl (lv_at hl 0 rfl) ?_
    refine lv_iload_n hx hb dX14_plain_382 rfl (lv_at hl 1 rfl) ?_
    obtain ⟨hv139, h⟩ := h
    have hFc := rfree hR hA
    refine va_calli (va_runV (As := [.int x1]) (rest := [.int ((qJ S 45 (((f_slot S x3).toInt).toNat)).toInt32), .int (f_slot S x3), .ref (ad 45)]) ⟨hx, hb, hml, hown, hts⟩ (r_second l g ad H.size S x1 hR.w  hv139) (cwV 1 hts (gd2_V kx_389 kx_390 kx_391 kx_177 kx_392) rfl rfl rfl (by decide +kernel) ⟨Nat.le_of_ble_eq_true rfl, Nat.le_of_ble_eq_true rfl⟩) ⟨rblind, va_recv hR.K hR.P (ci := 13) (q0 := 0) rfl (hR.at14 hR.w.1), fun U hU hW9 => rmk hU hW9 hR hex hE hFc⟩ rfl rfl hl.1 rfl (lv_room (Nat.le_of_ble_eq_true rfl)) dX14_plain_383 ⟨Nat.le_of_ble_eq_true rfl, Nat.le_of_ble_eq_true rfl⟩) hR.sS (fun q _ h => hFc q h) hFc (fun r140 u9 t9 H1 locs ht9 hvm9 hw9 hB9 hz9 hk9 hS => ?_)
    have hR : Rep g ad A s S H1 locs := hR.call ht9 hB9 hR.w hS hFc
    obtain rfl : r140 = (f_second S x1) := hw9
    clear hB9 hz9 hk9 hvm9 ht9 hS
    generalize H1 = H at hR ⊢
    refine lv_iadd hx hb dX14_plain_386 ?_
    refine lv_topi (fun z142 ez142 => ?_)
    obtain rfl : z142 = (((qJ S 45 (((f_slot S x3).toInt).toNat)).toInt32) + (f_second S x1)) := ez142
    refine lv_i2l (v := ((((qJ S 45 (((f_slot S x3).toInt).toNat)).toInt32) + (f_second S x1)).toInt64)) hx hb dX14_plain_387 rfl ?_
    obtain ⟨hv143, h⟩ := h
    refine va_last hx hb hR.K hR.P hR.D hR.sS 45 3 (hR.atL (hR.w.2.1 _ fin_92).2.1) rfl (k_ixN (k_ix (n := 1440) (x := (f_slot S x3)) (a := (f_slot S x3).toInt) rfl hv143) (hR.w.2.1 _ fin_92).2.2) dX14_plain_388 (fun H locs hP hD hS => ?_)
    have hR : Rep g ad A s (wJ S 45 (((f_slot S x3).toInt).toNat) ((((qJ S 45 (((f_slot S x3).toInt).toNat)).toInt32) + (f_second S x1)).toInt64)) H locs := hR.aL (hR.w.2.1 _ fin_92).2.1 hP hD hS
    obtain ⟨S144, eS144⟩ : ∃ z, z = wJ S 45 (((f_slot S x3).toInt).toNat) ((((qJ S 45 (((f_slot S x3).toInt).toNat)).toInt32) + (f_second S x1)).toInt64) := ⟨_, rfl⟩
    rw [← eS144] at hR
    replace h := h S144 eS144
    have hsh : shy S S144 := by rw [eS144]; exact hsh
    refine lv_iconst (v := 1) hx hb dX14_plain_389 (by decide) ?_
    exact W.zret (v := 1) hx hb hr (nz (Or.inr rfl)) (fun t9 ht9 hW9 => ⟨⟨_, S144, rfl, ⟨h, hR.w, hsh, (Or.inr rfl)⟩, ⟨by rw [ht9]; exact hR.P, hR.D⟩⟩, hR.sS.F ht9⟩) hR.sS.2.2 dX14_plain_390
  replace h := h.2 c9_132
  by_cases c9_133 : x2.toInt = 133
  · refine lv_lookup (off := 431) (tgt := 432) hx hb dX14_plain_1 (by decide) (by rw [c9_133]; decide) (by decide) ?_
    replace h := h.1 (c9_133)
    refine lv_aload_n hx hb dX14_plain_432 rfl (lv_at hl 0 rfl) ?_
    refine lv_iload_n hx hb dX14_plain_433 rfl (lv_at hl 2 rfl) ?_
    refine lv_aload_n hx hb dX14_plain_434 rfl (lv_at hl 0 rfl) ?_
    refine lv_iconst (v := 1) hx hb dX14_plain_435 (by decide) ?_
    obtain ⟨Q145, h0, h⟩ := h
    have hFc := rfree hR hA
    refine va_calll (va_runV (As := [.int 1]) (rest := [.int x2, .ref (ad 0)]) ⟨hx, hb, hml, hown, hts⟩ (r_got l g ad s.heap.size S (1 : Int32) hR.w  Q145 h0) (cwV 1 hts (gd2_V kx_635 kx_636 kx_637 kx_177 kx_638) rfl rfl rfl (by decide +kernel) ⟨Nat.le_of_ble_eq_true rfl, Nat.le_of_ble_eq_true rfl⟩) ⟨rblind, va_recv hR.K hR.P (ci := 13) (q0 := 0) rfl (hR.at14 hR.w.1), fun U hU hW9 => rmk hU hW9 hR hex hE hFc⟩ rfl rfl hl.1 rfl (lv_room (Nat.le_of_ble_eq_true rfl)) dX14_plain_436 ⟨Nat.le_of_ble_eq_true rfl, Nat.le_of_ble_eq_true rfl⟩) hR.sS (fun q _ h => hFc q h) hFc (fun r146 S147 t9 H1 locs ht9 hvm9 hw9 hB9 hz9 hk9 hS => ?_)
    obtain ⟨hq148, hw9, hs9⟩ := hw9
    have hR : Rep g ad A s S147 H1 locs := hR.call ht9 hB9 hw9 hS hFc
    have hsh := hsh.tr hs9
    replace h := h r146 S147 hq148
    clear hB9 hz9 hk9 hvm9 ht9 hw9 hs9 hS
    generalize H1 = H at hR ⊢
    obtain ⟨hv149, h⟩ := h
    have hFc := rfree hR hA
    refine va_calll (va_runS (As := [.int x2, .long r146]) (rest := [.ref (ad 0)]) ⟨hx, hb, hml, hown, hts⟩ (r_turned l g ad H.size S147 x2 r146 hR.w  hv149) (va_cwS 2 hts (gd2_S kx_775 kx_776 kx_177 kx_777) rfl rfl rfl (by decide +kernel) ⟨Nat.le_of_ble_eq_true rfl, Nat.le_of_ble_eq_true rfl⟩) ⟨rblind, fun U hU hW9 => rmk hU hW9 hR hex hE hFc⟩ rfl rfl hl.1 rfl (lv_room (Nat.le_of_ble_eq_true rfl)) dX14_plain_439 ⟨Nat.le_of_ble_eq_true rfl, Nat.le_of_ble_eq_true rfl⟩) hR.sS (fun q _ h => hFc q h) hFc (fun r150 u9 t9 H1 locs ht9 hvm9 hw9 hB9 hz9 hk9 hS => ?_)
    have hR : Rep g ad A s S147 H1 locs := hR.call ht9 hB9 hR.w hS hFc
    obtain rfl : r150 = (f_turned S147 x2 r146) := hw9
    clear hB9 hz9 hk9 hvm9 ht9 hS
    generalize H1 = H at hR ⊢
    refine lv_iconst (v := 2) hx hb dX14_plain_442 (by decide) ?_
    obtain ⟨Q152, h0, h⟩ := h
    have hFc := rfree hR hA
    refine va_callv (va_runV (As := [.long (f_turned S147 x2 r146), .int 2]) (rest := []) ⟨hx, hb, hml, hown, hts⟩ (r_put l g ad H.size S147 (f_turned S147 x2 r146) (2 : Int32) hR.w  Q152 h0) (cwV 2 hts (gd2_V kx_948 kx_949 kx_950 kx_177 kx_951) rfl rfl rfl (by decide +kernel) ⟨Nat.le_of_ble_eq_true rfl, Nat.le_of_ble_eq_true rfl⟩) ⟨rblind, va_recv hR.K hR.P (ci := 13) (q0 := 0) rfl (hR.at14 hR.w.1), fun U hU hW9 => rmk hU hW9 hR hex hE hFc⟩ rfl rfl hl.1 rfl (lv_room (Nat.le_of_ble_eq_true rfl)) dX14_plain_443 ⟨Nat.le_of_ble_eq_true rfl, Nat.le_of_ble_eq_true rfl⟩) hR.sS (fun q _ h => hFc q h) hFc (fun  S153 t9 H1 locs ht9 hvm9 hw9 hB9 hz9 hk9 hS => ?_)
    obtain ⟨hq154, hw9, hs9⟩ := hw9
    have hR : Rep g ad A s S153 H1 locs := hR.call ht9 hB9 hw9 hS hFc
    have hsh := hsh.tr hs9
    replace h := h  S153 hq154
    clear hB9 hz9 hk9 hvm9 ht9 hw9 hs9 hS
    generalize H1 = H at hR ⊢
    refine lv_iconst (v := 1) hx hb dX14_plain_446 (by decide) ?_
    exact W.zret (v := 1) hx hb hr (nz (Or.inr rfl)) (fun t9 ht9 hW9 => ⟨⟨_, S153, rfl, ⟨h, hR.w, hsh, (Or.inr rfl)⟩, ⟨by rw [ht9]; exact hR.P, hR.D⟩⟩, hR.sS.F ht9⟩) hR.sS.2.2 dX14_plain_447
  replace h := h.2 c9_133
  by_cases c9_136 : x2.toInt = 136
  · refine lv_lookup (off := 447) (tgt := 448) hx hb dX14_plain_1 (by decide) (by rw [c9_136]; decide) (by decide) ?_
    replace h := h.1 (c9_136)
    refine lv_aload_n hx hb dX14_plain_448 rfl (lv_at hl 0 rfl) ?_
    refine lv_iload_n hx hb dX14_plain_449 rfl (lv_at hl 2 rfl) ?_
    refine lv_aload_n hx hb dX14_plain_450 rfl (lv_at hl 0 rfl) ?_
    refine lv_iconst (v := 2) hx hb dX14_plain_451 (by decide) ?_
    obtain ⟨Q155, h0, h⟩ := h
    have hFc := rfree hR hA
    refine va_calll (va_runV (As := [.int 2]) (rest := [.int x2, .ref (ad 0)]) ⟨hx, hb, hml, hown, hts⟩ (r_got l g ad s.heap.size S (2 : Int32) hR.w  Q155 h0) (cwV 1 hts (gd2_V kx_635 kx_636 kx_637 kx_177 kx_638) rfl rfl rfl (by decide +kernel) ⟨Nat.le_of_ble_eq_true rfl, Nat.le_of_ble_eq_true rfl⟩) ⟨rblind, va_recv hR.K hR.P (ci := 13) (q0 := 0) rfl (hR.at14 hR.w.1), fun U hU hW9 => rmk hU hW9 hR hex hE hFc⟩ rfl rfl hl.1 rfl (lv_room (Nat.le_of_ble_eq_true rfl)) dX14_plain_452 ⟨Nat.le_of_ble_eq_true rfl, Nat.le_of_ble_eq_true rfl⟩) hR.sS (fun q _ h => hFc q h) hFc (fun r156 S157 t9 H1 locs ht9 hvm9 hw9 hB9 hz9 hk9 hS => ?_)
    obtain ⟨hq158, hw9, hs9⟩ := hw9
    have hR : Rep g ad A s S157 H1 locs := hR.call ht9 hB9 hw9 hS hFc
    have hsh := hsh.tr hs9
    replace h := h r156 S157 hq158
    clear hB9 hz9 hk9 hvm9 ht9 hw9 hs9 hS
    generalize H1 = H at hR ⊢
    obtain ⟨hv159, h⟩ := h
    have hFc := rfree hR hA
    refine va_calll (va_runS (As := [.int x2, .long r156]) (rest := [.ref (ad 0)]) ⟨hx, hb, hml, hown, hts⟩ (r_turned l g ad H.size S157 x2 r156 hR.w  hv159) (va_cwS 2 hts (gd2_S kx_775 kx_776 kx_177 kx_777) rfl rfl rfl (by decide +kernel) ⟨Nat.le_of_ble_eq_true rfl, Nat.le_of_ble_eq_true rfl⟩) ⟨rblind, fun U hU hW9 => rmk hU hW9 hR hex hE hFc⟩ rfl rfl hl.1 rfl (lv_room (Nat.le_of_ble_eq_true rfl)) dX14_plain_455 ⟨Nat.le_of_ble_eq_true rfl, Nat.le_of_ble_eq_true rfl⟩) hR.sS (fun q _ h => hFc q h) hFc (fun r160 u9 t9 H1 locs ht9 hvm9 hw9 hB9 hz9 hk9 hS => ?_)
    have hR : Rep g ad A s S157 H1 locs := hR.call ht9 hB9 hR.w hS hFc
    obtain rfl : r160 = (f_turned S157 x2 r156) := hw9
    clear hB9 hz9 hk9 hvm9 ht9 hS
    generalize H1 = H at hR ⊢
    refine lv_l2i (v := ((f_turned S157 x2 r156).toInt32)) hx hb dX14_plain_458 rfl ?_
    obtain ⟨Q162, h0, h⟩ := h
    have hFc := rfree hR hA
    refine va_callv (va_runV (As := [.int ((f_turned S157 x2 r156).toInt32)]) (rest := []) ⟨hx, hb, hml, hown, hts⟩ (r_putInt l g ad H.size S157 ((f_turned S157 x2 r156).toInt32) hR.w  Q162 h0) (cwV 1 hts (gd2_V kx_652 kx_653 kx_654 kx_177 kx_655) rfl rfl rfl (by decide +kernel) ⟨Nat.le_of_ble_eq_true rfl, Nat.le_of_ble_eq_true rfl⟩) ⟨rblind, va_recv hR.K hR.P (ci := 13) (q0 := 0) rfl (hR.at14 hR.w.1), fun U hU hW9 => rmk hU hW9 hR hex hE hFc⟩ rfl rfl hl.1 rfl (lv_room (Nat.le_of_ble_eq_true rfl)) dX14_plain_459 ⟨Nat.le_of_ble_eq_true rfl, Nat.le_of_ble_eq_true rfl⟩) hR.sS (fun q _ h => hFc q h) hFc (fun  S163 t9 H1 locs ht9 hvm9 hw9 hB9 hz9 hk9 hS => ?_)
    obtain ⟨hq164, hw9, hs9⟩ := hw9
    have hR : Rep g ad A s S163 H1 locs := hR.call ht9 hB9 hw9 hS hFc
    have hsh := hsh.tr hs9
    replace h := h  S163 hq164
    clear hB9 hz9 hk9 hvm9 ht9 hw9 hs9 hS
    generalize H1 = H at hR ⊢
    refine lv_iconst (v := 1) hx hb dX14_plain_462 (by decide) ?_
    exact W.zret (v := 1) hx hb hr (nz (Or.inr rfl)) (fun t9 ht9 hW9 => ⟨⟨_, S163, rfl, ⟨h, hR.w, hsh, (Or.inr rfl)⟩, ⟨by rw [ht9]; exact hR.P, hR.D⟩⟩, hR.sS.F ht9⟩) hR.sS.2.2 dX14_plain_463
  replace h := h.2 c9_136
  by_cases c9_145 : x2.toInt = 145
  · refine lv_lookup (off := 463) (tgt := 464) hx hb dX14_plain_1 (by decide) (by rw [c9_145]; decide) (by decide) ?_
    replace h := h.1 (c9_145)
    refine lv_aload_n hx hb dX14_plain_464 rfl (lv_at hl 0 rfl) ?_
    refine lv_iload_n hx hb dX14_plain_465 rfl (lv_at hl 2 rfl) ?_
    refine lv_aload_n hx hb dX14_plain_466 rfl (lv_at hl 0 rfl) ?_
    refine lv_iconst (v := 1) hx hb dX14_plain_467 (by decide) ?_
    obtain ⟨Q165, h0, h⟩ := h
    have hFc := rfree hR hA
    refine va_calll (va_runV (As := [.int 1]) (rest := [.int x2, .ref (ad 0)]) ⟨hx, hb, hml, hown, hts⟩ (r_got l g ad s.heap.size S (1 : Int32) hR.w  Q165 h0) (cwV 1 hts (gd2_V kx_635 kx_636 kx_637 kx_177 kx_638) rfl rfl rfl (by decide +kernel) ⟨Nat.le_of_ble_eq_true rfl, Nat.le_of_ble_eq_true rfl⟩) ⟨rblind, va_recv hR.K hR.P (ci := 13) (q0 := 0) rfl (hR.at14 hR.w.1), fun U hU hW9 => rmk hU hW9 hR hex hE hFc⟩ rfl rfl hl.1 rfl (lv_room (Nat.le_of_ble_eq_true rfl)) dX14_plain_468 ⟨Nat.le_of_ble_eq_true rfl, Nat.le_of_ble_eq_true rfl⟩) hR.sS (fun q _ h => hFc q h) hFc (fun r166 S167 t9 H1 locs ht9 hvm9 hw9 hB9 hz9 hk9 hS => ?_)
    obtain ⟨hq168, hw9, hs9⟩ := hw9
    have hR : Rep g ad A s S167 H1 locs := hR.call ht9 hB9 hw9 hS hFc
    have hsh := hsh.tr hs9
    replace h := h r166 S167 hq168
    clear hB9 hz9 hk9 hvm9 ht9 hw9 hs9 hS
    generalize H1 = H at hR ⊢
    obtain ⟨hv169, h⟩ := h
    have hFc := rfree hR hA
    refine va_calll (va_runS (As := [.int x2, .long r166]) (rest := [.ref (ad 0)]) ⟨hx, hb, hml, hown, hts⟩ (r_turned l g ad H.size S167 x2 r166 hR.w  hv169) (va_cwS 2 hts (gd2_S kx_775 kx_776 kx_177 kx_777) rfl rfl rfl (by decide +kernel) ⟨Nat.le_of_ble_eq_true rfl, Nat.le_of_ble_eq_true rfl⟩) ⟨rblind, fun U hU hW9 => rmk hU hW9 hR hex hE hFc⟩ rfl rfl hl.1 rfl (lv_room (Nat.le_of_ble_eq_true rfl)) dX14_plain_471 ⟨Nat.le_of_ble_eq_true rfl, Nat.le_of_ble_eq_true rfl⟩) hR.sS (fun q _ h => hFc q h) hFc (fun r170 u9 t9 H1 locs ht9 hvm9 hw9 hB9 hz9 hk9 hS => ?_)
    have hR : Rep g ad A s S167 H1 locs := hR.call ht9 hB9 hR.w hS hFc
    obtain rfl : r170 = (f_turned S167 x2 r166) := hw9
    clear hB9 hz9 hk9 hvm9 ht9 hS
    generalize H1 = H at hR ⊢
    refine lv_l2i (v := ((f_turned S167 x2 r166).toInt32)) hx hb dX14_plain_474 rfl ?_
    obtain ⟨Q172, h0, h⟩ := h
    have hFc := rfree hR hA
    refine va_callv (va_runV (As := [.int ((f_turned S167 x2 r166).toInt32)]) (rest := []) ⟨hx, hb, hml, hown, hts⟩ (r_putInt l g ad H.size S167 ((f_turned S167 x2 r166).toInt32) hR.w  Q172 h0) (cwV 1 hts (gd2_V kx_652 kx_653 kx_654 kx_177 kx_655) rfl rfl rfl (by decide +kernel) ⟨Nat.le_of_ble_eq_true rfl, Nat.le_of_ble_eq_true rfl⟩) ⟨rblind, va_recv hR.K hR.P (ci := 13) (q0 := 0) rfl (hR.at14 hR.w.1), fun U hU hW9 => rmk hU hW9 hR hex hE hFc⟩ rfl rfl hl.1 rfl (lv_room (Nat.le_of_ble_eq_true rfl)) dX14_plain_475 ⟨Nat.le_of_ble_eq_true rfl, Nat.le_of_ble_eq_true rfl⟩) hR.sS (fun q _ h => hFc q h) hFc (fun  S173 t9 H1 locs ht9 hvm9 hw9 hB9 hz9 hk9 hS => ?_)
    obtain ⟨hq174, hw9, hs9⟩ := hw9
    have hR : Rep g ad A s S173 H1 locs := hR.call ht9 hB9 hw9 hS hFc
    have hsh := hsh.tr hs9
    replace h := h  S173 hq174
    clear hB9 hz9 hk9 hvm9 ht9 hw9 hs9 hS
    generalize H1 = H at hR ⊢
    refine lv_iconst (v := 1) hx hb dX14_plain_478 (by decide) ?_
    exact W.zret (v := 1) hx hb hr (nz (Or.inr rfl)) (fun t9 ht9 hW9 => ⟨⟨_, S173, rfl, ⟨h, hR.w, hsh, (Or.inr rfl)⟩, ⟨by rw [ht9]; exact hR.P, hR.D⟩⟩, hR.sS.F ht9⟩) hR.sS.2.2 dX14_plain_479
  replace h := h.2 c9_145
  by_cases c9_146 : x2.toInt = 146
  · refine lv_lookup (off := 463) (tgt := 464) hx hb dX14_plain_1 (by decide) (by rw [c9_146]; decide) (by decide) ?_
    replace h := h.1 (c9_146)
    refine lv_aload_n hx hb dX14_plain_464 rfl (lv_at hl 0 rfl) ?_
    refine lv_iload_n hx hb dX14_plain_465 rfl (lv_at hl 2 rfl) ?_
    refine lv_aload_n hx hb dX14_plain_466 rfl (lv_at hl 0 rfl) ?_
    refine lv_iconst (v := 1) hx hb dX14_plain_467 (by decide) ?_
    obtain ⟨Q175, h0, h⟩ := h
    have hFc := rfree hR hA
    refine va_calll (va_runV (As := [.int 1]) (rest := [.int x2, .ref (ad 0)]) ⟨hx, hb, hml, hown, hts⟩ (r_got l g ad s.heap.size S (1 : Int32) hR.w  Q175 h0) (cwV 1 hts (gd2_V kx_635 kx_636 kx_637 kx_177 kx_638) rfl rfl rfl (by decide +kernel) ⟨Nat.le_of_ble_eq_true rfl, Nat.le_of_ble_eq_true rfl⟩) ⟨rblind, va_recv hR.K hR.P (ci := 13) (q0 := 0) rfl (hR.at14 hR.w.1), fun U hU hW9 => rmk hU hW9 hR hex hE hFc⟩ rfl rfl hl.1 rfl (lv_room (Nat.le_of_ble_eq_true rfl)) dX14_plain_468 ⟨Nat.le_of_ble_eq_true rfl, Nat.le_of_ble_eq_true rfl⟩) hR.sS (fun q _ h => hFc q h) hFc (fun r176 S177 t9 H1 locs ht9 hvm9 hw9 hB9 hz9 hk9 hS => ?_)
    obtain ⟨hq178, hw9, hs9⟩ := hw9
    have hR : Rep g ad A s S177 H1 locs := hR.call ht9 hB9 hw9 hS hFc
    have hsh := hsh.tr hs9
    replace h := h r176 S177 hq178
    clear hB9 hz9 hk9 hvm9 ht9 hw9 hs9 hS
    generalize H1 = H at hR ⊢
    obtain ⟨hv179, h⟩ := h
    have hFc := rfree hR hA
    refine va_calll (va_runS (As := [.int x2, .long r176]) (rest := [.ref (ad 0)]) ⟨hx, hb, hml, hown, hts⟩ (r_turned l g ad H.size S177 x2 r176 hR.w  hv179) (va_cwS 2 hts (gd2_S kx_775 kx_776 kx_177 kx_777) rfl rfl rfl (by decide +kernel) ⟨Nat.le_of_ble_eq_true rfl, Nat.le_of_ble_eq_true rfl⟩) ⟨rblind, fun U hU hW9 => rmk hU hW9 hR hex hE hFc⟩ rfl rfl hl.1 rfl (lv_room (Nat.le_of_ble_eq_true rfl)) dX14_plain_471 ⟨Nat.le_of_ble_eq_true rfl, Nat.le_of_ble_eq_true rfl⟩) hR.sS (fun q _ h => hFc q h) hFc (fun r180 u9 t9 H1 locs ht9 hvm9 hw9 hB9 hz9 hk9 hS => ?_)
    have hR : Rep g ad A s S177 H1 locs := hR.call ht9 hB9 hR.w hS hFc
    obtain rfl : r180 = (f_turned S177 x2 r176) := hw9
    clear hB9 hz9 hk9 hvm9 ht9 hS
    generalize H1 = H at hR ⊢
    refine lv_l2i (v := ((f_turned S177 x2 r176).toInt32)) hx hb dX14_plain_474 rfl ?_
    obtain ⟨Q182, h0, h⟩ := h
    have hFc := rfree hR hA
    refine va_callv (va_runV (As := [.int ((f_turned S177 x2 r176).toInt32)]) (rest := []) ⟨hx, hb, hml, hown, hts⟩ (r_putInt l g ad H.size S177 ((f_turned S177 x2 r176).toInt32) hR.w  Q182 h0) (cwV 1 hts (gd2_V kx_652 kx_653 kx_654 kx_177 kx_655) rfl rfl rfl (by decide +kernel) ⟨Nat.le_of_ble_eq_true rfl, Nat.le_of_ble_eq_true rfl⟩) ⟨rblind, va_recv hR.K hR.P (ci := 13) (q0 := 0) rfl (hR.at14 hR.w.1), fun U hU hW9 => rmk hU hW9 hR hex hE hFc⟩ rfl rfl hl.1 rfl (lv_room (Nat.le_of_ble_eq_true rfl)) dX14_plain_475 ⟨Nat.le_of_ble_eq_true rfl, Nat.le_of_ble_eq_true rfl⟩) hR.sS (fun q _ h => hFc q h) hFc (fun  S183 t9 H1 locs ht9 hvm9 hw9 hB9 hz9 hk9 hS => ?_)
    obtain ⟨hq184, hw9, hs9⟩ := hw9
    have hR : Rep g ad A s S183 H1 locs := hR.call ht9 hB9 hw9 hS hFc
    have hsh := hsh.tr hs9
    replace h := h  S183 hq184
    clear hB9 hz9 hk9 hvm9 ht9 hw9 hs9 hS
    generalize H1 = H at hR ⊢
    refine lv_iconst (v := 1) hx hb dX14_plain_478 (by decide) ?_
    exact W.zret (v := 1) hx hb hr (nz (Or.inr rfl)) (fun t9 ht9 hW9 => ⟨⟨_, S183, rfl, ⟨h, hR.w, hsh, (Or.inr rfl)⟩, ⟨by rw [ht9]; exact hR.P, hR.D⟩⟩, hR.sS.F ht9⟩) hR.sS.2.2 dX14_plain_479
  replace h := h.2 c9_146
  by_cases c9_147 : x2.toInt = 147
  · refine lv_lookup (off := 463) (tgt := 464) hx hb dX14_plain_1 (by decide) (by rw [c9_147]; decide) (by decide) ?_
    replace h := h.1 (c9_147)
    refine lv_aload_n hx hb dX14_plain_464 rfl (lv_at hl 0 rfl) ?_
    refine lv_iload_n hx hb dX14_plain_465 rfl (lv_at hl 2 rfl) ?_
    refine lv_aload_n hx hb dX14_plain_466 rfl (lv_at hl 0 rfl) ?_
    refine lv_iconst (v := 1) hx hb dX14_plain_467 (by decide) ?_
    obtain ⟨Q185, h0, h⟩ := h
    have hFc := rfree hR hA
    refine va_calll (va_runV (As := [.int 1]) (rest := [.int x2, .ref (ad 0)]) ⟨hx, hb, hml, hown, hts⟩ (r_got l g ad s.heap.size S (1 : Int32) hR.w  Q185 h0) (cwV 1 hts (gd2_V kx_635 kx_636 kx_637 kx_177 kx_638) rfl rfl rfl (by decide +kernel) ⟨Nat.le_of_ble_eq_true rfl, Nat.le_of_ble_eq_true rfl⟩) ⟨rblind, va_recv hR.K hR.P (ci := 13) (q0 := 0) rfl (hR.at14 hR.w.1), fun U hU hW9 => rmk hU hW9 hR hex hE hFc⟩ rfl rfl hl.1 rfl (lv_room (Nat.le_of_ble_eq_true rfl)) dX14_plain_468 ⟨Nat.le_of_ble_eq_true rfl, Nat.le_of_ble_eq_true rfl⟩) hR.sS (fun q _ h => hFc q h) hFc (fun r186 S187 t9 H1 locs ht9 hvm9 hw9 hB9 hz9 hk9 hS => ?_)
    obtain ⟨hq188, hw9, hs9⟩ := hw9
    have hR : Rep g ad A s S187 H1 locs := hR.call ht9 hB9 hw9 hS hFc
    have hsh := hsh.tr hs9
    replace h := h r186 S187 hq188
    clear hB9 hz9 hk9 hvm9 ht9 hw9 hs9 hS
    generalize H1 = H at hR ⊢
    obtain ⟨hv189, h⟩ := h
    have hFc := rfree hR hA
    refine va_calll (va_runS (As := [.int x2, .long r186]) (rest := [.ref (ad 0)]) ⟨hx, hb, hml, hown, hts⟩ (r_turned l g ad H.size S187 x2 r186 hR.w  hv189) (va_cwS 2 hts (gd2_S kx_775 kx_776 kx_177 kx_777) rfl rfl rfl (by decide +kernel) ⟨Nat.le_of_ble_eq_true rfl, Nat.le_of_ble_eq_true rfl⟩) ⟨rblind, fun U hU hW9 => rmk hU hW9 hR hex hE hFc⟩ rfl rfl hl.1 rfl (lv_room (Nat.le_of_ble_eq_true rfl)) dX14_plain_471 ⟨Nat.le_of_ble_eq_true rfl, Nat.le_of_ble_eq_true rfl⟩) hR.sS (fun q _ h => hFc q h) hFc (fun r190 u9 t9 H1 locs ht9 hvm9 hw9 hB9 hz9 hk9 hS => ?_)
    have hR : Rep g ad A s S187 H1 locs := hR.call ht9 hB9 hR.w hS hFc
    obtain rfl : r190 = (f_turned S187 x2 r186) := hw9
    clear hB9 hz9 hk9 hvm9 ht9 hS
    generalize H1 = H at hR ⊢
    refine lv_l2i (v := ((f_turned S187 x2 r186).toInt32)) hx hb dX14_plain_474 rfl ?_
    obtain ⟨Q192, h0, h⟩ := h
    have hFc := rfree hR hA
    refine va_callv (va_runV (As := [.int ((f_turned S187 x2 r186).toInt32)]) (rest := []) ⟨hx, hb, hml, hown, hts⟩ (r_putInt l g ad H.size S187 ((f_turned S187 x2 r186).toInt32) hR.w  Q192 h0) (cwV 1 hts (gd2_V kx_652 kx_653 kx_654 kx_177 kx_655) rfl rfl rfl (by decide +kernel) ⟨Nat.le_of_ble_eq_true rfl, Nat.le_of_ble_eq_true rfl⟩) ⟨rblind, va_recv hR.K hR.P (ci := 13) (q0 := 0) rfl (hR.at14 hR.w.1), fun U hU hW9 => rmk hU hW9 hR hex hE hFc⟩ rfl rfl hl.1 rfl (lv_room (Nat.le_of_ble_eq_true rfl)) dX14_plain_475 ⟨Nat.le_of_ble_eq_true rfl, Nat.le_of_ble_eq_true rfl⟩) hR.sS (fun q _ h => hFc q h) hFc (fun  S193 t9 H1 locs ht9 hvm9 hw9 hB9 hz9 hk9 hS => ?_)
    obtain ⟨hq194, hw9, hs9⟩ := hw9
    have hR : Rep g ad A s S193 H1 locs := hR.call ht9 hB9 hw9 hS hFc
    have hsh := hsh.tr hs9
    replace h := h  S193 hq194
    clear hB9 hz9 hk9 hvm9 ht9 hw9 hs9 hS
    generalize H1 = H at hR ⊢
    refine lv_iconst (v := 1) hx hb dX14_plain_478 (by decide) ?_
    exact W.zret (v := 1) hx hb hr (nz (Or.inr rfl)) (fun t9 ht9 hW9 => ⟨⟨_, S193, rfl, ⟨h, hR.w, hsh, (Or.inr rfl)⟩, ⟨by rw [ht9]; exact hR.P, hR.D⟩⟩, hR.sS.F ht9⟩) hR.sS.2.2 dX14_plain_479
  replace h := h.2 c9_147
  by_cases c9_178 : x2.toInt = 178
  · refine lv_lookup (off := 479) (tgt := 480) hx hb dX14_plain_1 (by decide) (by rw [c9_178]; decide) (by decide) ?_
    replace h := h.1 (c9_178)
    refine lv_aload_n hx hb dX14_plain_480 rfl (lv_at hl 0 rfl) ?_
    obtain ⟨hv195, h⟩ := h
    have hT_b196 : qT S (qO S 0 80) = 11 := hR.w.ref hv195 hR.w.1
    refine va_get (D := rD g) (ci := 13) (v := .ref (ad (qO S 0 80))) (C := RX14) (T := TX14) (N := 143) hx hb hts in2X14 hown hR.K hR.P 0 (hR.at14 hR.w.1) rfl 80 (by decide) (hts _ kx_608) (fun _ h9 => h9) (congrArg (fun z => some (vf ad z)) hv195) dX14_plain_481 ?_
    obtain ⟨hv197, h⟩ := h
    have hT_b198 : qT S (qO S (qO S 0 80) 7) = 5 := hR.w.ref hv197 hT_b196
    refine va_get (D := rD g) (ci := 12) (v := .ref (ad (qO S (qO S 0 80) 7))) (C := RX13) (T := TX13) (N := 23) hx hb hts in2X13 hown hR.K hR.P (qO S 0 80) (hR.at13 hT_b196) rfl 7 (by decide) (hts _ kx_397) (fun _ h9 => h9) (congrArg (fun z => some (vf ad z)) hv197) dX14_plain_484 ?_
    refine lv_iload_n hx hb dX14_plain_487 rfl (lv_at hl 3 rfl) ?_
    obtain ⟨hv199, h⟩ := h
    refine va_aldq hx hb hR.K hR.P (qO S (qO S 0 80) 7) 4 (hR.atS hT_b198) rfl (k_ix (x := x3) (a := x3.toInt) rfl hv199) dX14_plain_488 ?_
    obtain ⟨hv200, h⟩ := h
    have hT_b201 : qT S (qO S (qO S (qO S 0 80) 7) x3.toInt.toNat) = 12 := hR.w.ref hv200 hT_b198
    rw [show va_rf (Option.map ad (qR S (qO S (qO S 0 80) 7) (x3 : Int32).toNatClampNeg)) = .ref (ad (qO S (qO S (qO S 0 80) 7) x3.toInt.toNat)) from congrArg (fun z => vf ad z) hv200]
    have hT_t202 : qT S 10000016 = 12 := hR.w.txt (i := 8) (by decide)
    refine va_ldcSW (tx := "I") (q := ad 10000016) hx hb hown (hE.2.2 _ ldc_706) dX14_plain_489 ?_
    have hF : ∀ q, Ns s.heap.size q → A q := fun q h => hA q (Nat.le_trans hR.sS.1 h)
    refine va_calli (va_runV (As := [.ref (ad 10000016)]) (rest := []) ⟨hx, hb, hml, hown, hts⟩ (s_equals l s.heap.size (ad (qO S (qO S (qO S 0 80) 7) x3.toInt.toNat)) (ad ((qO S (qO S (qO S 0 80) 7) x3.toInt.toNat) + 1)) (qN S ((qO S (qO S (qO S 0 80) 7) x3.toInt.toNat) + 1)) (qI S ((qO S (qO S (qO S 0 80) 7) x3.toInt.toNat) + 1)) (ad 10000016) (ad (10000016 + 1)) (qN S (10000016 + 1)) (qI S (10000016 + 1)) (hR.w.len hT_b201) (hR.w.len hT_t202)) (cwV 1 hts (gd2_V kx_539 kx_540 kx_541 kx_6 kx_542) rfl rfl rfl (by decide +kernel) ⟨Nat.le_of_ble_eq_true rfl, Nat.le_of_ble_eq_true rfl⟩) ⟨tblind (fun A u U H hv h => by exact ⟨tx1.moved hv h.1, tx1.moved hv h.2⟩), (strR hts hR hE hA hT_b201), fun U hU hW9 => ⟨rfl, by rw [hU], ⟨str_at hts hR hE hA hT_b201 hU hW9, str_at hts hR hE hA hT_t202 hU hW9⟩, by rw [hU]; exact ((hE.1.kept hR.sS.2.1).narrow hF).moved hW9.alike⟩⟩ rfl rfl hl.1 rfl (lv_room (Nat.le_of_ble_eq_true rfl)) dX14_plain_492 ⟨Nat.le_of_ble_eq_true rfl, Nat.le_of_ble_eq_true rfl⟩) hR.sS (fun q _ h => hF q h) hF (fun r203 u9 t9 H1 locs ht9 hvm9 hw9 hB9 hz9 hk9 hS => ?_)
    obtain ⟨hw9, hz_r203⟩ := sEq_of hw9
    obtain rfl : r203 = (sEq S (qO S (qO S (qO S 0 80) 7) x3.toInt.toNat) 10000016) := hw9
    have hR : Rep g ad A s S H1 locs := hR.keep hk9 hS
    clear hz9 hk9 hvm9 ht9 hB9 hF hS
    generalize H1 = H at hR ⊢
    refine lv_if_eq (tgt := 512) hx hb dX14_plain_495 (by decide) (fun c204 => ?_) (fun c204 => ?_)
    · replace h := h.1 (k_eq rfl (by decide) c204)
      refine lv_aload_n hx hb dX14_plain_512 rfl (lv_at hl 0 rfl) ?_
      refine lv_aload_n hx hb dX14_plain_513 rfl (lv_at hl 0 rfl) ?_
      refine va_get (D := rD g) (ci := 13) (v := .ref (ad 37)) (C := RX14) (T := TX14) (N := 143) hx hb hts in2X14 hown hR.K hR.P 0 (hR.at14 hR.w.1) rfl 81 (by decide) (hts _ kx_612) (fun _ h9 => h9) (congrArg (fun z => some (vf ad z)) (hR.w.2.1 _ fin_81).1) dX14_plain_514 ?_
      refine lv_iload_n hx hb dX14_plain_517 rfl (lv_at hl 3 rfl) ?_
      obtain ⟨hv205, h⟩ := h
      refine va_lald hx hb hR.K hR.P 37 3 (hR.atL (hR.w.2.1 _ fin_81).2.1) rfl (k_ixN (k_ix (n := 24) (x := x3) (a := x3.toInt) rfl hv205) (hR.w.2.1 _ fin_81).2.2) dX14_plain_518 ?_
      refine lv_topl (fun z206 ez206 => ?_)
      obtain rfl : z206 = (qJ S 37 x3.toInt.toNat) := ez206
      refine lv_aload_n hx hb dX14_plain_519 rfl (lv_at hl 0 rfl) ?_
      obtain ⟨hv207, h⟩ := h
      have hT_b208 : qT S (qO S 0 80) = 11 := hR.w.ref hv207 hR.w.1
      refine va_get (D := rD g) (ci := 13) (v := .ref (ad (qO S 0 80))) (C := RX14) (T := TX14) (N := 143) hx hb hts in2X14 hown hR.K hR.P 0 (hR.at14 hR.w.1) rfl 80 (by decide) (hts _ kx_608) (fun _ h9 => h9) (congrArg (fun z => some (vf ad z)) hv207) dX14_plain_520 ?_
      obtain ⟨hv209, h⟩ := h
      have hT_b210 : qT S (qO S (qO S 0 80) 7) = 5 := hR.w.ref hv209 hT_b208
      refine va_get (D := rD g) (ci := 12) (v := .ref (ad (qO S (qO S 0 80) 7))) (C := RX13) (T := TX13) (N := 23) hx hb hts in2X13 hown hR.K hR.P (qO S 0 80) (hR.at13 hT_b208) rfl 7 (by decide) (hts _ kx_397) (fun _ h9 => h9) (congrArg (fun z => some (vf ad z)) hv209) dX14_plain_523 ?_
      refine lv_iload_n hx hb dX14_plain_526 rfl (lv_at hl 3 rfl) ?_
      obtain ⟨hv211, h⟩ := h
      refine va_aldq hx hb hR.K hR.P (qO S (qO S 0 80) 7) 4 (hR.atS hT_b210) rfl (k_ix (x := x3) (a := x3.toInt) rfl hv211) dX14_plain_527 ?_
      obtain ⟨hv212, h⟩ := h
      have hT_b213 : qT S (qO S (qO S (qO S 0 80) 7) x3.toInt.toNat) = 12 := hR.w.ref hv212 hT_b210
      rw [show va_rf (Option.map ad (qR S (qO S (qO S 0 80) 7) (x3 : Int32).toNatClampNeg)) = .ref (ad (qO S (qO S (qO S 0 80) 7) x3.toInt.toNat)) from congrArg (fun z => vf ad z) hv212]
      have hT_t214 : qT S 10000022 = 12 := hR.w.txt (i := 11) (by decide)
      refine va_ldcSW (tx := "J") (q := ad 10000022) hx hb hown (hE.2.2 _ ldc_711) dX14_plain_528 ?_
      have hF : ∀ q, Ns H.size q → A q := fun q h => hA q (Nat.le_trans hR.sS.1 h)
      refine va_calli (va_runV (As := [.ref (ad 10000022)]) (rest := [.long (qJ S 37 x3.toInt.toNat), .ref (ad 0)]) ⟨hx, hb, hml, hown, hts⟩ (s_equals l H.size (ad (qO S (qO S (qO S 0 80) 7) x3.toInt.toNat)) (ad ((qO S (qO S (qO S 0 80) 7) x3.toInt.toNat) + 1)) (qN S ((qO S (qO S (qO S 0 80) 7) x3.toInt.toNat) + 1)) (qI S ((qO S (qO S (qO S 0 80) 7) x3.toInt.toNat) + 1)) (ad 10000022) (ad (10000022 + 1)) (qN S (10000022 + 1)) (qI S (10000022 + 1)) (hR.w.len hT_b213) (hR.w.len hT_t214)) (cwV 1 hts (gd2_V kx_539 kx_540 kx_541 kx_6 kx_542) rfl rfl rfl (by decide +kernel) ⟨Nat.le_of_ble_eq_true rfl, Nat.le_of_ble_eq_true rfl⟩) ⟨tblind (fun A u U H hv h => by exact ⟨tx1.moved hv h.1, tx1.moved hv h.2⟩), (strR hts hR hE hA hT_b213), fun U hU hW9 => ⟨rfl, by rw [hU], ⟨str_at hts hR hE hA hT_b213 hU hW9, str_at hts hR hE hA hT_t214 hU hW9⟩, by rw [hU]; exact ((hE.1.kept hR.sS.2.1).narrow hF).moved hW9.alike⟩⟩ rfl rfl hl.1 rfl (lv_room (Nat.le_of_ble_eq_true rfl)) dX14_plain_531 ⟨Nat.le_of_ble_eq_true rfl, Nat.le_of_ble_eq_true rfl⟩) hR.sS (fun q _ h => hF q h) hF (fun r215 u9 t9 H1 locs ht9 hvm9 hw9 hB9 hz9 hk9 hS => ?_)
      obtain ⟨hw9, hz_r215⟩ := sEq_of hw9
      obtain rfl : r215 = (sEq S (qO S (qO S (qO S 0 80) 7) x3.toInt.toNat) 10000022) := hw9
      have hR : Rep g ad A s S H1 locs := hR.keep hk9 hS
      clear hz9 hk9 hvm9 ht9 hB9 hF hS
      generalize H1 = H at hR ⊢
      have J_542 : ∀ (U542 : MS) (t542_0 : Int32) (t542_1 : Int64) (H : Heap) (locs : List Loc) (ls : Array Slot), w_plain_J542 Q U542 t542_0 t542_1 → shy S U542 → Rep g ad A s U542 H locs → lv_has ls 4 [] → W p l e (headSpec (wt2 yX14_plain cX14_plain 4 (some .boolean)) ({ frames := 5, cells := 0, slots := 0, locals := 116 })).room s m ([.ref (ad 0), .int x1, .int x2, .int x3] : List Value).toArray below meth c H locs 0 0 (MQ below (va_Qi (fun (r : Int32) (u : MS) => Q r u ∧ wfM u ∧ shy S u ∧ (r = 0 ∨ r = 1)) (fun (u : MS) (t : State) => qE g ad A u t) A) ([.ref (ad 0), .int x1, .int x2, .int x3] : List Value).toArray s 0 0 A) (F0 m 542 ls [.int t542_0, .long t542_1, .ref (ad 0)]) := by
        intro U542 t542_0 t542_1 H locs ls h hsh hR hl
        unfold w_plain_J542 at h
        obtain ⟨Q216, h0, h⟩ := h
        have hFc := rfree hR hA
        refine va_callv (va_runV (As := [.long t542_1, .int t542_0]) (rest := []) ⟨hx, hb, hml, hown, hts⟩ (r_put l g ad H.size U542 t542_1 t542_0 hR.w  Q216 h0) (cwV 2 hts (gd2_V kx_948 kx_949 kx_950 kx_177 kx_951) rfl rfl rfl (by decide +kernel) ⟨Nat.le_of_ble_eq_true rfl, Nat.le_of_ble_eq_true rfl⟩) ⟨rblind, va_recv hR.K hR.P (ci := 13) (q0 := 0) rfl (hR.at14 hR.w.1), fun U hU hW9 => rmk hU hW9 hR hex hE hFc⟩ rfl rfl hl.1 rfl (lv_room (Nat.le_of_ble_eq_true rfl)) dX14_plain_542 ⟨Nat.le_of_ble_eq_true rfl, Nat.le_of_ble_eq_true rfl⟩) hR.sS (fun q _ h => hFc q h) hFc (fun  S217 t9 H1 locs ht9 hvm9 hw9 hB9 hz9 hk9 hS => ?_)
        obtain ⟨hq218, hw9, hs9⟩ := hw9
        have hR : Rep g ad A s S217 H1 locs := hR.call ht9 hB9 hw9 hS hFc
        have hsh := hsh.tr hs9
        replace h := h  S217 hq218
        clear hB9 hz9 hk9 hvm9 ht9 hw9 hs9 hS
        generalize H1 = H at hR ⊢
        refine lv_iconst (v := 1) hx hb dX14_plain_545 (by decide) ?_
        exact W.zret (v := 1) hx hb hr (nz (Or.inr rfl)) (fun t9 ht9 hW9 => ⟨⟨_, S217, rfl, ⟨h, hR.w, hsh, (Or.inr rfl)⟩, ⟨by rw [ht9]; exact hR.P, hR.D⟩⟩, hR.sS.F ht9⟩) hR.sS.2.2 dX14_plain_546
      refine lv_if_eq (tgt := 541) hx hb dX14_plain_534 (by decide) (fun c219 => ?_) (fun c219 => ?_)
      · replace h := h.1 (k_eq rfl (by decide) c219)
        refine lv_iconst (v := 1) hx hb dX14_plain_541 (by decide) ?_
        exact J_542 S 1 (qJ S 37 x3.toInt.toNat) _ _ ls h  hsh hR (lv_sub hl [] rfl)
      · replace h := h.2 (k_ne rfl (by decide) c219)
        refine lv_iconst (v := 2) hx hb dX14_plain_537 (by decide) ?_
        refine lv_goto (tgt := 542) hx hb dX14_plain_538 (by decide) ?_
        exact J_542 S 2 (qJ S 37 x3.toInt.toNat) _ _ ls h  hsh hR (lv_sub hl [] rfl)
    · replace h := h.2 (k_ne rfl (by decide) c204)
      refine lv_aload_n hx hb dX14_plain_498 rfl (lv_at hl 0 rfl) ?_
      refine lv_aload_n hx hb dX14_plain_499 rfl (lv_at hl 0 rfl) ?_
      refine va_get (D := rD g) (ci := 13) (v := .ref (ad 37)) (C := RX14) (T := TX14) (N := 143) hx hb hts in2X14 hown hR.K hR.P 0 (hR.at14 hR.w.1) rfl 81 (by decide) (hts _ kx_612) (fun _ h9 => h9) (congrArg (fun z => some (vf ad z)) (hR.w.2.1 _ fin_81).1) dX14_plain_500 ?_
      refine lv_iload_n hx hb dX14_plain_503 rfl (lv_at hl 3 rfl) ?_
      obtain ⟨hv220, h⟩ := h
      refine va_lald hx hb hR.K hR.P 37 3 (hR.atL (hR.w.2.1 _ fin_81).2.1) rfl (k_ixN (k_ix (n := 24) (x := x3) (a := x3.toInt) rfl hv220) (hR.w.2.1 _ fin_81).2.2) dX14_plain_504 ?_
      refine lv_topl (fun z221 ez221 => ?_)
      obtain rfl : z221 = (qJ S 37 x3.toInt.toNat) := ez221
      refine lv_l2i (v := ((qJ S 37 x3.toInt.toNat).toInt32)) hx hb dX14_plain_505 rfl ?_
      obtain ⟨Q222, h0, h⟩ := h
      have hFc := rfree hR hA
      refine va_callv (va_runV (As := [.int ((qJ S 37 x3.toInt.toNat).toInt32)]) (rest := []) ⟨hx, hb, hml, hown, hts⟩ (r_putInt l g ad H.size S ((qJ S 37 x3.toInt.toNat).toInt32) hR.w  Q222 h0) (cwV 1 hts (gd2_V kx_652 kx_653 kx_654 kx_177 kx_655) rfl rfl rfl (by decide +kernel) ⟨Nat.le_of_ble_eq_true rfl, Nat.le_of_ble_eq_true rfl⟩) ⟨rblind, va_recv hR.K hR.P (ci := 13) (q0 := 0) rfl (hR.at14 hR.w.1), fun U hU hW9 => rmk hU hW9 hR hex hE hFc⟩ rfl rfl hl.1 rfl (lv_room (Nat.le_of_ble_eq_true rfl)) dX14_plain_506 ⟨Nat.le_of_ble_eq_true rfl, Nat.le_of_ble_eq_true rfl⟩) hR.sS (fun q _ h => hFc q h) hFc (fun  S223 t9 H1 locs ht9 hvm9 hw9 hB9 hz9 hk9 hS => ?_)
      obtain ⟨hq224, hw9, hs9⟩ := hw9
      have hR : Rep g ad A s S223 H1 locs := hR.call ht9 hB9 hw9 hS hFc
      have hsh := hsh.tr hs9
      replace h := h  S223 hq224
      clear hB9 hz9 hk9 hvm9 ht9 hw9 hs9 hS
      generalize H1 = H at hR ⊢
      refine lv_goto (tgt := 545) hx hb dX14_plain_509 (by decide) ?_
      refine lv_iconst (v := 1) hx hb dX14_plain_545 (by decide) ?_
      exact W.zret (v := 1) hx hb hr (nz (Or.inr rfl)) (fun t9 ht9 hW9 => ⟨⟨_, S223, rfl, ⟨h, hR.w, hsh, (Or.inr rfl)⟩, ⟨by rw [ht9]; exact hR.P, hR.D⟩⟩, hR.sS.F ht9⟩) hR.sS.2.2 dX14_plain_546
  replace h := h.2 c9_178
  by_cases c9_179 : x2.toInt = 179
  · refine lv_lookup (off := 546) (tgt := 547) hx hb dX14_plain_1 (by decide) (by rw [c9_179]; decide) (by decide) ?_
    replace h := h.1 (c9_179)
    refine lv_aload_n hx hb dX14_plain_547 rfl (lv_at hl 0 rfl) ?_
    refine va_get (D := rD g) (ci := 13) (v := .ref (ad 37)) (C := RX14) (T := TX14) (N := 143) hx hb hts in2X14 hown hR.K hR.P 0 (hR.at14 hR.w.1) rfl 81 (by decide) (hts _ kx_612) (fun _ h9 => h9) (congrArg (fun z => some (vf ad z)) (hR.w.2.1 _ fin_81).1) dX14_plain_548 ?_
    refine lv_iload_n hx hb dX14_plain_551 rfl (lv_at hl 3 rfl) ?_
    refine lv_aload_n hx hb dX14_plain_552 rfl (lv_at hl 0 rfl) ?_
    refine lv_aload_n hx hb dX14_plain_553 rfl (lv_at hl 0 rfl) ?_
    obtain ⟨hv225, h⟩ := h
    have hT_b226 : qT S (qO S 0 80) = 11 := hR.w.ref hv225 hR.w.1
    refine va_get (D := rD g) (ci := 13) (v := .ref (ad (qO S 0 80))) (C := RX14) (T := TX14) (N := 143) hx hb hts in2X14 hown hR.K hR.P 0 (hR.at14 hR.w.1) rfl 80 (by decide) (hts _ kx_608) (fun _ h9 => h9) (congrArg (fun z => some (vf ad z)) hv225) dX14_plain_554 ?_
    obtain ⟨hv227, h⟩ := h
    have hT_b228 : qT S (qO S (qO S 0 80) 7) = 5 := hR.w.ref hv227 hT_b226
    refine va_get (D := rD g) (ci := 12) (v := .ref (ad (qO S (qO S 0 80) 7))) (C := RX13) (T := TX13) (N := 23) hx hb hts in2X13 hown hR.K hR.P (qO S 0 80) (hR.at13 hT_b226) rfl 7 (by decide) (hts _ kx_397) (fun _ h9 => h9) (congrArg (fun z => some (vf ad z)) hv227) dX14_plain_557 ?_
    refine lv_iload_n hx hb dX14_plain_560 rfl (lv_at hl 3 rfl) ?_
    obtain ⟨hv229, h⟩ := h
    refine va_aldq hx hb hR.K hR.P (qO S (qO S 0 80) 7) 4 (hR.atS hT_b228) rfl (k_ix (x := x3) (a := x3.toInt) rfl hv229) dX14_plain_561 ?_
    obtain ⟨hv230, h⟩ := h
    have hT_b231 : qT S (qO S (qO S (qO S 0 80) 7) x3.toInt.toNat) = 12 := hR.w.ref hv230 hT_b228
    rw [show va_rf (Option.map ad (qR S (qO S (qO S 0 80) 7) (x3 : Int32).toNatClampNeg)) = .ref (ad (qO S (qO S (qO S 0 80) 7) x3.toInt.toNat)) from congrArg (fun z => vf ad z) hv230]
    have hT_t232 : qT S 10000022 = 12 := hR.w.txt (i := 11) (by decide)
    refine va_ldcSW (tx := "J") (q := ad 10000022) hx hb hown (hE.2.2 _ ldc_711) dX14_plain_562 ?_
    have hF : ∀ q, Ns s.heap.size q → A q := fun q h => hA q (Nat.le_trans hR.sS.1 h)
    refine va_calli (va_runV (As := [.ref (ad 10000022)]) (rest := [.ref (ad 0), .int x3, .ref (ad 37)]) ⟨hx, hb, hml, hown, hts⟩ (s_equals l s.heap.size (ad (qO S (qO S (qO S 0 80) 7) x3.toInt.toNat)) (ad ((qO S (qO S (qO S 0 80) 7) x3.toInt.toNat) + 1)) (qN S ((qO S (qO S (qO S 0 80) 7) x3.toInt.toNat) + 1)) (qI S ((qO S (qO S (qO S 0 80) 7) x3.toInt.toNat) + 1)) (ad 10000022) (ad (10000022 + 1)) (qN S (10000022 + 1)) (qI S (10000022 + 1)) (hR.w.len hT_b231) (hR.w.len hT_t232)) (cwV 1 hts (gd2_V kx_539 kx_540 kx_541 kx_6 kx_542) rfl rfl rfl (by decide +kernel) ⟨Nat.le_of_ble_eq_true rfl, Nat.le_of_ble_eq_true rfl⟩) ⟨tblind (fun A u U H hv h => by exact ⟨tx1.moved hv h.1, tx1.moved hv h.2⟩), (strR hts hR hE hA hT_b231), fun U hU hW9 => ⟨rfl, by rw [hU], ⟨str_at hts hR hE hA hT_b231 hU hW9, str_at hts hR hE hA hT_t232 hU hW9⟩, by rw [hU]; exact ((hE.1.kept hR.sS.2.1).narrow hF).moved hW9.alike⟩⟩ rfl rfl hl.1 rfl (lv_room (Nat.le_of_ble_eq_true rfl)) dX14_plain_565 ⟨Nat.le_of_ble_eq_true rfl, Nat.le_of_ble_eq_true rfl⟩) hR.sS (fun q _ h => hF q h) hF (fun r233 u9 t9 H1 locs ht9 hvm9 hw9 hB9 hz9 hk9 hS => ?_)
    obtain ⟨hw9, hz_r233⟩ := sEq_of hw9
    obtain rfl : r233 = (sEq S (qO S (qO S (qO S 0 80) 7) x3.toInt.toNat) 10000022) := hw9
    have hR : Rep g ad A s S H1 locs := hR.keep hk9 hS
    clear hz9 hk9 hvm9 ht9 hB9 hF hS
    generalize H1 = H at hR ⊢
    have J_576 : ∀ (U576 : MS) (t576_0 : Int32) (t576_2 : Int32) (H : Heap) (locs : List Loc) (ls : Array Slot), w_plain_J576 Q U576 t576_0 t576_2 → shy S U576 → Rep g ad A s U576 H locs → lv_has ls 4 [] → W p l e (headSpec (wt2 yX14_plain cX14_plain 4 (some .boolean)) ({ frames := 5, cells := 0, slots := 0, locals := 116 })).room s m ([.ref (ad 0), .int x1, .int x2, .int x3] : List Value).toArray below meth c H locs 0 0 (MQ below (va_Qi (fun (r : Int32) (u : MS) => Q r u ∧ wfM u ∧ shy S u ∧ (r = 0 ∨ r = 1)) (fun (u : MS) (t : State) => qE g ad A u t) A) ([.ref (ad 0), .int x1, .int x2, .int x3] : List Value).toArray s 0 0 A) (F0 m 576 ls [.int t576_0, .ref (ad 0), .int t576_2, .ref (ad 37)]) := by
      intro U576 t576_0 t576_2 H locs ls h hsh hR hl
      unfold w_plain_J576 at h
      obtain ⟨Q234, h0, h⟩ := h
      have hFc := rfree hR hA
      refine va_calll (va_runV (As := [.int t576_0]) (rest := [.int t576_2, .ref (ad 37)]) ⟨hx, hb, hml, hown, hts⟩ (r_got l g ad H.size U576 t576_0 hR.w  Q234 h0) (cwV 1 hts (gd2_V kx_635 kx_636 kx_637 kx_177 kx_638) rfl rfl rfl (by decide +kernel) ⟨Nat.le_of_ble_eq_true rfl, Nat.le_of_ble_eq_true rfl⟩) ⟨rblind, va_recv hR.K hR.P (ci := 13) (q0 := 0) rfl (hR.at14 hR.w.1), fun U hU hW9 => rmk hU hW9 hR hex hE hFc⟩ rfl rfl hl.1 rfl (lv_room (Nat.le_of_ble_eq_true rfl)) dX14_plain_576 ⟨Nat.le_of_ble_eq_true rfl, Nat.le_of_ble_eq_true rfl⟩) hR.sS (fun q _ h => hFc q h) hFc (fun r235 S236 t9 H1 locs ht9 hvm9 hw9 hB9 hz9 hk9 hS => ?_)
      obtain ⟨hq237, hw9, hs9⟩ := hw9
      have hR : Rep g ad A s S236 H1 locs := hR.call ht9 hB9 hw9 hS hFc
      have hsh := hsh.tr hs9
      replace h := h r235 S236 hq237
      clear hB9 hz9 hk9 hvm9 ht9 hw9 hs9 hS
      generalize H1 = H at hR ⊢
      obtain ⟨hv238, h⟩ := h
      refine va_last hx hb hR.K hR.P hR.D hR.sS 37 3 (hR.atL (hR.w.2.1 _ fin_81).2.1) rfl (k_ixN (k_ix (n := 24) (x := t576_2) (a := t576_2.toInt) rfl hv238) (hR.w.2.1 _ fin_81).2.2) dX14_plain_579 (fun H locs hP hD hS => ?_)
      have hR : Rep g ad A s (wJ S236 37 t576_2.toInt.toNat r235) H locs := hR.aL (hR.w.2.1 _ fin_81).2.1 hP hD hS
      obtain ⟨S239, eS239⟩ : ∃ z, z = wJ S236 37 t576_2.toInt.toNat r235 := ⟨_, rfl⟩
      rw [← eS239] at hR
      replace h := h S239 eS239
      have hsh : shy S S239 := by rw [eS239]; exact hsh
      refine lv_iconst (v := 1) hx hb dX14_plain_580 (by decide) ?_
      exact W.zret (v := 1) hx hb hr (nz (Or.inr rfl)) (fun t9 ht9 hW9 => ⟨⟨_, S239, rfl, ⟨h, hR.w, hsh, (Or.inr rfl)⟩, ⟨by rw [ht9]; exact hR.P, hR.D⟩⟩, hR.sS.F ht9⟩) hR.sS.2.2 dX14_plain_581
    refine lv_if_eq (tgt := 575) hx hb dX14_plain_568 (by decide) (fun c240 => ?_) (fun c240 => ?_)
    · replace h := h.1 (k_eq rfl (by decide) c240)
      refine lv_iconst (v := 1) hx hb dX14_plain_575 (by decide) ?_
      exact J_576 S 1 x3 _ _ ls h  hsh hR (lv_sub hl [] rfl)
    · replace h := h.2 (k_ne rfl (by decide) c240)
      refine lv_iconst (v := 2) hx hb dX14_plain_571 (by decide) ?_
      refine lv_goto (tgt := 576) hx hb dX14_plain_572 (by decide) ?_
      exact J_576 S 2 x3 _ _ ls h  hsh hR (lv_sub hl [] rfl)
  replace h := h.2 c9_179
  refine lv_lookup (off := 581) (tgt := 582) hx hb dX14_plain_1 (by decide) (lx_cons c9_0 (lx_cons c9_1 (lx_cons c9_18 (lx_cons c9_20 (lx_cons c9_21 (lx_cons c9_22 (lx_cons c9_25 (lx_cons c9_54 (lx_cons c9_55 (lx_cons c9_58 (lx_cons c9_87 (lx_cons c9_88 (lx_cons c9_89 (lx_cons c9_90 (lx_cons c9_92 (lx_cons c9_95 (lx_cons c9_132 (lx_cons c9_133 (lx_cons c9_136 (lx_cons c9_145 (lx_cons c9_146 (lx_cons c9_147 (lx_cons c9_178 (lx_cons c9_179 lx_nil)))))))))))))))))))))))) (by decide) ?_
  refine lv_aload_n hx hb dX14_plain_582 rfl (lv_at hl 0 rfl) ?_
  refine lv_iload_n hx hb dX14_plain_583 rfl (lv_at hl 2 rfl) ?_
  obtain ⟨Q241, h0, h⟩ := h
  have hFc := rfree hR hA
  refine va_calli (va_runV (As := [.int x2]) (rest := []) ⟨hx, hb, hml, hown, hts⟩ (r_onArrays l g ad s.heap.size S x2 hR.w  Q241 h0) (cwV 1 hts (gd2_V kx_1172 kx_1173 kx_1174 kx_177 kx_1175) rfl rfl rfl (by decide +kernel) ⟨Nat.le_of_ble_eq_true rfl, Nat.le_of_ble_eq_true rfl⟩) ⟨rblind, va_recv hR.K hR.P (ci := 13) (q0 := 0) rfl (hR.at14 hR.w.1), fun U hU hW9 => rmk hU hW9 hR hex hE hFc⟩ rfl rfl hl.1 rfl (lv_room (Nat.le_of_ble_eq_true rfl)) dX14_plain_584 ⟨Nat.le_of_ble_eq_true rfl, Nat.le_of_ble_eq_true rfl⟩) hR.sS (fun q _ h => hFc q h) hFc (fun r242 S243 t9 H1 locs ht9 hvm9 hw9 hB9 hz9 hk9 hS => ?_)
  obtain ⟨hq244, hw9, hs9, hz_r242⟩ := hw9
  have hR : Rep g ad A s S243 H1 locs := hR.call ht9 hB9 hw9 hS hFc
  have hsh := hsh.tr hs9
  replace h := h r242 S243 hq244
  clear hB9 hz9 hk9 hvm9 ht9 hw9 hs9 hS
  generalize H1 = H at hR ⊢
  exact W.zret (v := r242) hx hb hr (nz hz_r242) (fun t9 ht9 hW9 => ⟨⟨_, S243, rfl, ⟨h, hR.w, hsh, hz_r242⟩, ⟨by rw [ht9]; exact hR.P, hR.D⟩⟩, hR.sS.F ht9⟩) hR.sS.2.2 dX14_plain_587
def w_pass_J65 (Q : Int32 → MS → Prop) (k32 : MS → Int32 → Int32 → Int32 → Prop) (U65 : MS) (v65_1 : Int32) (v65_2 : Int32) (v65_3 : Int32) : Prop := (∃ Q22, w_here U65 v65_3 Q22 ∧ ∀ r23 S24, Q22 r23 S24 → k32 S24 v65_1 v65_2 r23)
def w_pass_L32 (Q : Int32 → MS → Prop) : Nat → MS → Int32 → Int32 → Int32 → Prop
  | 0, _, _, _, _ => False
  | n32 + 1, U32, v32_1, v32_2, v32_3 => (((qI U32 0 129).toInt ≤ v32_3.toInt → Q v32_2 U32) ∧ (¬ (qI U32 0 129).toInt ≤ v32_3.toInt → (∃ Q10, w_apply U32 v32_1 v32_3 Q10 ∧ ∀ r11 S12, Q10 r11 S12 → ((r11.toInt = 0 → (∃ Q15, w_behind S12 v32_3 Q15 ∧ ∀ r16 S17, Q15 r16 S17 → (w_pass_L32 Q n32) S17 v32_1 v32_2 r16)) ∧ (¬ r11.toInt = 0 → (∃ Q19, w_mark S12 Q19 ∧ ∀ S20, Q19 S20 → ((v32_1.toInt < 10 → w_pass_J65 Q (w_pass_L32 Q n32) S20 v32_1 1 v32_3) ∧ (¬ v32_1.toInt < 10 → (∃ Q27, w_findLive S20 Q27 ∧ ∀ S28, Q27 S28 → w_pass_J65 Q (w_pass_L32 Q n32) S28 v32_1 1 v32_3)))))))))
def w_pass_J24 (Q : Int32 → MS → Prop) (U24 : MS) (v24_1 : Int32) : Prop := (∃ Q5, w_here U24 (0 : Int32) Q5 ∧ ∀ r6 S7, Q5 r6 S7 → (∃ n, w_pass_L32 Q n S7 v24_1 0 r6))
def w_pass (S : MS) (x1 : Int32) (Q : Int32 → MS → Prop) : Prop := (∃ Q1, w_mark S Q1 ∧ ∀ S2, Q1 S2 → ((x1.toInt = 1 → (∃ Q34, w_sweep S2 Q34 ∧ ∀ r35 S36, Q34 r35 S36 → Q r35 S36)) ∧ (¬ x1.toInt = 1 → ((x1.toInt < 10 → w_pass_J24 Q S2 x1) ∧ (¬ x1.toInt < 10 → (∃ Q31, w_findLive S2 Q31 ∧ ∀ S32, Q31 S32 → w_pass_J24 Q S32 x1))))))
set_option maxHeartbeats 2000000 in
set_option maxRecDepth 100000 in
theorem r_pass (l : Launch) (g : Gr) (ad : Nat → Nat) (sz : Nat) (S : MS) (x1 : Int32) (hw : wfM S) (Q : Int32 → MS → Prop) (h : w_pass S x1 Q) : Met l yX14_pass (wt2 yX14_pass cX14_pass 4 (some .boolean)) ({ frames := 5, cells := 0, slots := 0, locals := 117 }) (va_Pc [.ref (ad 0), .int x1] (st_R g ad sz S)) (va_Qi (fun (r : Int32) (u : MS) => Q r u ∧ wfM u ∧ shy S u ∧ (r = 0 ∨ r = 1)) (fun (u : MS) (t : State) => qE g ad (va_A (Wd g ad S) sz) u t) (va_A (Wd g ad S) sz)) 0 0 (va_A (Wd g ad S) sz) := by
  refine Met.ofW (cc := cX14_pass) (maxL := 4) (ret := (some .boolean)) (by decide) rfl ?_
  intro p e s m args below meth c s₁ B hml hv
  obtain ⟨rfl, hsz, hP, hK, hD0, hex, hE⟩ := hv
  have hx := B.exec
  have hb := B.bytes
  have hr := B.returns
  have hts0 := atoms_spec (ws := wt2 yX14_pass cX14_pass 4 (some .boolean)) B.pre
  have hts : ∀ w ∈ tb2, w.before _ s = true := fun w h => hts0 w (List.mem_cons_of_mem _ h)
  have hown : s.vm.findClass RX14 = some m.cls := findClass_of_methodNamed B.named
  subst hsz
  have hD := hD0.self (sz := s.heap.size)
  generalize hAe : va_A (Wd g ad S) s.heap.size = A at hD hE ⊢
  have hA : ∀ q : Nat, s.heap.size ≤ q → A q := fun q h => by rw [← hAe]; exact Or.inr h
  have hR : Rep g ad A s S s.heap [] := ⟨hK, hP, hD, va_S.rf, hw⟩
  clear hK hP hD hD0
  have hl := lv_entry ([.ref (ad 0), .int x1]) (n := 4) (Nat.le_of_ble_eq_true rfl)
  rw [lg_entry_eq]
  generalize (lg_sl ([.ref (ad 0), .int x1]) ++ List.replicate (4 - (lg_sl ([.ref (ad 0), .int x1])).length) Slot.unset).toArray = ls at hl ⊢
  have hl : lv_has ls 4 [(0, .ref (ad 0)), (1, .int x1)] := hl
  have hsh : shy S S := shy.rf
  unfold w_pass at h
  refine lv_aload_n hx hb dX14_pass_0 rfl (lv_at hl 0 rfl) ?_
  obtain ⟨Q1, h0, h⟩ := h
  have hFc := rfree hR hA
  refine va_callv (va_runV (As := []) (rest := []) ⟨hx, hb, hml, hown, hts⟩ (r_mark l g ad s.heap.size S hR.w  Q1 h0) (cwV 0 hts (gd2_V kx_716 kx_717 kx_718 kx_177 kx_719) rfl rfl rfl (by decide +kernel) ⟨Nat.le_of_ble_eq_true rfl, Nat.le_of_ble_eq_true rfl⟩) ⟨rblind, va_recv hR.K hR.P (ci := 13) (q0 := 0) rfl (hR.at14 hR.w.1), fun U hU hW9 => rmk hU hW9 hR hex hE hFc⟩ rfl rfl hl.1 rfl (lv_room (Nat.le_of_ble_eq_true rfl)) dX14_pass_1 ⟨Nat.le_of_ble_eq_true rfl, Nat.le_of_ble_eq_true rfl⟩) hR.sS (fun q _ h => hFc q h) hFc (fun  S2 t9 H1 locs ht9 hvm9 hw9 hB9 hz9 hk9 hS => ?_)
  obtain ⟨hq3, hw9, hs9⟩ := hw9
  have hR : Rep g ad A s S2 H1 locs := hR.call ht9 hB9 hw9 hS hFc
  have hsh := hsh.tr hs9
  replace h := h  S2 hq3
  clear hB9 hz9 hk9 hvm9 ht9 hw9 hs9 hS
  generalize H1 = H at hR ⊢
  refine lv_iload_n hx hb dX14_pass_4 rfl (lv_at hl 1 rfl) ?_
  refine lv_iconst (v := 1) hx hb dX14_pass_5 (by decide) ?_
  refine lv_icmp_ne (tgt := 14) hx hb dX14_pass_6 (by decide) (fun c4 => ?_) (fun c4 => ?_)
  · replace h := h.2 (k_ne rfl (by decide) c4)
    refine lv_iload_n hx hb dX14_pass_14 rfl (lv_at hl 1 rfl) ?_
    refine lv_bipush (v := 10) hx hb dX14_pass_15 (by decide) ?_
    have J_24 : ∀ (U24 : MS) (v24_1 : Int32) (H : Heap) (locs : List Loc) (ls : Array Slot), w_pass_J24 Q U24 v24_1 → shy S U24 → Rep g ad A s U24 H locs → lv_has ls 4 [(0, .ref (ad 0)), (1, .int v24_1)] → W p l e (headSpec (wt2 yX14_pass cX14_pass 4 (some .boolean)) ({ frames := 5, cells := 0, slots := 0, locals := 117 })).room s m ([.ref (ad 0), .int x1] : List Value).toArray below meth c H locs 0 0 (MQ below (va_Qi (fun (r : Int32) (u : MS) => Q r u ∧ wfM u ∧ shy S u ∧ (r = 0 ∨ r = 1)) (fun (u : MS) (t : State) => qE g ad A u t) A) ([.ref (ad 0), .int x1] : List Value).toArray s 0 0 A) (F0 m 24 ls []) := by
      intro U24 v24_1 H locs ls h hsh hR hl
      unfold w_pass_J24 at h
      refine lv_iconst (v := 0) hx hb dX14_pass_24 (by decide) ?_
      refine lv_istore_n (lv' := [(2, .int 0), (0, .ref (ad 0)), (1, .int v24_1)]) hx hb dX14_pass_25 rfl hl (by decide) rfl (fun ls hl => ?_)
      refine lv_aload_n hx hb dX14_pass_26 rfl (lv_at hl 1 rfl) ?_
      refine lv_iconst (v := 0) hx hb dX14_pass_27 (by decide) ?_
      obtain ⟨Q5, h0, h⟩ := h
      have hFc := rfree hR hA
      refine va_calli (va_runV (As := [.int 0]) (rest := []) ⟨hx, hb, hml, hown, hts⟩ (r_here l g ad H.size U24 (0 : Int32) hR.w  Q5 h0) (cwV 1 hts (gd2_V kx_693 kx_694 kx_695 kx_177 kx_696) rfl rfl rfl (by decide +kernel) ⟨Nat.le_of_ble_eq_true rfl, Nat.le_of_ble_eq_true rfl⟩) ⟨rblind, va_recv hR.K hR.P (ci := 13) (q0 := 0) rfl (hR.at14 hR.w.1), fun U hU hW9 => rmk hU hW9 hR hex hE hFc⟩ rfl rfl hl.1 rfl (lv_room (Nat.le_of_ble_eq_true rfl)) dX14_pass_28 ⟨Nat.le_of_ble_eq_true rfl, Nat.le_of_ble_eq_true rfl⟩) hR.sS (fun q _ h => hFc q h) hFc (fun r6 S7 t9 H1 locs ht9 hvm9 hw9 hB9 hz9 hk9 hS => ?_)
      obtain ⟨hq8, hw9, hs9⟩ := hw9
      have hR : Rep g ad A s S7 H1 locs := hR.call ht9 hB9 hw9 hS hFc
      have hsh := hsh.tr hs9
      replace h := h r6 S7 hq8
      clear hB9 hz9 hk9 hvm9 ht9 hw9 hs9 hS
      generalize H1 = H at hR ⊢
      refine lv_istore_n (lv' := [(3, .int r6), (2, .int 0), (0, .ref (ad 0)), (1, .int v24_1)]) hx hb dX14_pass_31 rfl hl (by decide) rfl (fun ls hl => ?_)
      have J_32 : ∀ (n32 : Nat) (U32 : MS) (v32_1 : Int32) (v32_2 : Int32) (v32_3 : Int32) (H : Heap) (locs : List Loc) (ls : Array Slot), w_pass_L32 Q n32 U32 v32_1 v32_2 v32_3 → (v32_2 = 0 ∨ v32_2 = 1) → shy S U32 → Rep g ad A s U32 H locs → lv_has ls 4 [(0, .ref (ad 0)), (1, .int v32_1), (2, .int v32_2), (3, .int v32_3)] → W p l e (headSpec (wt2 yX14_pass cX14_pass 4 (some .boolean)) ({ frames := 5, cells := 0, slots := 0, locals := 117 })).room s m ([.ref (ad 0), .int x1] : List Value).toArray below meth c H locs 0 0 (MQ below (va_Qi (fun (r : Int32) (u : MS) => Q r u ∧ wfM u ∧ shy S u ∧ (r = 0 ∨ r = 1)) (fun (u : MS) (t : State) => qE g ad A u t) A) ([.ref (ad 0), .int x1] : List Value).toArray s 0 0 A) (F0 m 32 ls []) := by
        intro n32
        induction n32 with
        | zero => intro U32 v32_1 v32_2 v32_3 H locs ls h hz_v32_2 hsh hR hl; unfold w_pass_L32 at h; exact h.elim
        | succ n32 ih_32 =>
          intro U32 v32_1 v32_2 v32_3 H locs ls h hz_v32_2 hsh hR hl
          unfold w_pass_L32 at h
          refine lv_iload_n hx hb dX14_pass_32 rfl (lv_at hl 3 rfl) ?_
          refine lv_aload_n hx hb dX14_pass_33 rfl (lv_at hl 0 rfl) ?_
          refine va_get (D := rD g) (ci := 13) (v := .int (qI U32 0 129)) (C := RX14) (T := TX14) (N := 143) hx hb hts in2X14 hown hR.K hR.P 0 (hR.at14 hR.w.1) rfl 129 (by decide) (hts _ kx_691) (fun _ h9 => h9) rfl dX14_pass_34 ?_
          refine lv_icmp_ge (tgt := 83) hx hb dX14_pass_37 (by decide) (fun c9 => ?_) (fun c9 => ?_)
          · replace h := h.1 (k_le rfl rfl c9)
            refine lv_iload_n hx hb dX14_pass_83 rfl (lv_at hl 2 rfl) ?_
            exact W.zret (v := v32_2) hx hb hr (nz hz_v32_2) (fun t9 ht9 hW9 => ⟨⟨_, U32, rfl, ⟨h, hR.w, hsh, hz_v32_2⟩, ⟨by rw [ht9]; exact hR.P, hR.D⟩⟩, hR.sS.F ht9⟩) hR.sS.2.2 dX14_pass_84
          · replace h := h.2 (k_nle rfl rfl c9)
            refine lv_aload_n hx hb dX14_pass_40 rfl (lv_at hl 0 rfl) ?_
            refine lv_iload_n hx hb dX14_pass_41 rfl (lv_at hl 1 rfl) ?_
            refine lv_iload_n hx hb dX14_pass_42 rfl (lv_at hl 3 rfl) ?_
            obtain ⟨Q10, h0, h⟩ := h
            have hFc := rfree hR hA
            refine va_calli (va_runV (As := [.int v32_1, .int v32_3]) (rest := []) ⟨hx, hb, hml, hown, hts⟩ (r_apply l g ad H.size U32 v32_1 v32_3 hR.w  Q10 h0) (cwV 2 hts (gd2_V kx_1176 kx_1177 kx_1178 kx_177 kx_1179) rfl rfl rfl (by decide +kernel) ⟨Nat.le_of_ble_eq_true rfl, Nat.le_of_ble_eq_true rfl⟩) ⟨rblind, va_recv hR.K hR.P (ci := 13) (q0 := 0) rfl (hR.at14 hR.w.1), fun U hU hW9 => rmk hU hW9 hR hex hE hFc⟩ rfl rfl hl.1 rfl (lv_room (Nat.le_of_ble_eq_true rfl)) dX14_pass_43 ⟨Nat.le_of_ble_eq_true rfl, Nat.le_of_ble_eq_true rfl⟩) hR.sS (fun q _ h => hFc q h) hFc (fun r11 S12 t9 H1 locs ht9 hvm9 hw9 hB9 hz9 hk9 hS => ?_)
            obtain ⟨hq13, hw9, hs9, hz_r11⟩ := hw9
            have hR : Rep g ad A s S12 H1 locs := hR.call ht9 hB9 hw9 hS hFc
            have hsh := hsh.tr hs9
            replace h := h r11 S12 hq13
            clear hB9 hz9 hk9 hvm9 ht9 hw9 hs9 hS
            generalize H1 = H at hR ⊢
            refine lv_if_eq (tgt := 74) hx hb dX14_pass_46 (by decide) (fun c14 => ?_) (fun c14 => ?_)
            · replace h := h.1 (k_eq rfl (by decide) c14)
              refine lv_aload_n hx hb dX14_pass_74 rfl (lv_at hl 0 rfl) ?_
              refine lv_iload_n hx hb dX14_pass_75 rfl (lv_at hl 3 rfl) ?_
              obtain ⟨Q15, h0, h⟩ := h
              have hFc := rfree hR hA
              refine va_calli (va_runV (As := [.int v32_3]) (rest := []) ⟨hx, hb, hml, hown, hts⟩ (r_behind l g ad H.size S12 v32_3 hR.w  Q15 h0) (cwV 1 hts (gd2_V kx_724 kx_725 kx_726 kx_177 kx_727) rfl rfl rfl (by decide +kernel) ⟨Nat.le_of_ble_eq_true rfl, Nat.le_of_ble_eq_true rfl⟩) ⟨rblind, va_recv hR.K hR.P (ci := 13) (q0 := 0) rfl (hR.at14 hR.w.1), fun U hU hW9 => rmk hU hW9 hR hex hE hFc⟩ rfl rfl hl.1 rfl (lv_room (Nat.le_of_ble_eq_true rfl)) dX14_pass_76 ⟨Nat.le_of_ble_eq_true rfl, Nat.le_of_ble_eq_true rfl⟩) hR.sS (fun q _ h => hFc q h) hFc (fun r16 S17 t9 H1 locs ht9 hvm9 hw9 hB9 hz9 hk9 hS => ?_)
              obtain ⟨hq18, hw9, hs9⟩ := hw9
              have hR : Rep g ad A s S17 H1 locs := hR.call ht9 hB9 hw9 hS hFc
              have hsh := hsh.tr hs9
              replace h := h r16 S17 hq18
              clear hB9 hz9 hk9 hvm9 ht9 hw9 hs9 hS
              generalize H1 = H at hR ⊢
              refine lv_istore_n (lv' := [(3, .int r16), (0, .ref (ad 0)), (1, .int v32_1), (2, .int v32_2)]) hx hb dX14_pass_79 rfl hl (by decide) rfl (fun ls hl => ?_)
              refine lv_goto (tgt := 32) hx hb dX14_pass_80 (by decide) ?_
              exact ih_32 S17 v32_1 v32_2 r16 _ _ ls h hz_v32_2 hsh hR (lv_sub hl [1, 2, 3, 0] rfl)
            · replace h := h.2 (k_ne rfl (by decide) c14)
              refine lv_iconst (v := 1) hx hb dX14_pass_49 (by decide) ?_
              refine lv_istore_n (lv' := [(2, .int 1), (0, .ref (ad 0)), (1, .int v32_1), (3, .int v32_3)]) hx hb dX14_pass_50 rfl hl (by decide) rfl (fun ls hl => ?_)
              refine lv_aload_n hx hb dX14_pass_51 rfl (lv_at hl 1 rfl) ?_
              obtain ⟨Q19, h0, h⟩ := h
              have hFc := rfree hR hA
              refine va_callv (va_runV (As := []) (rest := []) ⟨hx, hb, hml, hown, hts⟩ (r_mark l g ad H.size S12 hR.w  Q19 h0) (cwV 0 hts (gd2_V kx_716 kx_717 kx_718 kx_177 kx_719) rfl rfl rfl (by decide +kernel) ⟨Nat.le_of_ble_eq_true rfl, Nat.le_of_ble_eq_true rfl⟩) ⟨rblind, va_recv hR.K hR.P (ci := 13) (q0 := 0) rfl (hR.at14 hR.w.1), fun U hU hW9 => rmk hU hW9 hR hex hE hFc⟩ rfl rfl hl.1 rfl (lv_room (Nat.le_of_ble_eq_true rfl)) dX14_pass_52 ⟨Nat.le_of_ble_eq_true rfl, Nat.le_of_ble_eq_true rfl⟩) hR.sS (fun q _ h => hFc q h) hFc (fun  S20 t9 H1 locs ht9 hvm9 hw9 hB9 hz9 hk9 hS => ?_)
              obtain ⟨hq21, hw9, hs9⟩ := hw9
              have hR : Rep g ad A s S20 H1 locs := hR.call ht9 hB9 hw9 hS hFc
              have hsh := hsh.tr hs9
              replace h := h  S20 hq21
              clear hB9 hz9 hk9 hvm9 ht9 hw9 hs9 hS
              generalize H1 = H at hR ⊢
              refine lv_iload_n hx hb dX14_pass_55 rfl (lv_at hl 2 rfl) ?_
              refine lv_bipush (v := 10) hx hb dX14_pass_56 (by decide) ?_
              have J_65 : ∀ (U65 : MS) (v65_1 : Int32) (v65_2 : Int32) (v65_3 : Int32) (H : Heap) (locs : List Loc) (ls : Array Slot), w_pass_J65 Q (w_pass_L32 Q n32) U65 v65_1 v65_2 v65_3 → (v65_2 = 0 ∨ v65_2 = 1) → shy S U65 → Rep g ad A s U65 H locs → lv_has ls 4 [(0, .ref (ad 0)), (1, .int v65_1), (2, .int v65_2), (3, .int v65_3)] → W p l e (headSpec (wt2 yX14_pass cX14_pass 4 (some .boolean)) ({ frames := 5, cells := 0, slots := 0, locals := 117 })).room s m ([.ref (ad 0), .int x1] : List Value).toArray below meth c H locs 0 0 (MQ below (va_Qi (fun (r : Int32) (u : MS) => Q r u ∧ wfM u ∧ shy S u ∧ (r = 0 ∨ r = 1)) (fun (u : MS) (t : State) => qE g ad A u t) A) ([.ref (ad 0), .int x1] : List Value).toArray s 0 0 A) (F0 m 65 ls []) := by
                intro U65 v65_1 v65_2 v65_3 H locs ls h hz_v65_2 hsh hR hl
                unfold w_pass_J65 at h
                refine lv_aload_n hx hb dX14_pass_65 rfl (lv_at hl 0 rfl) ?_
                refine lv_iload_n hx hb dX14_pass_66 rfl (lv_at hl 3 rfl) ?_
                obtain ⟨Q22, h0, h⟩ := h
                have hFc := rfree hR hA
                refine va_calli (va_runV (As := [.int v65_3]) (rest := []) ⟨hx, hb, hml, hown, hts⟩ (r_here l g ad H.size U65 v65_3 hR.w  Q22 h0) (cwV 1 hts (gd2_V kx_693 kx_694 kx_695 kx_177 kx_696) rfl rfl rfl (by decide +kernel) ⟨Nat.le_of_ble_eq_true rfl, Nat.le_of_ble_eq_true rfl⟩) ⟨rblind, va_recv hR.K hR.P (ci := 13) (q0 := 0) rfl (hR.at14 hR.w.1), fun U hU hW9 => rmk hU hW9 hR hex hE hFc⟩ rfl rfl hl.1 rfl (lv_room (Nat.le_of_ble_eq_true rfl)) dX14_pass_67 ⟨Nat.le_of_ble_eq_true rfl, Nat.le_of_ble_eq_true rfl⟩) hR.sS (fun q _ h => hFc q h) hFc (fun r23 S24 t9 H1 locs ht9 hvm9 hw9 hB9 hz9 hk9 hS => ?_)
                obtain ⟨hq25, hw9, hs9⟩ := hw9
                have hR : Rep g ad A s S24 H1 locs := hR.call ht9 hB9 hw9 hS hFc
                have hsh := hsh.tr hs9
                replace h := h r23 S24 hq25
                clear hB9 hz9 hk9 hvm9 ht9 hw9 hs9 hS
                generalize H1 = H at hR ⊢
                refine lv_istore_n (lv' := [(3, .int r23), (0, .ref (ad 0)), (1, .int v65_1), (2, .int v65_2)]) hx hb dX14_pass_70 rfl hl (by decide) rfl (fun ls hl => ?_)
                refine lv_goto (tgt := 32) hx hb dX14_pass_71 (by decide) ?_
                exact ih_32 S24 v65_1 v65_2 r23 _ _ ls h hz_v65_2 hsh hR (lv_sub hl [1, 2, 3, 0] rfl)
              refine lv_icmp_lt (tgt := 65) hx hb dX14_pass_58 (by decide) (fun c26 => ?_) (fun c26 => ?_)
              · replace h := h.1 (k_lt rfl (by decide) c26)
                exact J_65 S20 v32_1 1 v32_3 _ _ ls h (Or.inr rfl) hsh hR (lv_sub hl [1, 2, 0, 3] rfl)
              · replace h := h.2 (k_nlt rfl (by decide) c26)
                refine lv_aload_n hx hb dX14_pass_61 rfl (lv_at hl 1 rfl) ?_
                obtain ⟨Q27, h0, h⟩ := h
                have hFc := rfree hR hA
                refine va_callv (va_runV (As := []) (rest := []) ⟨hx, hb, hml, hown, hts⟩ (r_findLive l g ad H.size S20 hR.w  Q27 h0) (cwV 0 hts (gd2_V kx_1180 kx_1181 kx_1182 kx_177 kx_1183) rfl rfl rfl (by decide +kernel) ⟨Nat.le_of_ble_eq_true rfl, Nat.le_of_ble_eq_true rfl⟩) ⟨rblind, va_recv hR.K hR.P (ci := 13) (q0 := 0) rfl (hR.at14 hR.w.1), fun U hU hW9 => rmk hU hW9 hR hex hE hFc⟩ rfl rfl hl.1 rfl (lv_room (Nat.le_of_ble_eq_true rfl)) dX14_pass_62 ⟨Nat.le_of_ble_eq_true rfl, Nat.le_of_ble_eq_true rfl⟩) hR.sS (fun q _ h => hFc q h) hFc (fun  S28 t9 H1 locs ht9 hvm9 hw9 hB9 hz9 hk9 hS => ?_)
                obtain ⟨hq29, hw9, hs9⟩ := hw9
                have hR : Rep g ad A s S28 H1 locs := hR.call ht9 hB9 hw9 hS hFc
                have hsh := hsh.tr hs9
                replace h := h  S28 hq29
                clear hB9 hz9 hk9 hvm9 ht9 hw9 hs9 hS
                generalize H1 = H at hR ⊢
                exact J_65 S28 v32_1 1 v32_3 _ _ ls h (Or.inr rfl) hsh hR (lv_sub hl [1, 2, 0, 3] rfl)
      obtain ⟨n9, h⟩ := h
      exact J_32 n9 S7 v24_1 0 r6 _ _ ls h (Or.inl rfl) hsh hR (lv_sub hl [2, 3, 1, 0] rfl)
    refine lv_icmp_lt (tgt := 24) hx hb dX14_pass_17 (by decide) (fun c30 => ?_) (fun c30 => ?_)
    · replace h := h.1 (k_lt rfl (by decide) c30)
      exact J_24 S2 x1 _ _ ls h  hsh hR (lv_sub hl [0, 1] rfl)
    · replace h := h.2 (k_nlt rfl (by decide) c30)
      refine lv_aload_n hx hb dX14_pass_20 rfl (lv_at hl 0 rfl) ?_
      obtain ⟨Q31, h0, h⟩ := h
      have hFc := rfree hR hA
      refine va_callv (va_runV (As := []) (rest := []) ⟨hx, hb, hml, hown, hts⟩ (r_findLive l g ad H.size S2 hR.w  Q31 h0) (cwV 0 hts (gd2_V kx_1180 kx_1181 kx_1182 kx_177 kx_1183) rfl rfl rfl (by decide +kernel) ⟨Nat.le_of_ble_eq_true rfl, Nat.le_of_ble_eq_true rfl⟩) ⟨rblind, va_recv hR.K hR.P (ci := 13) (q0 := 0) rfl (hR.at14 hR.w.1), fun U hU hW9 => rmk hU hW9 hR hex hE hFc⟩ rfl rfl hl.1 rfl (lv_room (Nat.le_of_ble_eq_true rfl)) dX14_pass_21 ⟨Nat.le_of_ble_eq_true rfl, Nat.le_of_ble_eq_true rfl⟩) hR.sS (fun q _ h => hFc q h) hFc (fun  S32 t9 H1 locs ht9 hvm9 hw9 hB9 hz9 hk9 hS => ?_)
      obtain ⟨hq33, hw9, hs9⟩ := hw9
      have hR : Rep g ad A s S32 H1 locs := hR.call ht9 hB9 hw9 hS hFc
      have hsh := hsh.tr hs9
      replace h := h  S32 hq33
      clear hB9 hz9 hk9 hvm9 ht9 hw9 hs9 hS
      generalize H1 = H at hR ⊢
      exact J_24 S32 x1 _ _ ls h  hsh hR (lv_sub hl [0, 1] rfl)
  · replace h := h.1 (k_eq rfl (by decide) c4)
    refine lv_aload_n hx hb dX14_pass_9 rfl (lv_at hl 0 rfl) ?_
    obtain ⟨Q34, h0, h⟩ := h
    have hFc := rfree hR hA
    refine va_calli (va_runV (As := []) (rest := []) ⟨hx, hb, hml, hown, hts⟩ (r_sweep l g ad H.size S2 hR.w  Q34 h0) (cwV 0 hts (gd2_V kx_1184 kx_1185 kx_1186 kx_177 kx_1187) rfl rfl rfl (by decide +kernel) ⟨Nat.le_of_ble_eq_true rfl, Nat.le_of_ble_eq_true rfl⟩) ⟨rblind, va_recv hR.K hR.P (ci := 13) (q0 := 0) rfl (hR.at14 hR.w.1), fun U hU hW9 => rmk hU hW9 hR hex hE hFc⟩ rfl rfl hl.1 rfl (lv_room (Nat.le_of_ble_eq_true rfl)) dX14_pass_10 ⟨Nat.le_of_ble_eq_true rfl, Nat.le_of_ble_eq_true rfl⟩) hR.sS (fun q _ h => hFc q h) hFc (fun r35 S36 t9 H1 locs ht9 hvm9 hw9 hB9 hz9 hk9 hS => ?_)
    obtain ⟨hq37, hw9, hs9, hz_r35⟩ := hw9
    have hR : Rep g ad A s S36 H1 locs := hR.call ht9 hB9 hw9 hS hFc
    have hsh := hsh.tr hs9
    replace h := h r35 S36 hq37
    clear hB9 hz9 hk9 hvm9 ht9 hw9 hs9 hS
    generalize H1 = H at hR ⊢
    exact W.zret (v := r35) hx hb hr (nz hz_r35) (fun t9 ht9 hW9 => ⟨⟨_, S36, rfl, ⟨h, hR.w, hsh, hz_r35⟩, ⟨by rw [ht9]; exact hR.P, hR.D⟩⟩, hR.sS.F ht9⟩) hR.sS.2.2 dX14_pass_13
def w_step_J85 (Q : MS → Prop) (U85 : MS) (v85_1 : Int32) (v85_2 : Int32) : Prop := (∃ Q28, w_workOne U85 v85_2 Q28 ∧ ∀ r29 S30, Q28 r29 S30 → ((r29.toInt = 0 → Q S30) ∧ (¬ r29.toInt = 0 → (∃ Q34, w_goTo S30 (v85_1 + (1 : Int32)) Q34 ∧ ∀ S35, Q34 S35 → Q S35))))
def w_step_J154 (Q : MS → Prop) (U154 : MS) (v154_2 : Int32) : Prop := (∃ Q42, w_leave U154 v154_2 Q42 ∧ ∀ S43, Q42 S43 → Q S43)
def w_step_J78 (Q : MS → Prop) (U78 : MS) (v78_1 : Int32) (v78_2 : Int32) (v78_3 : Int32) : Prop := ((v78_2.toInt = 148 → w_step_J85 Q U78 v78_1 v78_2) ∧ (¬ v78_2.toInt = 148 → (d_isSwitch U78 v78_2 ∧ (((f_isSwitch U78 v78_2).toInt = 0 → ((v78_2.toInt = 172 → w_step_J154 Q U78 v78_2) ∧ (¬ v78_2.toInt = 172 → ((v78_2.toInt = 173 → w_step_J154 Q U78 v78_2) ∧ (¬ v78_2.toInt = 173 → ((v78_2.toInt = 176 → w_step_J154 Q U78 v78_2) ∧ (¬ v78_2.toInt = 176 → ((v78_2.toInt = 177 → w_step_J154 Q U78 v78_2) ∧ (¬ v78_2.toInt = 177 → ((v78_2.toInt = 184 → (∃ Q59, w_called U78 v78_3 Q59 ∧ ∀ S60, Q59 S60 → Q S60)) ∧ (¬ v78_2.toInt = 184 → (∃ Q50, w_plain U78 v78_1 v78_2 v78_3 Q50 ∧ ∀ r51 S52, Q50 r51 S52 → ((r51.toInt = 0 → Q S52) ∧ (¬ r51.toInt = 0 → (∃ Q56, w_goTo S52 (v78_1 + (1 : Int32)) Q56 ∧ ∀ S57, Q56 S57 → Q S57))))))))))))))) ∧ (¬ (f_isSwitch U78 v78_2).toInt = 0 → (∃ Q62, w_gotInt U78 Q62 ∧ ∀ r63 S64, Q62 r63 S64 → (∃ Q66, w_chosen S64 v78_1 r63 Q66 ∧ ∀ r67 S68, Q66 r67 S68 → (∃ Q70, w_goTo S68 r67 Q70 ∧ ∀ S71, Q70 S71 → Q S71))))))))
def w_step (S : MS) (Q : MS → Prop) : Prop := ((qR S 0 80 = some (qO S 0 80)) ∧ (((0 : Int) ≤ ((qI S 0 97) - (1 : Int32)).toInt ∧ ((qI S 0 97) - (1 : Int32)).toInt < 60) ∧ (∃ Q6, w_look S (qO S 0 80) (qI S 42 ((((qI S 0 97) - (1 : Int32)).toInt).toNat)) Q6 ∧ ∀ S7, Q6 S7 → (((0 : Int) ≤ ((qI S7 0 97) - (1 : Int32)).toInt ∧ ((qI S7 0 97) - (1 : Int32)).toInt < 60) ∧ (∀ a12 : Int32, a12 = (qI S7 43 ((((qI S7 0 97) - (1 : Int32)).toInt).toNat)) → (∃ Q13, w_watch S7 a12 Q13 ∧ ∀ S14, Q13 S14 → (d_op S14 a12 ∧ (∀ a19 : Int32, a19 = (f_op S14 a12) → (d_first S14 a12 ∧ (∀ a23 : Int32, a23 = (f_first S14 a12) → (d_isJump S14 a19 ∧ (((f_isJump S14 a19).toInt = 0 → ((a19.toInt < 96 → w_step_J78 Q S14 a12 a19 a23) ∧ (¬ a19.toInt < 96 → ((a19.toInt ≤ 131 → w_step_J85 Q S14 a12 a19) ∧ (¬ a19.toInt ≤ 131 → w_step_J78 Q S14 a12 a19 a23))))) ∧ (¬ (f_isJump S14 a19).toInt = 0 → (∃ Q75, w_jump S14 a12 a19 a23 Q75 ∧ ∀ S76, Q75 S76 → Q S76))))))))))))))
set_option maxHeartbeats 2000000 in
set_option maxRecDepth 100000 in
theorem r_step (l : Launch) (g : Gr) (ad : Nat → Nat) (sz : Nat) (S : MS) (hw : wfM S) (Q : MS → Prop) (h : w_step S Q) : Met l yX14_step (wt2 yX14_step cX14_step 4 none) ({ frames := 6, cells := 0, slots := 0, locals := 139 }) (va_Pc [.ref (ad 0)] (st_R g ad sz S)) (va_Qv (fun (u : MS) => Q u ∧ wfM u ∧ shy S u) (fun (u : MS) (t : State) => qE g ad (va_A (Wd g ad S) sz) u t) (va_A (Wd g ad S) sz)) 0 0 (va_A (Wd g ad S) sz) := by
  refine Met.ofW (cc := cX14_step) (maxL := 4) (ret := none) (by decide) rfl ?_
  intro p e s m args below meth c s₁ B hml hv
  obtain ⟨rfl, hsz, hP, hK, hD0, hex, hE⟩ := hv
  have hx := B.exec
  have hb := B.bytes
  have hr := B.returns
  have hts0 := atoms_spec (ws := wt2 yX14_step cX14_step 4 none) B.pre
  have hts : ∀ w ∈ tb2, w.before _ s = true := fun w h => hts0 w (List.mem_cons_of_mem _ h)
  have hown : s.vm.findClass RX14 = some m.cls := findClass_of_methodNamed B.named
  subst hsz
  have hD := hD0.self (sz := s.heap.size)
  generalize hAe : va_A (Wd g ad S) s.heap.size = A at hD hE ⊢
  have hA : ∀ q : Nat, s.heap.size ≤ q → A q := fun q h => by rw [← hAe]; exact Or.inr h
  have hR : Rep g ad A s S s.heap [] := ⟨hK, hP, hD, va_S.rf, hw⟩
  clear hK hP hD hD0
  have hl := lv_entry ([.ref (ad 0)]) (n := 4) (Nat.le_of_ble_eq_true rfl)
  rw [lg_entry_eq]
  generalize (lg_sl ([.ref (ad 0)]) ++ List.replicate (4 - (lg_sl ([.ref (ad 0)])).length) Slot.unset).toArray = ls at hl ⊢
  have hl : lv_has ls 4 [(0, .ref (ad 0))] := hl
  have hsh : shy S S := shy.rf
  unfold w_step at h
  refine lv_aload_n hx hb dX14_step_0 rfl (lv_at hl 0 rfl) ?_
  refine lv_aload_n hx hb dX14_step_1 rfl (lv_at hl 0 rfl) ?_
  obtain ⟨hv1, h⟩ := h
  have hT_b2 : qT S (qO S 0 80) = 11 := hR.w.ref hv1 hR.w.1
  refine va_get (D := rD g) (ci := 13) (v := .ref (ad (qO S 0 80))) (C := RX14) (T := TX14) (N := 143) hx hb hts in2X14 hown hR.K hR.P 0 (hR.at14 hR.w.1) rfl 80 (by decide) (hts _ kx_608) (fun _ h9 => h9) (congrArg (fun z => some (vf ad z)) hv1) dX14_step_2 ?_
  refine lv_aload_n hx hb dX14_step_5 rfl (lv_at hl 0 rfl) ?_
  refine va_get (D := rD g) (ci := 13) (v := .ref (ad 42)) (C := RX14) (T := TX14) (N := 143) hx hb hts in2X14 hown hR.K hR.P 0 (hR.at14 hR.w.1) rfl 89 (by decide) (hts _ kx_621) (fun _ h9 => h9) (congrArg (fun z => some (vf ad z)) (hR.w.2.1 _ fin_89).1) dX14_step_6 ?_
  refine lv_aload_n hx hb dX14_step_9 rfl (lv_at hl 0 rfl) ?_
  refine va_get (D := rD g) (ci := 13) (v := .int (qI S 0 97)) (C := RX14) (T := TX14) (N := 143) hx hb hts in2X14 hown hR.K hR.P 0 (hR.at14 hR.w.1) rfl 97 (by decide) (hts _ kx_616) (fun _ h9 => h9) rfl dX14_step_10 ?_
  refine lv_iconst (v := 1) hx hb dX14_step_13 (by decide) ?_
  refine lv_isub hx hb dX14_step_14 ?_
  refine lv_topi (fun z3 ez3 => ?_)
  obtain rfl : z3 = ((qI S 0 97) - (1 : Int32)) := ez3
  obtain ⟨hv4, h⟩ := h
  refine va_iald hx hb hR.K hR.P 42 1 (hR.atI (hR.w.2.1 _ fin_89).2.1) rfl (k_ixN (k_ix (n := 60) (x := ((qI S 0 97) - (1 : Int32))) (a := ((qI S 0 97) - (1 : Int32)).toInt) rfl hv4) (hR.w.2.1 _ fin_89).2.2) dX14_step_15 ?_
  refine lv_topi (fun z5 ez5 => ?_)
  obtain rfl : z5 = (qI S 42 ((((qI S 0 97) - (1 : Int32)).toInt).toNat)) := ez5
  obtain ⟨Q6, h0, h⟩ := h
  have hFc := rfree hR hA
  refine va_callv (va_runV (As := [.ref (ad (qO S 0 80)), .int (qI S 42 ((((qI S 0 97) - (1 : Int32)).toInt).toNat))]) (rest := []) ⟨hx, hb, hml, hown, hts⟩ (r_look l g ad s.heap.size S (qO S 0 80) (qI S 42 ((((qI S 0 97) - (1 : Int32)).toInt).toNat)) hR.w hT_b2 Q6 h0) (cwV 2 hts (gd2_V kx_498 kx_499 kx_500 kx_177 kx_501) rfl rfl rfl (by decide +kernel) ⟨Nat.le_of_ble_eq_true rfl, Nat.le_of_ble_eq_true rfl⟩) ⟨rblind, va_recv hR.K hR.P (ci := 13) (q0 := 0) rfl (hR.at14 hR.w.1), fun U hU hW9 => rmk hU hW9 hR hex hE hFc⟩ rfl rfl hl.1 rfl (lv_room (Nat.le_of_ble_eq_true rfl)) dX14_step_16 ⟨Nat.le_of_ble_eq_true rfl, Nat.le_of_ble_eq_true rfl⟩) hR.sS (fun q _ h => hFc q h) hFc (fun  S7 t9 H1 locs ht9 hvm9 hw9 hB9 hz9 hk9 hS => ?_)
  obtain ⟨hq8, hw9, hs9⟩ := hw9
  have hR : Rep g ad A s S7 H1 locs := hR.call ht9 hB9 hw9 hS hFc
  have hsh := hsh.tr hs9
  replace h := h  S7 hq8
  clear hB9 hz9 hk9 hvm9 ht9 hw9 hs9 hS
  generalize H1 = H at hR ⊢
  refine lv_aload_n hx hb dX14_step_19 rfl (lv_at hl 0 rfl) ?_
  refine va_get (D := rD g) (ci := 13) (v := .ref (ad 43)) (C := RX14) (T := TX14) (N := 143) hx hb hts in2X14 hown hR.K hR.P 0 (hR.at14 hR.w.1) rfl 90 (by decide) (hts _ kx_622) (fun _ h9 => h9) (congrArg (fun z => some (vf ad z)) (hR.w.2.1 _ fin_90).1) dX14_step_20 ?_
  refine lv_aload_n hx hb dX14_step_23 rfl (lv_at hl 0 rfl) ?_
  refine va_get (D := rD g) (ci := 13) (v := .int (qI S7 0 97)) (C := RX14) (T := TX14) (N := 143) hx hb hts in2X14 hown hR.K hR.P 0 (hR.at14 hR.w.1) rfl 97 (by decide) (hts _ kx_616) (fun _ h9 => h9) rfl dX14_step_24 ?_
  refine lv_iconst (v := 1) hx hb dX14_step_27 (by decide) ?_
  refine lv_isub hx hb dX14_step_28 ?_
  refine lv_topi (fun z9 ez9 => ?_)
  obtain rfl : z9 = ((qI S7 0 97) - (1 : Int32)) := ez9
  obtain ⟨hv10, h⟩ := h
  refine va_iald hx hb hR.K hR.P 43 1 (hR.atI (hR.w.2.1 _ fin_90).2.1) rfl (k_ixN (k_ix (n := 60) (x := ((qI S7 0 97) - (1 : Int32))) (a := ((qI S7 0 97) - (1 : Int32)).toInt) rfl hv10) (hR.w.2.1 _ fin_90).2.2) dX14_step_29 ?_
  refine lv_topi (fun z11 ez11 => ?_)
  obtain rfl : z11 = (qI S7 43 ((((qI S7 0 97) - (1 : Int32)).toInt).toNat)) := ez11
  obtain ⟨a12, ea12⟩ : ∃ z, z = (qI S7 43 ((((qI S7 0 97) - (1 : Int32)).toInt).toNat)) := ⟨_, rfl⟩
  rw [← ea12]
  replace h := h a12 ea12
  refine lv_istore_n (lv' := [(1, .int a12), (0, .ref (ad 0))]) hx hb dX14_step_30 rfl hl (by decide) rfl (fun ls hl => ?_)
  refine lv_aload_n hx hb dX14_step_31 rfl (lv_at hl 1 rfl) ?_
  refine lv_iload_n hx hb dX14_step_32 rfl (lv_at hl 0 rfl) ?_
  obtain ⟨Q13, h0, h⟩ := h
  have hFc := rfree hR hA
  refine va_callv (va_runV (As := [.int a12]) (rest := []) ⟨hx, hb, hml, hown, hts⟩ (r_watch l g ad H.size S7 a12 hR.w  Q13 h0) (cwV 1 hts (gd2_V kx_1101 kx_1102 kx_1103 kx_177 kx_1104) rfl rfl rfl (by decide +kernel) ⟨Nat.le_of_ble_eq_true rfl, Nat.le_of_ble_eq_true rfl⟩) ⟨rblind, va_recv hR.K hR.P (ci := 13) (q0 := 0) rfl (hR.at14 hR.w.1), fun U hU hW9 => rmk hU hW9 hR hex hE hFc⟩ rfl rfl hl.1 rfl (lv_room (Nat.le_of_ble_eq_true rfl)) dX14_step_33 ⟨Nat.le_of_ble_eq_true rfl, Nat.le_of_ble_eq_true rfl⟩) hR.sS (fun q _ h => hFc q h) hFc (fun  S14 t9 H1 locs ht9 hvm9 hw9 hB9 hz9 hk9 hS => ?_)
  obtain ⟨hq15, hw9, hs9⟩ := hw9
  have hR : Rep g ad A s S14 H1 locs := hR.call ht9 hB9 hw9 hS hFc
  have hsh := hsh.tr hs9
  replace h := h  S14 hq15
  clear hB9 hz9 hk9 hvm9 ht9 hw9 hs9 hS
  generalize H1 = H at hR ⊢
  refine lv_aload_n hx hb dX14_step_36 rfl (lv_at hl 1 rfl) ?_
  refine lv_iload_n hx hb dX14_step_37 rfl (lv_at hl 0 rfl) ?_
  obtain ⟨hv16, h⟩ := h
  have hFc := rfree hR hA
  refine va_calli (va_runV (As := [.int a12]) (rest := []) ⟨hx, hb, hml, hown, hts⟩ (r_op l g ad H.size S14 a12 hR.w  hv16) (cwV 1 hts (gd2_V kx_379 kx_380 kx_381 kx_177 kx_382) rfl rfl rfl (by decide +kernel) ⟨Nat.le_of_ble_eq_true rfl, Nat.le_of_ble_eq_true rfl⟩) ⟨rblind, va_recv hR.K hR.P (ci := 13) (q0 := 0) rfl (hR.at14 hR.w.1), fun U hU hW9 => rmk hU hW9 hR hex hE hFc⟩ rfl rfl hl.1 rfl (lv_room (Nat.le_of_ble_eq_true rfl)) dX14_step_38 ⟨Nat.le_of_ble_eq_true rfl, Nat.le_of_ble_eq_true rfl⟩) hR.sS (fun q _ h => hFc q h) hFc (fun r17 u9 t9 H1 locs ht9 hvm9 hw9 hB9 hz9 hk9 hS => ?_)
  have hR : Rep g ad A s S14 H1 locs := hR.call ht9 hB9 hR.w hS hFc
  obtain rfl : r17 = (f_op S14 a12) := hw9
  clear hB9 hz9 hk9 hvm9 ht9 hS
  generalize H1 = H at hR ⊢
  obtain ⟨a19, ea19⟩ : ∃ z, z = (f_op S14 a12) := ⟨_, rfl⟩
  rw [← ea19]
  replace h := h a19 ea19
  refine lv_istore_n (lv' := [(2, .int a19), (1, .int a12), (0, .ref (ad 0))]) hx hb dX14_step_41 rfl hl (by decide) rfl (fun ls hl => ?_)
  refine lv_aload_n hx hb dX14_step_42 rfl (lv_at hl 2 rfl) ?_
  refine lv_iload_n hx hb dX14_step_43 rfl (lv_at hl 1 rfl) ?_
  obtain ⟨hv20, h⟩ := h
  have hFc := rfree hR hA
  refine va_calli (va_runV (As := [.int a12]) (rest := []) ⟨hx, hb, hml, hown, hts⟩ (r_first l g ad H.size S14 a12 hR.w  hv20) (cwV 1 hts (gd2_V kx_393 kx_394 kx_395 kx_177 kx_396) rfl rfl rfl (by decide +kernel) ⟨Nat.le_of_ble_eq_true rfl, Nat.le_of_ble_eq_true rfl⟩) ⟨rblind, va_recv hR.K hR.P (ci := 13) (q0 := 0) rfl (hR.at14 hR.w.1), fun U hU hW9 => rmk hU hW9 hR hex hE hFc⟩ rfl rfl hl.1 rfl (lv_room (Nat.le_of_ble_eq_true rfl)) dX14_step_44 ⟨Nat.le_of_ble_eq_true rfl, Nat.le_of_ble_eq_true rfl⟩) hR.sS (fun q _ h => hFc q h) hFc (fun r21 u9 t9 H1 locs ht9 hvm9 hw9 hB9 hz9 hk9 hS => ?_)
  have hR : Rep g ad A s S14 H1 locs := hR.call ht9 hB9 hR.w hS hFc
  obtain rfl : r21 = (f_first S14 a12) := hw9
  clear hB9 hz9 hk9 hvm9 ht9 hS
  generalize H1 = H at hR ⊢
  obtain ⟨a23, ea23⟩ : ∃ z, z = (f_first S14 a12) := ⟨_, rfl⟩
  rw [← ea23]
  replace h := h a23 ea23
  refine lv_istore_n (lv' := [(3, .int a23), (2, .int a19), (1, .int a12), (0, .ref (ad 0))]) hx hb dX14_step_47 rfl hl (by decide) rfl (fun ls hl => ?_)
  refine lv_iload_n hx hb dX14_step_48 rfl (lv_at hl 1 rfl) ?_
  obtain ⟨hv24, h⟩ := h
  have hFc := rfree hR hA
  refine va_calli (va_runS (As := [.int a19]) (rest := []) ⟨hx, hb, hml, hown, hts⟩ (r_isJump l g ad H.size S14 a19 hR.w  hv24) (va_cwS 1 hts (gd2_S kx_383 kx_384 kx_177 kx_385) rfl rfl rfl (by decide +kernel) ⟨Nat.le_of_ble_eq_true rfl, Nat.le_of_ble_eq_true rfl⟩) ⟨rblind, fun U hU hW9 => rmk hU hW9 hR hex hE hFc⟩ rfl rfl hl.1 rfl (lv_room (Nat.le_of_ble_eq_true rfl)) dX14_step_49 ⟨Nat.le_of_ble_eq_true rfl, Nat.le_of_ble_eq_true rfl⟩) hR.sS (fun q _ h => hFc q h) hFc (fun r25 u9 t9 H1 locs ht9 hvm9 hw9 hB9 hz9 hk9 hS => ?_)
  have hR : Rep g ad A s S14 H1 locs := hR.call ht9 hB9 hR.w hS hFc
  obtain ⟨rfl, hz_r25⟩ := hw9
  clear hB9 hz9 hk9 hvm9 ht9 hS
  generalize H1 = H at hR ⊢
  refine lv_if_eq (tgt := 65) hx hb dX14_step_52 (by decide) (fun c27 => ?_) (fun c27 => ?_)
  · replace h := h.1 (k_eq rfl (by decide) c27)
    refine lv_iload_n hx hb dX14_step_65 rfl (lv_at hl 1 rfl) ?_
    refine lv_bipush (v := 96) hx hb dX14_step_66 (by decide) ?_
    have J_85 : ∀ (U85 : MS) (v85_1 : Int32) (v85_2 : Int32) (H : Heap) (locs : List Loc) (ls : Array Slot), w_step_J85 Q U85 v85_1 v85_2 → shy S U85 → Rep g ad A s U85 H locs → lv_has ls 4 [(0, .ref (ad 0)), (1, .int v85_1), (2, .int v85_2)] → W p l e (headSpec (wt2 yX14_step cX14_step 4 none) ({ frames := 6, cells := 0, slots := 0, locals := 139 })).room s m ([.ref (ad 0)] : List Value).toArray below meth c H locs 0 0 (MQ below (va_Qv (fun (u : MS) => Q u ∧ wfM u ∧ shy S u) (fun (u : MS) (t : State) => qE g ad A u t) A) ([.ref (ad 0)] : List Value).toArray s 0 0 A) (F0 m 85 ls []) := by
      intro U85 v85_1 v85_2 H locs ls h hsh hR hl
      unfold w_step_J85 at h
      refine lv_aload_n hx hb dX14_step_85 rfl (lv_at hl 0 rfl) ?_
      refine lv_iload_n hx hb dX14_step_86 rfl (lv_at hl 2 rfl) ?_
      obtain ⟨Q28, h0, h⟩ := h
      have hFc := rfree hR hA
      refine va_calli (va_runV (As := [.int v85_2]) (rest := []) ⟨hx, hb, hml, hown, hts⟩ (r_workOne l g ad H.size U85 v85_2 hR.w  Q28 h0) (cwV 1 hts (gd2_V kx_1105 kx_1106 kx_1107 kx_177 kx_1108) rfl rfl rfl (by decide +kernel) ⟨Nat.le_of_ble_eq_true rfl, Nat.le_of_ble_eq_true rfl⟩) ⟨rblind, va_recv hR.K hR.P (ci := 13) (q0 := 0) rfl (hR.at14 hR.w.1), fun U hU hW9 => rmk hU hW9 hR hex hE hFc⟩ rfl rfl hl.1 rfl (lv_room (Nat.le_of_ble_eq_true rfl)) dX14_step_87 ⟨Nat.le_of_ble_eq_true rfl, Nat.le_of_ble_eq_true rfl⟩) hR.sS (fun q _ h => hFc q h) hFc (fun r29 S30 t9 H1 locs ht9 hvm9 hw9 hB9 hz9 hk9 hS => ?_)
      obtain ⟨hq31, hw9, hs9, hz_r29⟩ := hw9
      have hR : Rep g ad A s S30 H1 locs := hR.call ht9 hB9 hw9 hS hFc
      have hsh := hsh.tr hs9
      replace h := h r29 S30 hq31
      clear hB9 hz9 hk9 hvm9 ht9 hw9 hs9 hS
      generalize H1 = H at hR ⊢
      refine lv_if_eq (tgt := 194) hx hb dX14_step_90 (by decide) (fun c32 => ?_) (fun c32 => ?_)
      · replace h := h.1 (k_eq rfl (by decide) c32)
        exact W.vret hx hb hr (fun t9 ht9 hW9 => ⟨⟨S30, rfl, ⟨h, hR.w, hsh⟩, ⟨by rw [ht9]; exact hR.P, hR.D⟩⟩, hR.sS.F ht9⟩) hR.sS.2.2 dX14_step_194
      · replace h := h.2 (k_ne rfl (by decide) c32)
        refine lv_aload_n hx hb dX14_step_93 rfl (lv_at hl 0 rfl) ?_
        refine lv_iload_n hx hb dX14_step_94 rfl (lv_at hl 1 rfl) ?_
        refine lv_iconst (v := 1) hx hb dX14_step_95 (by decide) ?_
        refine lv_iadd hx hb dX14_step_96 ?_
        refine lv_topi (fun z33 ez33 => ?_)
        obtain rfl : z33 = (v85_1 + (1 : Int32)) := ez33
        obtain ⟨Q34, h0, h⟩ := h
        have hFc := rfree hR hA
        refine va_callv (va_runV (As := [.int (v85_1 + (1 : Int32))]) (rest := []) ⟨hx, hb, hml, hown, hts⟩ (r_goTo l g ad H.size S30 (v85_1 + (1 : Int32)) hR.w  Q34 h0) (cwV 1 hts (gd2_V kx_644 kx_645 kx_646 kx_177 kx_647) rfl rfl rfl (by decide +kernel) ⟨Nat.le_of_ble_eq_true rfl, Nat.le_of_ble_eq_true rfl⟩) ⟨rblind, va_recv hR.K hR.P (ci := 13) (q0 := 0) rfl (hR.at14 hR.w.1), fun U hU hW9 => rmk hU hW9 hR hex hE hFc⟩ rfl rfl hl.1 rfl (lv_room (Nat.le_of_ble_eq_true rfl)) dX14_step_97 ⟨Nat.le_of_ble_eq_true rfl, Nat.le_of_ble_eq_true rfl⟩) hR.sS (fun q _ h => hFc q h) hFc (fun  S35 t9 H1 locs ht9 hvm9 hw9 hB9 hz9 hk9 hS => ?_)
        obtain ⟨hq36, hw9, hs9⟩ := hw9
        have hR : Rep g ad A s S35 H1 locs := hR.call ht9 hB9 hw9 hS hFc
        have hsh := hsh.tr hs9
        replace h := h  S35 hq36
        clear hB9 hz9 hk9 hvm9 ht9 hw9 hs9 hS
        generalize H1 = H at hR ⊢
        refine lv_goto (tgt := 194) hx hb dX14_step_100 (by decide) ?_
        exact W.vret hx hb hr (fun t9 ht9 hW9 => ⟨⟨S35, rfl, ⟨h, hR.w, hsh⟩, ⟨by rw [ht9]; exact hR.P, hR.D⟩⟩, hR.sS.F ht9⟩) hR.sS.2.2 dX14_step_194
    have J_78 : ∀ (U78 : MS) (v78_1 : Int32) (v78_2 : Int32) (v78_3 : Int32) (H : Heap) (locs : List Loc) (ls : Array Slot), w_step_J78 Q U78 v78_1 v78_2 v78_3 → shy S U78 → Rep g ad A s U78 H locs → lv_has ls 4 [(0, .ref (ad 0)), (1, .int v78_1), (2, .int v78_2), (3, .int v78_3)] → W p l e (headSpec (wt2 yX14_step cX14_step 4 none) ({ frames := 6, cells := 0, slots := 0, locals := 139 })).room s m ([.ref (ad 0)] : List Value).toArray below meth c H locs 0 0 (MQ below (va_Qv (fun (u : MS) => Q u ∧ wfM u ∧ shy S u) (fun (u : MS) (t : State) => qE g ad A u t) A) ([.ref (ad 0)] : List Value).toArray s 0 0 A) (F0 m 78 ls []) := by
      intro U78 v78_1 v78_2 v78_3 H locs ls h hsh hR hl
      unfold w_step_J78 at h
      refine lv_iload_n hx hb dX14_step_78 rfl (lv_at hl 2 rfl) ?_
      refine lv_sipush (v := 148) hx hb dX14_step_79 (by decide) ?_
      refine lv_icmp_ne (tgt := 103) hx hb dX14_step_82 (by decide) (fun c37 => ?_) (fun c37 => ?_)
      · replace h := h.2 (k_ne rfl (by decide) c37)
        refine lv_iload_n hx hb dX14_step_103 rfl (lv_at hl 2 rfl) ?_
        obtain ⟨hv38, h⟩ := h
        have hFc := rfree hR hA
        refine va_calli (va_runS (As := [.int v78_2]) (rest := []) ⟨hx, hb, hml, hown, hts⟩ (r_isSwitch l g ad H.size U78 v78_2 hR.w  hv38) (va_cwS 1 hts (gd2_S kx_386 kx_387 kx_177 kx_388) rfl rfl rfl (by decide +kernel) ⟨Nat.le_of_ble_eq_true rfl, Nat.le_of_ble_eq_true rfl⟩) ⟨rblind, fun U hU hW9 => rmk hU hW9 hR hex hE hFc⟩ rfl rfl hl.1 rfl (lv_room (Nat.le_of_ble_eq_true rfl)) dX14_step_104 ⟨Nat.le_of_ble_eq_true rfl, Nat.le_of_ble_eq_true rfl⟩) hR.sS (fun q _ h => hFc q h) hFc (fun r39 u9 t9 H1 locs ht9 hvm9 hw9 hB9 hz9 hk9 hS => ?_)
        have hR : Rep g ad A s U78 H1 locs := hR.call ht9 hB9 hR.w hS hFc
        obtain ⟨rfl, hz_r39⟩ := hw9
        clear hB9 hz9 hk9 hvm9 ht9 hS
        generalize H1 = H at hR ⊢
        refine lv_if_eq (tgt := 126) hx hb dX14_step_107 (by decide) (fun c41 => ?_) (fun c41 => ?_)
        · replace h := h.1 (k_eq rfl (by decide) c41)
          refine lv_iload_n hx hb dX14_step_126 rfl (lv_at hl 2 rfl) ?_
          refine lv_sipush (v := 172) hx hb dX14_step_127 (by decide) ?_
          have J_154 : ∀ (U154 : MS) (v154_2 : Int32) (H : Heap) (locs : List Loc) (ls : Array Slot), w_step_J154 Q U154 v154_2 → shy S U154 → Rep g ad A s U154 H locs → lv_has ls 4 [(0, .ref (ad 0)), (2, .int v154_2)] → W p l e (headSpec (wt2 yX14_step cX14_step 4 none) ({ frames := 6, cells := 0, slots := 0, locals := 139 })).room s m ([.ref (ad 0)] : List Value).toArray below meth c H locs 0 0 (MQ below (va_Qv (fun (u : MS) => Q u ∧ wfM u ∧ shy S u) (fun (u : MS) (t : State) => qE g ad A u t) A) ([.ref (ad 0)] : List Value).toArray s 0 0 A) (F0 m 154 ls []) := by
            intro U154 v154_2 H locs ls h hsh hR hl
            unfold w_step_J154 at h
            refine lv_aload_n hx hb dX14_step_154 rfl (lv_at hl 0 rfl) ?_
            refine lv_iload_n hx hb dX14_step_155 rfl (lv_at hl 1 rfl) ?_
            obtain ⟨Q42, h0, h⟩ := h
            have hFc := rfree hR hA
            refine va_callv (va_runV (As := [.int v154_2]) (rest := []) ⟨hx, hb, hml, hown, hts⟩ (r_leave l g ad H.size U154 v154_2 hR.w  Q42 h0) (cwV 1 hts (gd2_V kx_1109 kx_1110 kx_1111 kx_177 kx_1112) rfl rfl rfl (by decide +kernel) ⟨Nat.le_of_ble_eq_true rfl, Nat.le_of_ble_eq_true rfl⟩) ⟨rblind, va_recv hR.K hR.P (ci := 13) (q0 := 0) rfl (hR.at14 hR.w.1), fun U hU hW9 => rmk hU hW9 hR hex hE hFc⟩ rfl rfl hl.1 rfl (lv_room (Nat.le_of_ble_eq_true rfl)) dX14_step_156 ⟨Nat.le_of_ble_eq_true rfl, Nat.le_of_ble_eq_true rfl⟩) hR.sS (fun q _ h => hFc q h) hFc (fun  S43 t9 H1 locs ht9 hvm9 hw9 hB9 hz9 hk9 hS => ?_)
            obtain ⟨hq44, hw9, hs9⟩ := hw9
            have hR : Rep g ad A s S43 H1 locs := hR.call ht9 hB9 hw9 hS hFc
            have hsh := hsh.tr hs9
            replace h := h  S43 hq44
            clear hB9 hz9 hk9 hvm9 ht9 hw9 hs9 hS
            generalize H1 = H at hR ⊢
            refine lv_goto (tgt := 194) hx hb dX14_step_159 (by decide) ?_
            exact W.vret hx hb hr (fun t9 ht9 hW9 => ⟨⟨S43, rfl, ⟨h, hR.w, hsh⟩, ⟨by rw [ht9]; exact hR.P, hR.D⟩⟩, hR.sS.F ht9⟩) hR.sS.2.2 dX14_step_194
          refine lv_icmp_eq (tgt := 154) hx hb dX14_step_130 (by decide) (fun c45 => ?_) (fun c45 => ?_)
          · replace h := h.1 (k_eq rfl (by decide) c45)
            exact J_154 U78 v78_2 _ _ ls h  hsh hR (lv_sub hl [0, 2] rfl)
          · replace h := h.2 (k_ne rfl (by decide) c45)
            refine lv_iload_n hx hb dX14_step_133 rfl (lv_at hl 2 rfl) ?_
            refine lv_sipush (v := 173) hx hb dX14_step_134 (by decide) ?_
            refine lv_icmp_eq (tgt := 154) hx hb dX14_step_137 (by decide) (fun c46 => ?_) (fun c46 => ?_)
            · replace h := h.1 (k_eq rfl (by decide) c46)
              exact J_154 U78 v78_2 _ _ ls h  hsh hR (lv_sub hl [0, 2] rfl)
            · replace h := h.2 (k_ne rfl (by decide) c46)
              refine lv_iload_n hx hb dX14_step_140 rfl (lv_at hl 2 rfl) ?_
              refine lv_sipush (v := 176) hx hb dX14_step_141 (by decide) ?_
              refine lv_icmp_eq (tgt := 154) hx hb dX14_step_144 (by decide) (fun c47 => ?_) (fun c47 => ?_)
              · replace h := h.1 (k_eq rfl (by decide) c47)
                exact J_154 U78 v78_2 _ _ ls h  hsh hR (lv_sub hl [0, 2] rfl)
              · replace h := h.2 (k_ne rfl (by decide) c47)
                refine lv_iload_n hx hb dX14_step_147 rfl (lv_at hl 2 rfl) ?_
                refine lv_sipush (v := 177) hx hb dX14_step_148 (by decide) ?_
                refine lv_icmp_ne (tgt := 162) hx hb dX14_step_151 (by decide) (fun c48 => ?_) (fun c48 => ?_)
                · replace h := h.2 (k_ne rfl (by decide) c48)
                  refine lv_iload_n hx hb dX14_step_162 rfl (lv_at hl 2 rfl) ?_
                  refine lv_sipush (v := 184) hx hb dX14_step_163 (by decide) ?_
                  refine lv_icmp_ne (tgt := 177) hx hb dX14_step_166 (by decide) (fun c49 => ?_) (fun c49 => ?_)
                  · replace h := h.2 (k_ne rfl (by decide) c49)
                    refine lv_aload_n hx hb dX14_step_177 rfl (lv_at hl 0 rfl) ?_
                    refine lv_iload_n hx hb dX14_step_178 rfl (lv_at hl 1 rfl) ?_
                    refine lv_iload_n hx hb dX14_step_179 rfl (lv_at hl 2 rfl) ?_
                    refine lv_iload_n hx hb dX14_step_180 rfl (lv_at hl 3 rfl) ?_
                    obtain ⟨Q50, h0, h⟩ := h
                    have hFc := rfree hR hA
                    refine va_calli (va_runV (As := [.int v78_1, .int v78_2, .int v78_3]) (rest := []) ⟨hx, hb, hml, hown, hts⟩ (r_plain l g ad H.size U78 v78_1 v78_2 v78_3 hR.w  Q50 h0) (cwV 3 hts (gd2_V kx_1188 kx_1189 kx_1190 kx_177 kx_1191) rfl rfl rfl (by decide +kernel) ⟨Nat.le_of_ble_eq_true rfl, Nat.le_of_ble_eq_true rfl⟩) ⟨rblind, va_recv hR.K hR.P (ci := 13) (q0 := 0) rfl (hR.at14 hR.w.1), fun U hU hW9 => rmk hU hW9 hR hex hE hFc⟩ rfl rfl hl.1 rfl (lv_room (Nat.le_of_ble_eq_true rfl)) dX14_step_181 ⟨Nat.le_of_ble_eq_true rfl, Nat.le_of_ble_eq_true rfl⟩) hR.sS (fun q _ h => hFc q h) hFc (fun r51 S52 t9 H1 locs ht9 hvm9 hw9 hB9 hz9 hk9 hS => ?_)
                    obtain ⟨hq53, hw9, hs9, hz_r51⟩ := hw9
                    have hR : Rep g ad A s S52 H1 locs := hR.call ht9 hB9 hw9 hS hFc
                    have hsh := hsh.tr hs9
                    replace h := h r51 S52 hq53
                    clear hB9 hz9 hk9 hvm9 ht9 hw9 hs9 hS
                    generalize H1 = H at hR ⊢
                    refine lv_if_eq (tgt := 194) hx hb dX14_step_184 (by decide) (fun c54 => ?_) (fun c54 => ?_)
                    · replace h := h.1 (k_eq rfl (by decide) c54)
                      exact W.vret hx hb hr (fun t9 ht9 hW9 => ⟨⟨S52, rfl, ⟨h, hR.w, hsh⟩, ⟨by rw [ht9]; exact hR.P, hR.D⟩⟩, hR.sS.F ht9⟩) hR.sS.2.2 dX14_step_194
                    · replace h := h.2 (k_ne rfl (by decide) c54)
                      refine lv_aload_n hx hb dX14_step_187 rfl (lv_at hl 0 rfl) ?_
                      refine lv_iload_n hx hb dX14_step_188 rfl (lv_at hl 1 rfl) ?_
                      refine lv_iconst (v := 1) hx hb dX14_step_189 (by decide) ?_
                      refine lv_iadd hx hb dX14_step_190 ?_
                      refine lv_topi (fun z55 ez55 => ?_)
                      obtain rfl : z55 = (v78_1 + (1 : Int32)) := ez55
                      obtain ⟨Q56, h0, h⟩ := h
                      have hFc := rfree hR hA
                      refine va_callv (va_runV (As := [.int (v78_1 + (1 : Int32))]) (rest := []) ⟨hx, hb, hml, hown, hts⟩ (r_goTo l g ad H.size S52 (v78_1 + (1 : Int32)) hR.w  Q56 h0) (cwV 1 hts (gd2_V kx_644 kx_645 kx_646 kx_177 kx_647) rfl rfl rfl (by decide +kernel) ⟨Nat.le_of_ble_eq_true rfl, Nat.le_of_ble_eq_true rfl⟩) ⟨rblind, va_recv hR.K hR.P (ci := 13) (q0 := 0) rfl (hR.at14 hR.w.1), fun U hU hW9 => rmk hU hW9 hR hex hE hFc⟩ rfl rfl hl.1 rfl (lv_room (Nat.le_of_ble_eq_true rfl)) dX14_step_191 ⟨Nat.le_of_ble_eq_true rfl, Nat.le_of_ble_eq_true rfl⟩) hR.sS (fun q _ h => hFc q h) hFc (fun  S57 t9 H1 locs ht9 hvm9 hw9 hB9 hz9 hk9 hS => ?_)
                      obtain ⟨hq58, hw9, hs9⟩ := hw9
                      have hR : Rep g ad A s S57 H1 locs := hR.call ht9 hB9 hw9 hS hFc
                      have hsh := hsh.tr hs9
                      replace h := h  S57 hq58
                      clear hB9 hz9 hk9 hvm9 ht9 hw9 hs9 hS
                      generalize H1 = H at hR ⊢
                      exact W.vret hx hb hr (fun t9 ht9 hW9 => ⟨⟨S57, rfl, ⟨h, hR.w, hsh⟩, ⟨by rw [ht9]; exact hR.P, hR.D⟩⟩, hR.sS.F ht9⟩) hR.sS.2.2 dX14_step_194
                  · replace h := h.1 (k_eq rfl (by decide) c49)
                    refine lv_aload_n hx hb dX14_step_169 rfl (lv_at hl 0 rfl) ?_
                    refine lv_iload_n hx hb dX14_step_170 rfl (lv_at hl 3 rfl) ?_
                    obtain ⟨Q59, h0, h⟩ := h
                    have hFc := rfree hR hA
                    refine va_callv (va_runV (As := [.int v78_3]) (rest := []) ⟨hx, hb, hml, hown, hts⟩ (r_called l g ad H.size U78 v78_3 hR.w  Q59 h0) (cwV 1 hts (gd2_V kx_1192 kx_1193 kx_1194 kx_177 kx_1195) rfl rfl rfl (by decide +kernel) ⟨Nat.le_of_ble_eq_true rfl, Nat.le_of_ble_eq_true rfl⟩) ⟨rblind, va_recv hR.K hR.P (ci := 13) (q0 := 0) rfl (hR.at14 hR.w.1), fun U hU hW9 => rmk hU hW9 hR hex hE hFc⟩ rfl rfl hl.1 rfl (lv_room (Nat.le_of_ble_eq_true rfl)) dX14_step_171 ⟨Nat.le_of_ble_eq_true rfl, Nat.le_of_ble_eq_true rfl⟩) hR.sS (fun q _ h => hFc q h) hFc (fun  S60 t9 H1 locs ht9 hvm9 hw9 hB9 hz9 hk9 hS => ?_)
                    obtain ⟨hq61, hw9, hs9⟩ := hw9
                    have hR : Rep g ad A s S60 H1 locs := hR.call ht9 hB9 hw9 hS hFc
                    have hsh := hsh.tr hs9
                    replace h := h  S60 hq61
                    clear hB9 hz9 hk9 hvm9 ht9 hw9 hs9 hS
                    generalize H1 = H at hR ⊢
                    refine lv_goto (tgt := 194) hx hb dX14_step_174 (by decide) ?_
                    exact W.vret hx hb hr (fun t9 ht9 hW9 => ⟨⟨S60, rfl, ⟨h, hR.w, hsh⟩, ⟨by rw [ht9]; exact hR.P, hR.D⟩⟩, hR.sS.F ht9⟩) hR.sS.2.2 dX14_step_194
                · replace h := h.1 (k_eq rfl (by decide) c48)
                  exact J_154 U78 v78_2 _ _ ls h  hsh hR (lv_sub hl [0, 2] rfl)
        · replace h := h.2 (k_ne rfl (by decide) c41)
          refine lv_aload_n hx hb dX14_step_110 rfl (lv_at hl 0 rfl) ?_
          refine lv_aload_n hx hb dX14_step_111 rfl (lv_at hl 0 rfl) ?_
          refine lv_iload_n hx hb dX14_step_112 rfl (lv_at hl 1 rfl) ?_
          refine lv_aload_n hx hb dX14_step_113 rfl (lv_at hl 0 rfl) ?_
          obtain ⟨Q62, h0, h⟩ := h
          have hFc := rfree hR hA
          refine va_calli (va_runV (As := []) (rest := [.int v78_1, .ref (ad 0), .ref (ad 0)]) ⟨hx, hb, hml, hown, hts⟩ (r_gotInt l g ad H.size U78 hR.w  Q62 h0) (cwV 0 hts (gd2_V kx_648 kx_649 kx_650 kx_177 kx_651) rfl rfl rfl (by decide +kernel) ⟨Nat.le_of_ble_eq_true rfl, Nat.le_of_ble_eq_true rfl⟩) ⟨rblind, va_recv hR.K hR.P (ci := 13) (q0 := 0) rfl (hR.at14 hR.w.1), fun U hU hW9 => rmk hU hW9 hR hex hE hFc⟩ rfl rfl hl.1 rfl (lv_room (Nat.le_of_ble_eq_true rfl)) dX14_step_114 ⟨Nat.le_of_ble_eq_true rfl, Nat.le_of_ble_eq_true rfl⟩) hR.sS (fun q _ h => hFc q h) hFc (fun r63 S64 t9 H1 locs ht9 hvm9 hw9 hB9 hz9 hk9 hS => ?_)
          obtain ⟨hq65, hw9, hs9⟩ := hw9
          have hR : Rep g ad A s S64 H1 locs := hR.call ht9 hB9 hw9 hS hFc
          have hsh := hsh.tr hs9
          replace h := h r63 S64 hq65
          clear hB9 hz9 hk9 hvm9 ht9 hw9 hs9 hS
          generalize H1 = H at hR ⊢
          obtain ⟨Q66, h0, h⟩ := h
          have hFc := rfree hR hA
          refine va_calli (va_runV (As := [.int v78_1, .int r63]) (rest := [.ref (ad 0)]) ⟨hx, hb, hml, hown, hts⟩ (r_chosen l g ad H.size S64 v78_1 r63 hR.w  Q66 h0) (cwV 2 hts (gd2_V kx_1196 kx_1197 kx_1198 kx_177 kx_1199) rfl rfl rfl (by decide +kernel) ⟨Nat.le_of_ble_eq_true rfl, Nat.le_of_ble_eq_true rfl⟩) ⟨rblind, va_recv hR.K hR.P (ci := 13) (q0 := 0) rfl (hR.at14 hR.w.1), fun U hU hW9 => rmk hU hW9 hR hex hE hFc⟩ rfl rfl hl.1 rfl (lv_room (Nat.le_of_ble_eq_true rfl)) dX14_step_117 ⟨Nat.le_of_ble_eq_true rfl, Nat.le_of_ble_eq_true rfl⟩) hR.sS (fun q _ h => hFc q h) hFc (fun r67 S68 t9 H1 locs ht9 hvm9 hw9 hB9 hz9 hk9 hS => ?_)
          obtain ⟨hq69, hw9, hs9⟩ := hw9
          have hR : Rep g ad A s S68 H1 locs := hR.call ht9 hB9 hw9 hS hFc
          have hsh := hsh.tr hs9
          replace h := h r67 S68 hq69
          clear hB9 hz9 hk9 hvm9 ht9 hw9 hs9 hS
          generalize H1 = H at hR ⊢
          obtain ⟨Q70, h0, h⟩ := h
          have hFc := rfree hR hA
          refine va_callv (va_runV (As := [.int r67]) (rest := []) ⟨hx, hb, hml, hown, hts⟩ (r_goTo l g ad H.size S68 r67 hR.w  Q70 h0) (cwV 1 hts (gd2_V kx_644 kx_645 kx_646 kx_177 kx_647) rfl rfl rfl (by decide +kernel) ⟨Nat.le_of_ble_eq_true rfl, Nat.le_of_ble_eq_true rfl⟩) ⟨rblind, va_recv hR.K hR.P (ci := 13) (q0 := 0) rfl (hR.at14 hR.w.1), fun U hU hW9 => rmk hU hW9 hR hex hE hFc⟩ rfl rfl hl.1 rfl (lv_room (Nat.le_of_ble_eq_true rfl)) dX14_step_120 ⟨Nat.le_of_ble_eq_true rfl, Nat.le_of_ble_eq_true rfl⟩) hR.sS (fun q _ h => hFc q h) hFc (fun  S71 t9 H1 locs ht9 hvm9 hw9 hB9 hz9 hk9 hS => ?_)
          obtain ⟨hq72, hw9, hs9⟩ := hw9
          have hR : Rep g ad A s S71 H1 locs := hR.call ht9 hB9 hw9 hS hFc
          have hsh := hsh.tr hs9
          replace h := h  S71 hq72
          clear hB9 hz9 hk9 hvm9 ht9 hw9 hs9 hS
          generalize H1 = H at hR ⊢
          refine lv_goto (tgt := 194) hx hb dX14_step_123 (by decide) ?_
          exact W.vret hx hb hr (fun t9 ht9 hW9 => ⟨⟨S71, rfl, ⟨h, hR.w, hsh⟩, ⟨by rw [ht9]; exact hR.P, hR.D⟩⟩, hR.sS.F ht9⟩) hR.sS.2.2 dX14_step_194
      · replace h := h.1 (k_eq rfl (by decide) c37)
        exact J_85 U78 v78_1 v78_2 _ _ ls h  hsh hR (lv_sub hl [0, 1, 2] rfl)
    refine lv_icmp_lt (tgt := 78) hx hb dX14_step_68 (by decide) (fun c73 => ?_) (fun c73 => ?_)
    · replace h := h.1 (k_lt rfl (by decide) c73)
      exact J_78 S14 a12 a19 a23 _ _ ls h  hsh hR (lv_sub hl [3, 2, 1, 0] rfl)
    · replace h := h.2 (k_nlt rfl (by decide) c73)
      refine lv_iload_n hx hb dX14_step_71 rfl (lv_at hl 1 rfl) ?_
      refine lv_sipush (v := 131) hx hb dX14_step_72 (by decide) ?_
      refine lv_icmp_le (tgt := 85) hx hb dX14_step_75 (by decide) (fun c74 => ?_) (fun c74 => ?_)
      · replace h := h.1 (k_le rfl (by decide) c74)
        exact J_85 S14 a12 a19 _ _ ls h  hsh hR (lv_sub hl [3, 2, 1] rfl)
      · replace h := h.2 (k_nle rfl (by decide) c74)
        exact J_78 S14 a12 a19 a23 _ _ ls h  hsh hR (lv_sub hl [3, 2, 1, 0] rfl)
  · replace h := h.2 (k_ne rfl (by decide) c27)
    refine lv_aload_n hx hb dX14_step_55 rfl (lv_at hl 3 rfl) ?_
    refine lv_iload_n hx hb dX14_step_56 rfl (lv_at hl 2 rfl) ?_
    refine lv_iload_n hx hb dX14_step_57 rfl (lv_at hl 1 rfl) ?_
    refine lv_iload_n hx hb dX14_step_58 rfl (lv_at hl 0 rfl) ?_
    obtain ⟨Q75, h0, h⟩ := h
    have hFc := rfree hR hA
    refine va_callv (va_runV (As := [.int a12, .int a19, .int a23]) (rest := []) ⟨hx, hb, hml, hown, hts⟩ (r_jump l g ad H.size S14 a12 a19 a23 hR.w  Q75 h0) (cwV 3 hts (gd2_V kx_1200 kx_1201 kx_1202 kx_177 kx_1203) rfl rfl rfl (by decide +kernel) ⟨Nat.le_of_ble_eq_true rfl, Nat.le_of_ble_eq_true rfl⟩) ⟨rblind, va_recv hR.K hR.P (ci := 13) (q0 := 0) rfl (hR.at14 hR.w.1), fun U hU hW9 => rmk hU hW9 hR hex hE hFc⟩ rfl rfl hl.1 rfl (lv_room (Nat.le_of_ble_eq_true rfl)) dX14_step_59 ⟨Nat.le_of_ble_eq_true rfl, Nat.le_of_ble_eq_true rfl⟩) hR.sS (fun q _ h => hFc q h) hFc (fun  S76 t9 H1 locs ht9 hvm9 hw9 hB9 hz9 hk9 hS => ?_)
    obtain ⟨hq77, hw9, hs9⟩ := hw9
    have hR : Rep g ad A s S76 H1 locs := hR.call ht9 hB9 hw9 hS hFc
    have hsh := hsh.tr hs9
    replace h := h  S76 hq77
    clear hB9 hz9 hk9 hvm9 ht9 hw9 hs9 hS
    generalize H1 = H at hR ⊢
    refine lv_goto (tgt := 194) hx hb dX14_step_62 (by decide) ?_
    exact W.vret hx hb hr (fun t9 ht9 hW9 => ⟨⟨S76, rfl, ⟨h, hR.w, hsh⟩, ⟨by rw [ht9]; exact hR.P, hR.D⟩⟩, hR.sS.F ht9⟩) hR.sS.2.2 dX14_step_194
def w_rounds_J57 (Q : MS → Prop) (k19 : MS → Int32 → Int32 → Int32 → Int32 → Prop) (U57 : MS) (v57_1 : Int32) (v57_2 : Int32) (v57_3 : Int32) (v57_4 : Int32) : Prop := (∀ a8 : Int32, a8 = (v57_4 + Int32.ofInt 1) → k19 U57 v57_1 v57_2 v57_3 a8)
def w_rounds_J56 (Q : MS → Prop) (k19 : MS → Int32 → Int32 → Int32 → Int32 → Prop) (U56 : MS) (t56_0 : Int32) (v56_1 : Int32) (v56_3 : Int32) (v56_4 : Int32) : Prop := w_rounds_J57 Q k19 U56 v56_1 t56_0 v56_3 v56_4
def w_rounds_J51 (Q : MS → Prop) (k19 : MS → Int32 → Int32 → Int32 → Int32 → Prop) (U51 : MS) (v51_1 : Int32) (v51_3 : Int32) (v51_4 : Int32) : Prop := w_rounds_J56 Q k19 U51 1 v51_1 v51_3 v51_4
def w_rounds_L19 (Q : MS → Prop) (k4 : MS → Int32 → Int32 → Int32 → Prop) : Nat → MS → Int32 → Int32 → Int32 → Int32 → Prop
  | 0, _, _, _, _, _ => False
  | n19 + 1, U19, v19_1, v19_2, v19_3, v19_4 => ((11 < v19_4.toInt → (∀ a4 : Int32, a4 = (v19_3 + Int32.ofInt 1) → k4 U19 v19_1 v19_2 a4)) ∧ (¬ 11 < v19_4.toInt → ((((v19_1 >>> ((v19_4 - (1 : Int32)) &&& 31)) &&& (1 : Int32)).toInt = 1 → (∃ Q10, w_pass U19 v19_4 Q10 ∧ ∀ r11 S12, Q10 r11 S12 → ((r11.toInt = 0 → ((v19_2.toInt = 0 → w_rounds_J56 Q (w_rounds_L19 Q k4 n19) S12 0 v19_1 v19_3 v19_4) ∧ (¬ v19_2.toInt = 0 → w_rounds_J51 Q (w_rounds_L19 Q k4 n19) S12 v19_1 v19_3 v19_4))) ∧ (¬ r11.toInt = 0 → w_rounds_J51 Q (w_rounds_L19 Q k4 n19) S12 v19_1 v19_3 v19_4)))) ∧ (¬ ((v19_1 >>> ((v19_4 - (1 : Int32)) &&& 31)) &&& (1 : Int32)).toInt = 1 → w_rounds_J57 Q (w_rounds_L19 Q k4 n19) U19 v19_1 v19_2 v19_3 v19_4))))
def w_rounds_L4 (Q : MS → Prop) : Nat → MS → Int32 → Int32 → Int32 → Prop
  | 0, _, _, _, _ => False
  | n4 + 1, U4, v4_1, v4_2, v4_3 => ((v4_2.toInt = 0 → Q U4) ∧ (¬ v4_2.toInt = 0 → ((50 ≤ v4_3.toInt → Q U4) ∧ (¬ 50 ≤ v4_3.toInt → (∃ n, w_rounds_L19 Q (w_rounds_L4 Q n4) n U4 v4_1 0 v4_3 1)))))
def w_rounds (S : MS) (x1 : Int32) (Q : MS → Prop) : Prop := (∃ n, w_rounds_L4 Q n S x1 1 0)
set_option maxHeartbeats 2000000 in
set_option maxRecDepth 100000 in
theorem r_rounds (l : Launch) (g : Gr) (ad : Nat → Nat) (sz : Nat) (S : MS) (x1 : Int32) (hw : wfM S) (Q : MS → Prop) (h : w_rounds S x1 Q) : Met l yX14_rounds (wt2 yX14_rounds cX14_rounds 5 none) ({ frames := 6, cells := 0, slots := 0, locals := 140 }) (va_Pc [.ref (ad 0), .int x1] (st_R g ad sz S)) (va_Qv (fun (u : MS) => Q u ∧ wfM u ∧ shy S u) (fun (u : MS) (t : State) => qE g ad (va_A (Wd g ad S) sz) u t) (va_A (Wd g ad S) sz)) 0 0 (va_A (Wd g ad S) sz) := by
  refine Met.ofW (cc := cX14_rounds) (maxL := 5) (ret := none) (by decide) rfl ?_
  intro p e s m args below meth c s₁ B hml hv
  obtain ⟨rfl, hsz, hP, hK, hD0, hex, hE⟩ := hv
  have hx := B.exec
  have hb := B.bytes
  have hr := B.returns
  have hts0 := atoms_spec (ws := wt2 yX14_rounds cX14_rounds 5 none) B.pre
  have hts : ∀ w ∈ tb2, w.before _ s = true := fun w h => hts0 w (List.mem_cons_of_mem _ h)
  have hown : s.vm.findClass RX14 = some m.cls := findClass_of_methodNamed B.named
  subst hsz
  have hD := hD0.self (sz := s.heap.size)
  generalize hAe : va_A (Wd g ad S) s.heap.size = A at hD hE ⊢
  have hA : ∀ q : Nat, s.heap.size ≤ q → A q := fun q h => by rw [← hAe]; exact Or.inr h
  have hR : Rep g ad A s S s.heap [] := ⟨hK, hP, hD, va_S.rf, hw⟩
  clear hK hP hD hD0
  have hl := lv_entry ([.ref (ad 0), .int x1]) (n := 5) (Nat.le_of_ble_eq_true rfl)
  rw [lg_entry_eq]
  generalize (lg_sl ([.ref (ad 0), .int x1]) ++ List.replicate (5 - (lg_sl ([.ref (ad 0), .int x1])).length) Slot.unset).toArray = ls at hl ⊢
  have hl : lv_has ls 5 [(0, .ref (ad 0)), (1, .int x1)] := hl
  have hsh : shy S S := shy.rf
  unfold w_rounds at h
  refine lv_iconst (v := 1) hx hb dX14_rounds_0 (by decide) ?_
  refine lv_istore_n (lv' := [(2, .int 1), (0, .ref (ad 0)), (1, .int x1)]) hx hb dX14_rounds_1 rfl hl (by decide) rfl (fun ls hl => ?_)
  refine lv_iconst (v := 0) hx hb dX14_rounds_2 (by decide) ?_
  refine lv_istore_n (lv' := [(3, .int 0), (2, .int 1), (0, .ref (ad 0)), (1, .int x1)]) hx hb dX14_rounds_3 rfl hl (by decide) rfl (fun ls hl => ?_)
  have J_4 : ∀ (n4 : Nat) (U4 : MS) (v4_1 : Int32) (v4_2 : Int32) (v4_3 : Int32) (H : Heap) (locs : List Loc) (ls : Array Slot), w_rounds_L4 Q n4 U4 v4_1 v4_2 v4_3 → (v4_2 = 0 ∨ v4_2 = 1) → shy S U4 → Rep g ad A s U4 H locs → lv_has ls 5 [(0, .ref (ad 0)), (1, .int v4_1), (2, .int v4_2), (3, .int v4_3)] → W p l e (headSpec (wt2 yX14_rounds cX14_rounds 5 none) ({ frames := 6, cells := 0, slots := 0, locals := 140 })).room s m ([.ref (ad 0), .int x1] : List Value).toArray below meth c H locs 0 0 (MQ below (va_Qv (fun (u : MS) => Q u ∧ wfM u ∧ shy S u) (fun (u : MS) (t : State) => qE g ad A u t) A) ([.ref (ad 0), .int x1] : List Value).toArray s 0 0 A) (F0 m 4 ls []) := by
    intro n4
    induction n4 with
    | zero => intro U4 v4_1 v4_2 v4_3 H locs ls h hz_v4_2 hsh hR hl; unfold w_rounds_L4 at h; exact h.elim
    | succ n4 ih_4 =>
      intro U4 v4_1 v4_2 v4_3 H locs ls h hz_v4_2 hsh hR hl
      unfold w_rounds_L4 at h
      refine lv_iload_n hx hb dX14_rounds_4 rfl (lv_at hl 2 rfl) ?_
      refine lv_if_eq (tgt := 69) hx hb dX14_rounds_5 (by decide) (fun c1 => ?_) (fun c1 => ?_)
      · replace h := h.1 (k_eq rfl (by decide) c1)
        exact W.vret hx hb hr (fun t9 ht9 hW9 => ⟨⟨U4, rfl, ⟨h, hR.w, hsh⟩, ⟨by rw [ht9]; exact hR.P, hR.D⟩⟩, hR.sS.F ht9⟩) hR.sS.2.2 dX14_rounds_69
      · replace h := h.2 (k_ne rfl (by decide) c1)
        refine lv_iload_n hx hb dX14_rounds_8 rfl (lv_at hl 3 rfl) ?_
        refine lv_bipush (v := 50) hx hb dX14_rounds_9 (by decide) ?_
        refine lv_icmp_ge (tgt := 69) hx hb dX14_rounds_11 (by decide) (fun c2 => ?_) (fun c2 => ?_)
        · replace h := h.1 (k_le (by decide) rfl c2)
          exact W.vret hx hb hr (fun t9 ht9 hW9 => ⟨⟨U4, rfl, ⟨h, hR.w, hsh⟩, ⟨by rw [ht9]; exact hR.P, hR.D⟩⟩, hR.sS.F ht9⟩) hR.sS.2.2 dX14_rounds_69
        · replace h := h.2 (k_nle (by decide) rfl c2)
          refine lv_iconst (v := 0) hx hb dX14_rounds_14 (by decide) ?_
          refine lv_istore_n (lv' := [(2, .int 0), (0, .ref (ad 0)), (1, .int v4_1), (3, .int v4_3)]) hx hb dX14_rounds_15 rfl hl (by decide) rfl (fun ls hl => ?_)
          refine lv_iconst (v := 1) hx hb dX14_rounds_16 (by decide) ?_
          refine lv_istore (lv' := [(4, .int 1), (2, .int 0), (0, .ref (ad 0)), (1, .int v4_1), (3, .int v4_3)]) hx hb dX14_rounds_17 hl (by decide) rfl (fun ls hl => ?_)
          have J_19 : ∀ (n19 : Nat) (U19 : MS) (v19_1 : Int32) (v19_2 : Int32) (v19_3 : Int32) (v19_4 : Int32) (H : Heap) (locs : List Loc) (ls : Array Slot), w_rounds_L19 Q (w_rounds_L4 Q n4) n19 U19 v19_1 v19_2 v19_3 v19_4 → (v19_2 = 0 ∨ v19_2 = 1) → shy S U19 → Rep g ad A s U19 H locs → lv_has ls 5 [(0, .ref (ad 0)), (1, .int v19_1), (2, .int v19_2), (3, .int v19_3), (4, .int v19_4)] → W p l e (headSpec (wt2 yX14_rounds cX14_rounds 5 none) ({ frames := 6, cells := 0, slots := 0, locals := 140 })).room s m ([.ref (ad 0), .int x1] : List Value).toArray below meth c H locs 0 0 (MQ below (va_Qv (fun (u : MS) => Q u ∧ wfM u ∧ shy S u) (fun (u : MS) (t : State) => qE g ad A u t) A) ([.ref (ad 0), .int x1] : List Value).toArray s 0 0 A) (F0 m 19 ls []) := by
            intro n19
            induction n19 with
            | zero => intro U19 v19_1 v19_2 v19_3 v19_4 H locs ls h hz_v19_2 hsh hR hl; unfold w_rounds_L19 at h; exact h.elim
            | succ n19 ih_19 =>
              intro U19 v19_1 v19_2 v19_3 v19_4 H locs ls h hz_v19_2 hsh hR hl
              unfold w_rounds_L19 at h
              refine lv_iload hx hb dX14_rounds_19 (lv_at hl 4 rfl) ?_
              refine lv_bipush (v := 11) hx hb dX14_rounds_21 (by decide) ?_
              refine lv_icmp_gt (tgt := 63) hx hb dX14_rounds_23 (by decide) (fun c3 => ?_) (fun c3 => ?_)
              · replace h := h.1 (k_lt (by decide) rfl c3)
                obtain ⟨a4, ea4⟩ : ∃ z, z = (v19_3 + Int32.ofInt 1) := ⟨_, rfl⟩
                replace h := h a4 ea4
                refine lv_iinc (v := a4) (lv' := [(3, .int a4), (0, .ref (ad 0)), (1, .int v19_1), (2, .int v19_2), (4, .int v19_4)]) hx hb dX14_rounds_63 hl (k := 3) rfl ea4.symm (by decide) rfl (fun ls hl => ?_)
                refine lv_goto (tgt := 4) hx hb dX14_rounds_66 (by decide) ?_
                exact ih_4 U19 v19_1 v19_2 a4 _ _ ls h hz_v19_2 hsh hR (lv_sub hl [1, 2, 3, 0] rfl)
              · replace h := h.2 (k_nlt (by decide) rfl c3)
                refine lv_iload_n hx hb dX14_rounds_26 rfl (lv_at hl 1 rfl) ?_
                refine lv_iload hx hb dX14_rounds_27 (lv_at hl 4 rfl) ?_
                refine lv_iconst (v := 1) hx hb dX14_rounds_29 (by decide) ?_
                refine lv_isub hx hb dX14_rounds_30 ?_
                refine lv_topi (fun z5 ez5 => ?_)
                obtain rfl : z5 = (v19_4 - (1 : Int32)) := ez5
                refine lv_ishr hx hb dX14_rounds_31 ?_
                refine lv_topi (fun z6 ez6 => ?_)
                obtain rfl : z6 = (v19_1 >>> ((v19_4 - (1 : Int32)) &&& 31)) := ez6
                refine lv_iconst (v := 1) hx hb dX14_rounds_32 (by decide) ?_
                refine lv_iand hx hb dX14_rounds_33 ?_
                refine lv_topi (fun z7 ez7 => ?_)
                obtain rfl : z7 = ((v19_1 >>> ((v19_4 - (1 : Int32)) &&& 31)) &&& (1 : Int32)) := ez7
                refine lv_iconst (v := 1) hx hb dX14_rounds_34 (by decide) ?_
                have J_57 : ∀ (U57 : MS) (v57_1 : Int32) (v57_2 : Int32) (v57_3 : Int32) (v57_4 : Int32) (H : Heap) (locs : List Loc) (ls : Array Slot), w_rounds_J57 Q (w_rounds_L19 Q (w_rounds_L4 Q n4) n19) U57 v57_1 v57_2 v57_3 v57_4 → (v57_2 = 0 ∨ v57_2 = 1) → shy S U57 → Rep g ad A s U57 H locs → lv_has ls 5 [(0, .ref (ad 0)), (1, .int v57_1), (2, .int v57_2), (3, .int v57_3), (4, .int v57_4)] → W p l e (headSpec (wt2 yX14_rounds cX14_rounds 5 none) ({ frames := 6, cells := 0, slots := 0, locals := 140 })).room s m ([.ref (ad 0), .int x1] : List Value).toArray below meth c H locs 0 0 (MQ below (va_Qv (fun (u : MS) => Q u ∧ wfM u ∧ shy S u) (fun (u : MS) (t : State) => qE g ad A u t) A) ([.ref (ad 0), .int x1] : List Value).toArray s 0 0 A) (F0 m 57 ls []) := by
                  intro U57 v57_1 v57_2 v57_3 v57_4 H locs ls h hz_v57_2 hsh hR hl
                  unfold w_rounds_J57 at h
                  obtain ⟨a8, ea8⟩ : ∃ z, z = (v57_4 + Int32.ofInt 1) := ⟨_, rfl⟩
                  replace h := h a8 ea8
                  refine lv_iinc (v := a8) (lv' := [(4, .int a8), (0, .ref (ad 0)), (1, .int v57_1), (2, .int v57_2), (3, .int v57_3)]) hx hb dX14_rounds_57 hl (k := 4) rfl ea8.symm (by decide) rfl (fun ls hl => ?_)
                  refine lv_goto (tgt := 19) hx hb dX14_rounds_60 (by decide) ?_
                  exact ih_19 U57 v57_1 v57_2 v57_3 a8 _ _ ls h hz_v57_2 hsh hR (lv_sub hl [1, 2, 3, 4, 0] rfl)
                refine lv_icmp_ne (tgt := 57) hx hb dX14_rounds_35 (by decide) (fun c9 => ?_) (fun c9 => ?_)
                · replace h := h.2 (k_ne rfl (by decide) c9)
                  exact J_57 U19 v19_1 v19_2 v19_3 v19_4 _ _ ls h hz_v19_2 hsh hR (lv_sub hl [0, 1, 2, 3, 4] rfl)
                · replace h := h.1 (k_eq rfl (by decide) c9)
                  refine lv_aload_n hx hb dX14_rounds_38 rfl (lv_at hl 0 rfl) ?_
                  refine lv_iload hx hb dX14_rounds_39 (lv_at hl 4 rfl) ?_
                  obtain ⟨Q10, h0, h⟩ := h
                  have hFc := rfree hR hA
                  refine va_calli (va_runV (As := [.int v19_4]) (rest := []) ⟨hx, hb, hml, hown, hts⟩ (r_pass l g ad H.size U19 v19_4 hR.w  Q10 h0) (cwV 1 hts (gd2_V kx_1204 kx_1205 kx_1206 kx_177 kx_1207) rfl rfl rfl (by decide +kernel) ⟨Nat.le_of_ble_eq_true rfl, Nat.le_of_ble_eq_true rfl⟩) ⟨rblind, va_recv hR.K hR.P (ci := 13) (q0 := 0) rfl (hR.at14 hR.w.1), fun U hU hW9 => rmk hU hW9 hR hex hE hFc⟩ rfl rfl hl.1 rfl (lv_room (Nat.le_of_ble_eq_true rfl)) dX14_rounds_41 ⟨Nat.le_of_ble_eq_true rfl, Nat.le_of_ble_eq_true rfl⟩) hR.sS (fun q _ h => hFc q h) hFc (fun r11 S12 t9 H1 locs ht9 hvm9 hw9 hB9 hz9 hk9 hS => ?_)
                  obtain ⟨hq13, hw9, hs9, hz_r11⟩ := hw9
                  have hR : Rep g ad A s S12 H1 locs := hR.call ht9 hB9 hw9 hS hFc
                  have hsh := hsh.tr hs9
                  replace h := h r11 S12 hq13
                  clear hB9 hz9 hk9 hvm9 ht9 hw9 hs9 hS
                  generalize H1 = H at hR ⊢
                  have J_56 : ∀ (U56 : MS) (t56_0 : Int32) (v56_1 : Int32) (v56_3 : Int32) (v56_4 : Int32) (H : Heap) (locs : List Loc) (ls : Array Slot), w_rounds_J56 Q (w_rounds_L19 Q (w_rounds_L4 Q n4) n19) U56 t56_0 v56_1 v56_3 v56_4 → (t56_0 = 0 ∨ t56_0 = 1) → shy S U56 → Rep g ad A s U56 H locs → lv_has ls 5 [(0, .ref (ad 0)), (1, .int v56_1), (3, .int v56_3), (4, .int v56_4)] → W p l e (headSpec (wt2 yX14_rounds cX14_rounds 5 none) ({ frames := 6, cells := 0, slots := 0, locals := 140 })).room s m ([.ref (ad 0), .int x1] : List Value).toArray below meth c H locs 0 0 (MQ below (va_Qv (fun (u : MS) => Q u ∧ wfM u ∧ shy S u) (fun (u : MS) (t : State) => qE g ad A u t) A) ([.ref (ad 0), .int x1] : List Value).toArray s 0 0 A) (F0 m 56 ls [.int t56_0]) := by
                    intro U56 t56_0 v56_1 v56_3 v56_4 H locs ls h hz_t56_0 hsh hR hl
                    unfold w_rounds_J56 at h
                    refine lv_istore_n (lv' := [(2, .int t56_0), (0, .ref (ad 0)), (1, .int v56_1), (3, .int v56_3), (4, .int v56_4)]) hx hb dX14_rounds_56 rfl hl (by decide) rfl (fun ls hl => ?_)
                    exact J_57 U56 v56_1 t56_0 v56_3 v56_4 _ _ ls h hz_t56_0 hsh hR (lv_sub hl [1, 2, 0, 3, 4] rfl)
                  have J_51 : ∀ (U51 : MS) (v51_1 : Int32) (v51_3 : Int32) (v51_4 : Int32) (H : Heap) (locs : List Loc) (ls : Array Slot), w_rounds_J51 Q (w_rounds_L19 Q (w_rounds_L4 Q n4) n19) U51 v51_1 v51_3 v51_4 → shy S U51 → Rep g ad A s U51 H locs → lv_has ls 5 [(0, .ref (ad 0)), (1, .int v51_1), (3, .int v51_3), (4, .int v51_4)] → W p l e (headSpec (wt2 yX14_rounds cX14_rounds 5 none) ({ frames := 6, cells := 0, slots := 0, locals := 140 })).room s m ([.ref (ad 0), .int x1] : List Value).toArray below meth c H locs 0 0 (MQ below (va_Qv (fun (u : MS) => Q u ∧ wfM u ∧ shy S u) (fun (u : MS) (t : State) => qE g ad A u t) A) ([.ref (ad 0), .int x1] : List Value).toArray s 0 0 A) (F0 m 51 ls []) := by
                    intro U51 v51_1 v51_3 v51_4 H locs ls h hsh hR hl
                    unfold w_rounds_J51 at h
                    refine lv_iconst (v := 1) hx hb dX14_rounds_51 (by decide) ?_
                    refine lv_goto (tgt := 56) hx hb dX14_rounds_52 (by decide) ?_
                    exact J_56 U51 1 v51_1 v51_3 v51_4 _ _ ls h (Or.inr rfl) hsh hR (lv_sub hl [0, 1, 2, 3] rfl)
                  refine lv_if_ne (tgt := 51) hx hb dX14_rounds_44 (by decide) (fun c14 => ?_) (fun c14 => ?_)
                  · replace h := h.2 (k_ne rfl (by decide) c14)
                    exact J_51 S12 v19_1 v19_3 v19_4 _ _ ls h  hsh hR (lv_sub hl [0, 1, 3, 4] rfl)
                  · replace h := h.1 (k_eq rfl (by decide) c14)
                    refine lv_iload_n hx hb dX14_rounds_47 rfl (lv_at hl 2 rfl) ?_
                    refine lv_if_eq (tgt := 55) hx hb dX14_rounds_48 (by decide) (fun c15 => ?_) (fun c15 => ?_)
                    · replace h := h.1 (k_eq rfl (by decide) c15)
                      refine lv_iconst (v := 0) hx hb dX14_rounds_55 (by decide) ?_
                      exact J_56 S12 0 v19_1 v19_3 v19_4 _ _ ls h (Or.inl rfl) hsh hR (lv_sub hl [0, 1, 3, 4] rfl)
                    · replace h := h.2 (k_ne rfl (by decide) c15)
                      exact J_51 S12 v19_1 v19_3 v19_4 _ _ ls h  hsh hR (lv_sub hl [0, 1, 3, 4] rfl)
          obtain ⟨n9, h⟩ := h
          exact J_19 n9 U4 v4_1 0 v4_3 1 _ _ ls h (Or.inl rfl) hsh hR (lv_sub hl [2, 3, 1, 4, 0] rfl)
  obtain ⟨n9, h⟩ := h
  exact J_4 n9 S x1 1 0 _ _ ls h (Or.inr rfl) hsh hR (lv_sub hl [2, 3, 1, 0] rfl)
