def w_work_J312 (Q : MS → Prop) (U312 : MS) (v312_1 : Int32) (v312_4 : Int32) : Prop := (d_givesOf U312 v312_1 ∧ (∃ Q23, w_giveLetters U312 (f_givesOf U312 v312_1) v312_4 Q23 ∧ ∀ S24, Q23 S24 → Q S24))
def w_work_J300 (Q : MS → Prop) (U300 : MS) (v300_1 : Int32) (v300_3 : Int32) (v300_4 : Int32) : Prop := (d_first U300 v300_1 ∧ (∃ Q29, w_store U300 v300_3 (f_first U300 v300_1) v300_4 Q29 ∧ ∀ S30, Q29 S30 → w_work_J312 Q S30 v300_1 v300_4))
def w_work_L260 (Q : MS → Prop) : Nat → MS → Int32 → Int32 → Int32 → Nat → Int32 → Prop
  | 0, _, _, _, _, _, _ => False
  | n260 + 1, U260, v260_1, v260_3, v260_4, v260_5, v260_6 => ((v260_6.toInt < 0 → ((v260_3.toInt = 54 → w_work_J300 Q U260 v260_1 v260_3 v260_4) ∧ (¬ v260_3.toInt = 54 → ((v260_3.toInt = 55 → w_work_J300 Q U260 v260_1 v260_3 v260_4) ∧ (¬ v260_3.toInt = 55 → ((v260_3.toInt = 58 → w_work_J300 Q U260 v260_1 v260_3 v260_4) ∧ (¬ v260_3.toInt = 58 → w_work_J312 Q U260 v260_1 v260_4))))))) ∧ (¬ v260_6.toInt < 0 → (((0 : Int) ≤ v260_6.toInt ∧ v260_6.toInt < (qN U260 (v260_5 + 1) : Int)) ∧ (∃ Q37, w_takeLetter U260 (cAt U260 v260_5 v260_6) Q37 ∧ ∀ S38, Q37 S38 → (∀ a40 : Int32, a40 = (v260_6 + Int32.ofInt (-1)) → (w_work_L260 Q n260) S38 v260_1 v260_3 v260_4 v260_5 a40)))))
def w_work_J244 (Q : MS → Prop) (U244 : MS) (v244_1 : Int32) (v244_3 : Int32) (v244_4 : Int32) : Prop := (d_takesOf U244 v244_1 ∧ (∀ a18 : Int32, a18 = ((Int32.ofNat (qN U244 ((f_takesOf U244 v244_1) + 1))) - (1 : Int32)) → (∃ n, w_work_L260 Q n U244 v244_1 v244_3 v244_4 (f_takesOf U244 v244_1) a18)))
def w_work_J238 (Q : MS → Prop) (U238 : MS) (t238_0 : Nat) (t238_1 : Nat) (v238_1 : Int32) (v238_3 : Int32) (v238_4 : Int32) : Prop := (∃ Q42, w_need U238 (sEq U238 t238_1 t238_0) Q42 ∧ ∀ S43, Q42 S43 → w_work_J244 Q S43 v238_1 v238_3 v238_4)
def w_work_J194 (Q : MS → Prop) (U194 : MS) (v194_1 : Int32) (v194_2 : Nat) (v194_3 : Int32) (v194_4 : Int32) : Prop := ((v194_3.toInt = 172 → w_work_J238 Q U194 10000016 v194_2 v194_1 v194_3 v194_4) ∧ (¬ v194_3.toInt = 172 → ((v194_3.toInt = 173 → w_work_J238 Q U194 10000022 v194_2 v194_1 v194_3 v194_4) ∧ (¬ v194_3.toInt = 173 → ((v194_3.toInt = 176 → w_work_J238 Q U194 10000028 v194_2 v194_1 v194_3 v194_4) ∧ (¬ v194_3.toInt = 176 → w_work_J238 Q U194 10000032 v194_2 v194_1 v194_3 v194_4))))))
def w_work_J166 (Q : MS → Prop) (U166 : MS) (v166_1 : Int32) (v166_2 : Nat) (v166_3 : Int32) (v166_4 : Int32) : Prop := ((v166_3.toInt = 172 → w_work_J194 Q U166 v166_1 v166_2 v166_3 v166_4) ∧ (¬ v166_3.toInt = 172 → ((v166_3.toInt = 173 → w_work_J194 Q U166 v166_1 v166_2 v166_3 v166_4) ∧ (¬ v166_3.toInt = 173 → ((v166_3.toInt = 176 → w_work_J194 Q U166 v166_1 v166_2 v166_3 v166_4) ∧ (¬ v166_3.toInt = 176 → ((v166_3.toInt = 177 → w_work_J194 Q U166 v166_1 v166_2 v166_3 v166_4) ∧ (¬ v166_3.toInt = 177 → w_work_J244 Q U166 v166_1 v166_3 v166_4))))))))
def w_work_J163 (Q : MS → Prop) (U163 : MS) (t163_0 : Int32) (v163_1 : Int32) (v163_2 : Nat) (v163_3 : Int32) (v163_4 : Int32) : Prop := (∃ Q62, w_need U163 t163_0 Q62 ∧ ∀ S63, Q62 S63 → w_work_J166 Q S63 v163_1 v163_2 v163_3 v163_4)
def w_work_J162 (Q : MS → Prop) (U162 : MS) (v162_1 : Int32) (v162_2 : Nat) (v162_3 : Int32) (v162_4 : Int32) : Prop := w_work_J163 Q U162 0 v162_1 v162_2 v162_3 v162_4
def w_work_J121 (Q : MS → Prop) (U121 : MS) (v121_1 : Int32) (v121_2 : Nat) (v121_3 : Int32) (v121_4 : Int32) : Prop := ((v121_3.toInt = 22 → (d_first U121 v121_1 ∧ (((0 : Int) ≤ (f_first U121 v121_1).toInt ∧ (f_first U121 v121_1).toInt < 24) ∧ (((qI U121 25 (((f_first U121 v121_1).toInt).toNat)).toInt = 2 → (d_first U121 v121_1 ∧ (((0 : Int) ≤ ((f_first U121 v121_1) + (1 : Int32)).toInt ∧ ((f_first U121 v121_1) + (1 : Int32)).toInt < 24) ∧ (((qI U121 25 ((((f_first U121 v121_1) + (1 : Int32)).toInt).toNat)).toInt = 3 → w_work_J163 Q U121 1 v121_1 v121_2 v121_3 v121_4) ∧ (¬ (qI U121 25 ((((f_first U121 v121_1) + (1 : Int32)).toInt).toNat)).toInt = 3 → w_work_J162 Q U121 v121_1 v121_2 v121_3 v121_4))))) ∧ (¬ (qI U121 25 (((f_first U121 v121_1).toInt).toNat)).toInt = 2 → w_work_J162 Q U121 v121_1 v121_2 v121_3 v121_4))))) ∧ (¬ v121_3.toInt = 22 → w_work_J166 Q U121 v121_1 v121_2 v121_3 v121_4))
def w_work_J118 (Q : MS → Prop) (U118 : MS) (t118_0 : Int32) (v118_1 : Int32) (v118_2 : Nat) (v118_3 : Int32) (v118_4 : Int32) : Prop := (∃ Q78, w_need U118 t118_0 Q78 ∧ ∀ S79, Q78 S79 → w_work_J121 Q S79 v118_1 v118_2 v118_3 v118_4)
def w_work_J98 (Q : MS → Prop) (U98 : MS) (v98_1 : Int32) (v98_2 : Nat) (v98_3 : Int32) (v98_4 : Int32) : Prop := (d_first U98 v98_1 ∧ (((0 : Int) ≤ (f_first U98 v98_1).toInt ∧ (f_first U98 v98_1).toInt < 24) ∧ (((qI U98 25 (((f_first U98 v98_1).toInt).toNat)).toInt = 1 → w_work_J118 Q U98 1 v98_1 v98_2 v98_3 v98_4) ∧ (¬ (qI U98 25 (((f_first U98 v98_1).toInt).toNat)).toInt = 1 → w_work_J118 Q U98 0 v98_1 v98_2 v98_3 v98_4))))
def w_work_J85 (Q : MS → Prop) (U85 : MS) (v85_1 : Int32) (v85_2 : Nat) (v85_3 : Int32) (v85_4 : Int32) : Prop := ((v85_3.toInt = 21 → w_work_J98 Q U85 v85_1 v85_2 v85_3 v85_4) ∧ (¬ v85_3.toInt = 21 → ((v85_3.toInt = 132 → w_work_J98 Q U85 v85_1 v85_2 v85_3 v85_4) ∧ (¬ v85_3.toInt = 132 → w_work_J121 Q U85 v85_1 v85_2 v85_3 v85_4))))
def w_work_J74 (Q : MS → Prop) (U74 : MS) (v74_1 : Int32) (v74_2 : Nat) (v74_3 : Int32) (v74_4 : Int32) : Prop := (d_isThing U74 v74_4 ∧ (((f_isThing U74 v74_4).toInt = 0 → w_work_J85 Q U74 v74_1 v74_2 v74_3 0) ∧ (¬ (f_isThing U74 v74_4).toInt = 0 → w_work_J85 Q U74 v74_1 v74_2 v74_3 v74_4)))
def w_work_J45 (Q : MS → Prop) (U45 : MS) (t45_0 : Int32) (v45_1 : Int32) (v45_2 : Nat) (v45_3 : Int32) : Prop := ((v45_3.toInt = 25 → (d_first U45 v45_1 ∧ (((0 : Int) ≤ (f_first U45 v45_1).toInt ∧ (f_first U45 v45_1).toInt < 24) ∧ (∀ a91 : Int32, a91 = (qI U45 25 (((f_first U45 v45_1).toInt).toNat)) → (d_isThing U45 a91 ∧ (∃ Q95, w_need U45 (f_isThing U45 a91) Q95 ∧ ∀ S96, Q95 S96 → w_work_J74 Q S96 v45_1 v45_2 v45_3 a91)))))) ∧ (¬ v45_3.toInt = 25 → w_work_J74 Q U45 v45_1 v45_2 v45_3 t45_0))
def w_work (S : MS) (x1 : Int32) (p2 : Nat) (Q : MS → Prop) : Prop := (∀ S1, S1 = wI S 0 63 1 → (d_op S1 x1 ∧ (∀ a5 : Int32, a5 = (f_op S1 x1) → (d_moved S1 a5 ∧ (((f_moved S1 a5).toInt ≤ 0 → ((a5.toInt = 58 → (((0 : Int) ≤ ((qI S1 0 62) - (1 : Int32)).toInt ∧ ((qI S1 0 62) - (1 : Int32)).toInt < 28) ∧ w_work_J45 Q S1 (qI S1 26 ((((qI S1 0 62) - (1 : Int32)).toInt).toNat)) x1 p2 a5)) ∧ (¬ a5.toInt = 58 → w_work_J45 Q S1 0 x1 p2 a5))) ∧ (¬ (f_moved S1 a5).toInt ≤ 0 → (∃ Q102, w_move S1 a5 Q102 ∧ ∀ S103, Q102 S103 → Q S103)))))))
set_option maxHeartbeats 2000000 in
set_option maxRecDepth 100000 in
theorem r_work (l : Launch) (g : Gr) (ad : Nat → Nat) (sz : Nat) (S : MS) (x1 : Int32) (p2 : Nat) (hw : wfM S) (hT_p2 : qT S p2 = 12) (Q : MS → Prop) (h : w_work S x1 p2 Q) : Met l yX14_work (wt2 yX14_work cX14_work 7 none) ({ frames := 5, cells := 0, slots := 0, locals := 109 }) (va_Pc [.ref (ad 0), .int x1, .ref (ad p2)] (st_R g ad sz S)) (va_Qv (fun (u : MS) => Q u ∧ wfM u ∧ shy S u) (fun (u : MS) (t : State) => qE g ad (va_A (Wd g ad S) sz) u t) (va_A (Wd g ad S) sz)) 0 0 (va_A (Wd g ad S) sz) := by
  refine Met.ofW (cc := cX14_work) (maxL := 7) (ret := none) (by decide) rfl ?_
  intro p e s m args below meth c s₁ B hml hv
  obtain ⟨rfl, hsz, hP, hK, hD0, hex, hE⟩ := hv
  have hx := B.exec
  have hb := B.bytes
  have hr := B.returns
  have hts0 := atoms_spec (ws := wt2 yX14_work cX14_work 7 none) B.pre
  have hts : ∀ w ∈ tb2, w.before _ s = true := fun w h => hts0 w (List.mem_cons_of_mem _ h)
  have hown : s.vm.findClass RX14 = some m.cls := findClass_of_methodNamed B.named
  subst hsz
  have hD := hD0.self (sz := s.heap.size)
  generalize hAe : va_A (Wd g ad S) s.heap.size = A at hD hE ⊢
  have hA : ∀ q : Nat, s.heap.size ≤ q → A q := fun q h => by rw [← hAe]; exact Or.inr h
  have hR : Rep g ad A s S s.heap [] := ⟨hK, hP, hD, va_S.rf, hw⟩
  clear hK hP hD hD0
  have hl := lv_entry ([.ref (ad 0), .int x1, .ref (ad p2)]) (n := 7) (Nat.le_of_ble_eq_true rfl)
  rw [lg_entry_eq]
  generalize (lg_sl ([.ref (ad 0), .int x1, .ref (ad p2)]) ++ List.replicate (7 - (lg_sl ([.ref (ad 0), .int x1, .ref (ad p2)])).length) Slot.unset).toArray = ls at hl ⊢
  have hl : lv_has ls 7 [(0, .ref (ad 0)), (1, .int x1), (2, .ref (ad p2))] := hl
  have hsh : shy S S := shy.rf
  unfold w_work at h
  refine lv_aload_n hx hb dX14_work_0 rfl (lv_at hl 0 rfl) ?_
  refine lv_iconst (v := 1) hx hb dX14_work_1 (by decide) ?_
  refine va_put (D := rD g) (ci := 13) (v := .int 1) (ty := .boolean) (C := RX14) (T := TX14) (N := 143) hx hb hts in2X14 tyX14 tyX14_ok nmX14 hown hR.K hR.P hR.D hR.sS 0 (hR.at14 hR.w.1) rfl 63 (by decide) (hts _ kx_464) (fun _ h9 => h9) rfl (by decide +kernel) rfl rfl (Nat.le_of_ble_eq_true rfl) dX14_work_2 (fun H locs hP hD hS => ?_)
  have hR : Rep g ad A s (wI S 0 63 1) H locs := hR.pI hR.w.1 F14_s63 hP hD hS
  obtain ⟨S1, eS1⟩ : ∃ z, z = wI S 0 63 1 := ⟨_, rfl⟩
  rw [← eS1] at hR
  replace h := h S1 eS1
  have hT_p2 : qT S1 p2 = 12 := (congrArg (fun z => qT z p2) eS1).trans hT_p2
  have hsh : shy S S1 := by rw [eS1]; exact hsh
  refine lv_aload_n hx hb dX14_work_5 rfl (lv_at hl 0 rfl) ?_
  refine lv_iload_n hx hb dX14_work_6 rfl (lv_at hl 1 rfl) ?_
  obtain ⟨hv2, h⟩ := h
  have hFc := rfree hR hA
  refine va_calli (va_runV (As := [.int x1]) (rest := []) ⟨hx, hb, hml, hown, hts⟩ (r_op l g ad H.size S1 x1 hR.w  hv2) (cwV 1 hts (gd2_V kx_379 kx_380 kx_381 kx_177 kx_382) rfl rfl rfl (by decide +kernel) ⟨Nat.le_of_ble_eq_true rfl, Nat.le_of_ble_eq_true rfl⟩) ⟨rblind, va_recv hR.K hR.P (ci := 13) (q0 := 0) rfl (hR.at14 hR.w.1), fun U hU hW9 => rmk hU hW9 hR hex hE hFc⟩ rfl rfl hl.1 rfl (lv_room (Nat.le_of_ble_eq_true rfl)) dX14_work_7 ⟨Nat.le_of_ble_eq_true rfl, Nat.le_of_ble_eq_true rfl⟩) hR.sS (fun q _ h => hFc q h) hFc (fun r3 u9 t9 H1 locs ht9 hvm9 hw9 hB9 hz9 hk9 hS => ?_)
  have hR : Rep g ad A s S1 H1 locs := hR.call ht9 hB9 hR.w hS hFc
  obtain rfl : r3 = (f_op S1 x1) := hw9
  clear hB9 hz9 hk9 hvm9 ht9 hS
  generalize H1 = H at hR ⊢
  obtain ⟨a5, ea5⟩ : ∃ z, z = (f_op S1 x1) := ⟨_, rfl⟩
  rw [← ea5]
  replace h := h a5 ea5
  refine lv_istore_n (lv' := [(3, .int a5), (0, .ref (ad 0)), (1, .int x1), (2, .ref (ad p2))]) hx hb dX14_work_10 rfl hl (by decide) rfl (fun ls hl => ?_)
  refine lv_iload_n hx hb dX14_work_11 rfl (lv_at hl 0 rfl) ?_
  obtain ⟨hv6, h⟩ := h
  have hFc := rfree hR hA
  refine va_calli (va_runS (As := [.int a5]) (rest := []) ⟨hx, hb, hml, hown, hts⟩ (r_moved l g ad H.size S1 a5 hR.w  hv6) (va_cwS 1 hts (gd2_S kx_400 kx_401 kx_177 kx_402) rfl rfl rfl (by decide +kernel) ⟨Nat.le_of_ble_eq_true rfl, Nat.le_of_ble_eq_true rfl⟩) ⟨rblind, fun U hU hW9 => rmk hU hW9 hR hex hE hFc⟩ rfl rfl hl.1 rfl (lv_room (Nat.le_of_ble_eq_true rfl)) dX14_work_12 ⟨Nat.le_of_ble_eq_true rfl, Nat.le_of_ble_eq_true rfl⟩) hR.sS (fun q _ h => hFc q h) hFc (fun r7 u9 t9 H1 locs ht9 hvm9 hw9 hB9 hz9 hk9 hS => ?_)
  have hR : Rep g ad A s S1 H1 locs := hR.call ht9 hB9 hR.w hS hFc
  obtain rfl : r7 = (f_moved S1 a5) := hw9
  clear hB9 hz9 hk9 hvm9 ht9 hS
  generalize H1 = H at hR ⊢
  refine lv_if_le (tgt := 24) hx hb dX14_work_15 (by decide) (fun c9 => ?_) (fun c9 => ?_)
  · replace h := h.1 (k_le rfl (by decide) c9)
    refine lv_iload_n hx hb dX14_work_24 rfl (lv_at hl 0 rfl) ?_
    refine lv_bipush (v := 58) hx hb dX14_work_25 (by decide) ?_
    have J_45 : ∀ (U45 : MS) (t45_0 : Int32) (v45_1 : Int32) (v45_2 : Nat) (v45_3 : Int32) (H : Heap) (locs : List Loc) (ls : Array Slot), w_work_J45 Q U45 t45_0 v45_1 v45_2 v45_3 → qT U45 v45_2 = 12 → shy S U45 → Rep g ad A s U45 H locs → lv_has ls 7 [(0, .ref (ad 0)), (1, .int v45_1), (2, .ref (ad v45_2)), (3, .int v45_3)] → W p l e (headSpec (wt2 yX14_work cX14_work 7 none) ({ frames := 5, cells := 0, slots := 0, locals := 109 })).room s m ([.ref (ad 0), .int x1, .ref (ad p2)] : List Value).toArray below meth c H locs 0 0 (MQ below (va_Qv (fun (u : MS) => Q u ∧ wfM u ∧ shy S u) (fun (u : MS) (t : State) => qE g ad A u t) A) ([.ref (ad 0), .int x1, .ref (ad p2)] : List Value).toArray s 0 0 A) (F0 m 45 ls [.int t45_0]) := by
      intro U45 t45_0 v45_1 v45_2 v45_3 H locs ls h hT_v45_2 hsh hR hl
      unfold w_work_J45 at h
      refine lv_istore (lv' := [(4, .int t45_0), (0, .ref (ad 0)), (1, .int v45_1), (2, .ref (ad v45_2)), (3, .int v45_3)]) hx hb dX14_work_45 hl (by decide) rfl (fun ls hl => ?_)
      refine lv_iload_n hx hb dX14_work_47 rfl (lv_at hl 4 rfl) ?_
      refine lv_bipush (v := 25) hx hb dX14_work_48 (by decide) ?_
      have J_74 : ∀ (U74 : MS) (v74_1 : Int32) (v74_2 : Nat) (v74_3 : Int32) (v74_4 : Int32) (H : Heap) (locs : List Loc) (ls : Array Slot), w_work_J74 Q U74 v74_1 v74_2 v74_3 v74_4 → qT U74 v74_2 = 12 → shy S U74 → Rep g ad A s U74 H locs → lv_has ls 7 [(0, .ref (ad 0)), (1, .int v74_1), (2, .ref (ad v74_2)), (3, .int v74_3), (4, .int v74_4)] → W p l e (headSpec (wt2 yX14_work cX14_work 7 none) ({ frames := 5, cells := 0, slots := 0, locals := 109 })).room s m ([.ref (ad 0), .int x1, .ref (ad p2)] : List Value).toArray below meth c H locs 0 0 (MQ below (va_Qv (fun (u : MS) => Q u ∧ wfM u ∧ shy S u) (fun (u : MS) (t : State) => qE g ad A u t) A) ([.ref (ad 0), .int x1, .ref (ad p2)] : List Value).toArray s 0 0 A) (F0 m 74 ls []) := by
        intro U74 v74_1 v74_2 v74_3 v74_4 H locs ls h hT_v74_2 hsh hR hl
        unfold w_work_J74 at h
        refine lv_iload hx hb dX14_work_74 (lv_at hl 4 rfl) ?_
        obtain ⟨hv10, h⟩ := h
        have hFc := rfree hR hA
        refine va_calli (va_runS (As := [.int v74_4]) (rest := []) ⟨hx, hb, hml, hown, hts⟩ (r_isThing l g ad H.size U74 v74_4 hR.w  hv10) (va_cwS 1 hts (gd2_S kx_459 kx_460 kx_177 kx_461) rfl rfl rfl (by decide +kernel) ⟨Nat.le_of_ble_eq_true rfl, Nat.le_of_ble_eq_true rfl⟩) ⟨rblind, fun U hU hW9 => rmk hU hW9 hR hex hE hFc⟩ rfl rfl hl.1 rfl (lv_room (Nat.le_of_ble_eq_true rfl)) dX14_work_76 ⟨Nat.le_of_ble_eq_true rfl, Nat.le_of_ble_eq_true rfl⟩) hR.sS (fun q _ h => hFc q h) hFc (fun r11 u9 t9 H1 locs ht9 hvm9 hw9 hB9 hz9 hk9 hS => ?_)
        have hR : Rep g ad A s U74 H1 locs := hR.call ht9 hB9 hR.w hS hFc
        obtain ⟨rfl, hz_r11⟩ := hw9
        clear hB9 hz9 hk9 hvm9 ht9 hS
        generalize H1 = H at hR ⊢
        have J_85 : ∀ (U85 : MS) (v85_1 : Int32) (v85_2 : Nat) (v85_3 : Int32) (v85_4 : Int32) (H : Heap) (locs : List Loc) (ls : Array Slot), w_work_J85 Q U85 v85_1 v85_2 v85_3 v85_4 → qT U85 v85_2 = 12 → shy S U85 → Rep g ad A s U85 H locs → lv_has ls 7 [(0, .ref (ad 0)), (1, .int v85_1), (2, .ref (ad v85_2)), (3, .int v85_3), (4, .int v85_4)] → W p l e (headSpec (wt2 yX14_work cX14_work 7 none) ({ frames := 5, cells := 0, slots := 0, locals := 109 })).room s m ([.ref (ad 0), .int x1, .ref (ad p2)] : List Value).toArray below meth c H locs 0 0 (MQ below (va_Qv (fun (u : MS) => Q u ∧ wfM u ∧ shy S u) (fun (u : MS) (t : State) => qE g ad A u t) A) ([.ref (ad 0), .int x1, .ref (ad p2)] : List Value).toArray s 0 0 A) (F0 m 85 ls []) := by
          intro U85 v85_1 v85_2 v85_3 v85_4 H locs ls h hT_v85_2 hsh hR hl
          unfold w_work_J85 at h
          refine lv_iload_n hx hb dX14_work_85 rfl (lv_at hl 3 rfl) ?_
          refine lv_bipush (v := 21) hx hb dX14_work_86 (by decide) ?_
          have J_121 : ∀ (U121 : MS) (v121_1 : Int32) (v121_2 : Nat) (v121_3 : Int32) (v121_4 : Int32) (H : Heap) (locs : List Loc) (ls : Array Slot), w_work_J121 Q U121 v121_1 v121_2 v121_3 v121_4 → qT U121 v121_2 = 12 → shy S U121 → Rep g ad A s U121 H locs → lv_has ls 7 [(0, .ref (ad 0)), (1, .int v121_1), (2, .ref (ad v121_2)), (3, .int v121_3), (4, .int v121_4)] → W p l e (headSpec (wt2 yX14_work cX14_work 7 none) ({ frames := 5, cells := 0, slots := 0, locals := 109 })).room s m ([.ref (ad 0), .int x1, .ref (ad p2)] : List Value).toArray below meth c H locs 0 0 (MQ below (va_Qv (fun (u : MS) => Q u ∧ wfM u ∧ shy S u) (fun (u : MS) (t : State) => qE g ad A u t) A) ([.ref (ad 0), .int x1, .ref (ad p2)] : List Value).toArray s 0 0 A) (F0 m 121 ls []) := by
            intro U121 v121_1 v121_2 v121_3 v121_4 H locs ls h hT_v121_2 hsh hR hl
            unfold w_work_J121 at h
            refine lv_iload_n hx hb dX14_work_121 rfl (lv_at hl 3 rfl) ?_
            refine lv_bipush (v := 22) hx hb dX14_work_122 (by decide) ?_
            have J_166 : ∀ (U166 : MS) (v166_1 : Int32) (v166_2 : Nat) (v166_3 : Int32) (v166_4 : Int32) (H : Heap) (locs : List Loc) (ls : Array Slot), w_work_J166 Q U166 v166_1 v166_2 v166_3 v166_4 → qT U166 v166_2 = 12 → shy S U166 → Rep g ad A s U166 H locs → lv_has ls 7 [(0, .ref (ad 0)), (1, .int v166_1), (2, .ref (ad v166_2)), (3, .int v166_3), (4, .int v166_4)] → W p l e (headSpec (wt2 yX14_work cX14_work 7 none) ({ frames := 5, cells := 0, slots := 0, locals := 109 })).room s m ([.ref (ad 0), .int x1, .ref (ad p2)] : List Value).toArray below meth c H locs 0 0 (MQ below (va_Qv (fun (u : MS) => Q u ∧ wfM u ∧ shy S u) (fun (u : MS) (t : State) => qE g ad A u t) A) ([.ref (ad 0), .int x1, .ref (ad p2)] : List Value).toArray s 0 0 A) (F0 m 166 ls []) := by
              intro U166 v166_1 v166_2 v166_3 v166_4 H locs ls h hT_v166_2 hsh hR hl
              unfold w_work_J166 at h
              refine lv_iload_n hx hb dX14_work_166 rfl (lv_at hl 3 rfl) ?_
              refine lv_sipush (v := 172) hx hb dX14_work_167 (by decide) ?_
              have J_244 : ∀ (U244 : MS) (v244_1 : Int32) (v244_3 : Int32) (v244_4 : Int32) (H : Heap) (locs : List Loc) (ls : Array Slot), w_work_J244 Q U244 v244_1 v244_3 v244_4 → shy S U244 → Rep g ad A s U244 H locs → lv_has ls 7 [(0, .ref (ad 0)), (1, .int v244_1), (3, .int v244_3), (4, .int v244_4)] → W p l e (headSpec (wt2 yX14_work cX14_work 7 none) ({ frames := 5, cells := 0, slots := 0, locals := 109 })).room s m ([.ref (ad 0), .int x1, .ref (ad p2)] : List Value).toArray below meth c H locs 0 0 (MQ below (va_Qv (fun (u : MS) => Q u ∧ wfM u ∧ shy S u) (fun (u : MS) (t : State) => qE g ad A u t) A) ([.ref (ad 0), .int x1, .ref (ad p2)] : List Value).toArray s 0 0 A) (F0 m 244 ls []) := by
                intro U244 v244_1 v244_3 v244_4 H locs ls h hsh hR hl
                unfold w_work_J244 at h
                refine lv_aload_n hx hb dX14_work_244 rfl (lv_at hl 0 rfl) ?_
                refine lv_iload_n hx hb dX14_work_245 rfl (lv_at hl 1 rfl) ?_
                obtain ⟨hv13, h⟩ := h
                have hFc := rfree hR hA
                refine va_callq (va_runV (As := [.int v244_1]) (rest := []) ⟨hx, hb, hml, hown, hts⟩ (r_takesOf l g ad H.size U244 v244_1 hR.w  hv13) (cwV 1 hts (gd2_V kx_413 kx_414 kx_415 kx_177 kx_416) rfl rfl rfl (by decide +kernel) ⟨Nat.le_of_ble_eq_true rfl, Nat.le_of_ble_eq_true rfl⟩) ⟨rblind, va_recv hR.K hR.P (ci := 13) (q0 := 0) rfl (hR.at14 hR.w.1), fun U hU hW9 => rmk hU hW9 hR hex hE hFc⟩ rfl rfl hl.1 rfl (lv_room (Nat.le_of_ble_eq_true rfl)) dX14_work_246 ⟨Nat.le_of_ble_eq_true rfl, Nat.le_of_ble_eq_true rfl⟩) hR.sS (fun q _ h => hFc q h) hFc (fun r14 u9 t9 H1 locs ht9 hvm9 hw9 hB9 hz9 hk9 hS => ?_)
                have hR : Rep g ad A s U244 H1 locs := hR.call ht9 hB9 hR.w hS hFc
                obtain ⟨rfl, hT_r14⟩ := hw9
                clear hB9 hz9 hk9 hvm9 ht9 hS
                generalize H1 = H at hR ⊢
                refine lv_astore (lv' := [(5, .ref (ad (f_takesOf U244 v244_1))), (0, .ref (ad 0)), (1, .int v244_1), (3, .int v244_3), (4, .int v244_4)]) hx hb dX14_work_249 hl (by decide) rfl (fun ls hl => ?_)
                refine lv_aload hx hb dX14_work_251 (lv_at hl 0 rfl) ?_
                have hF : ∀ q, Ns H.size q → A q := fun q h => hA q (Nat.le_trans hR.sS.1 h)
                refine va_calli (va_runV (As := []) (rest := []) ⟨hx, hb, hml, hown, hts⟩ (s_length l H.size (ad (f_takesOf U244 v244_1)) (ad ((f_takesOf U244 v244_1) + 1)) (qN U244 ((f_takesOf U244 v244_1) + 1)) (qI U244 ((f_takesOf U244 v244_1) + 1))) (cwV 0 hts (gd2_V kx_248 kx_143 kx_144 kx_6 kx_145) rfl rfl rfl (by decide +kernel) ⟨Nat.le_of_ble_eq_true rfl, Nat.le_of_ble_eq_true rfl⟩) ⟨tblind (fun A u U H hv h => by exact tx1.moved hv h), (strR hts hR hE hA hT_r14), fun U hU hW9 => ⟨rfl, by rw [hU], str_at hts hR hE hA hT_r14 hU hW9, by rw [hU]; exact ((hE.1.kept hR.sS.2.1).narrow hF).moved hW9.alike⟩⟩ rfl rfl hl.1 rfl (lv_room (Nat.le_of_ble_eq_true rfl)) dX14_work_253 ⟨Nat.le_of_ble_eq_true rfl, Nat.le_of_ble_eq_true rfl⟩) hR.sS (fun q _ h => hF q h) hF (fun r16 u9 t9 H1 locs ht9 hvm9 hw9 hB9 hz9 hk9 hS => ?_)
                obtain rfl : r16 = (Int32.ofNat (qN U244 ((f_takesOf U244 v244_1) + 1))) := hw9
                have hR : Rep g ad A s U244 H1 locs := hR.keep hk9 hS
                clear hz9 hk9 hvm9 ht9 hB9 hF hS
                generalize H1 = H at hR ⊢
                refine lv_iconst (v := 1) hx hb dX14_work_256 (by decide) ?_
                refine lv_isub hx hb dX14_work_257 ?_
                refine lv_topi (fun z17 ez17 => ?_)
                obtain rfl : z17 = ((Int32.ofNat (qN U244 ((f_takesOf U244 v244_1) + 1))) - (1 : Int32)) := ez17
                obtain ⟨a18, ea18⟩ : ∃ z, z = ((Int32.ofNat (qN U244 ((f_takesOf U244 v244_1) + 1))) - (1 : Int32)) := ⟨_, rfl⟩
                rw [← ea18]
                replace h := h a18 ea18
                refine lv_istore (lv' := [(6, .int a18), (5, .ref (ad (f_takesOf U244 v244_1))), (0, .ref (ad 0)), (1, .int v244_1), (3, .int v244_3), (4, .int v244_4)]) hx hb dX14_work_258 hl (by decide) rfl (fun ls hl => ?_)
                have J_260 : ∀ (n260 : Nat) (U260 : MS) (v260_1 : Int32) (v260_3 : Int32) (v260_4 : Int32) (v260_5 : Nat) (v260_6 : Int32) (H : Heap) (locs : List Loc) (ls : Array Slot), w_work_L260 Q n260 U260 v260_1 v260_3 v260_4 v260_5 v260_6 → qT U260 v260_5 = 12 → shy S U260 → Rep g ad A s U260 H locs → lv_has ls 7 [(0, .ref (ad 0)), (1, .int v260_1), (3, .int v260_3), (4, .int v260_4), (5, .ref (ad v260_5)), (6, .int v260_6)] → W p l e (headSpec (wt2 yX14_work cX14_work 7 none) ({ frames := 5, cells := 0, slots := 0, locals := 109 })).room s m ([.ref (ad 0), .int x1, .ref (ad p2)] : List Value).toArray below meth c H locs 0 0 (MQ below (va_Qv (fun (u : MS) => Q u ∧ wfM u ∧ shy S u) (fun (u : MS) (t : State) => qE g ad A u t) A) ([.ref (ad 0), .int x1, .ref (ad p2)] : List Value).toArray s 0 0 A) (F0 m 260 ls []) := by
                  intro n260
                  induction n260 with
                  | zero => intro U260 v260_1 v260_3 v260_4 v260_5 v260_6 H locs ls h hT_v260_5 hsh hR hl; unfold w_work_L260 at h; exact h.elim
                  | succ n260 ih_260 =>
                    intro U260 v260_1 v260_3 v260_4 v260_5 v260_6 H locs ls h hT_v260_5 hsh hR hl
                    unfold w_work_L260 at h
                    refine lv_iload hx hb dX14_work_260 (lv_at hl 5 rfl) ?_
                    refine lv_if_lt (tgt := 282) hx hb dX14_work_262 (by decide) (fun c19 => ?_) (fun c19 => ?_)
                    · replace h := h.1 (k_lt rfl (by decide) c19)
                      refine lv_iload_n hx hb dX14_work_282 rfl (lv_at hl 2 rfl) ?_
                      refine lv_bipush (v := 54) hx hb dX14_work_283 (by decide) ?_
                      have J_312 : ∀ (U312 : MS) (v312_1 : Int32) (v312_4 : Int32) (H : Heap) (locs : List Loc) (ls : Array Slot), w_work_J312 Q U312 v312_1 v312_4 → shy S U312 → Rep g ad A s U312 H locs → lv_has ls 7 [(0, .ref (ad 0)), (1, .int v312_1), (4, .int v312_4)] → W p l e (headSpec (wt2 yX14_work cX14_work 7 none) ({ frames := 5, cells := 0, slots := 0, locals := 109 })).room s m ([.ref (ad 0), .int x1, .ref (ad p2)] : List Value).toArray below meth c H locs 0 0 (MQ below (va_Qv (fun (u : MS) => Q u ∧ wfM u ∧ shy S u) (fun (u : MS) (t : State) => qE g ad A u t) A) ([.ref (ad 0), .int x1, .ref (ad p2)] : List Value).toArray s 0 0 A) (F0 m 312 ls []) := by
                        intro U312 v312_1 v312_4 H locs ls h hsh hR hl
                        unfold w_work_J312 at h
                        refine lv_aload_n hx hb dX14_work_312 rfl (lv_at hl 0 rfl) ?_
                        refine lv_aload_n hx hb dX14_work_313 rfl (lv_at hl 0 rfl) ?_
                        refine lv_iload_n hx hb dX14_work_314 rfl (lv_at hl 1 rfl) ?_
                        obtain ⟨hv20, h⟩ := h
                        have hFc := rfree hR hA
                        refine va_callq (va_runV (As := [.int v312_1]) (rest := [.ref (ad 0)]) ⟨hx, hb, hml, hown, hts⟩ (r_givesOf l g ad H.size U312 v312_1 hR.w  hv20) (cwV 1 hts (gd2_V kx_403 kx_404 kx_405 kx_177 kx_406) rfl rfl rfl (by decide +kernel) ⟨Nat.le_of_ble_eq_true rfl, Nat.le_of_ble_eq_true rfl⟩) ⟨rblind, va_recv hR.K hR.P (ci := 13) (q0 := 0) rfl (hR.at14 hR.w.1), fun U hU hW9 => rmk hU hW9 hR hex hE hFc⟩ rfl rfl hl.1 rfl (lv_room (Nat.le_of_ble_eq_true rfl)) dX14_work_315 ⟨Nat.le_of_ble_eq_true rfl, Nat.le_of_ble_eq_true rfl⟩) hR.sS (fun q _ h => hFc q h) hFc (fun r21 u9 t9 H1 locs ht9 hvm9 hw9 hB9 hz9 hk9 hS => ?_)
                        have hR : Rep g ad A s U312 H1 locs := hR.call ht9 hB9 hR.w hS hFc
                        obtain ⟨rfl, hT_r21⟩ := hw9
                        clear hB9 hz9 hk9 hvm9 ht9 hS
                        generalize H1 = H at hR ⊢
                        refine lv_iload hx hb dX14_work_318 (lv_at hl 2 rfl) ?_
                        obtain ⟨Q23, h0, h⟩ := h
                        have hFc := rfree hR hA
                        refine va_callv (va_runV (As := [.ref (ad (f_givesOf U312 v312_1)), .int v312_4]) (rest := []) ⟨hx, hb, hml, hown, hts⟩ (r_giveLetters l g ad H.size U312 (f_givesOf U312 v312_1) v312_4 hR.w hT_r21 Q23 h0) (cwV 2 hts (gd2_V kx_478 kx_479 kx_480 kx_177 kx_481) rfl rfl rfl (by decide +kernel) ⟨Nat.le_of_ble_eq_true rfl, Nat.le_of_ble_eq_true rfl⟩) ⟨rblind, va_recv hR.K hR.P (ci := 13) (q0 := 0) rfl (hR.at14 hR.w.1), fun U hU hW9 => rmk hU hW9 hR hex hE hFc⟩ rfl rfl hl.1 rfl (lv_room (Nat.le_of_ble_eq_true rfl)) dX14_work_320 ⟨Nat.le_of_ble_eq_true rfl, Nat.le_of_ble_eq_true rfl⟩) hR.sS (fun q _ h => hFc q h) hFc (fun  S24 t9 H1 locs ht9 hvm9 hw9 hB9 hz9 hk9 hS => ?_)
                        obtain ⟨hq25, hw9, hs9⟩ := hw9
                        have hR : Rep g ad A s S24 H1 locs := hR.call ht9 hB9 hw9 hS hFc
                        have hsh := hsh.tr hs9
                        replace h := h  S24 hq25
                        clear hB9 hz9 hk9 hvm9 ht9 hw9 hs9 hS
                        generalize H1 = H at hR ⊢
                        exact W.vret hx hb hr (fun t9 ht9 hW9 => ⟨⟨S24, rfl, ⟨h, hR.w, hsh⟩, ⟨by rw [ht9]; exact hR.P, hR.D⟩⟩, hR.sS.F ht9⟩) hR.sS.2.2 dX14_work_323
                      have J_300 : ∀ (U300 : MS) (v300_1 : Int32) (v300_3 : Int32) (v300_4 : Int32) (H : Heap) (locs : List Loc) (ls : Array Slot), w_work_J300 Q U300 v300_1 v300_3 v300_4 → shy S U300 → Rep g ad A s U300 H locs → lv_has ls 7 [(0, .ref (ad 0)), (1, .int v300_1), (3, .int v300_3), (4, .int v300_4)] → W p l e (headSpec (wt2 yX14_work cX14_work 7 none) ({ frames := 5, cells := 0, slots := 0, locals := 109 })).room s m ([.ref (ad 0), .int x1, .ref (ad p2)] : List Value).toArray below meth c H locs 0 0 (MQ below (va_Qv (fun (u : MS) => Q u ∧ wfM u ∧ shy S u) (fun (u : MS) (t : State) => qE g ad A u t) A) ([.ref (ad 0), .int x1, .ref (ad p2)] : List Value).toArray s 0 0 A) (F0 m 300 ls []) := by
                        intro U300 v300_1 v300_3 v300_4 H locs ls h hsh hR hl
                        unfold w_work_J300 at h
                        refine lv_aload_n hx hb dX14_work_300 rfl (lv_at hl 0 rfl) ?_
                        refine lv_iload_n hx hb dX14_work_301 rfl (lv_at hl 2 rfl) ?_
                        refine lv_aload_n hx hb dX14_work_302 rfl (lv_at hl 0 rfl) ?_
                        refine lv_iload_n hx hb dX14_work_303 rfl (lv_at hl 1 rfl) ?_
                        obtain ⟨hv26, h⟩ := h
                        have hFc := rfree hR hA
                        refine va_calli (va_runV (As := [.int v300_1]) (rest := [.int v300_3, .ref (ad 0)]) ⟨hx, hb, hml, hown, hts⟩ (r_first l g ad H.size U300 v300_1 hR.w  hv26) (cwV 1 hts (gd2_V kx_393 kx_394 kx_395 kx_177 kx_396) rfl rfl rfl (by decide +kernel) ⟨Nat.le_of_ble_eq_true rfl, Nat.le_of_ble_eq_true rfl⟩) ⟨rblind, va_recv hR.K hR.P (ci := 13) (q0 := 0) rfl (hR.at14 hR.w.1), fun U hU hW9 => rmk hU hW9 hR hex hE hFc⟩ rfl rfl hl.1 rfl (lv_room (Nat.le_of_ble_eq_true rfl)) dX14_work_304 ⟨Nat.le_of_ble_eq_true rfl, Nat.le_of_ble_eq_true rfl⟩) hR.sS (fun q _ h => hFc q h) hFc (fun r27 u9 t9 H1 locs ht9 hvm9 hw9 hB9 hz9 hk9 hS => ?_)
                        have hR : Rep g ad A s U300 H1 locs := hR.call ht9 hB9 hR.w hS hFc
                        obtain rfl : r27 = (f_first U300 v300_1) := hw9
                        clear hB9 hz9 hk9 hvm9 ht9 hS
                        generalize H1 = H at hR ⊢
                        refine lv_iload hx hb dX14_work_307 (lv_at hl 3 rfl) ?_
                        obtain ⟨Q29, h0, h⟩ := h
                        have hFc := rfree hR hA
                        refine va_callv (va_runV (As := [.int v300_3, .int (f_first U300 v300_1), .int v300_4]) (rest := []) ⟨hx, hb, hml, hown, hts⟩ (r_store l g ad H.size U300 v300_3 (f_first U300 v300_1) v300_4 hR.w  Q29 h0) (cwV 3 hts (gd2_V kx_881 kx_882 kx_883 kx_177 kx_884) rfl rfl rfl (by decide +kernel) ⟨Nat.le_of_ble_eq_true rfl, Nat.le_of_ble_eq_true rfl⟩) ⟨rblind, va_recv hR.K hR.P (ci := 13) (q0 := 0) rfl (hR.at14 hR.w.1), fun U hU hW9 => rmk hU hW9 hR hex hE hFc⟩ rfl rfl hl.1 rfl (lv_room (Nat.le_of_ble_eq_true rfl)) dX14_work_309 ⟨Nat.le_of_ble_eq_true rfl, Nat.le_of_ble_eq_true rfl⟩) hR.sS (fun q _ h => hFc q h) hFc (fun  S30 t9 H1 locs ht9 hvm9 hw9 hB9 hz9 hk9 hS => ?_)
                        obtain ⟨hq31, hw9, hs9⟩ := hw9
                        have hR : Rep g ad A s S30 H1 locs := hR.call ht9 hB9 hw9 hS hFc
                        have hsh := hsh.tr hs9
                        replace h := h  S30 hq31
                        clear hB9 hz9 hk9 hvm9 ht9 hw9 hs9 hS
                        generalize H1 = H at hR ⊢
                        exact J_312 S30 v300_1 v300_4 _ _ ls h  hsh hR (lv_sub hl [0, 1, 3] rfl)
                      refine lv_icmp_eq (tgt := 300) hx hb dX14_work_285 (by decide) (fun c32 => ?_) (fun c32 => ?_)
                      · replace h := h.1 (k_eq rfl (by decide) c32)
                        exact J_300 U260 v260_1 v260_3 v260_4 _ _ ls h  hsh hR (lv_sub hl [0, 1, 2, 3] rfl)
                      · replace h := h.2 (k_ne rfl (by decide) c32)
                        refine lv_iload_n hx hb dX14_work_288 rfl (lv_at hl 2 rfl) ?_
                        refine lv_bipush (v := 55) hx hb dX14_work_289 (by decide) ?_
                        refine lv_icmp_eq (tgt := 300) hx hb dX14_work_291 (by decide) (fun c33 => ?_) (fun c33 => ?_)
                        · replace h := h.1 (k_eq rfl (by decide) c33)
                          exact J_300 U260 v260_1 v260_3 v260_4 _ _ ls h  hsh hR (lv_sub hl [0, 1, 2, 3] rfl)
                        · replace h := h.2 (k_ne rfl (by decide) c33)
                          refine lv_iload_n hx hb dX14_work_294 rfl (lv_at hl 2 rfl) ?_
                          refine lv_bipush (v := 58) hx hb dX14_work_295 (by decide) ?_
                          refine lv_icmp_ne (tgt := 312) hx hb dX14_work_297 (by decide) (fun c34 => ?_) (fun c34 => ?_)
                          · replace h := h.2 (k_ne rfl (by decide) c34)
                            exact J_312 U260 v260_1 v260_4 _ _ ls h  hsh hR (lv_sub hl [0, 1, 3] rfl)
                          · replace h := h.1 (k_eq rfl (by decide) c34)
                            exact J_300 U260 v260_1 v260_3 v260_4 _ _ ls h  hsh hR (lv_sub hl [0, 1, 2, 3] rfl)
                    · replace h := h.2 (k_nlt rfl (by decide) c19)
                      refine lv_aload_n hx hb dX14_work_265 rfl (lv_at hl 0 rfl) ?_
                      refine lv_aload hx hb dX14_work_266 (lv_at hl 4 rfl) ?_
                      refine lv_iload hx hb dX14_work_268 (lv_at hl 5 rfl) ?_
                      obtain ⟨hv35, h⟩ := h
                      have hF : ∀ q, Ns H.size q → A q := fun q h => hA q (Nat.le_trans hR.sS.1 h)
                      refine va_calli (va_runV (As := [.int v260_6]) (rest := [.ref (ad 0)]) ⟨hx, hb, hml, hown, hts⟩ (s_charAt l H.size (ad v260_5) (ad (v260_5 + 1)) (qN U260 (v260_5 + 1)) (qI U260 (v260_5 + 1)) v260_6 (hR.w.len hT_v260_5) hv35) (cwV 1 hts (gd2_V kx_249 kx_250 kx_251 kx_6 kx_252) rfl rfl rfl (by decide +kernel) ⟨Nat.le_of_ble_eq_true rfl, Nat.le_of_ble_eq_true rfl⟩) ⟨tblind (fun A u U H hv h => by exact tx1.moved hv h), (strR hts hR hE hA hT_v260_5), fun U hU hW9 => ⟨rfl, by rw [hU], str_at hts hR hE hA hT_v260_5 hU hW9, by rw [hU]; exact ((hE.1.kept hR.sS.2.1).narrow hF).moved hW9.alike⟩⟩ rfl rfl hl.1 rfl (lv_room (Nat.le_of_ble_eq_true rfl)) dX14_work_270 ⟨Nat.le_of_ble_eq_true rfl, Nat.le_of_ble_eq_true rfl⟩) hR.sS (fun q _ h => hF q h) hF (fun r36 u9 t9 H1 locs ht9 hvm9 hw9 hB9 hz9 hk9 hS => ?_)
                      obtain rfl : r36 = (cAt U260 v260_5 v260_6) := hw9
                      have hR : Rep g ad A s U260 H1 locs := hR.keep hk9 hS
                      clear hz9 hk9 hvm9 ht9 hB9 hF hS
                      generalize H1 = H at hR ⊢
                      obtain ⟨Q37, h0, h⟩ := h
                      have hFc := rfree hR hA
                      refine va_callv (va_runV (As := [.int (cAt U260 v260_5 v260_6)]) (rest := []) ⟨hx, hb, hml, hown, hts⟩ (r_takeLetter l g ad H.size U260 (cAt U260 v260_5 v260_6) hR.w  Q37 h0) (cwV 1 hts (gd2_V kx_885 kx_886 kx_887 kx_177 kx_888) rfl rfl rfl (by decide +kernel) ⟨Nat.le_of_ble_eq_true rfl, Nat.le_of_ble_eq_true rfl⟩) ⟨rblind, va_recv hR.K hR.P (ci := 13) (q0 := 0) rfl (hR.at14 hR.w.1), fun U hU hW9 => rmk hU hW9 hR hex hE hFc⟩ rfl rfl hl.1 rfl (lv_room (Nat.le_of_ble_eq_true rfl)) dX14_work_273 ⟨Nat.le_of_ble_eq_true rfl, Nat.le_of_ble_eq_true rfl⟩) hR.sS (fun q _ h => hFc q h) hFc (fun  S38 t9 H1 locs ht9 hvm9 hw9 hB9 hz9 hk9 hS => ?_)
                      obtain ⟨hq39, hw9, hs9⟩ := hw9
                      have hR : Rep g ad A s S38 H1 locs := hR.call ht9 hB9 hw9 hS hFc
                      have hsh := hsh.tr hs9
                      replace h := h  S38 hq39
                      have hT_v260_5 := hs9.T hT_v260_5 (by decide)
                      clear hB9 hz9 hk9 hvm9 ht9 hw9 hs9 hS
                      generalize H1 = H at hR ⊢
                      obtain ⟨a40, ea40⟩ : ∃ z, z = (v260_6 + Int32.ofInt (-1)) := ⟨_, rfl⟩
                      replace h := h a40 ea40
                      refine lv_iinc (v := a40) (lv' := [(6, .int a40), (0, .ref (ad 0)), (1, .int v260_1), (3, .int v260_3), (4, .int v260_4), (5, .ref (ad v260_5))]) hx hb dX14_work_276 hl (k := 5) rfl ea40.symm (by decide) rfl (fun ls hl => ?_)
                      refine lv_goto (tgt := 260) hx hb dX14_work_279 (by decide) ?_
                      exact ih_260 S38 v260_1 v260_3 v260_4 v260_5 a40 _ _ ls h hT_v260_5 hsh hR (lv_sub hl [1, 2, 3, 4, 5, 0] rfl)
                obtain ⟨n9, h⟩ := h
                exact J_260 n9 U244 v244_1 v244_3 v244_4 (f_takesOf U244 v244_1) a18 _ _ ls h hT_r14 hsh hR (lv_sub hl [2, 3, 4, 5, 1, 0] rfl)
              have J_194 : ∀ (U194 : MS) (v194_1 : Int32) (v194_2 : Nat) (v194_3 : Int32) (v194_4 : Int32) (H : Heap) (locs : List Loc) (ls : Array Slot), w_work_J194 Q U194 v194_1 v194_2 v194_3 v194_4 → qT U194 v194_2 = 12 → shy S U194 → Rep g ad A s U194 H locs → lv_has ls 7 [(0, .ref (ad 0)), (1, .int v194_1), (2, .ref (ad v194_2)), (3, .int v194_3), (4, .int v194_4)] → W p l e (headSpec (wt2 yX14_work cX14_work 7 none) ({ frames := 5, cells := 0, slots := 0, locals := 109 })).room s m ([.ref (ad 0), .int x1, .ref (ad p2)] : List Value).toArray below meth c H locs 0 0 (MQ below (va_Qv (fun (u : MS) => Q u ∧ wfM u ∧ shy S u) (fun (u : MS) (t : State) => qE g ad A u t) A) ([.ref (ad 0), .int x1, .ref (ad p2)] : List Value).toArray s 0 0 A) (F0 m 194 ls []) := by
                intro U194 v194_1 v194_2 v194_3 v194_4 H locs ls h hT_v194_2 hsh hR hl
                unfold w_work_J194 at h
                refine lv_aload_n hx hb dX14_work_194 rfl (lv_at hl 0 rfl) ?_
                refine lv_aload_n hx hb dX14_work_195 rfl (lv_at hl 2 rfl) ?_
                refine lv_iload_n hx hb dX14_work_196 rfl (lv_at hl 3 rfl) ?_
                refine lv_sipush (v := 172) hx hb dX14_work_197 (by decide) ?_
                have J_238 : ∀ (U238 : MS) (t238_0 : Nat) (t238_1 : Nat) (v238_1 : Int32) (v238_3 : Int32) (v238_4 : Int32) (H : Heap) (locs : List Loc) (ls : Array Slot), w_work_J238 Q U238 t238_0 t238_1 v238_1 v238_3 v238_4 → qT U238 t238_0 = 12 → qT U238 t238_1 = 12 → shy S U238 → Rep g ad A s U238 H locs → lv_has ls 7 [(0, .ref (ad 0)), (1, .int v238_1), (3, .int v238_3), (4, .int v238_4)] → W p l e (headSpec (wt2 yX14_work cX14_work 7 none) ({ frames := 5, cells := 0, slots := 0, locals := 109 })).room s m ([.ref (ad 0), .int x1, .ref (ad p2)] : List Value).toArray below meth c H locs 0 0 (MQ below (va_Qv (fun (u : MS) => Q u ∧ wfM u ∧ shy S u) (fun (u : MS) (t : State) => qE g ad A u t) A) ([.ref (ad 0), .int x1, .ref (ad p2)] : List Value).toArray s 0 0 A) (F0 m 238 ls [.ref (ad t238_0), .ref (ad t238_1), .ref (ad 0)]) := by
                  intro U238 t238_0 t238_1 v238_1 v238_3 v238_4 H locs ls h hT_t238_0 hT_t238_1 hsh hR hl
                  unfold w_work_J238 at h
                  have hF : ∀ q, Ns H.size q → A q := fun q h => hA q (Nat.le_trans hR.sS.1 h)
                  refine va_calli (va_runV (As := [.ref (ad t238_0)]) (rest := [.ref (ad 0)]) ⟨hx, hb, hml, hown, hts⟩ (s_equals l H.size (ad t238_1) (ad (t238_1 + 1)) (qN U238 (t238_1 + 1)) (qI U238 (t238_1 + 1)) (ad t238_0) (ad (t238_0 + 1)) (qN U238 (t238_0 + 1)) (qI U238 (t238_0 + 1)) (hR.w.len hT_t238_1) (hR.w.len hT_t238_0)) (cwV 1 hts (gd2_V kx_539 kx_540 kx_541 kx_6 kx_542) rfl rfl rfl (by decide +kernel) ⟨Nat.le_of_ble_eq_true rfl, Nat.le_of_ble_eq_true rfl⟩) ⟨tblind (fun A u U H hv h => by exact ⟨tx1.moved hv h.1, tx1.moved hv h.2⟩), (strR hts hR hE hA hT_t238_1), fun U hU hW9 => ⟨rfl, by rw [hU], ⟨str_at hts hR hE hA hT_t238_1 hU hW9, str_at hts hR hE hA hT_t238_0 hU hW9⟩, by rw [hU]; exact ((hE.1.kept hR.sS.2.1).narrow hF).moved hW9.alike⟩⟩ rfl rfl hl.1 rfl (lv_room (Nat.le_of_ble_eq_true rfl)) dX14_work_238 ⟨Nat.le_of_ble_eq_true rfl, Nat.le_of_ble_eq_true rfl⟩) hR.sS (fun q _ h => hF q h) hF (fun r41 u9 t9 H1 locs ht9 hvm9 hw9 hB9 hz9 hk9 hS => ?_)
                  obtain ⟨hw9, hz_r41⟩ := sEq_of hw9
                  obtain rfl : r41 = (sEq U238 t238_1 t238_0) := hw9
                  have hR : Rep g ad A s U238 H1 locs := hR.keep hk9 hS
                  clear hz9 hk9 hvm9 ht9 hB9 hF hS
                  generalize H1 = H at hR ⊢
                  obtain ⟨Q42, h0, h⟩ := h
                  have hFc := rfree hR hA
                  refine va_callv (va_runV (As := [.int (sEq U238 t238_1 t238_0)]) (rest := []) ⟨hx, hb, hml, hown, hts⟩ (r_need l g ad H.size U238 (sEq U238 t238_1 t238_0) hR.w hz_r41 Q42 h0) (cwV 1 hts (gd2_V kx_469 kx_470 kx_471 kx_177 kx_472) rfl rfl rfl (by decide +kernel) ⟨Nat.le_of_ble_eq_true rfl, Nat.le_of_ble_eq_true rfl⟩) ⟨rblind, va_recv hR.K hR.P (ci := 13) (q0 := 0) rfl (hR.at14 hR.w.1), fun U hU hW9 => rmk hU hW9 hR hex hE hFc⟩ rfl rfl hl.1 rfl (lv_room (Nat.le_of_ble_eq_true rfl)) dX14_work_241 ⟨Nat.le_of_ble_eq_true rfl, Nat.le_of_ble_eq_true rfl⟩) hR.sS (fun q _ h => hFc q h) hFc (fun  S43 t9 H1 locs ht9 hvm9 hw9 hB9 hz9 hk9 hS => ?_)
                  obtain ⟨hq44, hw9, hs9⟩ := hw9
                  have hR : Rep g ad A s S43 H1 locs := hR.call ht9 hB9 hw9 hS hFc
                  have hsh := hsh.tr hs9
                  replace h := h  S43 hq44
                  clear hB9 hz9 hk9 hvm9 ht9 hw9 hs9 hS
                  generalize H1 = H at hR ⊢
                  exact J_244 S43 v238_1 v238_3 v238_4 _ _ ls h  hsh hR (lv_sub hl [0, 1, 2, 3] rfl)
                refine lv_icmp_ne (tgt := 209) hx hb dX14_work_200 (by decide) (fun c45 => ?_) (fun c45 => ?_)
                · replace h := h.2 (k_ne rfl (by decide) c45)
                  refine lv_iload_n hx hb dX14_work_209 rfl (lv_at hl 3 rfl) ?_
                  refine lv_sipush (v := 173) hx hb dX14_work_210 (by decide) ?_
                  refine lv_icmp_ne (tgt := 222) hx hb dX14_work_213 (by decide) (fun c46 => ?_) (fun c46 => ?_)
                  · replace h := h.2 (k_ne rfl (by decide) c46)
                    refine lv_iload_n hx hb dX14_work_222 rfl (lv_at hl 3 rfl) ?_
                    refine lv_sipush (v := 176) hx hb dX14_work_223 (by decide) ?_
                    refine lv_icmp_ne (tgt := 235) hx hb dX14_work_226 (by decide) (fun c47 => ?_) (fun c47 => ?_)
                    · replace h := h.2 (k_ne rfl (by decide) c47)
                      have hT_t48 : qT U194 10000032 = 12 := hR.w.txt (i := 16) (by decide)
                      refine va_ldcSW (tx := "") (q := ad 10000032) hx hb hown (hE.2.2 _ ldc_721) dX14_work_235 ?_
                      exact J_238 U194 10000032 v194_2 v194_1 v194_3 v194_4 _ _ ls h hT_t48 hT_v194_2 hsh hR (lv_sub hl [0, 1, 3, 4] rfl)
                    · replace h := h.1 (k_eq rfl (by decide) c47)
                      have hT_t49 : qT U194 10000028 = 12 := hR.w.txt (i := 14) (by decide)
                      refine va_ldcSW (tx := "A") (q := ad 10000028) hx hb hown (hE.2.2 _ ldc_717) dX14_work_229 ?_
                      refine lv_goto (tgt := 238) hx hb dX14_work_232 (by decide) ?_
                      exact J_238 U194 10000028 v194_2 v194_1 v194_3 v194_4 _ _ ls h hT_t49 hT_v194_2 hsh hR (lv_sub hl [0, 1, 3, 4] rfl)
                  · replace h := h.1 (k_eq rfl (by decide) c46)
                    have hT_t50 : qT U194 10000022 = 12 := hR.w.txt (i := 11) (by decide)
                    refine va_ldcSW (tx := "J") (q := ad 10000022) hx hb hown (hE.2.2 _ ldc_711) dX14_work_216 ?_
                    refine lv_goto (tgt := 238) hx hb dX14_work_219 (by decide) ?_
                    exact J_238 U194 10000022 v194_2 v194_1 v194_3 v194_4 _ _ ls h hT_t50 hT_v194_2 hsh hR (lv_sub hl [0, 1, 3, 4] rfl)
                · replace h := h.1 (k_eq rfl (by decide) c45)
                  have hT_t51 : qT U194 10000016 = 12 := hR.w.txt (i := 8) (by decide)
                  refine va_ldcSW (tx := "I") (q := ad 10000016) hx hb hown (hE.2.2 _ ldc_706) dX14_work_203 ?_
                  refine lv_goto (tgt := 238) hx hb dX14_work_206 (by decide) ?_
                  exact J_238 U194 10000016 v194_2 v194_1 v194_3 v194_4 _ _ ls h hT_t51 hT_v194_2 hsh hR (lv_sub hl [0, 1, 3, 4] rfl)
              refine lv_icmp_eq (tgt := 194) hx hb dX14_work_170 (by decide) (fun c52 => ?_) (fun c52 => ?_)
              · replace h := h.1 (k_eq rfl (by decide) c52)
                exact J_194 U166 v166_1 v166_2 v166_3 v166_4 _ _ ls h hT_v166_2 hsh hR (lv_sub hl [0, 1, 2, 3, 4] rfl)
              · replace h := h.2 (k_ne rfl (by decide) c52)
                refine lv_iload_n hx hb dX14_work_173 rfl (lv_at hl 3 rfl) ?_
                refine lv_sipush (v := 173) hx hb dX14_work_174 (by decide) ?_
                refine lv_icmp_eq (tgt := 194) hx hb dX14_work_177 (by decide) (fun c53 => ?_) (fun c53 => ?_)
                · replace h := h.1 (k_eq rfl (by decide) c53)
                  exact J_194 U166 v166_1 v166_2 v166_3 v166_4 _ _ ls h hT_v166_2 hsh hR (lv_sub hl [0, 1, 2, 3, 4] rfl)
                · replace h := h.2 (k_ne rfl (by decide) c53)
                  refine lv_iload_n hx hb dX14_work_180 rfl (lv_at hl 3 rfl) ?_
                  refine lv_sipush (v := 176) hx hb dX14_work_181 (by decide) ?_
                  refine lv_icmp_eq (tgt := 194) hx hb dX14_work_184 (by decide) (fun c54 => ?_) (fun c54 => ?_)
                  · replace h := h.1 (k_eq rfl (by decide) c54)
                    exact J_194 U166 v166_1 v166_2 v166_3 v166_4 _ _ ls h hT_v166_2 hsh hR (lv_sub hl [0, 1, 2, 3, 4] rfl)
                  · replace h := h.2 (k_ne rfl (by decide) c54)
                    refine lv_iload_n hx hb dX14_work_187 rfl (lv_at hl 3 rfl) ?_
                    refine lv_sipush (v := 177) hx hb dX14_work_188 (by decide) ?_
                    refine lv_icmp_ne (tgt := 244) hx hb dX14_work_191 (by decide) (fun c55 => ?_) (fun c55 => ?_)
                    · replace h := h.2 (k_ne rfl (by decide) c55)
                      exact J_244 U166 v166_1 v166_3 v166_4 _ _ ls h  hsh hR (lv_sub hl [0, 1, 3, 4] rfl)
                    · replace h := h.1 (k_eq rfl (by decide) c55)
                      exact J_194 U166 v166_1 v166_2 v166_3 v166_4 _ _ ls h hT_v166_2 hsh hR (lv_sub hl [0, 1, 2, 3, 4] rfl)
            refine lv_icmp_ne (tgt := 166) hx hb dX14_work_124 (by decide) (fun c56 => ?_) (fun c56 => ?_)
            · replace h := h.2 (k_ne rfl (by decide) c56)
              exact J_166 U121 v121_1 v121_2 v121_3 v121_4 _ _ ls h hT_v121_2 hsh hR (lv_sub hl [0, 1, 2, 3, 4] rfl)
            · replace h := h.1 (k_eq rfl (by decide) c56)
              refine lv_aload_n hx hb dX14_work_127 rfl (lv_at hl 0 rfl) ?_
              refine lv_aload_n hx hb dX14_work_128 rfl (lv_at hl 0 rfl) ?_
              refine va_get (D := rD g) (ci := 13) (v := .ref (ad 25)) (C := RX14) (T := TX14) (N := 143) hx hb hts in2X14 hown hR.K hR.P 0 (hR.at14 hR.w.1) rfl 60 (by decide) (hts _ kx_477) (fun _ h9 => h9) (congrArg (fun z => some (vf ad z)) (hR.w.2.1 _ fin_60).1) dX14_work_129 ?_
              refine lv_aload_n hx hb dX14_work_132 rfl (lv_at hl 0 rfl) ?_
              refine lv_iload_n hx hb dX14_work_133 rfl (lv_at hl 1 rfl) ?_
              obtain ⟨hv57, h⟩ := h
              have hFc := rfree hR hA
              refine va_calli (va_runV (As := [.int v121_1]) (rest := [.ref (ad 25), .ref (ad 0)]) ⟨hx, hb, hml, hown, hts⟩ (r_first l g ad H.size U121 v121_1 hR.w  hv57) (cwV 1 hts (gd2_V kx_393 kx_394 kx_395 kx_177 kx_396) rfl rfl rfl (by decide +kernel) ⟨Nat.le_of_ble_eq_true rfl, Nat.le_of_ble_eq_true rfl⟩) ⟨rblind, va_recv hR.K hR.P (ci := 13) (q0 := 0) rfl (hR.at14 hR.w.1), fun U hU hW9 => rmk hU hW9 hR hex hE hFc⟩ rfl rfl hl.1 rfl (lv_room (Nat.le_of_ble_eq_true rfl)) dX14_work_134 ⟨Nat.le_of_ble_eq_true rfl, Nat.le_of_ble_eq_true rfl⟩) hR.sS (fun q _ h => hFc q h) hFc (fun r58 u9 t9 H1 locs ht9 hvm9 hw9 hB9 hz9 hk9 hS => ?_)
              have hR : Rep g ad A s U121 H1 locs := hR.call ht9 hB9 hR.w hS hFc
              obtain rfl : r58 = (f_first U121 v121_1) := hw9
              clear hB9 hz9 hk9 hvm9 ht9 hS
              generalize H1 = H at hR ⊢
              obtain ⟨hv60, h⟩ := h
              refine va_bald hx hb hR.K hR.P 25 0 (hR.atB (hR.w.2.1 _ fin_60).2.1) rfl (k_ixN (k_ix (n := 24) (x := (f_first U121 v121_1)) (a := (f_first U121 v121_1).toInt) rfl hv60) (hR.w.2.1 _ fin_60).2.2) dX14_work_137 ?_
              refine lv_topi (fun z61 ez61 => ?_)
              obtain rfl : z61 = (qI U121 25 (((f_first U121 v121_1).toInt).toNat)) := ez61
              refine lv_iconst (v := 2) hx hb dX14_work_138 (by decide) ?_
              have J_163 : ∀ (U163 : MS) (t163_0 : Int32) (v163_1 : Int32) (v163_2 : Nat) (v163_3 : Int32) (v163_4 : Int32) (H : Heap) (locs : List Loc) (ls : Array Slot), w_work_J163 Q U163 t163_0 v163_1 v163_2 v163_3 v163_4 → qT U163 v163_2 = 12 → (t163_0 = 0 ∨ t163_0 = 1) → shy S U163 → Rep g ad A s U163 H locs → lv_has ls 7 [(0, .ref (ad 0)), (1, .int v163_1), (2, .ref (ad v163_2)), (3, .int v163_3), (4, .int v163_4)] → W p l e (headSpec (wt2 yX14_work cX14_work 7 none) ({ frames := 5, cells := 0, slots := 0, locals := 109 })).room s m ([.ref (ad 0), .int x1, .ref (ad p2)] : List Value).toArray below meth c H locs 0 0 (MQ below (va_Qv (fun (u : MS) => Q u ∧ wfM u ∧ shy S u) (fun (u : MS) (t : State) => qE g ad A u t) A) ([.ref (ad 0), .int x1, .ref (ad p2)] : List Value).toArray s 0 0 A) (F0 m 163 ls [.int t163_0, .ref (ad 0)]) := by
                intro U163 t163_0 v163_1 v163_2 v163_3 v163_4 H locs ls h hT_v163_2 hz_t163_0 hsh hR hl
                unfold w_work_J163 at h
                obtain ⟨Q62, h0, h⟩ := h
                have hFc := rfree hR hA
                refine va_callv (va_runV (As := [.int t163_0]) (rest := []) ⟨hx, hb, hml, hown, hts⟩ (r_need l g ad H.size U163 t163_0 hR.w hz_t163_0 Q62 h0) (cwV 1 hts (gd2_V kx_469 kx_470 kx_471 kx_177 kx_472) rfl rfl rfl (by decide +kernel) ⟨Nat.le_of_ble_eq_true rfl, Nat.le_of_ble_eq_true rfl⟩) ⟨rblind, va_recv hR.K hR.P (ci := 13) (q0 := 0) rfl (hR.at14 hR.w.1), fun U hU hW9 => rmk hU hW9 hR hex hE hFc⟩ rfl rfl hl.1 rfl (lv_room (Nat.le_of_ble_eq_true rfl)) dX14_work_163 ⟨Nat.le_of_ble_eq_true rfl, Nat.le_of_ble_eq_true rfl⟩) hR.sS (fun q _ h => hFc q h) hFc (fun  S63 t9 H1 locs ht9 hvm9 hw9 hB9 hz9 hk9 hS => ?_)
                obtain ⟨hq64, hw9, hs9⟩ := hw9
                have hR : Rep g ad A s S63 H1 locs := hR.call ht9 hB9 hw9 hS hFc
                have hsh := hsh.tr hs9
                replace h := h  S63 hq64
                have hT_v163_2 := hs9.T hT_v163_2 (by decide)
                clear hB9 hz9 hk9 hvm9 ht9 hw9 hs9 hS
                generalize H1 = H at hR ⊢
                exact J_166 S63 v163_1 v163_2 v163_3 v163_4 _ _ ls h hT_v163_2 hsh hR (lv_sub hl [0, 1, 2, 3, 4] rfl)
              have J_162 : ∀ (U162 : MS) (v162_1 : Int32) (v162_2 : Nat) (v162_3 : Int32) (v162_4 : Int32) (H : Heap) (locs : List Loc) (ls : Array Slot), w_work_J162 Q U162 v162_1 v162_2 v162_3 v162_4 → qT U162 v162_2 = 12 → shy S U162 → Rep g ad A s U162 H locs → lv_has ls 7 [(0, .ref (ad 0)), (1, .int v162_1), (2, .ref (ad v162_2)), (3, .int v162_3), (4, .int v162_4)] → W p l e (headSpec (wt2 yX14_work cX14_work 7 none) ({ frames := 5, cells := 0, slots := 0, locals := 109 })).room s m ([.ref (ad 0), .int x1, .ref (ad p2)] : List Value).toArray below meth c H locs 0 0 (MQ below (va_Qv (fun (u : MS) => Q u ∧ wfM u ∧ shy S u) (fun (u : MS) (t : State) => qE g ad A u t) A) ([.ref (ad 0), .int x1, .ref (ad p2)] : List Value).toArray s 0 0 A) (F0 m 162 ls [.ref (ad 0)]) := by
                intro U162 v162_1 v162_2 v162_3 v162_4 H locs ls h hT_v162_2 hsh hR hl
                unfold w_work_J162 at h
                refine lv_iconst (v := 0) hx hb dX14_work_162 (by decide) ?_
                exact J_163 U162 0 v162_1 v162_2 v162_3 v162_4 _ _ ls h hT_v162_2 (Or.inl rfl) hsh hR (lv_sub hl [0, 1, 2, 3, 4] rfl)
              refine lv_icmp_ne (tgt := 162) hx hb dX14_work_139 (by decide) (fun c65 => ?_) (fun c65 => ?_)
              · replace h := h.2 (k_ne rfl (by decide) c65)
                exact J_162 U121 v121_1 v121_2 v121_3 v121_4 _ _ ls h hT_v121_2 hsh hR (lv_sub hl [0, 1, 2, 3, 4] rfl)
              · replace h := h.1 (k_eq rfl (by decide) c65)
                refine lv_aload_n hx hb dX14_work_142 rfl (lv_at hl 0 rfl) ?_
                refine va_get (D := rD g) (ci := 13) (v := .ref (ad 25)) (C := RX14) (T := TX14) (N := 143) hx hb hts in2X14 hown hR.K hR.P 0 (hR.at14 hR.w.1) rfl 60 (by decide) (hts _ kx_477) (fun _ h9 => h9) (congrArg (fun z => some (vf ad z)) (hR.w.2.1 _ fin_60).1) dX14_work_143 ?_
                refine lv_aload_n hx hb dX14_work_146 rfl (lv_at hl 0 rfl) ?_
                refine lv_iload_n hx hb dX14_work_147 rfl (lv_at hl 1 rfl) ?_
                obtain ⟨hv66, h⟩ := h
                have hFc := rfree hR hA
                refine va_calli (va_runV (As := [.int v121_1]) (rest := [.ref (ad 25), .ref (ad 0)]) ⟨hx, hb, hml, hown, hts⟩ (r_first l g ad H.size U121 v121_1 hR.w  hv66) (cwV 1 hts (gd2_V kx_393 kx_394 kx_395 kx_177 kx_396) rfl rfl rfl (by decide +kernel) ⟨Nat.le_of_ble_eq_true rfl, Nat.le_of_ble_eq_true rfl⟩) ⟨rblind, va_recv hR.K hR.P (ci := 13) (q0 := 0) rfl (hR.at14 hR.w.1), fun U hU hW9 => rmk hU hW9 hR hex hE hFc⟩ rfl rfl hl.1 rfl (lv_room (Nat.le_of_ble_eq_true rfl)) dX14_work_148 ⟨Nat.le_of_ble_eq_true rfl, Nat.le_of_ble_eq_true rfl⟩) hR.sS (fun q _ h => hFc q h) hFc (fun r67 u9 t9 H1 locs ht9 hvm9 hw9 hB9 hz9 hk9 hS => ?_)
                have hR : Rep g ad A s U121 H1 locs := hR.call ht9 hB9 hR.w hS hFc
                obtain rfl : r67 = (f_first U121 v121_1) := hw9
                clear hB9 hz9 hk9 hvm9 ht9 hS
                generalize H1 = H at hR ⊢
                refine lv_iconst (v := 1) hx hb dX14_work_151 (by decide) ?_
                refine lv_iadd hx hb dX14_work_152 ?_
                refine lv_topi (fun z69 ez69 => ?_)
                obtain rfl : z69 = ((f_first U121 v121_1) + (1 : Int32)) := ez69
                obtain ⟨hv70, h⟩ := h
                refine va_bald hx hb hR.K hR.P 25 0 (hR.atB (hR.w.2.1 _ fin_60).2.1) rfl (k_ixN (k_ix (n := 24) (x := ((f_first U121 v121_1) + (1 : Int32))) (a := ((f_first U121 v121_1) + (1 : Int32)).toInt) rfl hv70) (hR.w.2.1 _ fin_60).2.2) dX14_work_153 ?_
                refine lv_topi (fun z71 ez71 => ?_)
                obtain rfl : z71 = (qI U121 25 ((((f_first U121 v121_1) + (1 : Int32)).toInt).toNat)) := ez71
                refine lv_iconst (v := 3) hx hb dX14_work_154 (by decide) ?_
                refine lv_icmp_ne (tgt := 162) hx hb dX14_work_155 (by decide) (fun c72 => ?_) (fun c72 => ?_)
                · replace h := h.2 (k_ne rfl (by decide) c72)
                  exact J_162 U121 v121_1 v121_2 v121_3 v121_4 _ _ ls h hT_v121_2 hsh hR (lv_sub hl [0, 1, 2, 3, 4] rfl)
                · replace h := h.1 (k_eq rfl (by decide) c72)
                  refine lv_iconst (v := 1) hx hb dX14_work_158 (by decide) ?_
                  refine lv_goto (tgt := 163) hx hb dX14_work_159 (by decide) ?_
                  exact J_163 U121 1 v121_1 v121_2 v121_3 v121_4 _ _ ls h hT_v121_2 (Or.inr rfl) hsh hR (lv_sub hl [0, 1, 2, 3, 4] rfl)
          have J_98 : ∀ (U98 : MS) (v98_1 : Int32) (v98_2 : Nat) (v98_3 : Int32) (v98_4 : Int32) (H : Heap) (locs : List Loc) (ls : Array Slot), w_work_J98 Q U98 v98_1 v98_2 v98_3 v98_4 → qT U98 v98_2 = 12 → shy S U98 → Rep g ad A s U98 H locs → lv_has ls 7 [(0, .ref (ad 0)), (1, .int v98_1), (2, .ref (ad v98_2)), (3, .int v98_3), (4, .int v98_4)] → W p l e (headSpec (wt2 yX14_work cX14_work 7 none) ({ frames := 5, cells := 0, slots := 0, locals := 109 })).room s m ([.ref (ad 0), .int x1, .ref (ad p2)] : List Value).toArray below meth c H locs 0 0 (MQ below (va_Qv (fun (u : MS) => Q u ∧ wfM u ∧ shy S u) (fun (u : MS) (t : State) => qE g ad A u t) A) ([.ref (ad 0), .int x1, .ref (ad p2)] : List Value).toArray s 0 0 A) (F0 m 98 ls []) := by
            intro U98 v98_1 v98_2 v98_3 v98_4 H locs ls h hT_v98_2 hsh hR hl
            unfold w_work_J98 at h
            refine lv_aload_n hx hb dX14_work_98 rfl (lv_at hl 0 rfl) ?_
            refine lv_aload_n hx hb dX14_work_99 rfl (lv_at hl 0 rfl) ?_
            refine va_get (D := rD g) (ci := 13) (v := .ref (ad 25)) (C := RX14) (T := TX14) (N := 143) hx hb hts in2X14 hown hR.K hR.P 0 (hR.at14 hR.w.1) rfl 60 (by decide) (hts _ kx_477) (fun _ h9 => h9) (congrArg (fun z => some (vf ad z)) (hR.w.2.1 _ fin_60).1) dX14_work_100 ?_
            refine lv_aload_n hx hb dX14_work_103 rfl (lv_at hl 0 rfl) ?_
            refine lv_iload_n hx hb dX14_work_104 rfl (lv_at hl 1 rfl) ?_
            obtain ⟨hv73, h⟩ := h
            have hFc := rfree hR hA
            refine va_calli (va_runV (As := [.int v98_1]) (rest := [.ref (ad 25), .ref (ad 0)]) ⟨hx, hb, hml, hown, hts⟩ (r_first l g ad H.size U98 v98_1 hR.w  hv73) (cwV 1 hts (gd2_V kx_393 kx_394 kx_395 kx_177 kx_396) rfl rfl rfl (by decide +kernel) ⟨Nat.le_of_ble_eq_true rfl, Nat.le_of_ble_eq_true rfl⟩) ⟨rblind, va_recv hR.K hR.P (ci := 13) (q0 := 0) rfl (hR.at14 hR.w.1), fun U hU hW9 => rmk hU hW9 hR hex hE hFc⟩ rfl rfl hl.1 rfl (lv_room (Nat.le_of_ble_eq_true rfl)) dX14_work_105 ⟨Nat.le_of_ble_eq_true rfl, Nat.le_of_ble_eq_true rfl⟩) hR.sS (fun q _ h => hFc q h) hFc (fun r74 u9 t9 H1 locs ht9 hvm9 hw9 hB9 hz9 hk9 hS => ?_)
            have hR : Rep g ad A s U98 H1 locs := hR.call ht9 hB9 hR.w hS hFc
            obtain rfl : r74 = (f_first U98 v98_1) := hw9
            clear hB9 hz9 hk9 hvm9 ht9 hS
            generalize H1 = H at hR ⊢
            obtain ⟨hv76, h⟩ := h
            refine va_bald hx hb hR.K hR.P 25 0 (hR.atB (hR.w.2.1 _ fin_60).2.1) rfl (k_ixN (k_ix (n := 24) (x := (f_first U98 v98_1)) (a := (f_first U98 v98_1).toInt) rfl hv76) (hR.w.2.1 _ fin_60).2.2) dX14_work_108 ?_
            refine lv_topi (fun z77 ez77 => ?_)
            obtain rfl : z77 = (qI U98 25 (((f_first U98 v98_1).toInt).toNat)) := ez77
            refine lv_iconst (v := 1) hx hb dX14_work_109 (by decide) ?_
            have J_118 : ∀ (U118 : MS) (t118_0 : Int32) (v118_1 : Int32) (v118_2 : Nat) (v118_3 : Int32) (v118_4 : Int32) (H : Heap) (locs : List Loc) (ls : Array Slot), w_work_J118 Q U118 t118_0 v118_1 v118_2 v118_3 v118_4 → qT U118 v118_2 = 12 → (t118_0 = 0 ∨ t118_0 = 1) → shy S U118 → Rep g ad A s U118 H locs → lv_has ls 7 [(0, .ref (ad 0)), (1, .int v118_1), (2, .ref (ad v118_2)), (3, .int v118_3), (4, .int v118_4)] → W p l e (headSpec (wt2 yX14_work cX14_work 7 none) ({ frames := 5, cells := 0, slots := 0, locals := 109 })).room s m ([.ref (ad 0), .int x1, .ref (ad p2)] : List Value).toArray below meth c H locs 0 0 (MQ below (va_Qv (fun (u : MS) => Q u ∧ wfM u ∧ shy S u) (fun (u : MS) (t : State) => qE g ad A u t) A) ([.ref (ad 0), .int x1, .ref (ad p2)] : List Value).toArray s 0 0 A) (F0 m 118 ls [.int t118_0, .ref (ad 0)]) := by
              intro U118 t118_0 v118_1 v118_2 v118_3 v118_4 H locs ls h hT_v118_2 hz_t118_0 hsh hR hl
              unfold w_work_J118 at h
              obtain ⟨Q78, h0, h⟩ := h
              have hFc := rfree hR hA
              refine va_callv (va_runV (As := [.int t118_0]) (rest := []) ⟨hx, hb, hml, hown, hts⟩ (r_need l g ad H.size U118 t118_0 hR.w hz_t118_0 Q78 h0) (cwV 1 hts (gd2_V kx_469 kx_470 kx_471 kx_177 kx_472) rfl rfl rfl (by decide +kernel) ⟨Nat.le_of_ble_eq_true rfl, Nat.le_of_ble_eq_true rfl⟩) ⟨rblind, va_recv hR.K hR.P (ci := 13) (q0 := 0) rfl (hR.at14 hR.w.1), fun U hU hW9 => rmk hU hW9 hR hex hE hFc⟩ rfl rfl hl.1 rfl (lv_room (Nat.le_of_ble_eq_true rfl)) dX14_work_118 ⟨Nat.le_of_ble_eq_true rfl, Nat.le_of_ble_eq_true rfl⟩) hR.sS (fun q _ h => hFc q h) hFc (fun  S79 t9 H1 locs ht9 hvm9 hw9 hB9 hz9 hk9 hS => ?_)
              obtain ⟨hq80, hw9, hs9⟩ := hw9
              have hR : Rep g ad A s S79 H1 locs := hR.call ht9 hB9 hw9 hS hFc
              have hsh := hsh.tr hs9
              replace h := h  S79 hq80
              have hT_v118_2 := hs9.T hT_v118_2 (by decide)
              clear hB9 hz9 hk9 hvm9 ht9 hw9 hs9 hS
              generalize H1 = H at hR ⊢
              exact J_121 S79 v118_1 v118_2 v118_3 v118_4 _ _ ls h hT_v118_2 hsh hR (lv_sub hl [0, 1, 2, 3, 4] rfl)
            refine lv_icmp_ne (tgt := 117) hx hb dX14_work_110 (by decide) (fun c81 => ?_) (fun c81 => ?_)
            · replace h := h.2 (k_ne rfl (by decide) c81)
              refine lv_iconst (v := 0) hx hb dX14_work_117 (by decide) ?_
              exact J_118 U98 0 v98_1 v98_2 v98_3 v98_4 _ _ ls h hT_v98_2 (Or.inl rfl) hsh hR (lv_sub hl [0, 1, 2, 3, 4] rfl)
            · replace h := h.1 (k_eq rfl (by decide) c81)
              refine lv_iconst (v := 1) hx hb dX14_work_113 (by decide) ?_
              refine lv_goto (tgt := 118) hx hb dX14_work_114 (by decide) ?_
              exact J_118 U98 1 v98_1 v98_2 v98_3 v98_4 _ _ ls h hT_v98_2 (Or.inr rfl) hsh hR (lv_sub hl [0, 1, 2, 3, 4] rfl)
          refine lv_icmp_eq (tgt := 98) hx hb dX14_work_88 (by decide) (fun c82 => ?_) (fun c82 => ?_)
          · replace h := h.1 (k_eq rfl (by decide) c82)
            exact J_98 U85 v85_1 v85_2 v85_3 v85_4 _ _ ls h hT_v85_2 hsh hR (lv_sub hl [0, 1, 2, 3, 4] rfl)
          · replace h := h.2 (k_ne rfl (by decide) c82)
            refine lv_iload_n hx hb dX14_work_91 rfl (lv_at hl 3 rfl) ?_
            refine lv_sipush (v := 132) hx hb dX14_work_92 (by decide) ?_
            refine lv_icmp_ne (tgt := 121) hx hb dX14_work_95 (by decide) (fun c83 => ?_) (fun c83 => ?_)
            · replace h := h.2 (k_ne rfl (by decide) c83)
              exact J_121 U85 v85_1 v85_2 v85_3 v85_4 _ _ ls h hT_v85_2 hsh hR (lv_sub hl [0, 1, 2, 3, 4] rfl)
            · replace h := h.1 (k_eq rfl (by decide) c83)
              exact J_98 U85 v85_1 v85_2 v85_3 v85_4 _ _ ls h hT_v85_2 hsh hR (lv_sub hl [0, 1, 2, 3, 4] rfl)
        refine lv_if_ne (tgt := 85) hx hb dX14_work_79 (by decide) (fun c84 => ?_) (fun c84 => ?_)
        · replace h := h.2 (k_ne rfl (by decide) c84)
          exact J_85 U74 v74_1 v74_2 v74_3 v74_4 _ _ ls h hT_v74_2 hsh hR (lv_sub hl [0, 1, 2, 3, 4] rfl)
        · replace h := h.1 (k_eq rfl (by decide) c84)
          refine lv_iconst (v := 0) hx hb dX14_work_82 (by decide) ?_
          refine lv_istore (lv' := [(4, .int 0), (0, .ref (ad 0)), (1, .int v74_1), (2, .ref (ad v74_2)), (3, .int v74_3)]) hx hb dX14_work_83 hl (by decide) rfl (fun ls hl => ?_)
          exact J_85 U74 v74_1 v74_2 v74_3 0 _ _ ls h hT_v74_2 hsh hR (lv_sub hl [1, 2, 3, 4, 0] rfl)
      refine lv_icmp_ne (tgt := 74) hx hb dX14_work_50 (by decide) (fun c85 => ?_) (fun c85 => ?_)
      · replace h := h.2 (k_ne rfl (by decide) c85)
        exact J_74 U45 v45_1 v45_2 v45_3 t45_0 _ _ ls h hT_v45_2 hsh hR (lv_sub hl [1, 2, 3, 4, 0] rfl)
      · replace h := h.1 (k_eq rfl (by decide) c85)
        refine lv_aload_n hx hb dX14_work_53 rfl (lv_at hl 1 rfl) ?_
        refine va_get (D := rD g) (ci := 13) (v := .ref (ad 25)) (C := RX14) (T := TX14) (N := 143) hx hb hts in2X14 hown hR.K hR.P 0 (hR.at14 hR.w.1) rfl 60 (by decide) (hts _ kx_477) (fun _ h9 => h9) (congrArg (fun z => some (vf ad z)) (hR.w.2.1 _ fin_60).1) dX14_work_54 ?_
        refine lv_aload_n hx hb dX14_work_57 rfl (lv_at hl 1 rfl) ?_
        refine lv_iload_n hx hb dX14_work_58 rfl (lv_at hl 2 rfl) ?_
        obtain ⟨hv86, h⟩ := h
        have hFc := rfree hR hA
        refine va_calli (va_runV (As := [.int v45_1]) (rest := [.ref (ad 25)]) ⟨hx, hb, hml, hown, hts⟩ (r_first l g ad H.size U45 v45_1 hR.w  hv86) (cwV 1 hts (gd2_V kx_393 kx_394 kx_395 kx_177 kx_396) rfl rfl rfl (by decide +kernel) ⟨Nat.le_of_ble_eq_true rfl, Nat.le_of_ble_eq_true rfl⟩) ⟨rblind, va_recv hR.K hR.P (ci := 13) (q0 := 0) rfl (hR.at14 hR.w.1), fun U hU hW9 => rmk hU hW9 hR hex hE hFc⟩ rfl rfl hl.1 rfl (lv_room (Nat.le_of_ble_eq_true rfl)) dX14_work_59 ⟨Nat.le_of_ble_eq_true rfl, Nat.le_of_ble_eq_true rfl⟩) hR.sS (fun q _ h => hFc q h) hFc (fun r87 u9 t9 H1 locs ht9 hvm9 hw9 hB9 hz9 hk9 hS => ?_)
        have hR : Rep g ad A s U45 H1 locs := hR.call ht9 hB9 hR.w hS hFc
        obtain rfl : r87 = (f_first U45 v45_1) := hw9
        clear hB9 hz9 hk9 hvm9 ht9 hS
        generalize H1 = H at hR ⊢
        obtain ⟨hv89, h⟩ := h
        refine va_bald hx hb hR.K hR.P 25 0 (hR.atB (hR.w.2.1 _ fin_60).2.1) rfl (k_ixN (k_ix (n := 24) (x := (f_first U45 v45_1)) (a := (f_first U45 v45_1).toInt) rfl hv89) (hR.w.2.1 _ fin_60).2.2) dX14_work_62 ?_
        refine lv_topi (fun z90 ez90 => ?_)
        obtain rfl : z90 = (qI U45 25 (((f_first U45 v45_1).toInt).toNat)) := ez90
        obtain ⟨a91, ea91⟩ : ∃ z, z = (qI U45 25 (((f_first U45 v45_1).toInt).toNat)) := ⟨_, rfl⟩
        rw [← ea91]
        replace h := h a91 ea91
        refine lv_istore (lv' := [(4, .int a91), (0, .ref (ad 0)), (1, .int v45_1), (2, .ref (ad v45_2)), (3, .int v45_3)]) hx hb dX14_work_63 hl (by decide) rfl (fun ls hl => ?_)
        refine lv_aload_n hx hb dX14_work_65 rfl (lv_at hl 1 rfl) ?_
        refine lv_iload hx hb dX14_work_66 (lv_at hl 0 rfl) ?_
        obtain ⟨hv92, h⟩ := h
        have hFc := rfree hR hA
        refine va_calli (va_runS (As := [.int a91]) (rest := [.ref (ad 0)]) ⟨hx, hb, hml, hown, hts⟩ (r_isThing l g ad H.size U45 a91 hR.w  hv92) (va_cwS 1 hts (gd2_S kx_459 kx_460 kx_177 kx_461) rfl rfl rfl (by decide +kernel) ⟨Nat.le_of_ble_eq_true rfl, Nat.le_of_ble_eq_true rfl⟩) ⟨rblind, fun U hU hW9 => rmk hU hW9 hR hex hE hFc⟩ rfl rfl hl.1 rfl (lv_room (Nat.le_of_ble_eq_true rfl)) dX14_work_68 ⟨Nat.le_of_ble_eq_true rfl, Nat.le_of_ble_eq_true rfl⟩) hR.sS (fun q _ h => hFc q h) hFc (fun r93 u9 t9 H1 locs ht9 hvm9 hw9 hB9 hz9 hk9 hS => ?_)
        have hR : Rep g ad A s U45 H1 locs := hR.call ht9 hB9 hR.w hS hFc
        obtain ⟨rfl, hz_r93⟩ := hw9
        clear hB9 hz9 hk9 hvm9 ht9 hS
        generalize H1 = H at hR ⊢
        obtain ⟨Q95, h0, h⟩ := h
        have hFc := rfree hR hA
        refine va_callv (va_runV (As := [.int (f_isThing U45 a91)]) (rest := []) ⟨hx, hb, hml, hown, hts⟩ (r_need l g ad H.size U45 (f_isThing U45 a91) hR.w hz_r93 Q95 h0) (cwV 1 hts (gd2_V kx_469 kx_470 kx_471 kx_177 kx_472) rfl rfl rfl (by decide +kernel) ⟨Nat.le_of_ble_eq_true rfl, Nat.le_of_ble_eq_true rfl⟩) ⟨rblind, va_recv hR.K hR.P (ci := 13) (q0 := 0) rfl (hR.at14 hR.w.1), fun U hU hW9 => rmk hU hW9 hR hex hE hFc⟩ rfl rfl hl.1 rfl (lv_room (Nat.le_of_ble_eq_true rfl)) dX14_work_71 ⟨Nat.le_of_ble_eq_true rfl, Nat.le_of_ble_eq_true rfl⟩) hR.sS (fun q _ h => hFc q h) hFc (fun  S96 t9 H1 locs ht9 hvm9 hw9 hB9 hz9 hk9 hS => ?_)
        obtain ⟨hq97, hw9, hs9⟩ := hw9
        have hR : Rep g ad A s S96 H1 locs := hR.call ht9 hB9 hw9 hS hFc
        have hsh := hsh.tr hs9
        replace h := h  S96 hq97
        have hT_v45_2 := hs9.T hT_v45_2 (by decide)
        clear hB9 hz9 hk9 hvm9 ht9 hw9 hs9 hS
        generalize H1 = H at hR ⊢
        exact J_74 S96 v45_1 v45_2 v45_3 a91 _ _ ls h hT_v45_2 hsh hR (lv_sub hl [1, 2, 3, 4, 0] rfl)
    refine lv_icmp_ne (tgt := 44) hx hb dX14_work_27 (by decide) (fun c98 => ?_) (fun c98 => ?_)
    · replace h := h.2 (k_ne rfl (by decide) c98)
      refine lv_iconst (v := 0) hx hb dX14_work_44 (by decide) ?_
      exact J_45 S1 0 x1 p2 a5 _ _ ls h hT_p2 hsh hR (lv_sub hl [1, 2, 3, 0] rfl)
    · replace h := h.1 (k_eq rfl (by decide) c98)
      refine lv_aload_n hx hb dX14_work_30 rfl (lv_at hl 1 rfl) ?_
      refine va_get (D := rD g) (ci := 13) (v := .ref (ad 26)) (C := RX14) (T := TX14) (N := 143) hx hb hts in2X14 hown hR.K hR.P 0 (hR.at14 hR.w.1) rfl 61 (by decide) (hts _ kx_462) (fun _ h9 => h9) (congrArg (fun z => some (vf ad z)) (hR.w.2.1 _ fin_61).1) dX14_work_31 ?_
      refine lv_aload_n hx hb dX14_work_34 rfl (lv_at hl 1 rfl) ?_
      refine va_get (D := rD g) (ci := 13) (v := .int (qI S1 0 62)) (C := RX14) (T := TX14) (N := 143) hx hb hts in2X14 hown hR.K hR.P 0 (hR.at14 hR.w.1) rfl 62 (by decide) (hts _ kx_463) (fun _ h9 => h9) rfl dX14_work_35 ?_
      refine lv_iconst (v := 1) hx hb dX14_work_38 (by decide) ?_
      refine lv_isub hx hb dX14_work_39 ?_
      refine lv_topi (fun z99 ez99 => ?_)
      obtain rfl : z99 = ((qI S1 0 62) - (1 : Int32)) := ez99
      obtain ⟨hv100, h⟩ := h
      refine va_bald hx hb hR.K hR.P 26 0 (hR.atB (hR.w.2.1 _ fin_61).2.1) rfl (k_ixN (k_ix (n := 28) (x := ((qI S1 0 62) - (1 : Int32))) (a := ((qI S1 0 62) - (1 : Int32)).toInt) rfl hv100) (hR.w.2.1 _ fin_61).2.2) dX14_work_40 ?_
      refine lv_topi (fun z101 ez101 => ?_)
      obtain rfl : z101 = (qI S1 26 ((((qI S1 0 62) - (1 : Int32)).toInt).toNat)) := ez101
      refine lv_goto (tgt := 45) hx hb dX14_work_41 (by decide) ?_
      exact J_45 S1 (qI S1 26 ((((qI S1 0 62) - (1 : Int32)).toInt).toNat)) x1 p2 a5 _ _ ls h hT_p2 hsh hR (lv_sub hl [1, 2, 3, 0] rfl)
  · replace h := h.2 (k_nle rfl (by decide) c9)
    refine lv_aload_n hx hb dX14_work_18 rfl (lv_at hl 1 rfl) ?_
    refine lv_iload_n hx hb dX14_work_19 rfl (lv_at hl 0 rfl) ?_
    obtain ⟨Q102, h0, h⟩ := h
    have hFc := rfree hR hA
    refine va_callv (va_runV (As := [.int a5]) (rest := []) ⟨hx, hb, hml, hown, hts⟩ (r_move l g ad H.size S1 a5 hR.w  Q102 h0) (cwV 1 hts (gd2_V kx_889 kx_890 kx_891 kx_177 kx_892) rfl rfl rfl (by decide +kernel) ⟨Nat.le_of_ble_eq_true rfl, Nat.le_of_ble_eq_true rfl⟩) ⟨rblind, va_recv hR.K hR.P (ci := 13) (q0 := 0) rfl (hR.at14 hR.w.1), fun U hU hW9 => rmk hU hW9 hR hex hE hFc⟩ rfl rfl hl.1 rfl (lv_room (Nat.le_of_ble_eq_true rfl)) dX14_work_20 ⟨Nat.le_of_ble_eq_true rfl, Nat.le_of_ble_eq_true rfl⟩) hR.sS (fun q _ h => hFc q h) hFc (fun  S103 t9 H1 locs ht9 hvm9 hw9 hB9 hz9 hk9 hS => ?_)
    obtain ⟨hq104, hw9, hs9⟩ := hw9
    have hR : Rep g ad A s S103 H1 locs := hR.call ht9 hB9 hw9 hS hFc
    have hsh := hsh.tr hs9
    replace h := h  S103 hq104
    have hT_p2 := hs9.T hT_p2 (by decide)
    clear hB9 hz9 hk9 hvm9 ht9 hw9 hs9 hS
    generalize H1 = H at hR ⊢
    exact W.vret hx hb hr (fun t9 ht9 hW9 => ⟨⟨S103, rfl, ⟨h, hR.w, hsh⟩, ⟨by rw [ht9]; exact hR.P, hR.D⟩⟩, hR.sS.F ht9⟩) hR.sS.2.2 dX14_work_23
def w_flow_L73 (Q : MS → Prop) : Nat → MS → Int32 → Int32 → Prop
  | 0, _, _, _ => False
  | n73 + 1, U73, v73_1, v73_3 => (d_ways U73 v73_1 ∧ (((f_ways U73 v73_1).toInt ≤ v73_3.toInt → Q U73) ∧ (¬ (f_ways U73 v73_1).toInt ≤ v73_3.toInt → (d_way U73 v73_1 v73_3 ∧ (∃ Q25, w_join U73 (f_way U73 v73_1 v73_3) (0 : Int32) Q25 ∧ ∀ S26, Q25 S26 → (∀ a28 : Int32, a28 = (v73_3 + Int32.ofInt 1) → (w_flow_L73 Q n73) S26 v73_1 a28))))))
def w_flow_J71 (Q : MS → Prop) (U71 : MS) (v71_1 : Int32) : Prop := (∃ n, w_flow_L73 Q n U71 v71_1 0)
def w_flow_J40 (Q : MS → Prop) (k12 : MS → Int32 → Nat → Int32 → Prop) (U40 : MS) (v40_1 : Int32) (v40_2 : Nat) (v40_3 : Int32) : Prop := (∀ a37 : Int32, a37 = (v40_3 + Int32.ofInt 1) → k12 U40 v40_1 v40_2 a37)
def w_flow_L12 (Q : MS → Prop) : Nat → MS → Int32 → Nat → Int32 → Prop
  | 0, _, _, _, _ => False
  | n12 + 1, U12, v12_1, v12_2, v12_3 => (((qI U12 0 54).toInt ≤ v12_3.toInt → (∃ Q9, w_work U12 v12_1 v12_2 Q9 ∧ ∀ S10, Q9 S10 → (d_op S10 v12_1 ∧ (d_goesOn S10 (f_op S10 v12_1) ∧ (((f_goesOn S10 (f_op S10 v12_1)).toInt = 0 → w_flow_J71 Q S10 v12_1) ∧ (¬ (f_goesOn S10 (f_op S10 v12_1)).toInt = 0 → (∃ Q31, w_join S10 (v12_1 + (1 : Int32)) (0 : Int32) Q31 ∧ ∀ S32, Q31 S32 → w_flow_J71 Q S32 v12_1))))))) ∧ (¬ (qI U12 0 54).toInt ≤ v12_3.toInt → (d_isCaught U12 v12_1 v12_3 ∧ (((f_isCaught U12 v12_1 v12_3).toInt = 0 → w_flow_J40 Q (w_flow_L12 Q n12) U12 v12_1 v12_2 v12_3) ∧ (¬ (f_isCaught U12 v12_1 v12_3).toInt = 0 → (d_catchWord U12 v12_3 (2 : Int32) ∧ (∃ Q42, w_join U12 (f_catchWord U12 v12_3 (2 : Int32)) (1 : Int32) Q42 ∧ ∀ S43, Q42 S43 → w_flow_J40 Q (w_flow_L12 Q n12) S43 v12_1 v12_2 v12_3)))))))
def w_flow (S : MS) (x1 : Int32) (p2 : Nat) (Q : MS → Prop) : Prop := (∃ Q1, w_heightAt S x1 Q1 ∧ ∀ r2 S3, Q1 r2 S3 → (∃ Q5, w_takeOf S3 x1 r2 Q5 ∧ ∀ S6, Q5 S6 → (∃ n, w_flow_L12 Q n S6 x1 p2 0)))
set_option maxHeartbeats 2000000 in
set_option maxRecDepth 100000 in
theorem r_flow (l : Launch) (g : Gr) (ad : Nat → Nat) (sz : Nat) (S : MS) (x1 : Int32) (p2 : Nat) (hw : wfM S) (hT_p2 : qT S p2 = 12) (Q : MS → Prop) (h : w_flow S x1 p2 Q) : Met l yX14_flow (wt2 yX14_flow cX14_flow 4 none) ({ frames := 6, cells := 0, slots := 0, locals := 135 }) (va_Pc [.ref (ad 0), .int x1, .ref (ad p2)] (st_R g ad sz S)) (va_Qv (fun (u : MS) => Q u ∧ wfM u ∧ shy S u) (fun (u : MS) (t : State) => qE g ad (va_A (Wd g ad S) sz) u t) (va_A (Wd g ad S) sz)) 0 0 (va_A (Wd g ad S) sz) := by
  refine Met.ofW (cc := cX14_flow) (maxL := 4) (ret := none) (by decide) rfl ?_
  intro p e s m args below meth c s₁ B hml hv
  obtain ⟨rfl, hsz, hP, hK, hD0, hex, hE⟩ := hv
  have hx := B.exec
  have hb := B.bytes
  have hr := B.returns
  have hts0 := atoms_spec (ws := wt2 yX14_flow cX14_flow 4 none) B.pre
  have hts : ∀ w ∈ tb2, w.before _ s = true := fun w h => hts0 w (List.mem_cons_of_mem _ h)
  have hown : s.vm.findClass RX14 = some m.cls := findClass_of_methodNamed B.named
  subst hsz
  have hD := hD0.self (sz := s.heap.size)
  generalize hAe : va_A (Wd g ad S) s.heap.size = A at hD hE ⊢
  have hA : ∀ q : Nat, s.heap.size ≤ q → A q := fun q h => by rw [← hAe]; exact Or.inr h
  have hR : Rep g ad A s S s.heap [] := ⟨hK, hP, hD, va_S.rf, hw⟩
  clear hK hP hD hD0
  have hl := lv_entry ([.ref (ad 0), .int x1, .ref (ad p2)]) (n := 4) (Nat.le_of_ble_eq_true rfl)
  rw [lg_entry_eq]
  generalize (lg_sl ([.ref (ad 0), .int x1, .ref (ad p2)]) ++ List.replicate (4 - (lg_sl ([.ref (ad 0), .int x1, .ref (ad p2)])).length) Slot.unset).toArray = ls at hl ⊢
  have hl : lv_has ls 4 [(0, .ref (ad 0)), (1, .int x1), (2, .ref (ad p2))] := hl
  have hsh : shy S S := shy.rf
  unfold w_flow at h
  refine lv_aload_n hx hb dX14_flow_0 rfl (lv_at hl 0 rfl) ?_
  refine lv_iload_n hx hb dX14_flow_1 rfl (lv_at hl 1 rfl) ?_
  refine lv_aload_n hx hb dX14_flow_2 rfl (lv_at hl 0 rfl) ?_
  refine lv_iload_n hx hb dX14_flow_3 rfl (lv_at hl 1 rfl) ?_
  obtain ⟨Q1, h0, h⟩ := h
  have hFc := rfree hR hA
  refine va_calli (va_runV (As := [.int x1]) (rest := [.int x1, .ref (ad 0)]) ⟨hx, hb, hml, hown, hts⟩ (r_heightAt l g ad s.heap.size S x1 hR.w  Q1 h0) (cwV 1 hts (gd2_V kx_455 kx_456 kx_457 kx_177 kx_458) rfl rfl rfl (by decide +kernel) ⟨Nat.le_of_ble_eq_true rfl, Nat.le_of_ble_eq_true rfl⟩) ⟨rblind, va_recv hR.K hR.P (ci := 13) (q0 := 0) rfl (hR.at14 hR.w.1), fun U hU hW9 => rmk hU hW9 hR hex hE hFc⟩ rfl rfl hl.1 rfl (lv_room (Nat.le_of_ble_eq_true rfl)) dX14_flow_4 ⟨Nat.le_of_ble_eq_true rfl, Nat.le_of_ble_eq_true rfl⟩) hR.sS (fun q _ h => hFc q h) hFc (fun r2 S3 t9 H1 locs ht9 hvm9 hw9 hB9 hz9 hk9 hS => ?_)
  obtain ⟨hq4, hw9, hs9⟩ := hw9
  have hR : Rep g ad A s S3 H1 locs := hR.call ht9 hB9 hw9 hS hFc
  have hsh := hsh.tr hs9
  replace h := h r2 S3 hq4
  have hT_p2 := hs9.T hT_p2 (by decide)
  clear hB9 hz9 hk9 hvm9 ht9 hw9 hs9 hS
  generalize H1 = H at hR ⊢
  obtain ⟨Q5, h0, h⟩ := h
  have hFc := rfree hR hA
  refine va_callv (va_runV (As := [.int x1, .int r2]) (rest := []) ⟨hx, hb, hml, hown, hts⟩ (r_takeOf l g ad H.size S3 x1 r2 hR.w  Q5 h0) (cwV 2 hts (gd2_V kx_494 kx_495 kx_496 kx_177 kx_497) rfl rfl rfl (by decide +kernel) ⟨Nat.le_of_ble_eq_true rfl, Nat.le_of_ble_eq_true rfl⟩) ⟨rblind, va_recv hR.K hR.P (ci := 13) (q0 := 0) rfl (hR.at14 hR.w.1), fun U hU hW9 => rmk hU hW9 hR hex hE hFc⟩ rfl rfl hl.1 rfl (lv_room (Nat.le_of_ble_eq_true rfl)) dX14_flow_7 ⟨Nat.le_of_ble_eq_true rfl, Nat.le_of_ble_eq_true rfl⟩) hR.sS (fun q _ h => hFc q h) hFc (fun  S6 t9 H1 locs ht9 hvm9 hw9 hB9 hz9 hk9 hS => ?_)
  obtain ⟨hq7, hw9, hs9⟩ := hw9
  have hR : Rep g ad A s S6 H1 locs := hR.call ht9 hB9 hw9 hS hFc
  have hsh := hsh.tr hs9
  replace h := h  S6 hq7
  have hT_p2 := hs9.T hT_p2 (by decide)
  clear hB9 hz9 hk9 hvm9 ht9 hw9 hs9 hS
  generalize H1 = H at hR ⊢
  refine lv_iconst (v := 0) hx hb dX14_flow_10 (by decide) ?_
  refine lv_istore_n (lv' := [(3, .int 0), (0, .ref (ad 0)), (1, .int x1), (2, .ref (ad p2))]) hx hb dX14_flow_11 rfl hl (by decide) rfl (fun ls hl => ?_)
  have J_12 : ∀ (n12 : Nat) (U12 : MS) (v12_1 : Int32) (v12_2 : Nat) (v12_3 : Int32) (H : Heap) (locs : List Loc) (ls : Array Slot), w_flow_L12 Q n12 U12 v12_1 v12_2 v12_3 → qT U12 v12_2 = 12 → shy S U12 → Rep g ad A s U12 H locs → lv_has ls 4 [(0, .ref (ad 0)), (1, .int v12_1), (2, .ref (ad v12_2)), (3, .int v12_3)] → W p l e (headSpec (wt2 yX14_flow cX14_flow 4 none) ({ frames := 6, cells := 0, slots := 0, locals := 135 })).room s m ([.ref (ad 0), .int x1, .ref (ad p2)] : List Value).toArray below meth c H locs 0 0 (MQ below (va_Qv (fun (u : MS) => Q u ∧ wfM u ∧ shy S u) (fun (u : MS) (t : State) => qE g ad A u t) A) ([.ref (ad 0), .int x1, .ref (ad p2)] : List Value).toArray s 0 0 A) (F0 m 12 ls []) := by
    intro n12
    induction n12 with
    | zero => intro U12 v12_1 v12_2 v12_3 H locs ls h hT_v12_2 hsh hR hl; unfold w_flow_L12 at h; exact h.elim
    | succ n12 ih_12 =>
      intro U12 v12_1 v12_2 v12_3 H locs ls h hT_v12_2 hsh hR hl
      unfold w_flow_L12 at h
      refine lv_iload_n hx hb dX14_flow_12 rfl (lv_at hl 3 rfl) ?_
      refine lv_aload_n hx hb dX14_flow_13 rfl (lv_at hl 0 rfl) ?_
      refine va_get (D := rD g) (ci := 13) (v := .int (qI U12 0 54)) (C := RX14) (T := TX14) (N := 143) hx hb hts in2X14 hown hR.K hR.P 0 (hR.at14 hR.w.1) rfl 54 (by decide) (hts _ kx_374) (fun _ h9 => h9) rfl dX14_flow_14 ?_
      refine lv_icmp_ge (tgt := 46) hx hb dX14_flow_17 (by decide) (fun c8 => ?_) (fun c8 => ?_)
      · replace h := h.1 (k_le rfl rfl c8)
        refine lv_aload_n hx hb dX14_flow_46 rfl (lv_at hl 0 rfl) ?_
        refine lv_iload_n hx hb dX14_flow_47 rfl (lv_at hl 1 rfl) ?_
        refine lv_aload_n hx hb dX14_flow_48 rfl (lv_at hl 2 rfl) ?_
        obtain ⟨Q9, h0, h⟩ := h
        have hFc := rfree hR hA
        refine va_callv (va_runV (As := [.int v12_1, .ref (ad v12_2)]) (rest := []) ⟨hx, hb, hml, hown, hts⟩ (r_work l g ad H.size U12 v12_1 v12_2 hR.w hT_v12_2 Q9 h0) (cwV 2 hts (gd2_V kx_893 kx_894 kx_895 kx_177 kx_896) rfl rfl rfl (by decide +kernel) ⟨Nat.le_of_ble_eq_true rfl, Nat.le_of_ble_eq_true rfl⟩) ⟨rblind, va_recv hR.K hR.P (ci := 13) (q0 := 0) rfl (hR.at14 hR.w.1), fun U hU hW9 => rmk hU hW9 hR hex hE hFc⟩ rfl rfl hl.1 rfl (lv_room (Nat.le_of_ble_eq_true rfl)) dX14_flow_49 ⟨Nat.le_of_ble_eq_true rfl, Nat.le_of_ble_eq_true rfl⟩) hR.sS (fun q _ h => hFc q h) hFc (fun  S10 t9 H1 locs ht9 hvm9 hw9 hB9 hz9 hk9 hS => ?_)
        obtain ⟨hq11, hw9, hs9⟩ := hw9
        have hR : Rep g ad A s S10 H1 locs := hR.call ht9 hB9 hw9 hS hFc
        have hsh := hsh.tr hs9
        replace h := h  S10 hq11
        have hT_v12_2 := hs9.T hT_v12_2 (by decide)
        clear hB9 hz9 hk9 hvm9 ht9 hw9 hs9 hS
        generalize H1 = H at hR ⊢
        refine lv_aload_n hx hb dX14_flow_52 rfl (lv_at hl 0 rfl) ?_
        refine lv_iload_n hx hb dX14_flow_53 rfl (lv_at hl 1 rfl) ?_
        obtain ⟨hv12, h⟩ := h
        have hFc := rfree hR hA
        refine va_calli (va_runV (As := [.int v12_1]) (rest := []) ⟨hx, hb, hml, hown, hts⟩ (r_op l g ad H.size S10 v12_1 hR.w  hv12) (cwV 1 hts (gd2_V kx_379 kx_380 kx_381 kx_177 kx_382) rfl rfl rfl (by decide +kernel) ⟨Nat.le_of_ble_eq_true rfl, Nat.le_of_ble_eq_true rfl⟩) ⟨rblind, va_recv hR.K hR.P (ci := 13) (q0 := 0) rfl (hR.at14 hR.w.1), fun U hU hW9 => rmk hU hW9 hR hex hE hFc⟩ rfl rfl hl.1 rfl (lv_room (Nat.le_of_ble_eq_true rfl)) dX14_flow_54 ⟨Nat.le_of_ble_eq_true rfl, Nat.le_of_ble_eq_true rfl⟩) hR.sS (fun q _ h => hFc q h) hFc (fun r13 u9 t9 H1 locs ht9 hvm9 hw9 hB9 hz9 hk9 hS => ?_)
        have hR : Rep g ad A s S10 H1 locs := hR.call ht9 hB9 hR.w hS hFc
        obtain rfl : r13 = (f_op S10 v12_1) := hw9
        clear hB9 hz9 hk9 hvm9 ht9 hS
        generalize H1 = H at hR ⊢
        obtain ⟨hv15, h⟩ := h
        have hFc := rfree hR hA
        refine va_calli (va_runS (As := [.int (f_op S10 v12_1)]) (rest := []) ⟨hx, hb, hml, hown, hts⟩ (r_goesOn l g ad H.size S10 (f_op S10 v12_1) hR.w  hv15) (va_cwS 1 hts (gd2_S kx_428 kx_429 kx_177 kx_430) rfl rfl rfl (by decide +kernel) ⟨Nat.le_of_ble_eq_true rfl, Nat.le_of_ble_eq_true rfl⟩) ⟨rblind, fun U hU hW9 => rmk hU hW9 hR hex hE hFc⟩ rfl rfl hl.1 rfl (lv_room (Nat.le_of_ble_eq_true rfl)) dX14_flow_57 ⟨Nat.le_of_ble_eq_true rfl, Nat.le_of_ble_eq_true rfl⟩) hR.sS (fun q _ h => hFc q h) hFc (fun r16 u9 t9 H1 locs ht9 hvm9 hw9 hB9 hz9 hk9 hS => ?_)
        have hR : Rep g ad A s S10 H1 locs := hR.call ht9 hB9 hR.w hS hFc
        obtain ⟨rfl, hz_r16⟩ := hw9
        clear hB9 hz9 hk9 hvm9 ht9 hS
        generalize H1 = H at hR ⊢
        have J_71 : ∀ (U71 : MS) (v71_1 : Int32) (H : Heap) (locs : List Loc) (ls : Array Slot), w_flow_J71 Q U71 v71_1 → shy S U71 → Rep g ad A s U71 H locs → lv_has ls 4 [(0, .ref (ad 0)), (1, .int v71_1)] → W p l e (headSpec (wt2 yX14_flow cX14_flow 4 none) ({ frames := 6, cells := 0, slots := 0, locals := 135 })).room s m ([.ref (ad 0), .int x1, .ref (ad p2)] : List Value).toArray below meth c H locs 0 0 (MQ below (va_Qv (fun (u : MS) => Q u ∧ wfM u ∧ shy S u) (fun (u : MS) (t : State) => qE g ad A u t) A) ([.ref (ad 0), .int x1, .ref (ad p2)] : List Value).toArray s 0 0 A) (F0 m 71 ls []) := by
          intro U71 v71_1 H locs ls h hsh hR hl
          unfold w_flow_J71 at h
          refine lv_iconst (v := 0) hx hb dX14_flow_71 (by decide) ?_
          refine lv_istore_n (lv' := [(3, .int 0), (0, .ref (ad 0)), (1, .int v71_1)]) hx hb dX14_flow_72 rfl hl (by decide) rfl (fun ls hl => ?_)
          have J_73 : ∀ (n73 : Nat) (U73 : MS) (v73_1 : Int32) (v73_3 : Int32) (H : Heap) (locs : List Loc) (ls : Array Slot), w_flow_L73 Q n73 U73 v73_1 v73_3 → shy S U73 → Rep g ad A s U73 H locs → lv_has ls 4 [(0, .ref (ad 0)), (1, .int v73_1), (3, .int v73_3)] → W p l e (headSpec (wt2 yX14_flow cX14_flow 4 none) ({ frames := 6, cells := 0, slots := 0, locals := 135 })).room s m ([.ref (ad 0), .int x1, .ref (ad p2)] : List Value).toArray below meth c H locs 0 0 (MQ below (va_Qv (fun (u : MS) => Q u ∧ wfM u ∧ shy S u) (fun (u : MS) (t : State) => qE g ad A u t) A) ([.ref (ad 0), .int x1, .ref (ad p2)] : List Value).toArray s 0 0 A) (F0 m 73 ls []) := by
            intro n73
            induction n73 with
            | zero => intro U73 v73_1 v73_3 H locs ls h hsh hR hl; unfold w_flow_L73 at h; exact h.elim
            | succ n73 ih_73 =>
              intro U73 v73_1 v73_3 H locs ls h hsh hR hl
              unfold w_flow_L73 at h
              refine lv_iload_n hx hb dX14_flow_73 rfl (lv_at hl 2 rfl) ?_
              refine lv_aload_n hx hb dX14_flow_74 rfl (lv_at hl 0 rfl) ?_
              refine lv_iload_n hx hb dX14_flow_75 rfl (lv_at hl 1 rfl) ?_
              obtain ⟨hv18, h⟩ := h
              have hFc := rfree hR hA
              refine va_calli (va_runV (As := [.int v73_1]) (rest := [.int v73_3]) ⟨hx, hb, hml, hown, hts⟩ (r_ways l g ad H.size U73 v73_1 hR.w  hv18) (cwV 1 hts (gd2_V kx_435 kx_436 kx_437 kx_177 kx_438) rfl rfl rfl (by decide +kernel) ⟨Nat.le_of_ble_eq_true rfl, Nat.le_of_ble_eq_true rfl⟩) ⟨rblind, va_recv hR.K hR.P (ci := 13) (q0 := 0) rfl (hR.at14 hR.w.1), fun U hU hW9 => rmk hU hW9 hR hex hE hFc⟩ rfl rfl hl.1 rfl (lv_room (Nat.le_of_ble_eq_true rfl)) dX14_flow_76 ⟨Nat.le_of_ble_eq_true rfl, Nat.le_of_ble_eq_true rfl⟩) hR.sS (fun q _ h => hFc q h) hFc (fun r19 u9 t9 H1 locs ht9 hvm9 hw9 hB9 hz9 hk9 hS => ?_)
              have hR : Rep g ad A s U73 H1 locs := hR.call ht9 hB9 hR.w hS hFc
              obtain rfl : r19 = (f_ways U73 v73_1) := hw9
              clear hB9 hz9 hk9 hvm9 ht9 hS
              generalize H1 = H at hR ⊢
              refine lv_icmp_ge (tgt := 99) hx hb dX14_flow_79 (by decide) (fun c21 => ?_) (fun c21 => ?_)
              · replace h := h.1 (k_le rfl rfl c21)
                exact W.vret hx hb hr (fun t9 ht9 hW9 => ⟨⟨U73, rfl, ⟨h, hR.w, hsh⟩, ⟨by rw [ht9]; exact hR.P, hR.D⟩⟩, hR.sS.F ht9⟩) hR.sS.2.2 dX14_flow_99
              · replace h := h.2 (k_nle rfl rfl c21)
                refine lv_aload_n hx hb dX14_flow_82 rfl (lv_at hl 0 rfl) ?_
                refine lv_aload_n hx hb dX14_flow_83 rfl (lv_at hl 0 rfl) ?_
                refine lv_iload_n hx hb dX14_flow_84 rfl (lv_at hl 1 rfl) ?_
                refine lv_iload_n hx hb dX14_flow_85 rfl (lv_at hl 2 rfl) ?_
                obtain ⟨hv22, h⟩ := h
                have hFc := rfree hR hA
                refine va_calli (va_runV (As := [.int v73_1, .int v73_3]) (rest := [.ref (ad 0)]) ⟨hx, hb, hml, hown, hts⟩ (r_way l g ad H.size U73 v73_1 v73_3 hR.w  hv22) (cwV 2 hts (gd2_V kx_443 kx_444 kx_445 kx_177 kx_446) rfl rfl rfl (by decide +kernel) ⟨Nat.le_of_ble_eq_true rfl, Nat.le_of_ble_eq_true rfl⟩) ⟨rblind, va_recv hR.K hR.P (ci := 13) (q0 := 0) rfl (hR.at14 hR.w.1), fun U hU hW9 => rmk hU hW9 hR hex hE hFc⟩ rfl rfl hl.1 rfl (lv_room (Nat.le_of_ble_eq_true rfl)) dX14_flow_86 ⟨Nat.le_of_ble_eq_true rfl, Nat.le_of_ble_eq_true rfl⟩) hR.sS (fun q _ h => hFc q h) hFc (fun r23 u9 t9 H1 locs ht9 hvm9 hw9 hB9 hz9 hk9 hS => ?_)
                have hR : Rep g ad A s U73 H1 locs := hR.call ht9 hB9 hR.w hS hFc
                obtain rfl : r23 = (f_way U73 v73_1 v73_3) := hw9
                clear hB9 hz9 hk9 hvm9 ht9 hS
                generalize H1 = H at hR ⊢
                refine lv_iconst (v := 0) hx hb dX14_flow_89 (by decide) ?_
                obtain ⟨Q25, h0, h⟩ := h
                have hFc := rfree hR hA
                refine va_callv (va_runV (As := [.int (f_way U73 v73_1 v73_3), .int 0]) (rest := []) ⟨hx, hb, hml, hown, hts⟩ (r_join l g ad H.size U73 (f_way U73 v73_1 v73_3) (0 : Int32) hR.w (Or.inl rfl) Q25 h0) (cwV 2 hts (gd2_V kx_507 kx_508 kx_509 kx_177 kx_510) rfl rfl rfl (by decide +kernel) ⟨Nat.le_of_ble_eq_true rfl, Nat.le_of_ble_eq_true rfl⟩) ⟨rblind, va_recv hR.K hR.P (ci := 13) (q0 := 0) rfl (hR.at14 hR.w.1), fun U hU hW9 => rmk hU hW9 hR hex hE hFc⟩ rfl rfl hl.1 rfl (lv_room (Nat.le_of_ble_eq_true rfl)) dX14_flow_90 ⟨Nat.le_of_ble_eq_true rfl, Nat.le_of_ble_eq_true rfl⟩) hR.sS (fun q _ h => hFc q h) hFc (fun  S26 t9 H1 locs ht9 hvm9 hw9 hB9 hz9 hk9 hS => ?_)
                obtain ⟨hq27, hw9, hs9⟩ := hw9
                have hR : Rep g ad A s S26 H1 locs := hR.call ht9 hB9 hw9 hS hFc
                have hsh := hsh.tr hs9
                replace h := h  S26 hq27
                clear hB9 hz9 hk9 hvm9 ht9 hw9 hs9 hS
                generalize H1 = H at hR ⊢
                obtain ⟨a28, ea28⟩ : ∃ z, z = (v73_3 + Int32.ofInt 1) := ⟨_, rfl⟩
                replace h := h a28 ea28
                refine lv_iinc (v := a28) (lv' := [(3, .int a28), (0, .ref (ad 0)), (1, .int v73_1)]) hx hb dX14_flow_93 hl (k := 2) rfl ea28.symm (by decide) rfl (fun ls hl => ?_)
                refine lv_goto (tgt := 73) hx hb dX14_flow_96 (by decide) ?_
                exact ih_73 S26 v73_1 a28 _ _ ls h  hsh hR (lv_sub hl [1, 2, 0] rfl)
          obtain ⟨n9, h⟩ := h
          exact J_73 n9 U71 v71_1 0 _ _ ls h  hsh hR (lv_sub hl [1, 2, 0] rfl)
        refine lv_if_eq (tgt := 71) hx hb dX14_flow_60 (by decide) (fun c29 => ?_) (fun c29 => ?_)
        · replace h := h.1 (k_eq rfl (by decide) c29)
          exact J_71 S10 v12_1 _ _ ls h  hsh hR (lv_sub hl [0, 1] rfl)
        · replace h := h.2 (k_ne rfl (by decide) c29)
          refine lv_aload_n hx hb dX14_flow_63 rfl (lv_at hl 0 rfl) ?_
          refine lv_iload_n hx hb dX14_flow_64 rfl (lv_at hl 1 rfl) ?_
          refine lv_iconst (v := 1) hx hb dX14_flow_65 (by decide) ?_
          refine lv_iadd hx hb dX14_flow_66 ?_
          refine lv_topi (fun z30 ez30 => ?_)
          obtain rfl : z30 = (v12_1 + (1 : Int32)) := ez30
          refine lv_iconst (v := 0) hx hb dX14_flow_67 (by decide) ?_
          obtain ⟨Q31, h0, h⟩ := h
          have hFc := rfree hR hA
          refine va_callv (va_runV (As := [.int (v12_1 + (1 : Int32)), .int 0]) (rest := []) ⟨hx, hb, hml, hown, hts⟩ (r_join l g ad H.size S10 (v12_1 + (1 : Int32)) (0 : Int32) hR.w (Or.inl rfl) Q31 h0) (cwV 2 hts (gd2_V kx_507 kx_508 kx_509 kx_177 kx_510) rfl rfl rfl (by decide +kernel) ⟨Nat.le_of_ble_eq_true rfl, Nat.le_of_ble_eq_true rfl⟩) ⟨rblind, va_recv hR.K hR.P (ci := 13) (q0 := 0) rfl (hR.at14 hR.w.1), fun U hU hW9 => rmk hU hW9 hR hex hE hFc⟩ rfl rfl hl.1 rfl (lv_room (Nat.le_of_ble_eq_true rfl)) dX14_flow_68 ⟨Nat.le_of_ble_eq_true rfl, Nat.le_of_ble_eq_true rfl⟩) hR.sS (fun q _ h => hFc q h) hFc (fun  S32 t9 H1 locs ht9 hvm9 hw9 hB9 hz9 hk9 hS => ?_)
          obtain ⟨hq33, hw9, hs9⟩ := hw9
          have hR : Rep g ad A s S32 H1 locs := hR.call ht9 hB9 hw9 hS hFc
          have hsh := hsh.tr hs9
          replace h := h  S32 hq33
          have hT_v12_2 := hs9.T hT_v12_2 (by decide)
          clear hB9 hz9 hk9 hvm9 ht9 hw9 hs9 hS
          generalize H1 = H at hR ⊢
          exact J_71 S32 v12_1 _ _ ls h  hsh hR (lv_sub hl [0, 1] rfl)
      · replace h := h.2 (k_nle rfl rfl c8)
        refine lv_aload_n hx hb dX14_flow_20 rfl (lv_at hl 0 rfl) ?_
        refine lv_iload_n hx hb dX14_flow_21 rfl (lv_at hl 1 rfl) ?_
        refine lv_iload_n hx hb dX14_flow_22 rfl (lv_at hl 3 rfl) ?_
        obtain ⟨hv34, h⟩ := h
        have hFc := rfree hR hA
        refine va_calli (va_runV (As := [.int v12_1, .int v12_3]) (rest := []) ⟨hx, hb, hml, hown, hts⟩ (r_isCaught l g ad H.size U12 v12_1 v12_3 hR.w  hv34) (cwV 2 hts (gd2_V kx_419 kx_420 kx_421 kx_177 kx_422) rfl rfl rfl (by decide +kernel) ⟨Nat.le_of_ble_eq_true rfl, Nat.le_of_ble_eq_true rfl⟩) ⟨rblind, va_recv hR.K hR.P (ci := 13) (q0 := 0) rfl (hR.at14 hR.w.1), fun U hU hW9 => rmk hU hW9 hR hex hE hFc⟩ rfl rfl hl.1 rfl (lv_room (Nat.le_of_ble_eq_true rfl)) dX14_flow_23 ⟨Nat.le_of_ble_eq_true rfl, Nat.le_of_ble_eq_true rfl⟩) hR.sS (fun q _ h => hFc q h) hFc (fun r35 u9 t9 H1 locs ht9 hvm9 hw9 hB9 hz9 hk9 hS => ?_)
        have hR : Rep g ad A s U12 H1 locs := hR.call ht9 hB9 hR.w hS hFc
        obtain ⟨rfl, hz_r35⟩ := hw9
        clear hB9 hz9 hk9 hvm9 ht9 hS
        generalize H1 = H at hR ⊢
        have J_40 : ∀ (U40 : MS) (v40_1 : Int32) (v40_2 : Nat) (v40_3 : Int32) (H : Heap) (locs : List Loc) (ls : Array Slot), w_flow_J40 Q (w_flow_L12 Q n12) U40 v40_1 v40_2 v40_3 → qT U40 v40_2 = 12 → shy S U40 → Rep g ad A s U40 H locs → lv_has ls 4 [(0, .ref (ad 0)), (1, .int v40_1), (2, .ref (ad v40_2)), (3, .int v40_3)] → W p l e (headSpec (wt2 yX14_flow cX14_flow 4 none) ({ frames := 6, cells := 0, slots := 0, locals := 135 })).room s m ([.ref (ad 0), .int x1, .ref (ad p2)] : List Value).toArray below meth c H locs 0 0 (MQ below (va_Qv (fun (u : MS) => Q u ∧ wfM u ∧ shy S u) (fun (u : MS) (t : State) => qE g ad A u t) A) ([.ref (ad 0), .int x1, .ref (ad p2)] : List Value).toArray s 0 0 A) (F0 m 40 ls []) := by
          intro U40 v40_1 v40_2 v40_3 H locs ls h hT_v40_2 hsh hR hl
          unfold w_flow_J40 at h
          obtain ⟨a37, ea37⟩ : ∃ z, z = (v40_3 + Int32.ofInt 1) := ⟨_, rfl⟩
          replace h := h a37 ea37
          refine lv_iinc (v := a37) (lv' := [(3, .int a37), (0, .ref (ad 0)), (1, .int v40_1), (2, .ref (ad v40_2))]) hx hb dX14_flow_40 hl (k := 3) rfl ea37.symm (by decide) rfl (fun ls hl => ?_)
          refine lv_goto (tgt := 12) hx hb dX14_flow_43 (by decide) ?_
          exact ih_12 U40 v40_1 v40_2 a37 _ _ ls h hT_v40_2 hsh hR (lv_sub hl [1, 2, 3, 0] rfl)
        refine lv_if_eq (tgt := 40) hx hb dX14_flow_26 (by decide) (fun c38 => ?_) (fun c38 => ?_)
        · replace h := h.1 (k_eq rfl (by decide) c38)
          exact J_40 U12 v12_1 v12_2 v12_3 _ _ ls h hT_v12_2 hsh hR (lv_sub hl [0, 1, 2, 3] rfl)
        · replace h := h.2 (k_ne rfl (by decide) c38)
          refine lv_aload_n hx hb dX14_flow_29 rfl (lv_at hl 0 rfl) ?_
          refine lv_aload_n hx hb dX14_flow_30 rfl (lv_at hl 0 rfl) ?_
          refine lv_iload_n hx hb dX14_flow_31 rfl (lv_at hl 3 rfl) ?_
          refine lv_iconst (v := 2) hx hb dX14_flow_32 (by decide) ?_
          obtain ⟨hv39, h⟩ := h
          have hFc := rfree hR hA
          refine va_calli (va_runV (As := [.int v12_3, .int 2]) (rest := [.ref (ad 0)]) ⟨hx, hb, hml, hown, hts⟩ (r_catchWord l g ad H.size U12 v12_3 (2 : Int32) hR.w  hv39) (cwV 2 hts (gd2_V kx_375 kx_376 kx_377 kx_177 kx_378) rfl rfl rfl (by decide +kernel) ⟨Nat.le_of_ble_eq_true rfl, Nat.le_of_ble_eq_true rfl⟩) ⟨rblind, va_recv hR.K hR.P (ci := 13) (q0 := 0) rfl (hR.at14 hR.w.1), fun U hU hW9 => rmk hU hW9 hR hex hE hFc⟩ rfl rfl hl.1 rfl (lv_room (Nat.le_of_ble_eq_true rfl)) dX14_flow_33 ⟨Nat.le_of_ble_eq_true rfl, Nat.le_of_ble_eq_true rfl⟩) hR.sS (fun q _ h => hFc q h) hFc (fun r40 u9 t9 H1 locs ht9 hvm9 hw9 hB9 hz9 hk9 hS => ?_)
          have hR : Rep g ad A s U12 H1 locs := hR.call ht9 hB9 hR.w hS hFc
          obtain rfl : r40 = (f_catchWord U12 v12_3 (2 : Int32)) := hw9
          clear hB9 hz9 hk9 hvm9 ht9 hS
          generalize H1 = H at hR ⊢
          refine lv_iconst (v := 1) hx hb dX14_flow_36 (by decide) ?_
          obtain ⟨Q42, h0, h⟩ := h
          have hFc := rfree hR hA
          refine va_callv (va_runV (As := [.int (f_catchWord U12 v12_3 (2 : Int32)), .int 1]) (rest := []) ⟨hx, hb, hml, hown, hts⟩ (r_join l g ad H.size U12 (f_catchWord U12 v12_3 (2 : Int32)) (1 : Int32) hR.w (Or.inr rfl) Q42 h0) (cwV 2 hts (gd2_V kx_507 kx_508 kx_509 kx_177 kx_510) rfl rfl rfl (by decide +kernel) ⟨Nat.le_of_ble_eq_true rfl, Nat.le_of_ble_eq_true rfl⟩) ⟨rblind, va_recv hR.K hR.P (ci := 13) (q0 := 0) rfl (hR.at14 hR.w.1), fun U hU hW9 => rmk hU hW9 hR hex hE hFc⟩ rfl rfl hl.1 rfl (lv_room (Nat.le_of_ble_eq_true rfl)) dX14_flow_37 ⟨Nat.le_of_ble_eq_true rfl, Nat.le_of_ble_eq_true rfl⟩) hR.sS (fun q _ h => hFc q h) hFc (fun  S43 t9 H1 locs ht9 hvm9 hw9 hB9 hz9 hk9 hS => ?_)
          obtain ⟨hq44, hw9, hs9⟩ := hw9
          have hR : Rep g ad A s S43 H1 locs := hR.call ht9 hB9 hw9 hS hFc
          have hsh := hsh.tr hs9
          replace h := h  S43 hq44
          have hT_v12_2 := hs9.T hT_v12_2 (by decide)
          clear hB9 hz9 hk9 hvm9 ht9 hw9 hs9 hS
          generalize H1 = H at hR ⊢
          exact J_40 S43 v12_1 v12_2 v12_3 _ _ ls h hT_v12_2 hsh hR (lv_sub hl [0, 1, 2, 3] rfl)
  obtain ⟨n9, h⟩ := h
  exact J_12 n9 S6 x1 p2 0 _ _ ls h hT_p2 hsh hR (lv_sub hl [1, 2, 3, 0] rfl)
def w_firstFault_J307 (Q : Int32 → MS → Prop) (k239 : MS → Nat → Int32 → Int32 → Prop) (U307 : MS) (v307_1 : Nat) (v307_2 : Int32) (v307_5 : Int32) : Prop := (∀ a33 : Int32, a33 = (v307_5 + Int32.ofInt 1) → k239 U307 v307_1 v307_2 a33)
def w_firstFault_L239 (Q : Int32 → MS → Prop) : Nat → MS → Nat → Int32 → Int32 → Prop
  | 0, _, _, _, _ => False
  | n239 + 1, U239, v239_1, v239_2, v239_5 => (((qI U239 0 52).toInt ≤ v239_5.toInt → Q (-1 : Int32) U239) ∧ (¬ (qI U239 0 52).toInt ≤ v239_5.toInt → (∃ Q26, w_isHeightFault U239 v239_5 Q26 ∧ ∀ r27 S28, Q26 r27 S28 → ((r27.toInt = 0 → (((0 : Int) ≤ v239_5.toInt ∧ v239_5.toInt < 1200) ∧ (((qI S28 24 v239_5.toInt.toNat).toInt = 0 → w_firstFault_J307 Q (w_firstFault_L239 Q n239) S28 v239_1 v239_2 v239_5) ∧ (¬ (qI S28 24 v239_5.toInt.toNat).toInt = 0 → (∃ Q35, w_heightAt S28 v239_5 Q35 ∧ ∀ r36 S37, Q35 r36 S37 → (∃ Q39, w_takeOf S37 v239_5 r36 Q39 ∧ ∀ S40, Q39 S40 → ((qR S40 v239_1 11 = some (qO S40 v239_1 11)) ∧ (((0 : Int) ≤ v239_2.toInt ∧ v239_2.toInt < (qN S40 (qO S40 v239_1 11) : Int)) ∧ ((qR S40 (qO S40 v239_1 11) v239_2.toInt.toNat = some (qO S40 (qO S40 v239_1 11) v239_2.toInt.toNat)) ∧ (∃ Q47, w_work S40 v239_5 (qO S40 (qO S40 v239_1 11) v239_2.toInt.toNat) Q47 ∧ ∀ S48, Q47 S48 → (((qI S48 0 63).toInt = 0 → Q v239_5 S48) ∧ (¬ (qI S48 0 63).toInt = 0 → w_firstFault_J307 Q (w_firstFault_L239 Q n239) S48 v239_1 v239_2 v239_5)))))))))))) ∧ (¬ r27.toInt = 0 → Q v239_5 S28)))))
def w_firstFault_J227 (Q : Int32 → MS → Prop) (k187 : MS → Nat → Int32 → Int32 → Prop) (U227 : MS) (v227_1 : Nat) (v227_2 : Int32) (v227_5 : Int32) : Prop := (∀ a55 : Int32, a55 = (v227_5 + Int32.ofInt 1) → k187 U227 v227_1 v227_2 a55)
def w_firstFault_L187 (Q : Int32 → MS → Prop) (k172 : MS → Nat → Int32 → Prop) : Nat → MS → Nat → Int32 → Int32 → Prop
  | 0, _, _, _, _ => False
  | n187 + 1, U187, v187_1, v187_2, v187_5 => (((qI U187 0 52).toInt ≤ v187_5.toInt → k172 U187 v187_1 v187_2) ∧ (¬ (qI U187 0 52).toInt ≤ v187_5.toInt → (((0 : Int) ≤ v187_5.toInt ∧ v187_5.toInt < 1200) ∧ (((qI U187 24 v187_5.toInt.toNat).toInt = 0 → w_firstFault_J227 Q (w_firstFault_L187 Q k172 n187) U187 v187_1 v187_2 v187_5) ∧ (¬ (qI U187 24 v187_5.toInt.toNat).toInt = 0 → (∃ Q57, w_isHeightFault U187 v187_5 Q57 ∧ ∀ r58 S59, Q57 r58 S59 → ((r58.toInt = 0 → ((qR S59 v187_1 11 = some (qO S59 v187_1 11)) ∧ (((0 : Int) ≤ v187_2.toInt ∧ v187_2.toInt < (qN S59 (qO S59 v187_1 11) : Int)) ∧ ((qR S59 (qO S59 v187_1 11) v187_2.toInt.toNat = some (qO S59 (qO S59 v187_1 11) v187_2.toInt.toNat)) ∧ (∃ Q67, w_flow S59 v187_5 (qO S59 (qO S59 v187_1 11) v187_2.toInt.toNat) Q67 ∧ ∀ S68, Q67 S68 → w_firstFault_J227 Q (w_firstFault_L187 Q k172 n187) S68 v187_1 v187_2 v187_5))))) ∧ (¬ r58.toInt = 0 → w_firstFault_J227 Q (w_firstFault_L187 Q k172 n187) S59 v187_1 v187_2 v187_5))))))))
def w_firstFault_L172 (Q : Int32 → MS → Prop) : Nat → MS → Nat → Int32 → Prop
  | 0, _, _, _ => False
  | n172 + 1, U172, v172_1, v172_2 => (((qI U172 0 57).toInt = 0 → (∃ n, w_firstFault_L239 Q n U172 v172_1 v172_2 0)) ∧ (¬ (qI U172 0 57).toInt = 0 → (∀ S51, S51 = wI U172 0 57 0 → (∃ n, w_firstFault_L187 Q (w_firstFault_L172 Q n172) n S51 v172_1 v172_2 0))))
def w_firstFault_J152 (Q : Int32 → MS → Prop) (k73 : MS → Nat → Int32 → Nat → Int32 → Int32 → Prop) (U152 : MS) (t152_0 : Int32) (t152_1 : Int32) (v152_1 : Nat) (v152_2 : Int32) (v152_3 : Nat) (v152_5 : Int32) : Prop := (∀ a76 : Int32, a76 = (t152_1 + t152_0) → (∀ a77 : Int32, a77 = (v152_5 + Int32.ofInt 1) → k73 U152 v152_1 v152_2 v152_3 a76 a77))
def w_firstFault_J138 (Q : Int32 → MS → Prop) (k73 : MS → Nat → Int32 → Nat → Int32 → Int32 → Prop) (U138 : MS) (v138_1 : Nat) (v138_2 : Int32) (v138_3 : Nat) (v138_4 : Int32) (v138_5 : Int32) (v138_6 : Int32) : Prop := ((v138_6.toInt = 74 → w_firstFault_J152 Q k73 U138 2 v138_4 v138_1 v138_2 v138_3 v138_5) ∧ (¬ v138_6.toInt = 74 → w_firstFault_J152 Q k73 U138 1 v138_4 v138_1 v138_2 v138_3 v138_5))
def w_firstFault_J119 (Q : Int32 → MS → Prop) (k73 : MS → Nat → Int32 → Nat → Int32 → Int32 → Prop) (U119 : MS) (t119_0 : Int32) (t119_1 : Int32) (v119_1 : Nat) (v119_2 : Int32) (v119_3 : Nat) (v119_4 : Int32) (v119_5 : Int32) (v119_6 : Int32) : Prop := (((0 : Int) ≤ t119_1.toInt ∧ t119_1.toInt < 24) ∧ (∀ S74, S74 = wI U119 25 t119_1.toInt.toNat (vp_nar .byte (t119_0.toInt8.toInt32)) → ((v119_6.toInt = 74 → (((0 : Int) ≤ (v119_4 + (1 : Int32)).toInt ∧ (v119_4 + (1 : Int32)).toInt < 24) ∧ (∀ S82, S82 = wI S74 25 (((v119_4 + (1 : Int32)).toInt).toNat) (vp_nar .byte (3 : Int32)) → w_firstFault_J138 Q k73 S82 v119_1 v119_2 v119_3 v119_4 v119_5 v119_6))) ∧ (¬ v119_6.toInt = 74 → w_firstFault_J138 Q k73 S74 v119_1 v119_2 v119_3 v119_4 v119_5 v119_6))))
def w_firstFault_L73 (Q : Int32 → MS → Prop) : Nat → MS → Nat → Int32 → Nat → Int32 → Int32 → Prop
  | 0, _, _, _, _, _, _ => False
  | n73 + 1, U73, v73_1, v73_2, v73_3, v73_4, v73_5 => (((Int32.ofNat (qN U73 (v73_3 + 1))).toInt ≤ v73_5.toInt → (∃ Q20, w_join U73 (0 : Int32) (0 : Int32) Q20 ∧ ∀ S21, Q20 S21 → (∀ S23, S23 = wI S21 0 57 1 → (∃ n, w_firstFault_L172 Q n S23 v73_1 v73_2)))) ∧ (¬ (Int32.ofNat (qN U73 (v73_3 + 1))).toInt ≤ v73_5.toInt → (((0 : Int) ≤ v73_5.toInt ∧ v73_5.toInt < (qN U73 (v73_3 + 1) : Int)) ∧ (∀ a72 : Int32, a72 = (cAt U73 v73_3 v73_5) → ((a72.toInt = 73 → w_firstFault_J119 Q (w_firstFault_L73 Q n73) U73 1 v73_4 v73_1 v73_2 v73_3 v73_4 v73_5 a72) ∧ (¬ a72.toInt = 73 → ((a72.toInt = 74 → w_firstFault_J119 Q (w_firstFault_L73 Q n73) U73 2 v73_4 v73_1 v73_2 v73_3 v73_4 v73_5 a72) ∧ (¬ a72.toInt = 74 → w_firstFault_J119 Q (w_firstFault_L73 Q n73) U73 4 v73_4 v73_1 v73_2 v73_3 v73_4 v73_5 a72))))))))
def w_firstFault_L41 (Q : Int32 → MS → Prop) : Nat → MS → Nat → Int32 → Int32 → Prop
  | 0, _, _, _, _ => False
  | n41 + 1, U41, v41_1, v41_2, v41_3 => ((24 ≤ v41_3.toInt → ((qR U41 v41_1 10 = some (qO U41 v41_1 10)) ∧ (((0 : Int) ≤ v41_2.toInt ∧ v41_2.toInt < (qN U41 (qO U41 v41_1 10) : Int)) ∧ ((qR U41 (qO U41 v41_1 10) v41_2.toInt.toNat = some (qO U41 (qO U41 v41_1 10) v41_2.toInt.toNat)) ∧ (∃ n, w_firstFault_L73 Q n U41 v41_1 v41_2 (qO U41 (qO U41 v41_1 10) v41_2.toInt.toNat) 0 0))))) ∧ (¬ 24 ≤ v41_3.toInt → (((0 : Int) ≤ v41_3.toInt ∧ v41_3.toInt < 24) ∧ (∀ S86, S86 = wI U41 25 v41_3.toInt.toNat (vp_nar .byte (0 : Int32)) → (∀ a87 : Int32, a87 = (v41_3 + Int32.ofInt 1) → (w_firstFault_L41 Q n41) S86 v41_1 v41_2 a87)))))
def w_firstFault_L18 (Q : Int32 → MS → Prop) : Nat → MS → Nat → Int32 → Int32 → Prop
  | 0, _, _, _, _ => False
  | n18 + 1, U18, v18_1, v18_2, v18_3 => (((qI U18 0 52).toInt ≤ v18_3.toInt → (∃ n, w_firstFault_L41 Q n U18 v18_1 v18_2 0)) ∧ (¬ (qI U18 0 52).toInt ≤ v18_3.toInt → (((0 : Int) ≤ v18_3.toInt ∧ v18_3.toInt < 1200) ∧ (∀ S89, S89 = wI U18 24 v18_3.toInt.toNat (vp_nar .boolean (0 : Int32)) → (∀ a90 : Int32, a90 = (v18_3 + Int32.ofInt 1) → (w_firstFault_L18 Q n18) S89 v18_1 v18_2 a90)))))
def w_firstFault (S : MS) (p1 : Nat) (x2 : Int32) (Q : Int32 → MS → Prop) : Prop := (∃ Q1, w_look S p1 x2 Q1 ∧ ∀ S2, Q1 S2 → ((qR S2 p1 12 = some (qO S2 p1 12)) ∧ (((0 : Int) ≤ x2.toInt ∧ x2.toInt < (qN S2 (qO S2 p1 12) : Int)) ∧ (∃ Q8, w_findHeights S2 (qI S2 (qO S2 p1 12) x2.toInt.toNat) Q8 ∧ ∀ S9, Q8 S9 → (∃ n, w_firstFault_L18 Q n S9 p1 x2 0)))))
set_option maxHeartbeats 2000000 in
set_option maxRecDepth 100000 in
theorem r_firstFault (l : Launch) (g : Gr) (ad : Nat → Nat) (sz : Nat) (S : MS) (p1 : Nat) (x2 : Int32) (hw : wfM S) (hT_p1 : qT S p1 = 11) (Q : Int32 → MS → Prop) (h : w_firstFault S p1 x2 Q) : Met l yX14_firstFault (wt2 yX14_firstFault cX14_firstFault 7 (some .int)) ({ frames := 8, cells := 0, slots := 0, locals := 178 }) (va_Pc [.ref (ad 0), .ref (ad p1), .int x2] (st_R g ad sz S)) (va_Qi (fun (r : Int32) (u : MS) => Q r u ∧ wfM u ∧ shy S u) (fun (u : MS) (t : State) => qE g ad (va_A (Wd g ad S) sz) u t) (va_A (Wd g ad S) sz)) 0 0 (va_A (Wd g ad S) sz) := by
  refine Met.ofW (cc := cX14_firstFault) (maxL := 7) (ret := (some .int)) (by decide) rfl ?_
  intro p e s m args below meth c s₁ B hml hv
  obtain ⟨rfl, hsz, hP, hK, hD0, hex, hE⟩ := hv
  have hx := B.exec
  have hb := B.bytes
  have hr := B.returns
  have hts0 := atoms_spec (ws := wt2 yX14_firstFault cX14_firstFault 7 (some .int)) B.pre
  have hts : ∀ w ∈ tb2, w.before _ s = true := fun w h => hts0 w (List.mem_cons_of_mem _ h)
  have hown : s.vm.findClass RX14 = some m.cls := findClass_of_methodNamed B.named
  subst hsz
  have hD := hD0.self (sz := s.heap.size)
  generalize hAe : va_A (Wd g ad S) s.heap.size = A at hD hE ⊢
  have hA : ∀ q : Nat, s.heap.size ≤ q → A q := fun q h => by rw [← hAe]; exact Or.inr h
  have hR : Rep g ad A s S s.heap [] := ⟨hK, hP, hD, va_S.rf, hw⟩
  clear hK hP hD hD0
  have hl := lv_entry ([.ref (ad 0), .ref (ad p1), .int x2]) (n := 7) (Nat.le_of_ble_eq_true rfl)
  rw [lg_entry_eq]
  generalize (lg_sl ([.ref (ad 0), .ref (ad p1), .int x2]) ++ List.replicate (7 - (lg_sl ([.ref (ad 0), .ref (ad p1), .int x2])).length) Slot.unset).toArray = ls at hl ⊢
  have hl : lv_has ls 7 [(0, .ref (ad 0)), (1, .ref (ad p1)), (2, .int x2)] := hl
  have hsh : shy S S := shy.rf
  unfold w_firstFault at h
  refine lv_aload_n hx hb dX14_firstFault_0 rfl (lv_at hl 0 rfl) ?_
  refine lv_aload_n hx hb dX14_firstFault_1 rfl (lv_at hl 1 rfl) ?_
  refine lv_iload_n hx hb dX14_firstFault_2 rfl (lv_at hl 2 rfl) ?_
  obtain ⟨Q1, h0, h⟩ := h
  have hFc := rfree hR hA
  refine va_callv (va_runV (As := [.ref (ad p1), .int x2]) (rest := []) ⟨hx, hb, hml, hown, hts⟩ (r_look l g ad s.heap.size S p1 x2 hR.w hT_p1 Q1 h0) (cwV 2 hts (gd2_V kx_498 kx_499 kx_500 kx_177 kx_501) rfl rfl rfl (by decide +kernel) ⟨Nat.le_of_ble_eq_true rfl, Nat.le_of_ble_eq_true rfl⟩) ⟨rblind, va_recv hR.K hR.P (ci := 13) (q0 := 0) rfl (hR.at14 hR.w.1), fun U hU hW9 => rmk hU hW9 hR hex hE hFc⟩ rfl rfl hl.1 rfl (lv_room (Nat.le_of_ble_eq_true rfl)) dX14_firstFault_3 ⟨Nat.le_of_ble_eq_true rfl, Nat.le_of_ble_eq_true rfl⟩) hR.sS (fun q _ h => hFc q h) hFc (fun  S2 t9 H1 locs ht9 hvm9 hw9 hB9 hz9 hk9 hS => ?_)
  obtain ⟨hq3, hw9, hs9⟩ := hw9
  have hR : Rep g ad A s S2 H1 locs := hR.call ht9 hB9 hw9 hS hFc
  have hsh := hsh.tr hs9
  replace h := h  S2 hq3
  have hT_p1 := hs9.T hT_p1 (by decide)
  clear hB9 hz9 hk9 hvm9 ht9 hw9 hs9 hS
  generalize H1 = H at hR ⊢
  refine lv_aload_n hx hb dX14_firstFault_6 rfl (lv_at hl 0 rfl) ?_
  refine lv_aload_n hx hb dX14_firstFault_7 rfl (lv_at hl 1 rfl) ?_
  obtain ⟨hv4, h⟩ := h
  have hT_b5 : qT S2 (qO S2 p1 12) = 2 := hR.w.ref hv4 hT_p1
  refine va_get (D := rD g) (ci := 12) (v := .ref (ad (qO S2 p1 12))) (C := RX13) (T := TX13) (N := 23) hx hb hts in2X13 hown hR.K hR.P p1 (hR.at13 hT_p1) rfl 12 (by decide) (hts _ kx_502) (fun _ h9 => h9) (congrArg (fun z => some (vf ad z)) hv4) dX14_firstFault_8 ?_
  refine lv_iload_n hx hb dX14_firstFault_11 rfl (lv_at hl 2 rfl) ?_
  obtain ⟨hv6, h⟩ := h
  refine va_iald hx hb hR.K hR.P (qO S2 p1 12) 1 (hR.atI hT_b5) rfl (k_ix (x := x2) (a := x2.toInt) rfl hv6) dX14_firstFault_12 ?_
  refine lv_topi (fun z7 ez7 => ?_)
  obtain rfl : z7 = (qI S2 (qO S2 p1 12) x2.toInt.toNat) := ez7
  obtain ⟨Q8, h0, h⟩ := h
  have hFc := rfree hR hA
  refine va_callv (va_runV (As := [.int (qI S2 (qO S2 p1 12) x2.toInt.toNat)]) (rest := []) ⟨hx, hb, hml, hown, hts⟩ (r_findHeights l g ad H.size S2 (qI S2 (qO S2 p1 12) x2.toInt.toNat) hR.w  Q8 h0) (cwV 1 hts (gd2_V kx_503 kx_504 kx_505 kx_177 kx_506) rfl rfl rfl (by decide +kernel) ⟨Nat.le_of_ble_eq_true rfl, Nat.le_of_ble_eq_true rfl⟩) ⟨rblind, va_recv hR.K hR.P (ci := 13) (q0 := 0) rfl (hR.at14 hR.w.1), fun U hU hW9 => rmk hU hW9 hR hex hE hFc⟩ rfl rfl hl.1 rfl (lv_room (Nat.le_of_ble_eq_true rfl)) dX14_firstFault_13 ⟨Nat.le_of_ble_eq_true rfl, Nat.le_of_ble_eq_true rfl⟩) hR.sS (fun q _ h => hFc q h) hFc (fun  S9 t9 H1 locs ht9 hvm9 hw9 hB9 hz9 hk9 hS => ?_)
  obtain ⟨hq10, hw9, hs9⟩ := hw9
  have hR : Rep g ad A s S9 H1 locs := hR.call ht9 hB9 hw9 hS hFc
  have hsh := hsh.tr hs9
  replace h := h  S9 hq10
  have hT_p1 := hs9.T hT_p1 (by decide)
  clear hB9 hz9 hk9 hvm9 ht9 hw9 hs9 hS
  generalize H1 = H at hR ⊢
  refine lv_iconst (v := 0) hx hb dX14_firstFault_16 (by decide) ?_
  refine lv_istore_n (lv' := [(3, .int 0), (0, .ref (ad 0)), (1, .ref (ad p1)), (2, .int x2)]) hx hb dX14_firstFault_17 rfl hl (by decide) rfl (fun ls hl => ?_)
  have J_18 : ∀ (n18 : Nat) (U18 : MS) (v18_1 : Nat) (v18_2 : Int32) (v18_3 : Int32) (H : Heap) (locs : List Loc) (ls : Array Slot), w_firstFault_L18 Q n18 U18 v18_1 v18_2 v18_3 → qT U18 v18_1 = 11 → shy S U18 → Rep g ad A s U18 H locs → lv_has ls 7 [(0, .ref (ad 0)), (1, .ref (ad v18_1)), (2, .int v18_2), (3, .int v18_3)] → W p l e (headSpec (wt2 yX14_firstFault cX14_firstFault 7 (some .int)) ({ frames := 8, cells := 0, slots := 0, locals := 178 })).room s m ([.ref (ad 0), .ref (ad p1), .int x2] : List Value).toArray below meth c H locs 0 0 (MQ below (va_Qi (fun (r : Int32) (u : MS) => Q r u ∧ wfM u ∧ shy S u) (fun (u : MS) (t : State) => qE g ad A u t) A) ([.ref (ad 0), .ref (ad p1), .int x2] : List Value).toArray s 0 0 A) (F0 m 18 ls []) := by
    intro n18
    induction n18 with
    | zero => intro U18 v18_1 v18_2 v18_3 H locs ls h hT_v18_1 hsh hR hl; unfold w_firstFault_L18 at h; exact h.elim
    | succ n18 ih_18 =>
      intro U18 v18_1 v18_2 v18_3 H locs ls h hT_v18_1 hsh hR hl
      unfold w_firstFault_L18 at h
      refine lv_iload_n hx hb dX14_firstFault_18 rfl (lv_at hl 3 rfl) ?_
      refine lv_aload_n hx hb dX14_firstFault_19 rfl (lv_at hl 0 rfl) ?_
      refine va_get (D := rD g) (ci := 13) (v := .int (qI U18 0 52)) (C := RX14) (T := TX14) (N := 143) hx hb hts in2X14 hown hR.K hR.P 0 (hR.at14 hR.w.1) rfl 52 (by decide) (hts _ kx_370) (fun _ h9 => h9) rfl dX14_firstFault_20 ?_
      refine lv_icmp_ge (tgt := 39) hx hb dX14_firstFault_23 (by decide) (fun c11 => ?_) (fun c11 => ?_)
      · replace h := h.1 (k_le rfl rfl c11)
        refine lv_iconst (v := 0) hx hb dX14_firstFault_39 (by decide) ?_
        refine lv_istore_n (lv' := [(3, .int 0), (0, .ref (ad 0)), (1, .ref (ad v18_1)), (2, .int v18_2)]) hx hb dX14_firstFault_40 rfl hl (by decide) rfl (fun ls hl => ?_)
        have J_41 : ∀ (n41 : Nat) (U41 : MS) (v41_1 : Nat) (v41_2 : Int32) (v41_3 : Int32) (H : Heap) (locs : List Loc) (ls : Array Slot), w_firstFault_L41 Q n41 U41 v41_1 v41_2 v41_3 → qT U41 v41_1 = 11 → shy S U41 → Rep g ad A s U41 H locs → lv_has ls 7 [(0, .ref (ad 0)), (1, .ref (ad v41_1)), (2, .int v41_2), (3, .int v41_3)] → W p l e (headSpec (wt2 yX14_firstFault cX14_firstFault 7 (some .int)) ({ frames := 8, cells := 0, slots := 0, locals := 178 })).room s m ([.ref (ad 0), .ref (ad p1), .int x2] : List Value).toArray below meth c H locs 0 0 (MQ below (va_Qi (fun (r : Int32) (u : MS) => Q r u ∧ wfM u ∧ shy S u) (fun (u : MS) (t : State) => qE g ad A u t) A) ([.ref (ad 0), .ref (ad p1), .int x2] : List Value).toArray s 0 0 A) (F0 m 41 ls []) := by
          intro n41
          induction n41 with
          | zero => intro U41 v41_1 v41_2 v41_3 H locs ls h hT_v41_1 hsh hR hl; unfold w_firstFault_L41 at h; exact h.elim
          | succ n41 ih_41 =>
            intro U41 v41_1 v41_2 v41_3 H locs ls h hT_v41_1 hsh hR hl
            unfold w_firstFault_L41 at h
            refine lv_iload_n hx hb dX14_firstFault_41 rfl (lv_at hl 3 rfl) ?_
            refine lv_bipush (v := 24) hx hb dX14_firstFault_42 (by decide) ?_
            refine lv_icmp_ge (tgt := 60) hx hb dX14_firstFault_44 (by decide) (fun c12 => ?_) (fun c12 => ?_)
            · replace h := h.1 (k_le (by decide) rfl c12)
              refine lv_aload_n hx hb dX14_firstFault_60 rfl (lv_at hl 1 rfl) ?_
              obtain ⟨hv13, h⟩ := h
              have hT_b14 : qT U41 (qO U41 v41_1 10) = 5 := hR.w.ref hv13 hT_v41_1
              refine va_get (D := rD g) (ci := 12) (v := .ref (ad (qO U41 v41_1 10))) (C := RX13) (T := TX13) (N := 23) hx hb hts in2X13 hown hR.K hR.P v41_1 (hR.at13 hT_v41_1) rfl 10 (by decide) (hts _ kx_398) (fun _ h9 => h9) (congrArg (fun z => some (vf ad z)) hv13) dX14_firstFault_61 ?_
              refine lv_iload_n hx hb dX14_firstFault_64 rfl (lv_at hl 2 rfl) ?_
              obtain ⟨hv15, h⟩ := h
              refine va_aldq hx hb hR.K hR.P (qO U41 v41_1 10) 4 (hR.atS hT_b14) rfl (k_ix (x := v41_2) (a := v41_2.toInt) rfl hv15) dX14_firstFault_65 ?_
              obtain ⟨hv16, h⟩ := h
              have hT_b17 : qT U41 (qO U41 (qO U41 v41_1 10) v41_2.toInt.toNat) = 12 := hR.w.ref hv16 hT_b14
              rw [show va_rf (Option.map ad (qR U41 (qO U41 v41_1 10) (v41_2 : Int32).toNatClampNeg)) = .ref (ad (qO U41 (qO U41 v41_1 10) v41_2.toInt.toNat)) from congrArg (fun z => vf ad z) hv16]
              refine lv_astore_n (lv' := [(3, .ref (ad (qO U41 (qO U41 v41_1 10) v41_2.toInt.toNat))), (0, .ref (ad 0)), (1, .ref (ad v41_1)), (2, .int v41_2)]) hx hb dX14_firstFault_66 rfl hl (by decide) rfl (fun ls hl => ?_)
              refine lv_iconst (v := 0) hx hb dX14_firstFault_67 (by decide) ?_
              refine lv_istore (lv' := [(4, .int 0), (3, .ref (ad (qO U41 (qO U41 v41_1 10) v41_2.toInt.toNat))), (0, .ref (ad 0)), (1, .ref (ad v41_1)), (2, .int v41_2)]) hx hb dX14_firstFault_68 hl (by decide) rfl (fun ls hl => ?_)
              refine lv_iconst (v := 0) hx hb dX14_firstFault_70 (by decide) ?_
              refine lv_istore (lv' := [(5, .int 0), (4, .int 0), (3, .ref (ad (qO U41 (qO U41 v41_1 10) v41_2.toInt.toNat))), (0, .ref (ad 0)), (1, .ref (ad v41_1)), (2, .int v41_2)]) hx hb dX14_firstFault_71 hl (by decide) rfl (fun ls hl => ?_)
              have J_73 : ∀ (n73 : Nat) (U73 : MS) (v73_1 : Nat) (v73_2 : Int32) (v73_3 : Nat) (v73_4 : Int32) (v73_5 : Int32) (H : Heap) (locs : List Loc) (ls : Array Slot), w_firstFault_L73 Q n73 U73 v73_1 v73_2 v73_3 v73_4 v73_5 → qT U73 v73_1 = 11 → qT U73 v73_3 = 12 → shy S U73 → Rep g ad A s U73 H locs → lv_has ls 7 [(0, .ref (ad 0)), (1, .ref (ad v73_1)), (2, .int v73_2), (3, .ref (ad v73_3)), (4, .int v73_4), (5, .int v73_5)] → W p l e (headSpec (wt2 yX14_firstFault cX14_firstFault 7 (some .int)) ({ frames := 8, cells := 0, slots := 0, locals := 178 })).room s m ([.ref (ad 0), .ref (ad p1), .int x2] : List Value).toArray below meth c H locs 0 0 (MQ below (va_Qi (fun (r : Int32) (u : MS) => Q r u ∧ wfM u ∧ shy S u) (fun (u : MS) (t : State) => qE g ad A u t) A) ([.ref (ad 0), .ref (ad p1), .int x2] : List Value).toArray s 0 0 A) (F0 m 73 ls []) := by
                intro n73
                induction n73 with
                | zero => intro U73 v73_1 v73_2 v73_3 v73_4 v73_5 H locs ls h hT_v73_1 hT_v73_3 hsh hR hl; unfold w_firstFault_L73 at h; exact h.elim
                | succ n73 ih_73 =>
                  intro U73 v73_1 v73_2 v73_3 v73_4 v73_5 H locs ls h hT_v73_1 hT_v73_3 hsh hR hl
                  unfold w_firstFault_L73 at h
                  refine lv_iload hx hb dX14_firstFault_73 (lv_at hl 5 rfl) ?_
                  refine lv_aload_n hx hb dX14_firstFault_75 rfl (lv_at hl 3 rfl) ?_
                  have hF : ∀ q, Ns H.size q → A q := fun q h => hA q (Nat.le_trans hR.sS.1 h)
                  refine va_calli (va_runV (As := []) (rest := [.int v73_5]) ⟨hx, hb, hml, hown, hts⟩ (s_length l H.size (ad v73_3) (ad (v73_3 + 1)) (qN U73 (v73_3 + 1)) (qI U73 (v73_3 + 1))) (cwV 0 hts (gd2_V kx_248 kx_143 kx_144 kx_6 kx_145) rfl rfl rfl (by decide +kernel) ⟨Nat.le_of_ble_eq_true rfl, Nat.le_of_ble_eq_true rfl⟩) ⟨tblind (fun A u U H hv h => by exact tx1.moved hv h), (strR hts hR hE hA hT_v73_3), fun U hU hW9 => ⟨rfl, by rw [hU], str_at hts hR hE hA hT_v73_3 hU hW9, by rw [hU]; exact ((hE.1.kept hR.sS.2.1).narrow hF).moved hW9.alike⟩⟩ rfl rfl hl.1 rfl (lv_room (Nat.le_of_ble_eq_true rfl)) dX14_firstFault_76 ⟨Nat.le_of_ble_eq_true rfl, Nat.le_of_ble_eq_true rfl⟩) hR.sS (fun q _ h => hF q h) hF (fun r18 u9 t9 H1 locs ht9 hvm9 hw9 hB9 hz9 hk9 hS => ?_)
                  obtain rfl : r18 = (Int32.ofNat (qN U73 (v73_3 + 1))) := hw9
                  have hR : Rep g ad A s U73 H1 locs := hR.keep hk9 hS
                  clear hz9 hk9 hvm9 ht9 hB9 hF hS
                  generalize H1 = H at hR ⊢
                  refine lv_icmp_ge (tgt := 161) hx hb dX14_firstFault_79 (by decide) (fun c19 => ?_) (fun c19 => ?_)
                  · replace h := h.1 (k_le rfl rfl c19)
                    refine lv_aload_n hx hb dX14_firstFault_161 rfl (lv_at hl 0 rfl) ?_
                    refine lv_iconst (v := 0) hx hb dX14_firstFault_162 (by decide) ?_
                    refine lv_iconst (v := 0) hx hb dX14_firstFault_163 (by decide) ?_
                    obtain ⟨Q20, h0, h⟩ := h
                    have hFc := rfree hR hA
                    refine va_callv (va_runV (As := [.int 0, .int 0]) (rest := []) ⟨hx, hb, hml, hown, hts⟩ (r_join l g ad H.size U73 (0 : Int32) (0 : Int32) hR.w (Or.inl rfl) Q20 h0) (cwV 2 hts (gd2_V kx_507 kx_508 kx_509 kx_177 kx_510) rfl rfl rfl (by decide +kernel) ⟨Nat.le_of_ble_eq_true rfl, Nat.le_of_ble_eq_true rfl⟩) ⟨rblind, va_recv hR.K hR.P (ci := 13) (q0 := 0) rfl (hR.at14 hR.w.1), fun U hU hW9 => rmk hU hW9 hR hex hE hFc⟩ rfl rfl hl.1 rfl (lv_room (Nat.le_of_ble_eq_true rfl)) dX14_firstFault_164 ⟨Nat.le_of_ble_eq_true rfl, Nat.le_of_ble_eq_true rfl⟩) hR.sS (fun q _ h => hFc q h) hFc (fun  S21 t9 H1 locs ht9 hvm9 hw9 hB9 hz9 hk9 hS => ?_)
                    obtain ⟨hq22, hw9, hs9⟩ := hw9
                    have hR : Rep g ad A s S21 H1 locs := hR.call ht9 hB9 hw9 hS hFc
                    have hsh := hsh.tr hs9
                    replace h := h  S21 hq22
                    have hT_v73_1 := hs9.T hT_v73_1 (by decide)
                    have hT_v73_3 := hs9.T hT_v73_3 (by decide)
                    clear hB9 hz9 hk9 hvm9 ht9 hw9 hs9 hS
                    generalize H1 = H at hR ⊢
                    refine lv_aload_n hx hb dX14_firstFault_167 rfl (lv_at hl 0 rfl) ?_
                    refine lv_iconst (v := 1) hx hb dX14_firstFault_168 (by decide) ?_
                    refine va_put (D := rD g) (ci := 13) (v := .int 1) (ty := .boolean) (C := RX14) (T := TX14) (N := 143) hx hb hts in2X14 tyX14 tyX14_ok nmX14 hown hR.K hR.P hR.D hR.sS 0 (hR.at14 hR.w.1) rfl 57 (by decide) (hts _ kx_418) (fun _ h9 => h9) rfl (by decide +kernel) rfl rfl (Nat.le_of_ble_eq_true rfl) dX14_firstFault_169 (fun H locs hP hD hS => ?_)
                    have hR : Rep g ad A s (wI S21 0 57 1) H locs := hR.pI hR.w.1 F14_s57 hP hD hS
                    obtain ⟨S23, eS23⟩ : ∃ z, z = wI S21 0 57 1 := ⟨_, rfl⟩
                    rw [← eS23] at hR
                    replace h := h S23 eS23
                    have hT_v73_1 : qT S23 v73_1 = 11 := (congrArg (fun z => qT z v73_1) eS23).trans hT_v73_1
                    have hT_v73_3 : qT S23 v73_3 = 12 := (congrArg (fun z => qT z v73_3) eS23).trans hT_v73_3
                    have hsh : shy S S23 := by rw [eS23]; exact hsh
                    have J_172 : ∀ (n172 : Nat) (U172 : MS) (v172_1 : Nat) (v172_2 : Int32) (H : Heap) (locs : List Loc) (ls : Array Slot), w_firstFault_L172 Q n172 U172 v172_1 v172_2 → qT U172 v172_1 = 11 → shy S U172 → Rep g ad A s U172 H locs → lv_has ls 7 [(0, .ref (ad 0)), (1, .ref (ad v172_1)), (2, .int v172_2)] → W p l e (headSpec (wt2 yX14_firstFault cX14_firstFault 7 (some .int)) ({ frames := 8, cells := 0, slots := 0, locals := 178 })).room s m ([.ref (ad 0), .ref (ad p1), .int x2] : List Value).toArray below meth c H locs 0 0 (MQ below (va_Qi (fun (r : Int32) (u : MS) => Q r u ∧ wfM u ∧ shy S u) (fun (u : MS) (t : State) => qE g ad A u t) A) ([.ref (ad 0), .ref (ad p1), .int x2] : List Value).toArray s 0 0 A) (F0 m 172 ls []) := by
                      intro n172
                      induction n172 with
                      | zero => intro U172 v172_1 v172_2 H locs ls h hT_v172_1 hsh hR hl; unfold w_firstFault_L172 at h; exact h.elim
                      | succ n172 ih_172 =>
                        intro U172 v172_1 v172_2 H locs ls h hT_v172_1 hsh hR hl
                        unfold w_firstFault_L172 at h
                        refine lv_aload_n hx hb dX14_firstFault_172 rfl (lv_at hl 0 rfl) ?_
                        refine va_get (D := rD g) (ci := 13) (v := .int (qI U172 0 57)) (C := RX14) (T := TX14) (N := 143) hx hb hts in2X14 hown hR.K hR.P 0 (hR.at14 hR.w.1) rfl 57 (by decide) (hts _ kx_418) (fun _ h9 => h9) rfl dX14_firstFault_173 ?_
                        refine lv_if_eq (tgt := 236) hx hb dX14_firstFault_176 (by decide) (fun c24 => ?_) (fun c24 => ?_)
                        · replace h := h.1 (k_eq rfl (by decide) c24)
                          refine lv_iconst (v := 0) hx hb dX14_firstFault_236 (by decide) ?_
                          refine lv_istore (lv' := [(5, .int 0), (0, .ref (ad 0)), (1, .ref (ad v172_1)), (2, .int v172_2)]) hx hb dX14_firstFault_237 hl (by decide) rfl (fun ls hl => ?_)
                          have J_239 : ∀ (n239 : Nat) (U239 : MS) (v239_1 : Nat) (v239_2 : Int32) (v239_5 : Int32) (H : Heap) (locs : List Loc) (ls : Array Slot), w_firstFault_L239 Q n239 U239 v239_1 v239_2 v239_5 → qT U239 v239_1 = 11 → shy S U239 → Rep g ad A s U239 H locs → lv_has ls 7 [(0, .ref (ad 0)), (1, .ref (ad v239_1)), (2, .int v239_2), (5, .int v239_5)] → W p l e (headSpec (wt2 yX14_firstFault cX14_firstFault 7 (some .int)) ({ frames := 8, cells := 0, slots := 0, locals := 178 })).room s m ([.ref (ad 0), .ref (ad p1), .int x2] : List Value).toArray below meth c H locs 0 0 (MQ below (va_Qi (fun (r : Int32) (u : MS) => Q r u ∧ wfM u ∧ shy S u) (fun (u : MS) (t : State) => qE g ad A u t) A) ([.ref (ad 0), .ref (ad p1), .int x2] : List Value).toArray s 0 0 A) (F0 m 239 ls []) := by
                            intro n239
                            induction n239 with
                            | zero => intro U239 v239_1 v239_2 v239_5 H locs ls h hT_v239_1 hsh hR hl; unfold w_firstFault_L239 at h; exact h.elim
                            | succ n239 ih_239 =>
                              intro U239 v239_1 v239_2 v239_5 H locs ls h hT_v239_1 hsh hR hl
                              unfold w_firstFault_L239 at h
                              refine lv_iload hx hb dX14_firstFault_239 (lv_at hl 3 rfl) ?_
                              refine lv_aload_n hx hb dX14_firstFault_241 rfl (lv_at hl 0 rfl) ?_
                              refine va_get (D := rD g) (ci := 13) (v := .int (qI U239 0 52)) (C := RX14) (T := TX14) (N := 143) hx hb hts in2X14 hown hR.K hR.P 0 (hR.at14 hR.w.1) rfl 52 (by decide) (hts _ kx_370) (fun _ h9 => h9) rfl dX14_firstFault_242 ?_
                              refine lv_icmp_ge (tgt := 313) hx hb dX14_firstFault_245 (by decide) (fun c25 => ?_) (fun c25 => ?_)
                              · replace h := h.1 (k_le rfl rfl c25)
                                refine lv_iconst (v := (-1)) hx hb dX14_firstFault_313 (by decide) ?_
                                exact W.iret (v := (-1)) hx hb hr (fun t9 ht9 hW9 => ⟨⟨_, U239, rfl, ⟨h, hR.w, hsh⟩, ⟨by rw [ht9]; exact hR.P, hR.D⟩⟩, hR.sS.F ht9⟩) hR.sS.2.2 dX14_firstFault_314
                              · replace h := h.2 (k_nle rfl rfl c25)
                                refine lv_aload_n hx hb dX14_firstFault_248 rfl (lv_at hl 0 rfl) ?_
                                refine lv_iload hx hb dX14_firstFault_249 (lv_at hl 3 rfl) ?_
                                obtain ⟨Q26, h0, h⟩ := h
                                have hFc := rfree hR hA
                                refine va_calli (va_runV (As := [.int v239_5]) (rest := []) ⟨hx, hb, hml, hown, hts⟩ (r_isHeightFault l g ad H.size U239 v239_5 hR.w  Q26 h0) (cwV 1 hts (gd2_V kx_511 kx_512 kx_513 kx_177 kx_514) rfl rfl rfl (by decide +kernel) ⟨Nat.le_of_ble_eq_true rfl, Nat.le_of_ble_eq_true rfl⟩) ⟨rblind, va_recv hR.K hR.P (ci := 13) (q0 := 0) rfl (hR.at14 hR.w.1), fun U hU hW9 => rmk hU hW9 hR hex hE hFc⟩ rfl rfl hl.1 rfl (lv_room (Nat.le_of_ble_eq_true rfl)) dX14_firstFault_251 ⟨Nat.le_of_ble_eq_true rfl, Nat.le_of_ble_eq_true rfl⟩) hR.sS (fun q _ h => hFc q h) hFc (fun r27 S28 t9 H1 locs ht9 hvm9 hw9 hB9 hz9 hk9 hS => ?_)
                                obtain ⟨hq29, hw9, hs9, hz_r27⟩ := hw9
                                have hR : Rep g ad A s S28 H1 locs := hR.call ht9 hB9 hw9 hS hFc
                                have hsh := hsh.tr hs9
                                replace h := h r27 S28 hq29
                                have hT_v239_1 := hs9.T hT_v239_1 (by decide)
                                clear hB9 hz9 hk9 hvm9 ht9 hw9 hs9 hS
                                generalize H1 = H at hR ⊢
                                refine lv_if_eq (tgt := 260) hx hb dX14_firstFault_254 (by decide) (fun c30 => ?_) (fun c30 => ?_)
                                · replace h := h.1 (k_eq rfl (by decide) c30)
                                  refine lv_aload_n hx hb dX14_firstFault_260 rfl (lv_at hl 0 rfl) ?_
                                  refine va_get (D := rD g) (ci := 13) (v := .ref (ad 24)) (C := RX14) (T := TX14) (N := 143) hx hb hts in2X14 hown hR.K hR.P 0 (hR.at14 hR.w.1) rfl 59 (by decide) (hts _ kx_489) (fun _ h9 => h9) (congrArg (fun z => some (vf ad z)) (hR.w.2.1 _ fin_59).1) dX14_firstFault_261 ?_
                                  refine lv_iload hx hb dX14_firstFault_264 (lv_at hl 3 rfl) ?_
                                  obtain ⟨hv31, h⟩ := h
                                  refine va_zald hx hb hR.K hR.P 24 2 (hR.atZ (hR.w.2.1 _ fin_59).2.1) rfl (k_ixN (k_ix (n := 1200) (x := v239_5) (a := v239_5.toInt) rfl hv31) (hR.w.2.1 _ fin_59).2.2) dX14_firstFault_266 ?_
                                  refine lv_topi (fun z32 ez32 => ?_)
                                  obtain rfl : z32 = (qI S28 24 v239_5.toInt.toNat) := ez32
                                  have J_307 : ∀ (U307 : MS) (v307_1 : Nat) (v307_2 : Int32) (v307_5 : Int32) (H : Heap) (locs : List Loc) (ls : Array Slot), w_firstFault_J307 Q (w_firstFault_L239 Q n239) U307 v307_1 v307_2 v307_5 → qT U307 v307_1 = 11 → shy S U307 → Rep g ad A s U307 H locs → lv_has ls 7 [(0, .ref (ad 0)), (1, .ref (ad v307_1)), (2, .int v307_2), (5, .int v307_5)] → W p l e (headSpec (wt2 yX14_firstFault cX14_firstFault 7 (some .int)) ({ frames := 8, cells := 0, slots := 0, locals := 178 })).room s m ([.ref (ad 0), .ref (ad p1), .int x2] : List Value).toArray below meth c H locs 0 0 (MQ below (va_Qi (fun (r : Int32) (u : MS) => Q r u ∧ wfM u ∧ shy S u) (fun (u : MS) (t : State) => qE g ad A u t) A) ([.ref (ad 0), .ref (ad p1), .int x2] : List Value).toArray s 0 0 A) (F0 m 307 ls []) := by
                                    intro U307 v307_1 v307_2 v307_5 H locs ls h hT_v307_1 hsh hR hl
                                    unfold w_firstFault_J307 at h
                                    obtain ⟨a33, ea33⟩ : ∃ z, z = (v307_5 + Int32.ofInt 1) := ⟨_, rfl⟩
                                    replace h := h a33 ea33
                                    refine lv_iinc (v := a33) (lv' := [(5, .int a33), (0, .ref (ad 0)), (1, .ref (ad v307_1)), (2, .int v307_2)]) hx hb dX14_firstFault_307 hl (k := 3) rfl ea33.symm (by decide) rfl (fun ls hl => ?_)
                                    refine lv_goto (tgt := 239) hx hb dX14_firstFault_310 (by decide) ?_
                                    exact ih_239 U307 v307_1 v307_2 a33 _ _ ls h hT_v307_1 hsh hR (lv_sub hl [1, 2, 3, 0] rfl)
                                  refine lv_if_ne (tgt := 273) hx hb dX14_firstFault_267 (by decide) (fun c34 => ?_) (fun c34 => ?_)
                                  · replace h := h.2 (k_ne rfl (by decide) c34)
                                    refine lv_aload_n hx hb dX14_firstFault_273 rfl (lv_at hl 0 rfl) ?_
                                    refine lv_iload hx hb dX14_firstFault_274 (lv_at hl 3 rfl) ?_
                                    refine lv_aload_n hx hb dX14_firstFault_276 rfl (lv_at hl 0 rfl) ?_
                                    refine lv_iload hx hb dX14_firstFault_277 (lv_at hl 3 rfl) ?_
                                    obtain ⟨Q35, h0, h⟩ := h
                                    have hFc := rfree hR hA
                                    refine va_calli (va_runV (As := [.int v239_5]) (rest := [.int v239_5, .ref (ad 0)]) ⟨hx, hb, hml, hown, hts⟩ (r_heightAt l g ad H.size S28 v239_5 hR.w  Q35 h0) (cwV 1 hts (gd2_V kx_455 kx_456 kx_457 kx_177 kx_458) rfl rfl rfl (by decide +kernel) ⟨Nat.le_of_ble_eq_true rfl, Nat.le_of_ble_eq_true rfl⟩) ⟨rblind, va_recv hR.K hR.P (ci := 13) (q0 := 0) rfl (hR.at14 hR.w.1), fun U hU hW9 => rmk hU hW9 hR hex hE hFc⟩ rfl rfl hl.1 rfl (lv_room (Nat.le_of_ble_eq_true rfl)) dX14_firstFault_279 ⟨Nat.le_of_ble_eq_true rfl, Nat.le_of_ble_eq_true rfl⟩) hR.sS (fun q _ h => hFc q h) hFc (fun r36 S37 t9 H1 locs ht9 hvm9 hw9 hB9 hz9 hk9 hS => ?_)
                                    obtain ⟨hq38, hw9, hs9⟩ := hw9
                                    have hR : Rep g ad A s S37 H1 locs := hR.call ht9 hB9 hw9 hS hFc
                                    have hsh := hsh.tr hs9
                                    replace h := h r36 S37 hq38
                                    have hT_v239_1 := hs9.T hT_v239_1 (by decide)
                                    clear hB9 hz9 hk9 hvm9 ht9 hw9 hs9 hS
                                    generalize H1 = H at hR ⊢
                                    obtain ⟨Q39, h0, h⟩ := h
                                    have hFc := rfree hR hA
                                    refine va_callv (va_runV (As := [.int v239_5, .int r36]) (rest := []) ⟨hx, hb, hml, hown, hts⟩ (r_takeOf l g ad H.size S37 v239_5 r36 hR.w  Q39 h0) (cwV 2 hts (gd2_V kx_494 kx_495 kx_496 kx_177 kx_497) rfl rfl rfl (by decide +kernel) ⟨Nat.le_of_ble_eq_true rfl, Nat.le_of_ble_eq_true rfl⟩) ⟨rblind, va_recv hR.K hR.P (ci := 13) (q0 := 0) rfl (hR.at14 hR.w.1), fun U hU hW9 => rmk hU hW9 hR hex hE hFc⟩ rfl rfl hl.1 rfl (lv_room (Nat.le_of_ble_eq_true rfl)) dX14_firstFault_282 ⟨Nat.le_of_ble_eq_true rfl, Nat.le_of_ble_eq_true rfl⟩) hR.sS (fun q _ h => hFc q h) hFc (fun  S40 t9 H1 locs ht9 hvm9 hw9 hB9 hz9 hk9 hS => ?_)
                                    obtain ⟨hq41, hw9, hs9⟩ := hw9
                                    have hR : Rep g ad A s S40 H1 locs := hR.call ht9 hB9 hw9 hS hFc
                                    have hsh := hsh.tr hs9
                                    replace h := h  S40 hq41
                                    have hT_v239_1 := hs9.T hT_v239_1 (by decide)
                                    clear hB9 hz9 hk9 hvm9 ht9 hw9 hs9 hS
                                    generalize H1 = H at hR ⊢
                                    refine lv_aload_n hx hb dX14_firstFault_285 rfl (lv_at hl 0 rfl) ?_
                                    refine lv_iload hx hb dX14_firstFault_286 (lv_at hl 3 rfl) ?_
                                    refine lv_aload_n hx hb dX14_firstFault_288 rfl (lv_at hl 1 rfl) ?_
                                    obtain ⟨hv42, h⟩ := h
                                    have hT_b43 : qT S40 (qO S40 v239_1 11) = 5 := hR.w.ref hv42 hT_v239_1
                                    refine va_get (D := rD g) (ci := 12) (v := .ref (ad (qO S40 v239_1 11))) (C := RX13) (T := TX13) (N := 23) hx hb hts in2X13 hown hR.K hR.P v239_1 (hR.at13 hT_v239_1) rfl 11 (by decide) (hts _ kx_399) (fun _ h9 => h9) (congrArg (fun z => some (vf ad z)) hv42) dX14_firstFault_289 ?_
                                    refine lv_iload_n hx hb dX14_firstFault_292 rfl (lv_at hl 2 rfl) ?_
                                    obtain ⟨hv44, h⟩ := h
                                    refine va_aldq hx hb hR.K hR.P (qO S40 v239_1 11) 4 (hR.atS hT_b43) rfl (k_ix (x := v239_2) (a := v239_2.toInt) rfl hv44) dX14_firstFault_293 ?_
                                    obtain ⟨hv45, h⟩ := h
                                    have hT_b46 : qT S40 (qO S40 (qO S40 v239_1 11) v239_2.toInt.toNat) = 12 := hR.w.ref hv45 hT_b43
                                    rw [show va_rf (Option.map ad (qR S40 (qO S40 v239_1 11) (v239_2 : Int32).toNatClampNeg)) = .ref (ad (qO S40 (qO S40 v239_1 11) v239_2.toInt.toNat)) from congrArg (fun z => vf ad z) hv45]
                                    obtain ⟨Q47, h0, h⟩ := h
                                    have hFc := rfree hR hA
                                    refine va_callv (va_runV (As := [.int v239_5, .ref (ad (qO S40 (qO S40 v239_1 11) v239_2.toInt.toNat))]) (rest := []) ⟨hx, hb, hml, hown, hts⟩ (r_work l g ad H.size S40 v239_5 (qO S40 (qO S40 v239_1 11) v239_2.toInt.toNat) hR.w hT_b46 Q47 h0) (cwV 2 hts (gd2_V kx_893 kx_894 kx_895 kx_177 kx_896) rfl rfl rfl (by decide +kernel) ⟨Nat.le_of_ble_eq_true rfl, Nat.le_of_ble_eq_true rfl⟩) ⟨rblind, va_recv hR.K hR.P (ci := 13) (q0 := 0) rfl (hR.at14 hR.w.1), fun U hU hW9 => rmk hU hW9 hR hex hE hFc⟩ rfl rfl hl.1 rfl (lv_room (Nat.le_of_ble_eq_true rfl)) dX14_firstFault_294 ⟨Nat.le_of_ble_eq_true rfl, Nat.le_of_ble_eq_true rfl⟩) hR.sS (fun q _ h => hFc q h) hFc (fun  S48 t9 H1 locs ht9 hvm9 hw9 hB9 hz9 hk9 hS => ?_)
                                    obtain ⟨hq49, hw9, hs9⟩ := hw9
                                    have hR : Rep g ad A s S48 H1 locs := hR.call ht9 hB9 hw9 hS hFc
                                    have hsh := hsh.tr hs9
                                    replace h := h  S48 hq49
                                    have hT_v239_1 := hs9.T hT_v239_1 (by decide)
                                    clear hB9 hz9 hk9 hvm9 ht9 hw9 hs9 hS
                                    generalize H1 = H at hR ⊢
                                    refine lv_aload_n hx hb dX14_firstFault_297 rfl (lv_at hl 0 rfl) ?_
                                    refine va_get (D := rD g) (ci := 13) (v := .int (qI S48 0 63)) (C := RX14) (T := TX14) (N := 143) hx hb hts in2X14 hown hR.K hR.P 0 (hR.at14 hR.w.1) rfl 63 (by decide) (hts _ kx_464) (fun _ h9 => h9) rfl dX14_firstFault_298 ?_
                                    refine lv_if_ne (tgt := 307) hx hb dX14_firstFault_301 (by decide) (fun c50 => ?_) (fun c50 => ?_)
                                    · replace h := h.2 (k_ne rfl (by decide) c50)
                                      exact J_307 S48 v239_1 v239_2 v239_5 _ _ ls h hT_v239_1 hsh hR (lv_sub hl [0, 1, 2, 3] rfl)
                                    · replace h := h.1 (k_eq rfl (by decide) c50)
                                      refine lv_iload hx hb dX14_firstFault_304 (lv_at hl 3 rfl) ?_
                                      exact W.iret (v := v239_5) hx hb hr (fun t9 ht9 hW9 => ⟨⟨_, S48, rfl, ⟨h, hR.w, hsh⟩, ⟨by rw [ht9]; exact hR.P, hR.D⟩⟩, hR.sS.F ht9⟩) hR.sS.2.2 dX14_firstFault_306
                                  · replace h := h.1 (k_eq rfl (by decide) c34)
                                    refine lv_goto (tgt := 307) hx hb dX14_firstFault_270 (by decide) ?_
                                    exact J_307 S28 v239_1 v239_2 v239_5 _ _ ls h hT_v239_1 hsh hR (lv_sub hl [0, 1, 2, 3] rfl)
                                · replace h := h.2 (k_ne rfl (by decide) c30)
                                  refine lv_iload hx hb dX14_firstFault_257 (lv_at hl 3 rfl) ?_
                                  exact W.iret (v := v239_5) hx hb hr (fun t9 ht9 hW9 => ⟨⟨_, S28, rfl, ⟨h, hR.w, hsh⟩, ⟨by rw [ht9]; exact hR.P, hR.D⟩⟩, hR.sS.F ht9⟩) hR.sS.2.2 dX14_firstFault_259
                          obtain ⟨n9, h⟩ := h
                          exact J_239 n9 U172 v172_1 v172_2 0 _ _ ls h hT_v172_1 hsh hR (lv_sub hl [1, 2, 3, 0] rfl)
                        · replace h := h.2 (k_ne rfl (by decide) c24)
                          refine lv_aload_n hx hb dX14_firstFault_179 rfl (lv_at hl 0 rfl) ?_
                          refine lv_iconst (v := 0) hx hb dX14_firstFault_180 (by decide) ?_
                          refine va_put (D := rD g) (ci := 13) (v := .int 0) (ty := .boolean) (C := RX14) (T := TX14) (N := 143) hx hb hts in2X14 tyX14 tyX14_ok nmX14 hown hR.K hR.P hR.D hR.sS 0 (hR.at14 hR.w.1) rfl 57 (by decide) (hts _ kx_418) (fun _ h9 => h9) rfl (by decide +kernel) rfl rfl (Nat.le_of_ble_eq_true rfl) dX14_firstFault_181 (fun H locs hP hD hS => ?_)
                          have hR : Rep g ad A s (wI U172 0 57 0) H locs := hR.pI hR.w.1 F14_s57 hP hD hS
                          obtain ⟨S51, eS51⟩ : ∃ z, z = wI U172 0 57 0 := ⟨_, rfl⟩
                          rw [← eS51] at hR
                          replace h := h S51 eS51
                          have hT_v172_1 : qT S51 v172_1 = 11 := (congrArg (fun z => qT z v172_1) eS51).trans hT_v172_1
                          have hsh : shy S S51 := by rw [eS51]; exact hsh
                          refine lv_iconst (v := 0) hx hb dX14_firstFault_184 (by decide) ?_
                          refine lv_istore (lv' := [(5, .int 0), (0, .ref (ad 0)), (1, .ref (ad v172_1)), (2, .int v172_2)]) hx hb dX14_firstFault_185 hl (by decide) rfl (fun ls hl => ?_)
                          have J_187 : ∀ (n187 : Nat) (U187 : MS) (v187_1 : Nat) (v187_2 : Int32) (v187_5 : Int32) (H : Heap) (locs : List Loc) (ls : Array Slot), w_firstFault_L187 Q (w_firstFault_L172 Q n172) n187 U187 v187_1 v187_2 v187_5 → qT U187 v187_1 = 11 → shy S U187 → Rep g ad A s U187 H locs → lv_has ls 7 [(0, .ref (ad 0)), (1, .ref (ad v187_1)), (2, .int v187_2), (5, .int v187_5)] → W p l e (headSpec (wt2 yX14_firstFault cX14_firstFault 7 (some .int)) ({ frames := 8, cells := 0, slots := 0, locals := 178 })).room s m ([.ref (ad 0), .ref (ad p1), .int x2] : List Value).toArray below meth c H locs 0 0 (MQ below (va_Qi (fun (r : Int32) (u : MS) => Q r u ∧ wfM u ∧ shy S u) (fun (u : MS) (t : State) => qE g ad A u t) A) ([.ref (ad 0), .ref (ad p1), .int x2] : List Value).toArray s 0 0 A) (F0 m 187 ls []) := by
                            intro n187
                            induction n187 with
                            | zero => intro U187 v187_1 v187_2 v187_5 H locs ls h hT_v187_1 hsh hR hl; unfold w_firstFault_L187 at h; exact h.elim
                            | succ n187 ih_187 =>
                              intro U187 v187_1 v187_2 v187_5 H locs ls h hT_v187_1 hsh hR hl
                              unfold w_firstFault_L187 at h
                              refine lv_iload hx hb dX14_firstFault_187 (lv_at hl 3 rfl) ?_
                              refine lv_aload_n hx hb dX14_firstFault_189 rfl (lv_at hl 0 rfl) ?_
                              refine va_get (D := rD g) (ci := 13) (v := .int (qI U187 0 52)) (C := RX14) (T := TX14) (N := 143) hx hb hts in2X14 hown hR.K hR.P 0 (hR.at14 hR.w.1) rfl 52 (by decide) (hts _ kx_370) (fun _ h9 => h9) rfl dX14_firstFault_190 ?_
                              refine lv_icmp_ge (tgt := 233) hx hb dX14_firstFault_193 (by decide) (fun c52 => ?_) (fun c52 => ?_)
                              · replace h := h.1 (k_le rfl rfl c52)
                                refine lv_goto (tgt := 172) hx hb dX14_firstFault_233 (by decide) ?_
                                exact ih_172 U187 v187_1 v187_2 _ _ ls h hT_v187_1 hsh hR (lv_sub hl [0, 1, 2] rfl)
                              · replace h := h.2 (k_nle rfl rfl c52)
                                refine lv_aload_n hx hb dX14_firstFault_196 rfl (lv_at hl 0 rfl) ?_
                                refine va_get (D := rD g) (ci := 13) (v := .ref (ad 24)) (C := RX14) (T := TX14) (N := 143) hx hb hts in2X14 hown hR.K hR.P 0 (hR.at14 hR.w.1) rfl 59 (by decide) (hts _ kx_489) (fun _ h9 => h9) (congrArg (fun z => some (vf ad z)) (hR.w.2.1 _ fin_59).1) dX14_firstFault_197 ?_
                                refine lv_iload hx hb dX14_firstFault_200 (lv_at hl 3 rfl) ?_
                                obtain ⟨hv53, h⟩ := h
                                refine va_zald hx hb hR.K hR.P 24 2 (hR.atZ (hR.w.2.1 _ fin_59).2.1) rfl (k_ixN (k_ix (n := 1200) (x := v187_5) (a := v187_5.toInt) rfl hv53) (hR.w.2.1 _ fin_59).2.2) dX14_firstFault_202 ?_
                                refine lv_topi (fun z54 ez54 => ?_)
                                obtain rfl : z54 = (qI U187 24 v187_5.toInt.toNat) := ez54
                                have J_227 : ∀ (U227 : MS) (v227_1 : Nat) (v227_2 : Int32) (v227_5 : Int32) (H : Heap) (locs : List Loc) (ls : Array Slot), w_firstFault_J227 Q (w_firstFault_L187 Q (w_firstFault_L172 Q n172) n187) U227 v227_1 v227_2 v227_5 → qT U227 v227_1 = 11 → shy S U227 → Rep g ad A s U227 H locs → lv_has ls 7 [(0, .ref (ad 0)), (1, .ref (ad v227_1)), (2, .int v227_2), (5, .int v227_5)] → W p l e (headSpec (wt2 yX14_firstFault cX14_firstFault 7 (some .int)) ({ frames := 8, cells := 0, slots := 0, locals := 178 })).room s m ([.ref (ad 0), .ref (ad p1), .int x2] : List Value).toArray below meth c H locs 0 0 (MQ below (va_Qi (fun (r : Int32) (u : MS) => Q r u ∧ wfM u ∧ shy S u) (fun (u : MS) (t : State) => qE g ad A u t) A) ([.ref (ad 0), .ref (ad p1), .int x2] : List Value).toArray s 0 0 A) (F0 m 227 ls []) := by
                                  intro U227 v227_1 v227_2 v227_5 H locs ls h hT_v227_1 hsh hR hl
                                  unfold w_firstFault_J227 at h
                                  obtain ⟨a55, ea55⟩ : ∃ z, z = (v227_5 + Int32.ofInt 1) := ⟨_, rfl⟩
                                  replace h := h a55 ea55
                                  refine lv_iinc (v := a55) (lv' := [(5, .int a55), (0, .ref (ad 0)), (1, .ref (ad v227_1)), (2, .int v227_2)]) hx hb dX14_firstFault_227 hl (k := 3) rfl ea55.symm (by decide) rfl (fun ls hl => ?_)
                                  refine lv_goto (tgt := 187) hx hb dX14_firstFault_230 (by decide) ?_
                                  exact ih_187 U227 v227_1 v227_2 a55 _ _ ls h hT_v227_1 hsh hR (lv_sub hl [1, 2, 3, 0] rfl)
                                refine lv_if_eq (tgt := 227) hx hb dX14_firstFault_203 (by decide) (fun c56 => ?_) (fun c56 => ?_)
                                · replace h := h.1 (k_eq rfl (by decide) c56)
                                  exact J_227 U187 v187_1 v187_2 v187_5 _ _ ls h hT_v187_1 hsh hR (lv_sub hl [0, 1, 2, 3] rfl)
                                · replace h := h.2 (k_ne rfl (by decide) c56)
                                  refine lv_aload_n hx hb dX14_firstFault_206 rfl (lv_at hl 0 rfl) ?_
                                  refine lv_iload hx hb dX14_firstFault_207 (lv_at hl 3 rfl) ?_
                                  obtain ⟨Q57, h0, h⟩ := h
                                  have hFc := rfree hR hA
                                  refine va_calli (va_runV (As := [.int v187_5]) (rest := []) ⟨hx, hb, hml, hown, hts⟩ (r_isHeightFault l g ad H.size U187 v187_5 hR.w  Q57 h0) (cwV 1 hts (gd2_V kx_511 kx_512 kx_513 kx_177 kx_514) rfl rfl rfl (by decide +kernel) ⟨Nat.le_of_ble_eq_true rfl, Nat.le_of_ble_eq_true rfl⟩) ⟨rblind, va_recv hR.K hR.P (ci := 13) (q0 := 0) rfl (hR.at14 hR.w.1), fun U hU hW9 => rmk hU hW9 hR hex hE hFc⟩ rfl rfl hl.1 rfl (lv_room (Nat.le_of_ble_eq_true rfl)) dX14_firstFault_209 ⟨Nat.le_of_ble_eq_true rfl, Nat.le_of_ble_eq_true rfl⟩) hR.sS (fun q _ h => hFc q h) hFc (fun r58 S59 t9 H1 locs ht9 hvm9 hw9 hB9 hz9 hk9 hS => ?_)
                                  obtain ⟨hq60, hw9, hs9, hz_r58⟩ := hw9
                                  have hR : Rep g ad A s S59 H1 locs := hR.call ht9 hB9 hw9 hS hFc
                                  have hsh := hsh.tr hs9
                                  replace h := h r58 S59 hq60
                                  have hT_v187_1 := hs9.T hT_v187_1 (by decide)
                                  clear hB9 hz9 hk9 hvm9 ht9 hw9 hs9 hS
                                  generalize H1 = H at hR ⊢
                                  refine lv_if_ne (tgt := 227) hx hb dX14_firstFault_212 (by decide) (fun c61 => ?_) (fun c61 => ?_)
                                  · replace h := h.2 (k_ne rfl (by decide) c61)
                                    exact J_227 S59 v187_1 v187_2 v187_5 _ _ ls h hT_v187_1 hsh hR (lv_sub hl [0, 1, 2, 3] rfl)
                                  · replace h := h.1 (k_eq rfl (by decide) c61)
                                    refine lv_aload_n hx hb dX14_firstFault_215 rfl (lv_at hl 0 rfl) ?_
                                    refine lv_iload hx hb dX14_firstFault_216 (lv_at hl 3 rfl) ?_
                                    refine lv_aload_n hx hb dX14_firstFault_218 rfl (lv_at hl 1 rfl) ?_
                                    obtain ⟨hv62, h⟩ := h
                                    have hT_b63 : qT S59 (qO S59 v187_1 11) = 5 := hR.w.ref hv62 hT_v187_1
                                    refine va_get (D := rD g) (ci := 12) (v := .ref (ad (qO S59 v187_1 11))) (C := RX13) (T := TX13) (N := 23) hx hb hts in2X13 hown hR.K hR.P v187_1 (hR.at13 hT_v187_1) rfl 11 (by decide) (hts _ kx_399) (fun _ h9 => h9) (congrArg (fun z => some (vf ad z)) hv62) dX14_firstFault_219 ?_
                                    refine lv_iload_n hx hb dX14_firstFault_222 rfl (lv_at hl 2 rfl) ?_
                                    obtain ⟨hv64, h⟩ := h
                                    refine va_aldq hx hb hR.K hR.P (qO S59 v187_1 11) 4 (hR.atS hT_b63) rfl (k_ix (x := v187_2) (a := v187_2.toInt) rfl hv64) dX14_firstFault_223 ?_
                                    obtain ⟨hv65, h⟩ := h
                                    have hT_b66 : qT S59 (qO S59 (qO S59 v187_1 11) v187_2.toInt.toNat) = 12 := hR.w.ref hv65 hT_b63
                                    rw [show va_rf (Option.map ad (qR S59 (qO S59 v187_1 11) (v187_2 : Int32).toNatClampNeg)) = .ref (ad (qO S59 (qO S59 v187_1 11) v187_2.toInt.toNat)) from congrArg (fun z => vf ad z) hv65]
                                    obtain ⟨Q67, h0, h⟩ := h
                                    have hFc := rfree hR hA
                                    refine va_callv (va_runV (As := [.int v187_5, .ref (ad (qO S59 (qO S59 v187_1 11) v187_2.toInt.toNat))]) (rest := []) ⟨hx, hb, hml, hown, hts⟩ (r_flow l g ad H.size S59 v187_5 (qO S59 (qO S59 v187_1 11) v187_2.toInt.toNat) hR.w hT_b66 Q67 h0) (cwV 2 hts (gd2_V kx_897 kx_898 kx_899 kx_177 kx_900) rfl rfl rfl (by decide +kernel) ⟨Nat.le_of_ble_eq_true rfl, Nat.le_of_ble_eq_true rfl⟩) ⟨rblind, va_recv hR.K hR.P (ci := 13) (q0 := 0) rfl (hR.at14 hR.w.1), fun U hU hW9 => rmk hU hW9 hR hex hE hFc⟩ rfl rfl hl.1 rfl (lv_room (Nat.le_of_ble_eq_true rfl)) dX14_firstFault_224 ⟨Nat.le_of_ble_eq_true rfl, Nat.le_of_ble_eq_true rfl⟩) hR.sS (fun q _ h => hFc q h) hFc (fun  S68 t9 H1 locs ht9 hvm9 hw9 hB9 hz9 hk9 hS => ?_)
                                    obtain ⟨hq69, hw9, hs9⟩ := hw9
                                    have hR : Rep g ad A s S68 H1 locs := hR.call ht9 hB9 hw9 hS hFc
                                    have hsh := hsh.tr hs9
                                    replace h := h  S68 hq69
                                    have hT_v187_1 := hs9.T hT_v187_1 (by decide)
                                    clear hB9 hz9 hk9 hvm9 ht9 hw9 hs9 hS
                                    generalize H1 = H at hR ⊢
                                    exact J_227 S68 v187_1 v187_2 v187_5 _ _ ls h hT_v187_1 hsh hR (lv_sub hl [0, 1, 2, 3] rfl)
                          obtain ⟨n9, h⟩ := h
                          exact J_187 n9 S51 v172_1 v172_2 0 _ _ ls h hT_v172_1 hsh hR (lv_sub hl [1, 2, 3, 0] rfl)
                    obtain ⟨n9, h⟩ := h
                    exact J_172 n9 S23 v73_1 v73_2 _ _ ls h hT_v73_1 hsh hR (lv_sub hl [0, 1, 2] rfl)
                  · replace h := h.2 (k_nle rfl rfl c19)
                    refine lv_aload_n hx hb dX14_firstFault_82 rfl (lv_at hl 3 rfl) ?_
                    refine lv_iload hx hb dX14_firstFault_83 (lv_at hl 5 rfl) ?_
                    obtain ⟨hv70, h⟩ := h
                    have hF : ∀ q, Ns H.size q → A q := fun q h => hA q (Nat.le_trans hR.sS.1 h)
                    refine va_calli (va_runV (As := [.int v73_5]) (rest := []) ⟨hx, hb, hml, hown, hts⟩ (s_charAt l H.size (ad v73_3) (ad (v73_3 + 1)) (qN U73 (v73_3 + 1)) (qI U73 (v73_3 + 1)) v73_5 (hR.w.len hT_v73_3) hv70) (cwV 1 hts (gd2_V kx_249 kx_250 kx_251 kx_6 kx_252) rfl rfl rfl (by decide +kernel) ⟨Nat.le_of_ble_eq_true rfl, Nat.le_of_ble_eq_true rfl⟩) ⟨tblind (fun A u U H hv h => by exact tx1.moved hv h), (strR hts hR hE hA hT_v73_3), fun U hU hW9 => ⟨rfl, by rw [hU], str_at hts hR hE hA hT_v73_3 hU hW9, by rw [hU]; exact ((hE.1.kept hR.sS.2.1).narrow hF).moved hW9.alike⟩⟩ rfl rfl hl.1 rfl (lv_room (Nat.le_of_ble_eq_true rfl)) dX14_firstFault_85 ⟨Nat.le_of_ble_eq_true rfl, Nat.le_of_ble_eq_true rfl⟩) hR.sS (fun q _ h => hF q h) hF (fun r71 u9 t9 H1 locs ht9 hvm9 hw9 hB9 hz9 hk9 hS => ?_)
                    obtain rfl : r71 = (cAt U73 v73_3 v73_5) := hw9
                    have hR : Rep g ad A s U73 H1 locs := hR.keep hk9 hS
                    clear hz9 hk9 hvm9 ht9 hB9 hF hS
                    generalize H1 = H at hR ⊢
                    obtain ⟨a72, ea72⟩ : ∃ z, z = (cAt U73 v73_3 v73_5) := ⟨_, rfl⟩
                    rw [← ea72]
                    replace h := h a72 ea72
                    refine lv_istore (lv' := [(6, .int a72), (0, .ref (ad 0)), (1, .ref (ad v73_1)), (2, .int v73_2), (3, .ref (ad v73_3)), (4, .int v73_4), (5, .int v73_5)]) hx hb dX14_firstFault_88 hl (by decide) rfl (fun ls hl => ?_)
                    refine lv_aload_n hx hb dX14_firstFault_90 rfl (lv_at hl 1 rfl) ?_
                    refine va_get (D := rD g) (ci := 13) (v := .ref (ad 25)) (C := RX14) (T := TX14) (N := 143) hx hb hts in2X14 hown hR.K hR.P 0 (hR.at14 hR.w.1) rfl 60 (by decide) (hts _ kx_477) (fun _ h9 => h9) (congrArg (fun z => some (vf ad z)) (hR.w.2.1 _ fin_60).1) dX14_firstFault_91 ?_
                    refine lv_iload hx hb dX14_firstFault_94 (lv_at hl 5 rfl) ?_
                    refine lv_iload hx hb dX14_firstFault_96 (lv_at hl 0 rfl) ?_
                    refine lv_bipush (v := 73) hx hb dX14_firstFault_98 (by decide) ?_
                    have J_119 : ∀ (U119 : MS) (t119_0 : Int32) (t119_1 : Int32) (v119_1 : Nat) (v119_2 : Int32) (v119_3 : Nat) (v119_4 : Int32) (v119_5 : Int32) (v119_6 : Int32) (H : Heap) (locs : List Loc) (ls : Array Slot), w_firstFault_J119 Q (w_firstFault_L73 Q n73) U119 t119_0 t119_1 v119_1 v119_2 v119_3 v119_4 v119_5 v119_6 → qT U119 v119_1 = 11 → qT U119 v119_3 = 12 → shy S U119 → Rep g ad A s U119 H locs → lv_has ls 7 [(0, .ref (ad 0)), (1, .ref (ad v119_1)), (2, .int v119_2), (3, .ref (ad v119_3)), (4, .int v119_4), (5, .int v119_5), (6, .int v119_6)] → W p l e (headSpec (wt2 yX14_firstFault cX14_firstFault 7 (some .int)) ({ frames := 8, cells := 0, slots := 0, locals := 178 })).room s m ([.ref (ad 0), .ref (ad p1), .int x2] : List Value).toArray below meth c H locs 0 0 (MQ below (va_Qi (fun (r : Int32) (u : MS) => Q r u ∧ wfM u ∧ shy S u) (fun (u : MS) (t : State) => qE g ad A u t) A) ([.ref (ad 0), .ref (ad p1), .int x2] : List Value).toArray s 0 0 A) (F0 m 119 ls [.int t119_0, .int t119_1, .ref (ad 25)]) := by
                      intro U119 t119_0 t119_1 v119_1 v119_2 v119_3 v119_4 v119_5 v119_6 H locs ls h hT_v119_1 hT_v119_3 hsh hR hl
                      unfold w_firstFault_J119 at h
                      refine lv_i2b (v := (t119_0.toInt8.toInt32)) hx hb dX14_firstFault_119 rfl ?_
                      obtain ⟨hv73, h⟩ := h
                      refine va_bast hx hb hR.K hR.P hR.D hR.sS 25 0 (hR.atB (hR.w.2.1 _ fin_60).2.1) rfl (k_ixN (k_ix (n := 24) (x := t119_1) (a := t119_1.toInt) rfl hv73) (hR.w.2.1 _ fin_60).2.2) dX14_firstFault_120 (fun H locs hP hD hS => ?_)
                      have hR : Rep g ad A s (wI U119 25 t119_1.toInt.toNat (vp_nar .byte (t119_0.toInt8.toInt32))) H locs := hR.aB (hR.w.2.1 _ fin_60).2.1 hP hD hS
                      obtain ⟨S74, eS74⟩ : ∃ z, z = wI U119 25 t119_1.toInt.toNat (vp_nar .byte (t119_0.toInt8.toInt32)) := ⟨_, rfl⟩
                      rw [← eS74] at hR
                      replace h := h S74 eS74
                      have hT_v119_1 : qT S74 v119_1 = 11 := (congrArg (fun z => qT z v119_1) eS74).trans hT_v119_1
                      have hT_v119_3 : qT S74 v119_3 = 12 := (congrArg (fun z => qT z v119_3) eS74).trans hT_v119_3
                      have hsh : shy S S74 := by rw [eS74]; exact hsh
                      refine lv_iload hx hb dX14_firstFault_121 (lv_at hl 6 rfl) ?_
                      refine lv_bipush (v := 74) hx hb dX14_firstFault_123 (by decide) ?_
                      have J_138 : ∀ (U138 : MS) (v138_1 : Nat) (v138_2 : Int32) (v138_3 : Nat) (v138_4 : Int32) (v138_5 : Int32) (v138_6 : Int32) (H : Heap) (locs : List Loc) (ls : Array Slot), w_firstFault_J138 Q (w_firstFault_L73 Q n73) U138 v138_1 v138_2 v138_3 v138_4 v138_5 v138_6 → qT U138 v138_1 = 11 → qT U138 v138_3 = 12 → shy S U138 → Rep g ad A s U138 H locs → lv_has ls 7 [(0, .ref (ad 0)), (1, .ref (ad v138_1)), (2, .int v138_2), (3, .ref (ad v138_3)), (4, .int v138_4), (5, .int v138_5), (6, .int v138_6)] → W p l e (headSpec (wt2 yX14_firstFault cX14_firstFault 7 (some .int)) ({ frames := 8, cells := 0, slots := 0, locals := 178 })).room s m ([.ref (ad 0), .ref (ad p1), .int x2] : List Value).toArray below meth c H locs 0 0 (MQ below (va_Qi (fun (r : Int32) (u : MS) => Q r u ∧ wfM u ∧ shy S u) (fun (u : MS) (t : State) => qE g ad A u t) A) ([.ref (ad 0), .ref (ad p1), .int x2] : List Value).toArray s 0 0 A) (F0 m 138 ls []) := by
                        intro U138 v138_1 v138_2 v138_3 v138_4 v138_5 v138_6 H locs ls h hT_v138_1 hT_v138_3 hsh hR hl
                        unfold w_firstFault_J138 at h
                        refine lv_iload hx hb dX14_firstFault_138 (lv_at hl 4 rfl) ?_
                        refine lv_iload hx hb dX14_firstFault_140 (lv_at hl 6 rfl) ?_
                        refine lv_bipush (v := 74) hx hb dX14_firstFault_142 (by decide) ?_
                        have J_152 : ∀ (U152 : MS) (t152_0 : Int32) (t152_1 : Int32) (v152_1 : Nat) (v152_2 : Int32) (v152_3 : Nat) (v152_5 : Int32) (H : Heap) (locs : List Loc) (ls : Array Slot), w_firstFault_J152 Q (w_firstFault_L73 Q n73) U152 t152_0 t152_1 v152_1 v152_2 v152_3 v152_5 → qT U152 v152_1 = 11 → qT U152 v152_3 = 12 → shy S U152 → Rep g ad A s U152 H locs → lv_has ls 7 [(0, .ref (ad 0)), (1, .ref (ad v152_1)), (2, .int v152_2), (3, .ref (ad v152_3)), (5, .int v152_5)] → W p l e (headSpec (wt2 yX14_firstFault cX14_firstFault 7 (some .int)) ({ frames := 8, cells := 0, slots := 0, locals := 178 })).room s m ([.ref (ad 0), .ref (ad p1), .int x2] : List Value).toArray below meth c H locs 0 0 (MQ below (va_Qi (fun (r : Int32) (u : MS) => Q r u ∧ wfM u ∧ shy S u) (fun (u : MS) (t : State) => qE g ad A u t) A) ([.ref (ad 0), .ref (ad p1), .int x2] : List Value).toArray s 0 0 A) (F0 m 152 ls [.int t152_0, .int t152_1]) := by
                          intro U152 t152_0 t152_1 v152_1 v152_2 v152_3 v152_5 H locs ls h hT_v152_1 hT_v152_3 hsh hR hl
                          unfold w_firstFault_J152 at h
                          refine lv_iadd hx hb dX14_firstFault_152 ?_
                          refine lv_topi (fun z75 ez75 => ?_)
                          obtain rfl : z75 = (t152_1 + t152_0) := ez75
                          obtain ⟨a76, ea76⟩ : ∃ z, z = (t152_1 + t152_0) := ⟨_, rfl⟩
                          rw [← ea76]
                          replace h := h a76 ea76
                          refine lv_istore (lv' := [(4, .int a76), (0, .ref (ad 0)), (1, .ref (ad v152_1)), (2, .int v152_2), (3, .ref (ad v152_3)), (5, .int v152_5)]) hx hb dX14_firstFault_153 hl (by decide) rfl (fun ls hl => ?_)
                          obtain ⟨a77, ea77⟩ : ∃ z, z = (v152_5 + Int32.ofInt 1) := ⟨_, rfl⟩
                          replace h := h a77 ea77
                          refine lv_iinc (v := a77) (lv' := [(5, .int a77), (4, .int a76), (0, .ref (ad 0)), (1, .ref (ad v152_1)), (2, .int v152_2), (3, .ref (ad v152_3))]) hx hb dX14_firstFault_155 hl (k := 5) rfl ea77.symm (by decide) rfl (fun ls hl => ?_)
                          refine lv_goto (tgt := 73) hx hb dX14_firstFault_158 (by decide) ?_
                          exact ih_73 U152 v152_1 v152_2 v152_3 a76 a77 _ _ ls h hT_v152_1 hT_v152_3 hsh hR (lv_sub hl [2, 3, 4, 5, 1, 0] rfl)
                        refine lv_icmp_ne (tgt := 151) hx hb dX14_firstFault_144 (by decide) (fun c78 => ?_) (fun c78 => ?_)
                        · replace h := h.2 (k_ne rfl (by decide) c78)
                          refine lv_iconst (v := 1) hx hb dX14_firstFault_151 (by decide) ?_
                          exact J_152 U138 1 v138_4 v138_1 v138_2 v138_3 v138_5 _ _ ls h hT_v138_1 hT_v138_3 hsh hR (lv_sub hl [0, 1, 2, 3, 5] rfl)
                        · replace h := h.1 (k_eq rfl (by decide) c78)
                          refine lv_iconst (v := 2) hx hb dX14_firstFault_147 (by decide) ?_
                          refine lv_goto (tgt := 152) hx hb dX14_firstFault_148 (by decide) ?_
                          exact J_152 U138 2 v138_4 v138_1 v138_2 v138_3 v138_5 _ _ ls h hT_v138_1 hT_v138_3 hsh hR (lv_sub hl [0, 1, 2, 3, 5] rfl)
                      refine lv_icmp_ne (tgt := 138) hx hb dX14_firstFault_125 (by decide) (fun c79 => ?_) (fun c79 => ?_)
                      · replace h := h.2 (k_ne rfl (by decide) c79)
                        exact J_138 S74 v119_1 v119_2 v119_3 v119_4 v119_5 v119_6 _ _ ls h hT_v119_1 hT_v119_3 hsh hR (lv_sub hl [0, 1, 2, 3, 4, 5, 6] rfl)
                      · replace h := h.1 (k_eq rfl (by decide) c79)
                        refine lv_aload_n hx hb dX14_firstFault_128 rfl (lv_at hl 0 rfl) ?_
                        refine va_get (D := rD g) (ci := 13) (v := .ref (ad 25)) (C := RX14) (T := TX14) (N := 143) hx hb hts in2X14 hown hR.K hR.P 0 (hR.at14 hR.w.1) rfl 60 (by decide) (hts _ kx_477) (fun _ h9 => h9) (congrArg (fun z => some (vf ad z)) (hR.w.2.1 _ fin_60).1) dX14_firstFault_129 ?_
                        refine lv_iload hx hb dX14_firstFault_132 (lv_at hl 4 rfl) ?_
                        refine lv_iconst (v := 1) hx hb dX14_firstFault_134 (by decide) ?_
                        refine lv_iadd hx hb dX14_firstFault_135 ?_
                        refine lv_topi (fun z80 ez80 => ?_)
                        obtain rfl : z80 = (v119_4 + (1 : Int32)) := ez80
                        refine lv_iconst (v := 3) hx hb dX14_firstFault_136 (by decide) ?_
                        obtain ⟨hv81, h⟩ := h
                        refine va_bast hx hb hR.K hR.P hR.D hR.sS 25 0 (hR.atB (hR.w.2.1 _ fin_60).2.1) rfl (k_ixN (k_ix (n := 24) (x := (v119_4 + (1 : Int32))) (a := (v119_4 + (1 : Int32)).toInt) rfl hv81) (hR.w.2.1 _ fin_60).2.2) dX14_firstFault_137 (fun H locs hP hD hS => ?_)
                        have hR : Rep g ad A s (wI S74 25 (((v119_4 + (1 : Int32)).toInt).toNat) (vp_nar .byte (3 : Int32))) H locs := hR.aB (hR.w.2.1 _ fin_60).2.1 hP hD hS
                        obtain ⟨S82, eS82⟩ : ∃ z, z = wI S74 25 (((v119_4 + (1 : Int32)).toInt).toNat) (vp_nar .byte (3 : Int32)) := ⟨_, rfl⟩
                        rw [← eS82] at hR
                        replace h := h S82 eS82
                        have hT_v119_1 : qT S82 v119_1 = 11 := (congrArg (fun z => qT z v119_1) eS82).trans hT_v119_1
                        have hT_v119_3 : qT S82 v119_3 = 12 := (congrArg (fun z => qT z v119_3) eS82).trans hT_v119_3
                        have hsh : shy S S82 := by rw [eS82]; exact hsh
                        exact J_138 S82 v119_1 v119_2 v119_3 v119_4 v119_5 v119_6 _ _ ls h hT_v119_1 hT_v119_3 hsh hR (lv_sub hl [0, 1, 2, 3, 4, 5, 6] rfl)
                    refine lv_icmp_ne (tgt := 107) hx hb dX14_firstFault_100 (by decide) (fun c83 => ?_) (fun c83 => ?_)
                    · replace h := h.2 (k_ne rfl (by decide) c83)
                      refine lv_iload hx hb dX14_firstFault_107 (lv_at hl 0 rfl) ?_
                      refine lv_bipush (v := 74) hx hb dX14_firstFault_109 (by decide) ?_
                      refine lv_icmp_ne (tgt := 118) hx hb dX14_firstFault_111 (by decide) (fun c84 => ?_) (fun c84 => ?_)
                      · replace h := h.2 (k_ne rfl (by decide) c84)
                        refine lv_iconst (v := 4) hx hb dX14_firstFault_118 (by decide) ?_
                        exact J_119 U73 4 v73_4 v73_1 v73_2 v73_3 v73_4 v73_5 a72 _ _ ls h hT_v73_1 hT_v73_3 hsh hR (lv_sub hl [1, 2, 3, 4, 5, 6, 0] rfl)
                      · replace h := h.1 (k_eq rfl (by decide) c84)
                        refine lv_iconst (v := 2) hx hb dX14_firstFault_114 (by decide) ?_
                        refine lv_goto (tgt := 119) hx hb dX14_firstFault_115 (by decide) ?_
                        exact J_119 U73 2 v73_4 v73_1 v73_2 v73_3 v73_4 v73_5 a72 _ _ ls h hT_v73_1 hT_v73_3 hsh hR (lv_sub hl [1, 2, 3, 4, 5, 6, 0] rfl)
                    · replace h := h.1 (k_eq rfl (by decide) c83)
                      refine lv_iconst (v := 1) hx hb dX14_firstFault_103 (by decide) ?_
                      refine lv_goto (tgt := 119) hx hb dX14_firstFault_104 (by decide) ?_
                      exact J_119 U73 1 v73_4 v73_1 v73_2 v73_3 v73_4 v73_5 a72 _ _ ls h hT_v73_1 hT_v73_3 hsh hR (lv_sub hl [1, 2, 3, 4, 5, 6, 0] rfl)
              obtain ⟨n9, h⟩ := h
              exact J_73 n9 U41 v41_1 v41_2 (qO U41 (qO U41 v41_1 10) v41_2.toInt.toNat) 0 0 _ _ ls h hT_v41_1 hT_b17 hsh hR (lv_sub hl [3, 4, 5, 2, 1, 0] rfl)
            · replace h := h.2 (k_nle (by decide) rfl c12)
              refine lv_aload_n hx hb dX14_firstFault_47 rfl (lv_at hl 0 rfl) ?_
              refine va_get (D := rD g) (ci := 13) (v := .ref (ad 25)) (C := RX14) (T := TX14) (N := 143) hx hb hts in2X14 hown hR.K hR.P 0 (hR.at14 hR.w.1) rfl 60 (by decide) (hts _ kx_477) (fun _ h9 => h9) (congrArg (fun z => some (vf ad z)) (hR.w.2.1 _ fin_60).1) dX14_firstFault_48 ?_
              refine lv_iload_n hx hb dX14_firstFault_51 rfl (lv_at hl 3 rfl) ?_
              refine lv_iconst (v := 0) hx hb dX14_firstFault_52 (by decide) ?_
              obtain ⟨hv85, h⟩ := h
              refine va_bast hx hb hR.K hR.P hR.D hR.sS 25 0 (hR.atB (hR.w.2.1 _ fin_60).2.1) rfl (k_ixN (k_ix (n := 24) (x := v41_3) (a := v41_3.toInt) rfl hv85) (hR.w.2.1 _ fin_60).2.2) dX14_firstFault_53 (fun H locs hP hD hS => ?_)
              have hR : Rep g ad A s (wI U41 25 v41_3.toInt.toNat (vp_nar .byte (0 : Int32))) H locs := hR.aB (hR.w.2.1 _ fin_60).2.1 hP hD hS
              obtain ⟨S86, eS86⟩ : ∃ z, z = wI U41 25 v41_3.toInt.toNat (vp_nar .byte (0 : Int32)) := ⟨_, rfl⟩
              rw [← eS86] at hR
              replace h := h S86 eS86
              have hT_v41_1 : qT S86 v41_1 = 11 := (congrArg (fun z => qT z v41_1) eS86).trans hT_v41_1
              have hsh : shy S S86 := by rw [eS86]; exact hsh
              obtain ⟨a87, ea87⟩ : ∃ z, z = (v41_3 + Int32.ofInt 1) := ⟨_, rfl⟩
              replace h := h a87 ea87
              refine lv_iinc (v := a87) (lv' := [(3, .int a87), (0, .ref (ad 0)), (1, .ref (ad v41_1)), (2, .int v41_2)]) hx hb dX14_firstFault_54 hl (k := 3) rfl ea87.symm (by decide) rfl (fun ls hl => ?_)
              refine lv_goto (tgt := 41) hx hb dX14_firstFault_57 (by decide) ?_
              exact ih_41 S86 v41_1 v41_2 a87 _ _ ls h hT_v41_1 hsh hR (lv_sub hl [1, 2, 3, 0] rfl)
        obtain ⟨n9, h⟩ := h
        exact J_41 n9 U18 v18_1 v18_2 0 _ _ ls h hT_v18_1 hsh hR (lv_sub hl [1, 2, 3, 0] rfl)
      · replace h := h.2 (k_nle rfl rfl c11)
        refine lv_aload_n hx hb dX14_firstFault_26 rfl (lv_at hl 0 rfl) ?_
        refine va_get (D := rD g) (ci := 13) (v := .ref (ad 24)) (C := RX14) (T := TX14) (N := 143) hx hb hts in2X14 hown hR.K hR.P 0 (hR.at14 hR.w.1) rfl 59 (by decide) (hts _ kx_489) (fun _ h9 => h9) (congrArg (fun z => some (vf ad z)) (hR.w.2.1 _ fin_59).1) dX14_firstFault_27 ?_
        refine lv_iload_n hx hb dX14_firstFault_30 rfl (lv_at hl 3 rfl) ?_
        refine lv_iconst (v := 0) hx hb dX14_firstFault_31 (by decide) ?_
        obtain ⟨hv88, h⟩ := h
        refine va_zast hx hb hR.K hR.P hR.D hR.sS 24 2 (hR.atZ (hR.w.2.1 _ fin_59).2.1) rfl (k_ixN (k_ix (n := 1200) (x := v18_3) (a := v18_3.toInt) rfl hv88) (hR.w.2.1 _ fin_59).2.2) dX14_firstFault_32 (fun H locs hP hD hS => ?_)
        have hR : Rep g ad A s (wI U18 24 v18_3.toInt.toNat (vp_nar .boolean (0 : Int32))) H locs := hR.aZ (hR.w.2.1 _ fin_59).2.1 hP hD hS
        obtain ⟨S89, eS89⟩ : ∃ z, z = wI U18 24 v18_3.toInt.toNat (vp_nar .boolean (0 : Int32)) := ⟨_, rfl⟩
        rw [← eS89] at hR
        replace h := h S89 eS89
        have hT_v18_1 : qT S89 v18_1 = 11 := (congrArg (fun z => qT z v18_1) eS89).trans hT_v18_1
        have hsh : shy S S89 := by rw [eS89]; exact hsh
        obtain ⟨a90, ea90⟩ : ∃ z, z = (v18_3 + Int32.ofInt 1) := ⟨_, rfl⟩
        replace h := h a90 ea90
        refine lv_iinc (v := a90) (lv' := [(3, .int a90), (0, .ref (ad 0)), (1, .ref (ad v18_1)), (2, .int v18_2)]) hx hb dX14_firstFault_33 hl (k := 3) rfl ea90.symm (by decide) rfl (fun ls hl => ?_)
        refine lv_goto (tgt := 18) hx hb dX14_firstFault_36 (by decide) ?_
        exact ih_18 S89 v18_1 v18_2 a90 _ _ ls h hT_v18_1 hsh hR (lv_sub hl [1, 2, 3, 0] rfl)
  obtain ⟨n9, h⟩ := h
  exact J_18 n9 S9 p1 x2 0 _ _ ls h hT_p1 hsh hR (lv_sub hl [1, 2, 3, 0] rfl)
def w_verify_L71 (Q : Int32 → MS → Prop) (k34 : MS → Nat → Int32 → Prop) : Nat → MS → Nat → Int32 → Int32 → Prop
  | 0, _, _, _, _ => False
  | n71 + 1, U71, v71_2, v71_3, v71_5 => (((qI U71 0 52).toInt ≤ v71_5.toInt → (∀ a29 : Int32, a29 = (v71_3 + Int32.ofInt 1) → k34 U71 v71_2 a29)) ∧ (¬ (qI U71 0 52).toInt ≤ v71_5.toInt → ((qR U71 v71_2 14 = some (qO U71 v71_2 14)) ∧ (((0 : Int) ≤ v71_3.toInt ∧ v71_3.toInt < (qN U71 (qO U71 v71_2 14) : Int)) ∧ (∃ Q36, w_keep U71 ((4 : Int32) * ((qI U71 (qO U71 v71_2 14) v71_3.toInt.toNat) + v71_5)) v71_5 Q36 ∧ ∀ S37, Q36 S37 → (∀ a39 : Int32, a39 = (v71_5 + Int32.ofInt 1) → (w_verify_L71 Q k34 n71) S37 v71_2 v71_3 a39))))))
def w_verify_L34 (Q : Int32 → MS → Prop) : Nat → MS → Nat → Int32 → Prop
  | 0, _, _, _ => False
  | n34 + 1, U34, v34_2, v34_3 => (((qI U34 v34_2 4).toInt ≤ v34_3.toInt → ((qR U34 v34_2 18 = some (qO U34 v34_2 18)) ∧ (∃ Q15, w_firstInts U34 27 ((4 : Int32) * ((Int32.ofNat (qN U34 (qO U34 v34_2 18))) / (3 : Int32))) Q15 ∧ ∀ b20 S17, Q15 b20 S17 → (∀ S21, S21 = wR S17 v34_2 22 (some b20) → (∀ S22, S22 = wI S21 v34_2 21 1 → Q (0 : Int32) S22))))) ∧ (¬ (qI U34 v34_2 4).toInt ≤ v34_3.toInt → (∃ Q23, w_firstFault U34 v34_2 v34_3 Q23 ∧ ∀ r24 S25, Q23 r24 S25 → ((r24.toInt < 0 → (∃ n, w_verify_L71 Q (w_verify_L34 Q n34) n S25 v34_2 v34_3 0)) ∧ (¬ r24.toInt < 0 → (∀ S40, S40 = wI S25 0 64 v34_3 → (∀ S41, S41 = wI S40 0 65 r24 → Q (1 : Int32) S41)))))))
def w_verify (S : MS) (x1 : Int32) (Q : Int32 → MS → Prop) : Prop := (∀ S1, S1 = wI S 0 64 (-1) → (∀ S2, S2 = wI S1 0 65 (-1) → (∃ Q3, w_fileAt S2 x1 Q3 ∧ ∀ b7 S5, Q3 b7 S5 → ((b7 = none → Q (-1 : Int32) S5) ∧ (¬ b7 = none → (((qI S5 ((b7).getD 0) 21).toInt = 1 → Q (0 : Int32) S5) ∧ (¬ (qI S5 ((b7).getD 0) 21).toInt = 1 → (∃ n, w_verify_L34 Q n S5 ((b7).getD 0) 0))))))))
set_option maxHeartbeats 2000000 in
set_option maxRecDepth 100000 in
theorem r_verify (l : Launch) (g : Gr) (ad : Nat → Nat) (H0 : Heap) (S : MS) (x1 : Int32) (hw : wfM S) (Q : Int32 → MS → Prop) (h : w_verify S x1 Q) : Met l yX14_verify (wt2 yX14_verify cX14_verify 6 (some .int)) ({ frames := 9, cells := KC - qn S, slots := KS - qu S, locals := 204 }) (va_Pc [.ref (ad 0), .int x1] (st_RH g ad H0 S)) (va_Qi (fun (r : Int32) (u : MS × (Nat → Nat)) => Q r u.1 ∧ wfM u.1 ∧ shx S u.1 ∧ adk ad u.2 S) (fun (u : MS × (Nat → Nat)) (t : State) => qEH g (va_A (Wd g ad S) H0.size) S H0 u t) (va_A (Wd g ad S) H0.size)) (KC - qn S) (KS - qu S) (va_A (Wd g ad S) H0.size) := by
  refine Met.ofW (cc := cX14_verify) (maxL := 6) (ret := (some .int)) (by decide) rfl ?_
  intro p e s m args below meth c s₁ B hml hv
  obtain ⟨rfl, hH0, hsz, hP, hK, hD0, hex, hE⟩ := hv
  have hx := B.exec
  have hb := B.bytes
  have hr := B.returns
  have hts0 := atoms_spec (ws := wt2 yX14_verify cX14_verify 6 (some .int)) B.pre
  have hts : ∀ w ∈ tb2, w.before _ s = true := fun w h => hts0 w (List.mem_cons_of_mem _ h)
  have hown : s.vm.findClass RX14 = some m.cls := findClass_of_methodNamed B.named
  subst hH0
  have hD := hD0.self (sz := s.heap.size)
  generalize hAe : va_A (Wd g ad S) s.heap.size = A at hD hE ⊢
  have hA : ∀ q : Nat, s.heap.size ≤ q → A q := fun q h => by rw [← hAe]; exact Or.inr h
  have hR : Rep g ad A s S s.heap [] := ⟨hK, hP, hD, va_S.rf, hw⟩
  clear hK hP hD hD0
  have hl := lv_entry ([.ref (ad 0), .int x1]) (n := 6) (Nat.le_of_ble_eq_true rfl)
  rw [lg_entry_eq]
  generalize (lg_sl ([.ref (ad 0), .int x1]) ++ List.replicate (6 - (lg_sl ([.ref (ad 0), .int x1])).length) Slot.unset).toArray = ls at hl ⊢
  have hlg : lg S S 0 0 := lg.rf
  have hak : adk ad ad S := adk.rf
  have hl : lv_has ls 6 [(0, .ref (ad 0)), (1, .int x1)] := hl
  have hsh : shx S S := shx.rf
  unfold w_verify at h
  refine lv_aload_n hx hb dX14_verify_0 rfl (lv_at hl 0 rfl) ?_
  refine lv_iconst (v := (-1)) hx hb dX14_verify_1 (by decide) ?_
  refine va_put (D := rD g) (ci := 13) (v := .int (-1)) (ty := .int) (C := RX14) (T := TX14) (N := 143) hx hb hts in2X14 tyX14 tyX14_ok nmX14 hown hR.K hR.P hR.D hR.sS 0 (hR.at14 hR.w.1) rfl 64 (by decide) (hts _ kx_515) (fun _ h9 => h9) rfl (by decide +kernel) rfl rfl (Nat.le_of_ble_eq_true rfl) dX14_verify_2 (fun H locs hP hD hS => ?_)
  have hR : Rep g ad A s (wI S 0 64 (-1)) H locs := hR.pI hR.w.1 F14_s64 hP hD hS
  obtain ⟨S1, eS1⟩ : ∃ z, z = wI S 0 64 (-1) := ⟨_, rfl⟩
  rw [← eS1] at hR
  replace h := h S1 eS1
  have hsh : shx S S1 := by rw [eS1]; exact hsh
  have hlg : lg S S1 (0) (0) := by rw [eS1]; exact hlg
  refine lv_aload_n hx hb dX14_verify_5 rfl (lv_at hl 0 rfl) ?_
  refine lv_iconst (v := (-1)) hx hb dX14_verify_6 (by decide) ?_
  refine va_put (D := rD g) (ci := 13) (v := .int (-1)) (ty := .int) (C := RX14) (T := TX14) (N := 143) hx hb hts in2X14 tyX14 tyX14_ok nmX14 hown hR.K hR.P hR.D hR.sS 0 (hR.at14 hR.w.1) rfl 65 (by decide) (hts _ kx_516) (fun _ h9 => h9) rfl (by decide +kernel) rfl rfl (Nat.le_of_ble_eq_true rfl) dX14_verify_7 (fun H locs hP hD hS => ?_)
  have hR : Rep g ad A s (wI S1 0 65 (-1)) H locs := hR.pI hR.w.1 F14_s65 hP hD hS
  obtain ⟨S2, eS2⟩ : ∃ z, z = wI S1 0 65 (-1) := ⟨_, rfl⟩
  rw [← eS2] at hR
  replace h := h S2 eS2
  have hsh : shx S S2 := by rw [eS2]; exact hsh
  have hlg : lg S S2 (0) (0) := by rw [eS2]; exact hlg
  refine lv_aload_n hx hb dX14_verify_10 rfl (lv_at hl 0 rfl) ?_
  refine lv_iload_n hx hb dX14_verify_11 rfl (lv_at hl 1 rfl) ?_
  obtain ⟨Q3, h0, h⟩ := h
  have hFc := rfree hR hA
  refine va_callq (va_runV (As := [.int x1]) (rest := []) ⟨hx, hb, hml, hown, hts⟩ (r_fileAt l g ad H.size S2 x1 hR.w  Q3 h0) (cwV 1 hts (gd2_V kx_349 kx_350 kx_351 kx_177 kx_352) rfl rfl rfl (by decide +kernel) ⟨Nat.le_of_ble_eq_true rfl, Nat.le_of_ble_eq_true rfl⟩) ⟨rblind, va_recv hR.K hR.P (ci := 13) (q0 := 0) rfl (hR.at14 hR.w.1), fun U hU hW9 => rmk hU hW9 hR hex hE hFc⟩ rfl rfl hl.1 rfl (lv_room (Nat.le_of_ble_eq_true rfl)) dX14_verify_12 ⟨(show 0 + 0 ≤ KC - qn S from hlg.c), (show 0 + 0 ≤ KS - qu S from hlg.s)⟩) hR.sS (fun q _ h => hFc q h) hFc (fun r4 S5 t9 H1 locs ht9 hvm9 hw9 hB9 hz9 hk9 hS => ?_)
  obtain ⟨b7, rfl, hq6, hw9, hs9, hO_b7⟩ := hw9
  have hR : Rep g ad A s S5 H1 locs := hR.call ht9 hB9 hw9 hS hFc
  have hsh := hsh.tr hs9.1
  have hlg : lg S S5 (0) (0) := hlg.same hs9
  replace h := h b7 S5 hq6
  clear hB9 hz9 hk9 hvm9 ht9 hw9 hs9 hS
  generalize H1 = H at hR ⊢
  rcases hq_b8 : b7 with _ | b8
  · skip
    replace h := h.1 (hq_b8)
    refine lv_astore_nN (lv' := [(2, .null), (0, .ref (ad 0)), (1, .int x1)]) hx hb dX14_verify_15 rfl hl (by decide) rfl (fun ls hl => ?_)
    refine lv_aload_nN hx hb dX14_verify_16 rfl (lv_at hl 0 rfl) ?_
    refine lv_ifnonnullN hx hb dX14_verify_17 ?_
    refine lv_iconst (v := (-1)) hx hb dX14_verify_20 (by decide) ?_
    refine W_led2 (fun hLd => ?_)
    refine W.widen (k := KC - qn S) (n := KS - qu S) hlg.c hlg.s ?_
    exact W.iret (v := (-1)) hx hb hr (fun t9 ht9 hW9 => ⟨⟨_, (S5, ad), rfl, ⟨h, hR.w, hsh, hak⟩, ⟨⟨by rw [ht9]; exact hR.P, hR.D⟩, _, _, by rw [ht9]; exact hLd, hlg⟩⟩, hR.sS.F ht9⟩) hR.sS.2.2 dX14_verify_21
  · have hg_b8 : b8 = (b7).getD 0 := by rw [hq_b8]; rfl
    have hT_b8 : qT S5 ((b7).getD 0) = 11 := hg_b8 ▸ hO_b7 _ hq_b8
    subst hg_b8
    replace h := h.2 (fun q9 => Option.some_ne_none _ (hq_b8.symm.trans q9))
    refine lv_astore_n (lv' := [(2, .ref (ad ((b7).getD 0))), (0, .ref (ad 0)), (1, .int x1)]) hx hb dX14_verify_15 rfl hl (by decide) rfl (fun ls hl => ?_)
    refine lv_aload_n hx hb dX14_verify_16 rfl (lv_at hl 0 rfl) ?_
    refine lv_ifnonnull (tgt := 22) hx hb dX14_verify_17 (by decide) ?_
    refine lv_aload_n hx hb dX14_verify_22 rfl (lv_at hl 0 rfl) ?_
    refine va_get (D := rD g) (ci := 12) (v := .int (qI S5 ((b7).getD 0) 21)) (C := RX13) (T := TX13) (N := 23) hx hb hts in2X13 hown hR.K hR.P ((b7).getD 0) (hR.at13 hT_b8) rfl 21 (by decide) (hts _ kx_517) (fun _ h9 => h9) rfl dX14_verify_23 ?_
    refine lv_iconst (v := 1) hx hb dX14_verify_26 (by decide) ?_
    refine lv_icmp_ne (tgt := 32) hx hb dX14_verify_27 (by decide) (fun c9 => ?_) (fun c9 => ?_)
    · replace h := h.2 (k_ne rfl (by decide) c9)
      refine lv_iconst (v := 0) hx hb dX14_verify_32 (by decide) ?_
      refine lv_istore_n (lv' := [(3, .int 0), (2, .ref (ad ((b7).getD 0))), (0, .ref (ad 0)), (1, .int x1)]) hx hb dX14_verify_33 rfl hl (by decide) rfl (fun ls hl => ?_)
      have J_34 : ∀ (n34 : Nat) (ad34 : Nat → Nat) (dc34 ds34 : Nat) (U34 : MS) (v34_2 : Nat) (v34_3 : Int32) (H : Heap) (locs : List Loc) (ls : Array Slot), w_verify_L34 Q n34 U34 v34_2 v34_3 → qT U34 v34_2 = 11 → shx S U34 → lg S U34 dc34 ds34 → adk ad ad34 S → ogR ad34 A s s.heap → Rep g ad34 A s U34 H locs → lv_has ls 6 [(0, .ref (ad34 0)), (2, .ref (ad34 v34_2)), (3, .int v34_3)] → W p l e (headSpec (wt2 yX14_verify cX14_verify 6 (some .int)) ({ frames := 9, cells := KC - qn S, slots := KS - qu S, locals := 204 })).room s m ([.ref (ad 0), .int x1] : List Value).toArray below meth c H locs dc34 ds34 (MQ below (va_Qi (fun (r : Int32) (u : MS × (Nat → Nat)) => Q r u.1 ∧ wfM u.1 ∧ shx S u.1 ∧ adk ad u.2 S) (fun (u : MS × (Nat → Nat)) (t : State) => qEH g A S s.heap u t) A) ([.ref (ad 0), .int x1] : List Value).toArray s (KC - qn S) (KS - qu S) A) (F0 m 34 ls []) := by
        intro n34
        induction n34 with
        | zero => intro ad34 dc34 ds34 U34 v34_2 v34_3 H locs ls h hT_v34_2 hsh hlg hak hE hR hl; unfold w_verify_L34 at h; exact h.elim
        | succ n34 ih_34 =>
          intro ad34 dc34 ds34 U34 v34_2 v34_3 H locs ls h hT_v34_2 hsh hlg hak hE hR hl
          unfold w_verify_L34 at h
          refine lv_iload_n hx hb dX14_verify_34 rfl (lv_at hl 2 rfl) ?_
          refine lv_aload_n hx hb dX14_verify_35 rfl (lv_at hl 1 rfl) ?_
          refine va_get (D := rD g) (ci := 12) (v := .int (qI U34 v34_2 4)) (C := RX13) (T := TX13) (N := 23) hx hb hts in2X13 hown hR.K hR.P v34_2 (hR.at13 hT_v34_2) rfl 4 (by decide) (hts _ kx_353) (fun _ h9 => h9) rfl dX14_verify_36 ?_
          refine lv_icmp_ge (tgt := 109) hx hb dX14_verify_39 (by decide) (fun c10 => ?_) (fun c10 => ?_)
          · replace h := h.1 (k_le rfl rfl c10)
            refine lv_aload_n hx hb dX14_verify_109 rfl (lv_at hl 1 rfl) ?_
            refine lv_aload_n hx hb dX14_verify_110 rfl (lv_at hl 0 rfl) ?_
            refine va_get (D := rD g) (ci := 13) (v := .ref (ad34 27)) (C := RX14) (T := TX14) (N := 143) hx hb hts in2X14 hown hR.K hR.P 0 (hR.at14 hR.w.1) rfl 66 (by decide) (hts _ kx_518) (fun _ h9 => h9) (congrArg (fun z => some (vf ad34 z)) (hR.w.2.1 _ fin_66).1) dX14_verify_111 ?_
            refine lv_iconst (v := 4) hx hb dX14_verify_114 (by decide) ?_
            refine lv_aload_n hx hb dX14_verify_115 rfl (lv_at hl 1 rfl) ?_
            obtain ⟨hv11, h⟩ := h
            have hT_b12 : qT U34 (qO U34 v34_2 18) = 2 := hR.w.ref hv11 hT_v34_2
            refine va_get (D := rD g) (ci := 12) (v := .ref (ad34 (qO U34 v34_2 18))) (C := RX13) (T := TX13) (N := 23) hx hb hts in2X13 hown hR.K hR.P v34_2 (hR.at13 hT_v34_2) rfl 18 (by decide) (hts _ kx_354) (fun _ h9 => h9) (congrArg (fun z => some (vf ad34 z)) hv11) dX14_verify_116 ?_
            refine va_alen (v := (Int32.ofNat (qN U34 (qO U34 v34_2 18)))) hx hb hR.K hR.P (qO U34 v34_2 18) 1 (hR.atI hT_b12) rfl rfl dX14_verify_119 ?_
            refine lv_iconst (v := 3) hx hb dX14_verify_120 (by decide) ?_
            refine lv_idiv hx hb dX14_verify_121 (by decide) ?_
            refine lv_topi (fun z13 ez13 => ?_)
            obtain rfl : z13 = ((Int32.ofNat (qN U34 (qO U34 v34_2 18))) / (3 : Int32)) := ez13
            refine lv_imul hx hb dX14_verify_122 ?_
            refine lv_topi (fun z14 ez14 => ?_)
            obtain rfl : z14 = ((4 : Int32) * ((Int32.ofNat (qN U34 (qO U34 v34_2 18))) / (3 : Int32))) := ez14
            obtain ⟨Q15, h0, h⟩ := h
            have hFc := rfree hR hA
            refine W_led2 (fun hL0 => ?_)
            refine va_callq (va_runS (As := [.ref (ad34 27), .int ((4 : Int32) * ((Int32.ofNat (qN U34 (qO U34 v34_2 18))) / (3 : Int32)))]) (rest := [.ref (ad34 v34_2)]) ⟨hx, hb, hml, hown, hts⟩ (r_firstInts l g ad34 H U34 27 ((4 : Int32) * ((Int32.ofNat (qN U34 (qO U34 v34_2 18))) / (3 : Int32))) hR.w (hR.w.2.1 _ fin_66).2.1 Q15 h0) (va_cwS 2 hts (gd2_S kx_519 kx_520 kx_177 kx_521) rfl rfl rfl (by decide +kernel) ⟨Nat.le_of_ble_eq_true rfl, Nat.le_of_ble_eq_true rfl⟩) ⟨rblindH, fun U hU hW9 => rmkH hU hW9 hR hex hE hFc⟩ rfl rfl hl.1 rfl (lv_room (Nat.le_of_ble_eq_true rfl)) dX14_verify_123 ⟨(show dc34 + (KC - qn U34) ≤ KC - qn S from hlg.cm), (show ds34 + (KS - qu U34) ≤ KS - qu S from hlg.sm)⟩) hR.sS (fun q _ h => hFc q h) hFc (fun r16 S17 t9 H1 locs ht9 hvm9 hw9 hB9 hz9 hk9 hS => ?_)
            rcases S17 with ⟨S17, ak19⟩
            obtain ⟨hB9, dc9, ds9, hL9, hl9⟩ := hB9
            dsimp only at hw9 hB9 hl9
            rw [ht9] at hL9
            obtain ⟨b20, rfl, hq18, hw9, hs9, hk8, hT_b20⟩ := hw9
            have hw8 := hR.w
            have hak := hak.tr hk8 hlg.2.2.1
            have hE := hE.ad hk8
            have hR : Rep g ak19 A s S17 H1 locs := hR.callH ht9 hB9 hw9 hS hFc
            have hsh := hsh.tr hs9
            refine W_tight2 (hL0.tr hL9).1 (hL0.tr hL9).2.1 ?_
            have hlg := hlg.call hl9
            replace h := h b20 S17 hq18
            have ea_0 : ak19 0 = ad34 0 := hk8 _ (hw8.hd hw8.1 (by decide) (by decide))
            have ea_1 : ak19 v34_2 = ad34 v34_2 := hk8 _ (hw8.hd hT_v34_2 (by decide) (by decide))
            have hl : lv_has ls 6 [(0, .ref (ak19 0)), (2, .ref (ak19 v34_2)), (3, .int v34_3)] := by simp only [ea_0, ea_1]; exact hl
            refine W.eq (g2 := F0 m 126 ls (.ref (ak19 b20) :: [.ref (ak19 v34_2)])) (by first | (simp only [ea_0, ea_1]; rfl) | simp only [ea_0, ea_1]) ?_
            have hT_v34_2 := hs9.T hT_v34_2 (by decide)
            clear hB9 hz9 hk9 hvm9 ht9 hw9 hs9 hS hL0 hL9
            generalize H1 = H at hR ⊢
            generalize dc9 = dc_ak19, ds9 = ds_ak19 at hlg ⊢
            refine va_put (D := rD g) (ci := 12) (v := .ref (ak19 b20)) (ty := (.array .int)) (C := RX13) (T := TX13) (N := 23) hx hb hts in2X13 tyX13 tyX13_ok nmX13 hown hR.K hR.P hR.D hR.sS v34_2 (hR.at13 hT_v34_2) rfl 22 (by decide) (hts _ kx_522) (fun _ h9 => h9) rfl (by decide +kernel) rfl rfl (Nat.le_of_ble_eq_true rfl) dX14_verify_126 (fun H locs hP hD hS => ?_)
            have hw9 : wfM (wR S17 v34_2 22 (some b20)) := hR.w.put (fun b q9 => by cases q9; exact (hT_b20).trans (by rw [hT_v34_2]; rfl)) (fun q9 => absurd ((congrArg (qT S17) q9).symm.trans hT_v34_2) (by rw [hR.w.1]; decide)) (by rw [hT_v34_2]; decide)
            have hR : Rep g ak19 A s (wR S17 v34_2 22 (some b20)) H locs := hR.pR3 hT_v34_2 F13_s22 hw9 hP hD hS
            obtain ⟨S21, eS21⟩ : ∃ z, z = wR S17 v34_2 22 (some b20) := ⟨_, rfl⟩
            rw [← eS21] at hR
            replace h := h S21 eS21
            have hT_v34_2 : qT S21 v34_2 = 11 := (congrArg (fun z => qT z v34_2) eS21).trans hT_v34_2
            have hsh : shx S S21 := by rw [eS21]; exact hsh
            have hlg : lg S S21 (dc34 + dc_ak19) (ds34 + ds_ak19) := by rw [eS21]; exact hlg
            refine lv_aload_n hx hb dX14_verify_129 rfl (lv_at hl 1 rfl) ?_
            refine lv_iconst (v := 1) hx hb dX14_verify_130 (by decide) ?_
            refine va_put (D := rD g) (ci := 12) (v := .int 1) (ty := .int) (C := RX13) (T := TX13) (N := 23) hx hb hts in2X13 tyX13 tyX13_ok nmX13 hown hR.K hR.P hR.D hR.sS v34_2 (hR.at13 hT_v34_2) rfl 21 (by decide) (hts _ kx_517) (fun _ h9 => h9) rfl (by decide +kernel) rfl rfl (Nat.le_of_ble_eq_true rfl) dX14_verify_131 (fun H locs hP hD hS => ?_)
            have hR : Rep g ak19 A s (wI S21 v34_2 21 1) H locs := hR.pI3 hT_v34_2 F13_s21 hP hD hS
            obtain ⟨S22, eS22⟩ : ∃ z, z = wI S21 v34_2 21 1 := ⟨_, rfl⟩
            rw [← eS22] at hR
            replace h := h S22 eS22
            have hT_v34_2 : qT S22 v34_2 = 11 := (congrArg (fun z => qT z v34_2) eS22).trans hT_v34_2
            have hsh : shx S S22 := by rw [eS22]; exact hsh
            have hlg : lg S S22 (dc34 + dc_ak19) (ds34 + ds_ak19) := by rw [eS22]; exact hlg
            refine lv_iconst (v := 0) hx hb dX14_verify_134 (by decide) ?_
            refine W_led2 (fun hLd => ?_)
            refine W.widen (k := KC - qn S) (n := KS - qu S) hlg.c hlg.s ?_
            exact W.iret (v := 0) hx hb hr (fun t9 ht9 hW9 => ⟨⟨_, (S22, ak19), rfl, ⟨h, hR.w, hsh, hak⟩, ⟨⟨by rw [ht9]; exact hR.P, hR.D⟩, _, _, by rw [ht9]; exact hLd, hlg⟩⟩, hR.sS.F ht9⟩) hR.sS.2.2 dX14_verify_135
          · replace h := h.2 (k_nle rfl rfl c10)
            refine lv_aload_n hx hb dX14_verify_42 rfl (lv_at hl 0 rfl) ?_
            refine lv_aload_n hx hb dX14_verify_43 rfl (lv_at hl 1 rfl) ?_
            refine lv_iload_n hx hb dX14_verify_44 rfl (lv_at hl 2 rfl) ?_
            obtain ⟨Q23, h0, h⟩ := h
            have hFc := rfree hR hA
            refine va_calli (va_runV (As := [.ref (ad34 v34_2), .int v34_3]) (rest := []) ⟨hx, hb, hml, hown, hts⟩ (r_firstFault l g ad34 H.size U34 v34_2 v34_3 hR.w hT_v34_2 Q23 h0) (cwV 2 hts (gd2_V kx_901 kx_902 kx_903 kx_177 kx_904) rfl rfl rfl (by decide +kernel) ⟨Nat.le_of_ble_eq_true rfl, Nat.le_of_ble_eq_true rfl⟩) ⟨rblind, va_recv hR.K hR.P (ci := 13) (q0 := 0) rfl (hR.at14 hR.w.1), fun U hU hW9 => rmk hU hW9 hR hex hE hFc⟩ rfl rfl hl.1 rfl (lv_room (Nat.le_of_ble_eq_true rfl)) dX14_verify_45 ⟨(show dc34 + 0 ≤ KC - qn S from hlg.c), (show ds34 + 0 ≤ KS - qu S from hlg.s)⟩) hR.sS (fun q _ h => hFc q h) hFc (fun r24 S25 t9 H1 locs ht9 hvm9 hw9 hB9 hz9 hk9 hS => ?_)
            obtain ⟨hq26, hw9, hs9⟩ := hw9
            have hR : Rep g ad34 A s S25 H1 locs := hR.call ht9 hB9 hw9 hS hFc
            have hsh := hsh.tr hs9.1
            have hlg : lg S S25 (dc34) (ds34) := hlg.same hs9
            replace h := h r24 S25 hq26
            have hT_v34_2 := hs9.T hT_v34_2 (by decide)
            clear hB9 hz9 hk9 hvm9 ht9 hw9 hs9 hS
            generalize H1 = H at hR ⊢
            refine lv_istore (lv' := [(4, .int r24), (0, .ref (ad34 0)), (2, .ref (ad34 v34_2)), (3, .int v34_3)]) hx hb dX14_verify_48 hl (by decide) rfl (fun ls hl => ?_)
            refine lv_iload hx hb dX14_verify_50 (lv_at hl 0 rfl) ?_
            refine lv_if_lt (tgt := 68) hx hb dX14_verify_52 (by decide) (fun c27 => ?_) (fun c27 => ?_)
            · replace h := h.1 (k_lt rfl (by decide) c27)
              refine lv_iconst (v := 0) hx hb dX14_verify_68 (by decide) ?_
              refine lv_istore (lv' := [(5, .int 0), (4, .int r24), (0, .ref (ad34 0)), (2, .ref (ad34 v34_2)), (3, .int v34_3)]) hx hb dX14_verify_69 hl (by decide) rfl (fun ls hl => ?_)
              have J_71 : ∀ (n71 : Nat) (ad71 : Nat → Nat) (dc71 ds71 : Nat) (U71 : MS) (v71_2 : Nat) (v71_3 : Int32) (v71_5 : Int32) (H : Heap) (locs : List Loc) (ls : Array Slot), w_verify_L71 Q (w_verify_L34 Q n34) n71 U71 v71_2 v71_3 v71_5 → qT U71 v71_2 = 11 → shx S U71 → lg S U71 dc71 ds71 → adk ad ad71 S → ogR ad71 A s s.heap → Rep g ad71 A s U71 H locs → lv_has ls 6 [(0, .ref (ad71 0)), (2, .ref (ad71 v71_2)), (3, .int v71_3), (5, .int v71_5)] → W p l e (headSpec (wt2 yX14_verify cX14_verify 6 (some .int)) ({ frames := 9, cells := KC - qn S, slots := KS - qu S, locals := 204 })).room s m ([.ref (ad 0), .int x1] : List Value).toArray below meth c H locs dc71 ds71 (MQ below (va_Qi (fun (r : Int32) (u : MS × (Nat → Nat)) => Q r u.1 ∧ wfM u.1 ∧ shx S u.1 ∧ adk ad u.2 S) (fun (u : MS × (Nat → Nat)) (t : State) => qEH g A S s.heap u t) A) ([.ref (ad 0), .int x1] : List Value).toArray s (KC - qn S) (KS - qu S) A) (F0 m 71 ls []) := by
                intro n71
                induction n71 with
                | zero => intro ad71 dc71 ds71 U71 v71_2 v71_3 v71_5 H locs ls h hT_v71_2 hsh hlg hak hE hR hl; unfold w_verify_L71 at h; exact h.elim
                | succ n71 ih_71 =>
                  intro ad71 dc71 ds71 U71 v71_2 v71_3 v71_5 H locs ls h hT_v71_2 hsh hlg hak hE hR hl
                  unfold w_verify_L71 at h
                  refine lv_iload hx hb dX14_verify_71 (lv_at hl 3 rfl) ?_
                  refine lv_aload_n hx hb dX14_verify_73 rfl (lv_at hl 0 rfl) ?_
                  refine va_get (D := rD g) (ci := 13) (v := .int (qI U71 0 52)) (C := RX14) (T := TX14) (N := 143) hx hb hts in2X14 hown hR.K hR.P 0 (hR.at14 hR.w.1) rfl 52 (by decide) (hts _ kx_370) (fun _ h9 => h9) rfl dX14_verify_74 ?_
                  refine lv_icmp_ge (tgt := 103) hx hb dX14_verify_77 (by decide) (fun c28 => ?_) (fun c28 => ?_)
                  · replace h := h.1 (k_le rfl rfl c28)
                    obtain ⟨a29, ea29⟩ : ∃ z, z = (v71_3 + Int32.ofInt 1) := ⟨_, rfl⟩
                    replace h := h a29 ea29
                    refine lv_iinc (v := a29) (lv' := [(3, .int a29), (0, .ref (ad71 0)), (2, .ref (ad71 v71_2)), (5, .int v71_5)]) hx hb dX14_verify_103 hl (k := 2) rfl ea29.symm (by decide) rfl (fun ls hl => ?_)
                    refine lv_goto (tgt := 34) hx hb dX14_verify_106 (by decide) ?_
                    exact ih_34 ad71 (dc71) (ds71) U71 v71_2 a29 _ _ ls h hT_v71_2 hsh hlg hak hE hR (lv_sub hl [1, 2, 0] rfl)
                  · replace h := h.2 (k_nle rfl rfl c28)
                    refine lv_aload_n hx hb dX14_verify_80 rfl (lv_at hl 0 rfl) ?_
                    refine lv_iconst (v := 4) hx hb dX14_verify_81 (by decide) ?_
                    refine lv_aload_n hx hb dX14_verify_82 rfl (lv_at hl 1 rfl) ?_
                    obtain ⟨hv30, h⟩ := h
                    have hT_b31 : qT U71 (qO U71 v71_2 14) = 2 := hR.w.ref hv30 hT_v71_2
                    refine va_get (D := rD g) (ci := 12) (v := .ref (ad71 (qO U71 v71_2 14))) (C := RX13) (T := TX13) (N := 23) hx hb hts in2X13 hown hR.K hR.P v71_2 (hR.at13 hT_v71_2) rfl 14 (by decide) (hts _ kx_368) (fun _ h9 => h9) (congrArg (fun z => some (vf ad71 z)) hv30) dX14_verify_83 ?_
                    refine lv_iload_n hx hb dX14_verify_86 rfl (lv_at hl 2 rfl) ?_
                    obtain ⟨hv32, h⟩ := h
                    refine va_iald hx hb hR.K hR.P (qO U71 v71_2 14) 1 (hR.atI hT_b31) rfl (k_ix (x := v71_3) (a := v71_3.toInt) rfl hv32) dX14_verify_87 ?_
                    refine lv_topi (fun z33 ez33 => ?_)
                    obtain rfl : z33 = (qI U71 (qO U71 v71_2 14) v71_3.toInt.toNat) := ez33
                    refine lv_iload hx hb dX14_verify_88 (lv_at hl 3 rfl) ?_
                    refine lv_iadd hx hb dX14_verify_90 ?_
                    refine lv_topi (fun z34 ez34 => ?_)
                    obtain rfl : z34 = ((qI U71 (qO U71 v71_2 14) v71_3.toInt.toNat) + v71_5) := ez34
                    refine lv_imul hx hb dX14_verify_91 ?_
                    refine lv_topi (fun z35 ez35 => ?_)
                    obtain rfl : z35 = ((4 : Int32) * ((qI U71 (qO U71 v71_2 14) v71_3.toInt.toNat) + v71_5)) := ez35
                    refine lv_iload hx hb dX14_verify_92 (lv_at hl 3 rfl) ?_
                    obtain ⟨Q36, h0, h⟩ := h
                    have hFc := rfree hR hA
                    refine va_callv (va_runV (As := [.int ((4 : Int32) * ((qI U71 (qO U71 v71_2 14) v71_3.toInt.toNat) + v71_5)), .int v71_5]) (rest := []) ⟨hx, hb, hml, hown, hts⟩ (r_keep l g ad71 H.size U71 ((4 : Int32) * ((qI U71 (qO U71 v71_2 14) v71_3.toInt.toNat) + v71_5)) v71_5 hR.w  Q36 h0) (cwV 2 hts (gd2_V kx_905 kx_906 kx_907 kx_177 kx_908) rfl rfl rfl (by decide +kernel) ⟨Nat.le_of_ble_eq_true rfl, Nat.le_of_ble_eq_true rfl⟩) ⟨rblind, va_recv hR.K hR.P (ci := 13) (q0 := 0) rfl (hR.at14 hR.w.1), fun U hU hW9 => rmk hU hW9 hR hex hE hFc⟩ rfl rfl hl.1 rfl (lv_room (Nat.le_of_ble_eq_true rfl)) dX14_verify_94 ⟨(show dc71 + 0 ≤ KC - qn S from hlg.c), (show ds71 + 0 ≤ KS - qu S from hlg.s)⟩) hR.sS (fun q _ h => hFc q h) hFc (fun  S37 t9 H1 locs ht9 hvm9 hw9 hB9 hz9 hk9 hS => ?_)
                    obtain ⟨hq38, hw9, hs9⟩ := hw9
                    have hR : Rep g ad71 A s S37 H1 locs := hR.call ht9 hB9 hw9 hS hFc
                    have hsh := hsh.tr hs9.1
                    have hlg : lg S S37 (dc71) (ds71) := hlg.same hs9
                    replace h := h  S37 hq38
                    have hT_v71_2 := hs9.T hT_v71_2 (by decide)
                    clear hB9 hz9 hk9 hvm9 ht9 hw9 hs9 hS
                    generalize H1 = H at hR ⊢
                    obtain ⟨a39, ea39⟩ : ∃ z, z = (v71_5 + Int32.ofInt 1) := ⟨_, rfl⟩
                    replace h := h a39 ea39
                    refine lv_iinc (v := a39) (lv' := [(5, .int a39), (0, .ref (ad71 0)), (2, .ref (ad71 v71_2)), (3, .int v71_3)]) hx hb dX14_verify_97 hl (k := 3) rfl ea39.symm (by decide) rfl (fun ls hl => ?_)
                    refine lv_goto (tgt := 71) hx hb dX14_verify_100 (by decide) ?_
                    exact ih_71 ad71 (dc71) (ds71) S37 v71_2 v71_3 a39 _ _ ls h hT_v71_2 hsh hlg hak hE hR (lv_sub hl [1, 2, 3, 0] rfl)
              obtain ⟨n9, h⟩ := h
              exact J_71 n9 ad34 (dc34) (ds34) S25 v34_2 v34_3 0 _ _ ls h hT_v34_2 hsh hlg hak hE hR (lv_sub hl [2, 3, 4, 0] rfl)
            · replace h := h.2 (k_nlt rfl (by decide) c27)
              refine lv_aload_n hx hb dX14_verify_55 rfl (lv_at hl 1 rfl) ?_
              refine lv_iload_n hx hb dX14_verify_56 rfl (lv_at hl 3 rfl) ?_
              refine va_put (D := rD g) (ci := 13) (v := .int v34_3) (ty := .int) (C := RX14) (T := TX14) (N := 143) hx hb hts in2X14 tyX14 tyX14_ok nmX14 hown hR.K hR.P hR.D hR.sS 0 (hR.at14 hR.w.1) rfl 64 (by decide) (hts _ kx_515) (fun _ h9 => h9) rfl (by decide +kernel) rfl rfl (Nat.le_of_ble_eq_true rfl) dX14_verify_57 (fun H locs hP hD hS => ?_)
              have hR : Rep g ad34 A s (wI S25 0 64 v34_3) H locs := hR.pI hR.w.1 F14_s64 hP hD hS
              obtain ⟨S40, eS40⟩ : ∃ z, z = wI S25 0 64 v34_3 := ⟨_, rfl⟩
              rw [← eS40] at hR
              replace h := h S40 eS40
              have hT_v34_2 : qT S40 v34_2 = 11 := (congrArg (fun z => qT z v34_2) eS40).trans hT_v34_2
              have hsh : shx S S40 := by rw [eS40]; exact hsh
              have hlg : lg S S40 (dc34) (ds34) := by rw [eS40]; exact hlg
              refine lv_aload_n hx hb dX14_verify_60 rfl (lv_at hl 1 rfl) ?_
              refine lv_iload hx hb dX14_verify_61 (lv_at hl 0 rfl) ?_
              refine va_put (D := rD g) (ci := 13) (v := .int r24) (ty := .int) (C := RX14) (T := TX14) (N := 143) hx hb hts in2X14 tyX14 tyX14_ok nmX14 hown hR.K hR.P hR.D hR.sS 0 (hR.at14 hR.w.1) rfl 65 (by decide) (hts _ kx_516) (fun _ h9 => h9) rfl (by decide +kernel) rfl rfl (Nat.le_of_ble_eq_true rfl) dX14_verify_63 (fun H locs hP hD hS => ?_)
              have hR : Rep g ad34 A s (wI S40 0 65 r24) H locs := hR.pI hR.w.1 F14_s65 hP hD hS
              obtain ⟨S41, eS41⟩ : ∃ z, z = wI S40 0 65 r24 := ⟨_, rfl⟩
              rw [← eS41] at hR
              replace h := h S41 eS41
              have hT_v34_2 : qT S41 v34_2 = 11 := (congrArg (fun z => qT z v34_2) eS41).trans hT_v34_2
              have hsh : shx S S41 := by rw [eS41]; exact hsh
              have hlg : lg S S41 (dc34) (ds34) := by rw [eS41]; exact hlg
              refine lv_iconst (v := 1) hx hb dX14_verify_66 (by decide) ?_
              refine W_led2 (fun hLd => ?_)
              refine W.widen (k := KC - qn S) (n := KS - qu S) hlg.c hlg.s ?_
              exact W.iret (v := 1) hx hb hr (fun t9 ht9 hW9 => ⟨⟨_, (S41, ad34), rfl, ⟨h, hR.w, hsh, hak⟩, ⟨⟨by rw [ht9]; exact hR.P, hR.D⟩, _, _, by rw [ht9]; exact hLd, hlg⟩⟩, hR.sS.F ht9⟩) hR.sS.2.2 dX14_verify_67
      obtain ⟨n9, h⟩ := h
      exact J_34 n9 ad (0) (0) S5 ((b7).getD 0) 0 _ _ ls h hT_b8 hsh hlg hak hE hR (lv_sub hl [2, 1, 0] rfl)
    · replace h := h.1 (k_eq rfl (by decide) c9)
      refine lv_iconst (v := 0) hx hb dX14_verify_30 (by decide) ?_
      refine W_led2 (fun hLd => ?_)
      refine W.widen (k := KC - qn S) (n := KS - qu S) hlg.c hlg.s ?_
      exact W.iret (v := 0) hx hb hr (fun t9 ht9 hW9 => ⟨⟨_, (S5, ad), rfl, ⟨h, hR.w, hsh, hak⟩, ⟨⟨by rw [ht9]; exact hR.P, hR.D⟩, _, _, by rw [ht9]; exact hLd, hlg⟩⟩, hR.sS.F ht9⟩) hR.sS.2.2 dX14_verify_31
def w_outRow_J141 (Q : MS → Prop) (E : MS → Prop) (U141 : MS) (t141_0 : Int32) (t141_1 : Int32) (t141_2 : Int32) : Prop := (∃ Q14, w_outLocal U141 t141_2 t141_1 t141_0 Q14 ∧ ∀ S15, Q14 S15 → Q S15)
def w_outRow_J114 (Q : MS → Prop) (E : MS → Prop) (U114 : MS) (v114_2 : Int32) (v114_3 : Int32) : Prop := ((v114_2.toInt = 21 → w_outRow_J141 Q E U114 26 v114_3 v114_2) ∧ (¬ v114_2.toInt = 21 → ((v114_2.toInt = 22 → w_outRow_J141 Q E U114 30 v114_3 v114_2) ∧ (¬ v114_2.toInt = 22 → w_outRow_J141 Q E U114 42 v114_3 v114_2))))
def w_outRow_J192 (Q : MS → Prop) (E : MS → Prop) (U192 : MS) (t192_0 : Int32) (t192_1 : Int32) (t192_2 : Int32) : Prop := (∃ Q22, w_outLocal U192 t192_2 t192_1 t192_0 Q22 ∧ ∀ S23, Q22 S23 → Q S23)
def w_outRow_J165 (Q : MS → Prop) (E : MS → Prop) (U165 : MS) (v165_2 : Int32) (v165_3 : Int32) : Prop := ((v165_2.toInt = 54 → w_outRow_J192 Q E U165 59 v165_3 v165_2) ∧ (¬ v165_2.toInt = 54 → ((v165_2.toInt = 55 → w_outRow_J192 Q E U165 63 v165_3 v165_2) ∧ (¬ v165_2.toInt = 55 → w_outRow_J192 Q E U165 75 v165_3 v165_2))))
def w_outRow_J349 (Q : MS → Prop) (E : MS → Prop) (U349 : MS) (v349_1 : Int32) (v349_2 : Int32) : Prop := (∃ Q40 EQ40, w_needOf U349 v349_1 Q40 EQ40 ∧ (∀ r41 S42, Q40 r41 S42 → (∃ Q45, w_out S42 (((v349_2 <<< ((16 : Int32) &&& 31)) ||| r41).toInt64) (3 : Int32) Q45 ∧ ∀ S46, Q45 S46 → Q S46)) ∧ (∀ u9, EQ40 u9 → E u9))
def w_outRow_J243 (Q : MS → Prop) (E : MS → Prop) (U243 : MS) (v243_1 : Int32) (v243_2 : Int32) (v243_3 : Int32) (v243_4 : Int32) : Prop := ((v243_2.toInt = 132 → (∃ Q70, w_out U243 (50308 : Int64) (2 : Int32) Q70 ∧ ∀ S71, Q70 S71 → (∃ Q73, w_out S71 (v243_3.toInt64) (2 : Int32) Q73 ∧ ∀ S74, Q73 S74 → (d_second S74 v243_1 ∧ (∃ Q79, w_out S74 ((f_second S74 v243_1).toInt64) (2 : Int32) Q79 ∧ ∀ S80, Q79 S80 → Q S80))))) ∧ (¬ v243_2.toInt = 132 → (d_isSwitch U243 v243_2 ∧ (((f_isSwitch U243 v243_2).toInt = 0 → (d_isJump U243 v243_2 ∧ (((f_isJump U243 v243_2).toInt = 0 → ((v243_2.toInt = 178 → w_outRow_J349 Q E U243 v243_1 v243_2) ∧ (¬ v243_2.toInt = 178 → ((v243_2.toInt = 179 → w_outRow_J349 Q E U243 v243_1 v243_2) ∧ (¬ v243_2.toInt = 179 → ((v243_2.toInt = 184 → w_outRow_J349 Q E U243 v243_1 v243_2) ∧ (¬ v243_2.toInt = 184 → ((v243_2.toInt = 188 → (∃ Q55, w_out U243 (48138 : Int64) (2 : Int32) Q55 ∧ ∀ S56, Q55 S56 → Q S56)) ∧ (¬ v243_2.toInt = 188 → (∃ Q52, w_out U243 (v243_2.toInt64) (1 : Int32) Q52 ∧ ∀ S53, Q52 S53 → Q S53)))))))))) ∧ (¬ (f_isJump U243 v243_2).toInt = 0 → (∃ Q58, w_out U243 (v243_2.toInt64) (1 : Int32) Q58 ∧ ∀ S59, Q58 S59 → (((0 : Int) ≤ v243_3.toInt ∧ v243_3.toInt < 1297) ∧ (∃ Q64, w_out S59 (((qI S59 36 v243_3.toInt.toNat) - v243_4).toInt64) (2 : Int32) Q64 ∧ ∀ S65, Q64 S65 → Q S65))))))) ∧ (¬ (f_isSwitch U243 v243_2).toInt = 0 → (∃ Q67, w_outSwitch U243 v243_1 v243_4 Q67 ∧ ∀ S68, Q67 S68 → Q S68))))))
def w_outRow_J61 (Q : MS → Prop) (E : MS → Prop) (U61 : MS) (v61_1 : Int32) : Prop := (d_longOf U61 v61_1 ∧ (∃ Q108, w_out U61 ((9 : Int64) + (f_longOf U61 v61_1)) (1 : Int32) Q108 ∧ ∀ S109, Q108 S109 → Q S109))
def w_outRow (S : MS) (x1 : Int32) (Q : MS → Prop) (E : MS → Prop) : Prop := (d_op S x1 ∧ (∀ a4 : Int32, a4 = (f_op S x1) → (d_first S x1 ∧ (∀ a8 : Int32, a8 = (f_first S x1) → (((0 : Int) ≤ x1.toInt ∧ x1.toInt < 1297) ∧ (∀ a11 : Int32, a11 = (qI S 36 x1.toInt.toNat) → ((a4.toInt = 18 → (∃ Q125 EQ125, w_outPush S x1 a8 Q125 EQ125 ∧ (∀ S126, Q125 S126 → Q S126) ∧ (∀ u9, EQ125 u9 → E u9))) ∧ (¬ a4.toInt = 18 → ((a4.toInt = 20 → (d_longOf S x1 ∧ (((lg_cmp (f_longOf S x1) 0).toInt = 0 → w_outRow_J61 Q E S x1) ∧ (¬ (lg_cmp (f_longOf S x1) 0).toInt = 0 → (d_longOf S x1 ∧ (((lg_cmp (f_longOf S x1) 1).toInt = 0 → w_outRow_J61 Q E S x1) ∧ (¬ (lg_cmp (f_longOf S x1) 1).toInt = 0 → (∃ Q117 EQ117, w_needOf S x1 Q117 EQ117 ∧ (∀ r118 S119, Q117 r118 S119 → (∃ Q122, w_out S119 (((1310720 : Int32) ||| r118).toInt64) (3 : Int32) Q122 ∧ ∀ S123, Q122 S123 → Q S123)) ∧ (∀ u9, EQ117 u9 → E u9))))))))) ∧ (¬ a4.toInt = 20 → ((a4.toInt = 21 → w_outRow_J114 Q E S a4 a8) ∧ (¬ a4.toInt = 21 → ((a4.toInt = 22 → w_outRow_J114 Q E S a4 a8) ∧ (¬ a4.toInt = 22 → ((a4.toInt = 25 → w_outRow_J114 Q E S a4 a8) ∧ (¬ a4.toInt = 25 → ((a4.toInt = 54 → w_outRow_J165 Q E S a4 a8) ∧ (¬ a4.toInt = 54 → ((a4.toInt = 55 → w_outRow_J165 Q E S a4 a8) ∧ (¬ a4.toInt = 55 → ((a4.toInt = 58 → w_outRow_J165 Q E S a4 a8) ∧ (¬ a4.toInt = 58 → ((a4.toInt = 132 → (d_second S x1 ∧ (d_isByte S (f_second S x1) ∧ (((f_isByte S (f_second S x1)).toInt = 0 → w_outRow_J243 Q E S x1 a4 a8 a11) ∧ (¬ (f_isByte S (f_second S x1)).toInt = 0 → (d_second S x1 ∧ (∃ Q97, w_out S ((((8650752 : Int32) ||| (a8 <<< ((8 : Int32) &&& 31))) ||| ((f_second S x1) &&& (255 : Int32))).toInt64) (3 : Int32) Q97 ∧ ∀ S98, Q97 S98 → Q S98))))))) ∧ (¬ a4.toInt = 132 → w_outRow_J243 Q E S x1 a4 a8 a11))))))))))))))))))))))))
set_option maxHeartbeats 2000000 in
set_option maxRecDepth 100000 in
theorem r_outRow (l : Launch) (g : Gr) (ad : Nat → Nat) (sz : Nat) (S : MS) (x1 : Int32) (hw : wfM S) (Q : MS → Prop) (E : MS → Prop) (h : w_outRow S x1 Q E) : vx_Met l yX14_outRow (wt2 yX14_outRow cX14_outRow 5 none) ({ frames := 8, cells := 0, slots := 0, locals := 183 }) (va_Pc [.ref (ad 0), .int x1] (st_R g ad sz S)) (va_Qv (fun (u : MS) => Q u ∧ wfM u ∧ shy S u) (fun (u : MS) (t : State) => qE g ad (va_A (Wd g ad S) sz) u t) (va_A (Wd g ad S) sz)) (vx_X (fun (u : MS) => E u ∧ wfM u ∧ shy S u) (fun (n9 : String) (u : MS) (t : State) => n9 = RJxb5711 ∧ qE g ad (va_A (Wd g ad S) sz) u t) (va_A (Wd g ad S) sz)) 0 0 (va_A (Wd g ad S) sz) := by
  refine vx_ofW (cc := cX14_outRow) (maxL := 5) (ret := none) (by decide) rfl ?_
  intro p e s m args below meth c s₁ B hml hnt hv
  obtain ⟨rfl, hsz, hP, hK, hD0, hex, hE⟩ := hv
  have hx := B.exec
  have hb := B.bytes
  have hr := B.returns
  have hlocks := B.notSynchronized
  have hts0 := atoms_spec (ws := wt2 yX14_outRow cX14_outRow 5 none) B.pre
  have hts : ∀ w ∈ tb2, w.before _ s = true := fun w h => hts0 w (List.mem_cons_of_mem _ h)
  have hown : s.vm.findClass RX14 = some m.cls := findClass_of_methodNamed B.named
  subst hsz
  have hD := hD0.self (sz := s.heap.size)
  generalize hAe : va_A (Wd g ad S) s.heap.size = A at hD hE ⊢
  have hA : ∀ q : Nat, s.heap.size ≤ q → A q := fun q h => by rw [← hAe]; exact Or.inr h
  have hR : Rep g ad A s S s.heap [] := ⟨hK, hP, hD, va_S.rf, hw⟩
  clear hK hP hD hD0
  have hl := lv_entry ([.ref (ad 0), .int x1]) (n := 5) (Nat.le_of_ble_eq_true rfl)
  rw [lg_entry_eq]
  generalize (lg_sl ([.ref (ad 0), .int x1]) ++ List.replicate (5 - (lg_sl ([.ref (ad 0), .int x1])).length) Slot.unset).toArray = ls at hl ⊢
  have hl : lv_has ls 5 [(0, .ref (ad 0)), (1, .int x1)] := hl
  have hsh : shy S S := shy.rf
  unfold w_outRow at h
  refine lv_aload_n hx hb dX14_outRow_0 rfl (lv_at hl 0 rfl) ?_
  refine lv_iload_n hx hb dX14_outRow_1 rfl (lv_at hl 1 rfl) ?_
  obtain ⟨hv1, h⟩ := h
  have hFc := rfree hR hA
  refine va_calli (va_runV (As := [.int x1]) (rest := []) ⟨hx, hb, hml, hown, hts⟩ (r_op l g ad s.heap.size S x1 hR.w  hv1) (cwV 1 hts (gd2_V kx_379 kx_380 kx_381 kx_177 kx_382) rfl rfl rfl (by decide +kernel) ⟨Nat.le_of_ble_eq_true rfl, Nat.le_of_ble_eq_true rfl⟩) ⟨rblind, va_recv hR.K hR.P (ci := 13) (q0 := 0) rfl (hR.at14 hR.w.1), fun U hU hW9 => rmk hU hW9 hR hex hE hFc⟩ rfl rfl hl.1 rfl (lv_room (Nat.le_of_ble_eq_true rfl)) dX14_outRow_2 ⟨Nat.le_of_ble_eq_true rfl, Nat.le_of_ble_eq_true rfl⟩) hR.sS (fun q _ h => hFc q h) hFc (fun r2 u9 t9 H1 locs ht9 hvm9 hw9 hB9 hz9 hk9 hS => ?_)
  have hR : Rep g ad A s S H1 locs := hR.call ht9 hB9 hR.w hS hFc
  obtain rfl : r2 = (f_op S x1) := hw9
  clear hB9 hz9 hk9 hvm9 ht9 hS
  generalize H1 = H at hR ⊢
  obtain ⟨a4, ea4⟩ : ∃ z, z = (f_op S x1) := ⟨_, rfl⟩
  rw [← ea4]
  replace h := h a4 ea4
  refine lv_istore_n (lv' := [(2, .int a4), (0, .ref (ad 0)), (1, .int x1)]) hx hb dX14_outRow_5 rfl hl (by decide) rfl (fun ls hl => ?_)
  refine lv_aload_n hx hb dX14_outRow_6 rfl (lv_at hl 1 rfl) ?_
  refine lv_iload_n hx hb dX14_outRow_7 rfl (lv_at hl 2 rfl) ?_
  obtain ⟨hv5, h⟩ := h
  have hFc := rfree hR hA
  refine va_calli (va_runV (As := [.int x1]) (rest := []) ⟨hx, hb, hml, hown, hts⟩ (r_first l g ad H.size S x1 hR.w  hv5) (cwV 1 hts (gd2_V kx_393 kx_394 kx_395 kx_177 kx_396) rfl rfl rfl (by decide +kernel) ⟨Nat.le_of_ble_eq_true rfl, Nat.le_of_ble_eq_true rfl⟩) ⟨rblind, va_recv hR.K hR.P (ci := 13) (q0 := 0) rfl (hR.at14 hR.w.1), fun U hU hW9 => rmk hU hW9 hR hex hE hFc⟩ rfl rfl hl.1 rfl (lv_room (Nat.le_of_ble_eq_true rfl)) dX14_outRow_8 ⟨Nat.le_of_ble_eq_true rfl, Nat.le_of_ble_eq_true rfl⟩) hR.sS (fun q _ h => hFc q h) hFc (fun r6 u9 t9 H1 locs ht9 hvm9 hw9 hB9 hz9 hk9 hS => ?_)
  have hR : Rep g ad A s S H1 locs := hR.call ht9 hB9 hR.w hS hFc
  obtain rfl : r6 = (f_first S x1) := hw9
  clear hB9 hz9 hk9 hvm9 ht9 hS
  generalize H1 = H at hR ⊢
  obtain ⟨a8, ea8⟩ : ∃ z, z = (f_first S x1) := ⟨_, rfl⟩
  rw [← ea8]
  replace h := h a8 ea8
  refine lv_istore_n (lv' := [(3, .int a8), (2, .int a4), (0, .ref (ad 0)), (1, .int x1)]) hx hb dX14_outRow_11 rfl hl (by decide) rfl (fun ls hl => ?_)
  refine lv_aload_n hx hb dX14_outRow_12 rfl (lv_at hl 2 rfl) ?_
  refine va_get (D := rD g) (ci := 13) (v := .ref (ad 36)) (C := RX14) (T := TX14) (N := 143) hx hb hts in2X14 hown hR.K hR.P 0 (hR.at14 hR.w.1) rfl 79 (by decide) (hts _ kx_584) (fun _ h9 => h9) (congrArg (fun z => some (vf ad z)) (hR.w.2.1 _ fin_79).1) dX14_outRow_13 ?_
  refine lv_iload_n hx hb dX14_outRow_16 rfl (lv_at hl 3 rfl) ?_
  obtain ⟨hv9, h⟩ := h
  refine va_iald hx hb hR.K hR.P 36 1 (hR.atI (hR.w.2.1 _ fin_79).2.1) rfl (k_ixN (k_ix (n := 1297) (x := x1) (a := x1.toInt) rfl hv9) (hR.w.2.1 _ fin_79).2.2) dX14_outRow_17 ?_
  refine lv_topi (fun z10 ez10 => ?_)
  obtain rfl : z10 = (qI S 36 x1.toInt.toNat) := ez10
  obtain ⟨a11, ea11⟩ : ∃ z, z = (qI S 36 x1.toInt.toNat) := ⟨_, rfl⟩
  rw [← ea11]
  replace h := h a11 ea11
  refine lv_istore (lv' := [(4, .int a11), (3, .int a8), (2, .int a4), (0, .ref (ad 0)), (1, .int x1)]) hx hb dX14_outRow_18 hl (by decide) rfl (fun ls hl => ?_)
  refine lv_iload_n hx hb dX14_outRow_20 rfl (lv_at hl 2 rfl) ?_
  refine lv_bipush (v := 18) hx hb dX14_outRow_21 (by decide) ?_
  refine lv_icmp_ne (tgt := 35) hx hb dX14_outRow_23 (by decide) (fun c12 => ?_) (fun c12 => ?_)
  · replace h := h.2 (k_ne rfl (by decide) c12)
    refine lv_iload_n hx hb dX14_outRow_35 rfl (lv_at hl 2 rfl) ?_
    refine lv_bipush (v := 20) hx hb dX14_outRow_36 (by decide) ?_
    refine lv_icmp_ne (tgt := 96) hx hb dX14_outRow_38 (by decide) (fun c13 => ?_) (fun c13 => ?_)
    · replace h := h.2 (k_ne rfl (by decide) c13)
      refine lv_iload_n hx hb dX14_outRow_96 rfl (lv_at hl 2 rfl) ?_
      refine lv_bipush (v := 21) hx hb dX14_outRow_97 (by decide) ?_
      have J_114 : ∀ (U114 : MS) (v114_2 : Int32) (v114_3 : Int32) (H : Heap) (locs : List Loc) (ls : Array Slot), w_outRow_J114 Q E U114 v114_2 v114_3 → shy S U114 → Rep g ad A s U114 H locs → lv_has ls 5 [(0, .ref (ad 0)), (2, .int v114_2), (3, .int v114_3)] → W p l e (headSpec (wt2 yX14_outRow cX14_outRow 5 none) ({ frames := 8, cells := 0, slots := 0, locals := 183 })).room s m ([.ref (ad 0), .int x1] : List Value).toArray below meth c H locs 0 0 (vx_MQ below (va_Qv (fun (u : MS) => Q u ∧ wfM u ∧ shy S u) (fun (u : MS) (t : State) => qE g ad A u t) A) ((vx_X (fun (u : MS) => E u ∧ wfM u ∧ shy S u) (fun (n9 : String) (u : MS) (t : State) => n9 = RJxb5711 ∧ qE g ad A u t) A)) ([.ref (ad 0), .int x1] : List Value).toArray s 0 0 A) (F0 m 114 ls []) := by
        intro U114 v114_2 v114_3 H locs ls h hsh hR hl
        unfold w_outRow_J114 at h
        refine lv_aload_n hx hb dX14_outRow_114 rfl (lv_at hl 0 rfl) ?_
        refine lv_iload_n hx hb dX14_outRow_115 rfl (lv_at hl 1 rfl) ?_
        refine lv_iload_n hx hb dX14_outRow_116 rfl (lv_at hl 2 rfl) ?_
        refine lv_iload_n hx hb dX14_outRow_117 rfl (lv_at hl 1 rfl) ?_
        refine lv_bipush (v := 21) hx hb dX14_outRow_118 (by decide) ?_
        have J_141 : ∀ (U141 : MS) (t141_0 : Int32) (t141_1 : Int32) (t141_2 : Int32) (H : Heap) (locs : List Loc) (ls : Array Slot), w_outRow_J141 Q E U141 t141_0 t141_1 t141_2 → shy S U141 → Rep g ad A s U141 H locs → lv_has ls 5 [] → W p l e (headSpec (wt2 yX14_outRow cX14_outRow 5 none) ({ frames := 8, cells := 0, slots := 0, locals := 183 })).room s m ([.ref (ad 0), .int x1] : List Value).toArray below meth c H locs 0 0 (vx_MQ below (va_Qv (fun (u : MS) => Q u ∧ wfM u ∧ shy S u) (fun (u : MS) (t : State) => qE g ad A u t) A) ((vx_X (fun (u : MS) => E u ∧ wfM u ∧ shy S u) (fun (n9 : String) (u : MS) (t : State) => n9 = RJxb5711 ∧ qE g ad A u t) A)) ([.ref (ad 0), .int x1] : List Value).toArray s 0 0 A) (F0 m 141 ls [.int t141_0, .int t141_1, .int t141_2, .ref (ad 0)]) := by
          intro U141 t141_0 t141_1 t141_2 H locs ls h hsh hR hl
          unfold w_outRow_J141 at h
          obtain ⟨Q14, h0, h⟩ := h
          have hFc := rfree hR hA
          refine va_callv (va_runV (As := [.int t141_2, .int t141_1, .int t141_0]) (rest := []) ⟨hx, hb, hml, hown, hts⟩ (r_outLocal l g ad H.size U141 t141_2 t141_1 t141_0 hR.w  Q14 h0) (cwV 3 hts (gd2_V kx_909 kx_910 kx_911 kx_177 kx_912) rfl rfl rfl (by decide +kernel) ⟨Nat.le_of_ble_eq_true rfl, Nat.le_of_ble_eq_true rfl⟩) ⟨rblind, va_recv hR.K hR.P (ci := 13) (q0 := 0) rfl (hR.at14 hR.w.1), fun U hU hW9 => rmk hU hW9 hR hex hE hFc⟩ rfl rfl hl.1 rfl (lv_room (Nat.le_of_ble_eq_true rfl)) dX14_outRow_141 ⟨Nat.le_of_ble_eq_true rfl, Nat.le_of_ble_eq_true rfl⟩) hR.sS (fun q _ h => hFc q h) hFc (fun  S15 t9 H1 locs ht9 hvm9 hw9 hB9 hz9 hk9 hS => ?_)
          obtain ⟨hq16, hw9, hs9⟩ := hw9
          have hR : Rep g ad A s S15 H1 locs := hR.call ht9 hB9 hw9 hS hFc
          have hsh := hsh.tr hs9
          replace h := h  S15 hq16
          clear hB9 hz9 hk9 hvm9 ht9 hw9 hs9 hS
          generalize H1 = H at hR ⊢
          refine lv_goto (tgt := 393) hx hb dX14_outRow_144 (by decide) ?_
          exact vx_ret (W.vret hx hb hr (fun t9 ht9 hW9 => ⟨⟨S15, rfl, ⟨h, hR.w, hsh⟩, ⟨by rw [ht9]; exact hR.P, hR.D⟩⟩, hR.sS.F ht9⟩) hR.sS.2.2 dX14_outRow_393)
        refine lv_icmp_ne (tgt := 128) hx hb dX14_outRow_120 (by decide) (fun c17 => ?_) (fun c17 => ?_)
        · replace h := h.2 (k_ne rfl (by decide) c17)
          refine lv_iload_n hx hb dX14_outRow_128 rfl (lv_at hl 1 rfl) ?_
          refine lv_bipush (v := 22) hx hb dX14_outRow_129 (by decide) ?_
          refine lv_icmp_ne (tgt := 139) hx hb dX14_outRow_131 (by decide) (fun c18 => ?_) (fun c18 => ?_)
          · replace h := h.2 (k_ne rfl (by decide) c18)
            refine lv_bipush (v := 42) hx hb dX14_outRow_139 (by decide) ?_
            exact J_141 U114 42 v114_3 v114_2 _ _ ls h  hsh hR (lv_sub hl [] rfl)
          · replace h := h.1 (k_eq rfl (by decide) c18)
            refine lv_bipush (v := 30) hx hb dX14_outRow_134 (by decide) ?_
            refine lv_goto (tgt := 141) hx hb dX14_outRow_136 (by decide) ?_
            exact J_141 U114 30 v114_3 v114_2 _ _ ls h  hsh hR (lv_sub hl [] rfl)
        · replace h := h.1 (k_eq rfl (by decide) c17)
          refine lv_bipush (v := 26) hx hb dX14_outRow_123 (by decide) ?_
          refine lv_goto (tgt := 141) hx hb dX14_outRow_125 (by decide) ?_
          exact J_141 U114 26 v114_3 v114_2 _ _ ls h  hsh hR (lv_sub hl [] rfl)
      refine lv_icmp_eq (tgt := 114) hx hb dX14_outRow_99 (by decide) (fun c19 => ?_) (fun c19 => ?_)
      · replace h := h.1 (k_eq rfl (by decide) c19)
        exact J_114 S a4 a8 _ _ ls h  hsh hR (lv_sub hl [3, 2, 1] rfl)
      · replace h := h.2 (k_ne rfl (by decide) c19)
        refine lv_iload_n hx hb dX14_outRow_102 rfl (lv_at hl 2 rfl) ?_
        refine lv_bipush (v := 22) hx hb dX14_outRow_103 (by decide) ?_
        refine lv_icmp_eq (tgt := 114) hx hb dX14_outRow_105 (by decide) (fun c20 => ?_) (fun c20 => ?_)
        · replace h := h.1 (k_eq rfl (by decide) c20)
          exact J_114 S a4 a8 _ _ ls h  hsh hR (lv_sub hl [3, 2, 1] rfl)
        · replace h := h.2 (k_ne rfl (by decide) c20)
          refine lv_iload_n hx hb dX14_outRow_108 rfl (lv_at hl 2 rfl) ?_
          refine lv_bipush (v := 25) hx hb dX14_outRow_109 (by decide) ?_
          refine lv_icmp_ne (tgt := 147) hx hb dX14_outRow_111 (by decide) (fun c21 => ?_) (fun c21 => ?_)
          · replace h := h.2 (k_ne rfl (by decide) c21)
            refine lv_iload_n hx hb dX14_outRow_147 rfl (lv_at hl 2 rfl) ?_
            refine lv_bipush (v := 54) hx hb dX14_outRow_148 (by decide) ?_
            have J_165 : ∀ (U165 : MS) (v165_2 : Int32) (v165_3 : Int32) (H : Heap) (locs : List Loc) (ls : Array Slot), w_outRow_J165 Q E U165 v165_2 v165_3 → shy S U165 → Rep g ad A s U165 H locs → lv_has ls 5 [(0, .ref (ad 0)), (2, .int v165_2), (3, .int v165_3)] → W p l e (headSpec (wt2 yX14_outRow cX14_outRow 5 none) ({ frames := 8, cells := 0, slots := 0, locals := 183 })).room s m ([.ref (ad 0), .int x1] : List Value).toArray below meth c H locs 0 0 (vx_MQ below (va_Qv (fun (u : MS) => Q u ∧ wfM u ∧ shy S u) (fun (u : MS) (t : State) => qE g ad A u t) A) ((vx_X (fun (u : MS) => E u ∧ wfM u ∧ shy S u) (fun (n9 : String) (u : MS) (t : State) => n9 = RJxb5711 ∧ qE g ad A u t) A)) ([.ref (ad 0), .int x1] : List Value).toArray s 0 0 A) (F0 m 165 ls []) := by
              intro U165 v165_2 v165_3 H locs ls h hsh hR hl
              unfold w_outRow_J165 at h
              refine lv_aload_n hx hb dX14_outRow_165 rfl (lv_at hl 0 rfl) ?_
              refine lv_iload_n hx hb dX14_outRow_166 rfl (lv_at hl 1 rfl) ?_
              refine lv_iload_n hx hb dX14_outRow_167 rfl (lv_at hl 2 rfl) ?_
              refine lv_iload_n hx hb dX14_outRow_168 rfl (lv_at hl 1 rfl) ?_
              refine lv_bipush (v := 54) hx hb dX14_outRow_169 (by decide) ?_
              have J_192 : ∀ (U192 : MS) (t192_0 : Int32) (t192_1 : Int32) (t192_2 : Int32) (H : Heap) (locs : List Loc) (ls : Array Slot), w_outRow_J192 Q E U192 t192_0 t192_1 t192_2 → shy S U192 → Rep g ad A s U192 H locs → lv_has ls 5 [] → W p l e (headSpec (wt2 yX14_outRow cX14_outRow 5 none) ({ frames := 8, cells := 0, slots := 0, locals := 183 })).room s m ([.ref (ad 0), .int x1] : List Value).toArray below meth c H locs 0 0 (vx_MQ below (va_Qv (fun (u : MS) => Q u ∧ wfM u ∧ shy S u) (fun (u : MS) (t : State) => qE g ad A u t) A) ((vx_X (fun (u : MS) => E u ∧ wfM u ∧ shy S u) (fun (n9 : String) (u : MS) (t : State) => n9 = RJxb5711 ∧ qE g ad A u t) A)) ([.ref (ad 0), .int x1] : List Value).toArray s 0 0 A) (F0 m 192 ls [.int t192_0, .int t192_1, .int t192_2, .ref (ad 0)]) := by
                intro U192 t192_0 t192_1 t192_2 H locs ls h hsh hR hl
                unfold w_outRow_J192 at h
                obtain ⟨Q22, h0, h⟩ := h
                have hFc := rfree hR hA
                refine va_callv (va_runV (As := [.int t192_2, .int t192_1, .int t192_0]) (rest := []) ⟨hx, hb, hml, hown, hts⟩ (r_outLocal l g ad H.size U192 t192_2 t192_1 t192_0 hR.w  Q22 h0) (cwV 3 hts (gd2_V kx_909 kx_910 kx_911 kx_177 kx_912) rfl rfl rfl (by decide +kernel) ⟨Nat.le_of_ble_eq_true rfl, Nat.le_of_ble_eq_true rfl⟩) ⟨rblind, va_recv hR.K hR.P (ci := 13) (q0 := 0) rfl (hR.at14 hR.w.1), fun U hU hW9 => rmk hU hW9 hR hex hE hFc⟩ rfl rfl hl.1 rfl (lv_room (Nat.le_of_ble_eq_true rfl)) dX14_outRow_192 ⟨Nat.le_of_ble_eq_true rfl, Nat.le_of_ble_eq_true rfl⟩) hR.sS (fun q _ h => hFc q h) hFc (fun  S23 t9 H1 locs ht9 hvm9 hw9 hB9 hz9 hk9 hS => ?_)
                obtain ⟨hq24, hw9, hs9⟩ := hw9
                have hR : Rep g ad A s S23 H1 locs := hR.call ht9 hB9 hw9 hS hFc
                have hsh := hsh.tr hs9
                replace h := h  S23 hq24
                clear hB9 hz9 hk9 hvm9 ht9 hw9 hs9 hS
                generalize H1 = H at hR ⊢
                refine lv_goto (tgt := 393) hx hb dX14_outRow_195 (by decide) ?_
                exact vx_ret (W.vret hx hb hr (fun t9 ht9 hW9 => ⟨⟨S23, rfl, ⟨h, hR.w, hsh⟩, ⟨by rw [ht9]; exact hR.P, hR.D⟩⟩, hR.sS.F ht9⟩) hR.sS.2.2 dX14_outRow_393)
              refine lv_icmp_ne (tgt := 179) hx hb dX14_outRow_171 (by decide) (fun c25 => ?_) (fun c25 => ?_)
              · replace h := h.2 (k_ne rfl (by decide) c25)
                refine lv_iload_n hx hb dX14_outRow_179 rfl (lv_at hl 1 rfl) ?_
                refine lv_bipush (v := 55) hx hb dX14_outRow_180 (by decide) ?_
                refine lv_icmp_ne (tgt := 190) hx hb dX14_outRow_182 (by decide) (fun c26 => ?_) (fun c26 => ?_)
                · replace h := h.2 (k_ne rfl (by decide) c26)
                  refine lv_bipush (v := 75) hx hb dX14_outRow_190 (by decide) ?_
                  exact J_192 U165 75 v165_3 v165_2 _ _ ls h  hsh hR (lv_sub hl [] rfl)
                · replace h := h.1 (k_eq rfl (by decide) c26)
                  refine lv_bipush (v := 63) hx hb dX14_outRow_185 (by decide) ?_
                  refine lv_goto (tgt := 192) hx hb dX14_outRow_187 (by decide) ?_
                  exact J_192 U165 63 v165_3 v165_2 _ _ ls h  hsh hR (lv_sub hl [] rfl)
              · replace h := h.1 (k_eq rfl (by decide) c25)
                refine lv_bipush (v := 59) hx hb dX14_outRow_174 (by decide) ?_
                refine lv_goto (tgt := 192) hx hb dX14_outRow_176 (by decide) ?_
                exact J_192 U165 59 v165_3 v165_2 _ _ ls h  hsh hR (lv_sub hl [] rfl)
            refine lv_icmp_eq (tgt := 165) hx hb dX14_outRow_150 (by decide) (fun c27 => ?_) (fun c27 => ?_)
            · replace h := h.1 (k_eq rfl (by decide) c27)
              exact J_165 S a4 a8 _ _ ls h  hsh hR (lv_sub hl [3, 2, 1] rfl)
            · replace h := h.2 (k_ne rfl (by decide) c27)
              refine lv_iload_n hx hb dX14_outRow_153 rfl (lv_at hl 2 rfl) ?_
              refine lv_bipush (v := 55) hx hb dX14_outRow_154 (by decide) ?_
              refine lv_icmp_eq (tgt := 165) hx hb dX14_outRow_156 (by decide) (fun c28 => ?_) (fun c28 => ?_)
              · replace h := h.1 (k_eq rfl (by decide) c28)
                exact J_165 S a4 a8 _ _ ls h  hsh hR (lv_sub hl [3, 2, 1] rfl)
              · replace h := h.2 (k_ne rfl (by decide) c28)
                refine lv_iload_n hx hb dX14_outRow_159 rfl (lv_at hl 2 rfl) ?_
                refine lv_bipush (v := 58) hx hb dX14_outRow_160 (by decide) ?_
                refine lv_icmp_ne (tgt := 198) hx hb dX14_outRow_162 (by decide) (fun c29 => ?_) (fun c29 => ?_)
                · replace h := h.2 (k_ne rfl (by decide) c29)
                  refine lv_iload_n hx hb dX14_outRow_198 rfl (lv_at hl 2 rfl) ?_
                  refine lv_sipush (v := 132) hx hb dX14_outRow_199 (by decide) ?_
                  have J_243 : ∀ (U243 : MS) (v243_1 : Int32) (v243_2 : Int32) (v243_3 : Int32) (v243_4 : Int32) (H : Heap) (locs : List Loc) (ls : Array Slot), w_outRow_J243 Q E U243 v243_1 v243_2 v243_3 v243_4 → shy S U243 → Rep g ad A s U243 H locs → lv_has ls 5 [(0, .ref (ad 0)), (1, .int v243_1), (2, .int v243_2), (3, .int v243_3), (4, .int v243_4)] → W p l e (headSpec (wt2 yX14_outRow cX14_outRow 5 none) ({ frames := 8, cells := 0, slots := 0, locals := 183 })).room s m ([.ref (ad 0), .int x1] : List Value).toArray below meth c H locs 0 0 (vx_MQ below (va_Qv (fun (u : MS) => Q u ∧ wfM u ∧ shy S u) (fun (u : MS) (t : State) => qE g ad A u t) A) ((vx_X (fun (u : MS) => E u ∧ wfM u ∧ shy S u) (fun (n9 : String) (u : MS) (t : State) => n9 = RJxb5711 ∧ qE g ad A u t) A)) ([.ref (ad 0), .int x1] : List Value).toArray s 0 0 A) (F0 m 243 ls []) := by
                    intro U243 v243_1 v243_2 v243_3 v243_4 H locs ls h hsh hR hl
                    unfold w_outRow_J243 at h
                    refine lv_iload_n hx hb dX14_outRow_243 rfl (lv_at hl 2 rfl) ?_
                    refine lv_sipush (v := 132) hx hb dX14_outRow_244 (by decide) ?_
                    refine lv_icmp_ne (tgt := 279) hx hb dX14_outRow_247 (by decide) (fun c30 => ?_) (fun c30 => ?_)
                    · replace h := h.2 (k_ne rfl (by decide) c30)
                      refine lv_iload_n hx hb dX14_outRow_279 rfl (lv_at hl 2 rfl) ?_
                      obtain ⟨hv31, h⟩ := h
                      have hFc := rfree hR hA
                      refine va_calli (va_runS (As := [.int v243_2]) (rest := []) ⟨hx, hb, hml, hown, hts⟩ (r_isSwitch l g ad H.size U243 v243_2 hR.w  hv31) (va_cwS 1 hts (gd2_S kx_386 kx_387 kx_177 kx_388) rfl rfl rfl (by decide +kernel) ⟨Nat.le_of_ble_eq_true rfl, Nat.le_of_ble_eq_true rfl⟩) ⟨rblind, fun U hU hW9 => rmk hU hW9 hR hex hE hFc⟩ rfl rfl hl.1 rfl (lv_room (Nat.le_of_ble_eq_true rfl)) dX14_outRow_280 ⟨Nat.le_of_ble_eq_true rfl, Nat.le_of_ble_eq_true rfl⟩) hR.sS (fun q _ h => hFc q h) hFc (fun r32 u9 t9 H1 locs ht9 hvm9 hw9 hB9 hz9 hk9 hS => ?_)
                      have hR : Rep g ad A s U243 H1 locs := hR.call ht9 hB9 hR.w hS hFc
                      obtain ⟨rfl, hz_r32⟩ := hw9
                      clear hB9 hz9 hk9 hvm9 ht9 hS
                      generalize H1 = H at hR ⊢
                      refine lv_if_eq (tgt := 296) hx hb dX14_outRow_283 (by decide) (fun c34 => ?_) (fun c34 => ?_)
                      · replace h := h.1 (k_eq rfl (by decide) c34)
                        refine lv_iload_n hx hb dX14_outRow_296 rfl (lv_at hl 2 rfl) ?_
                        obtain ⟨hv35, h⟩ := h
                        have hFc := rfree hR hA
                        refine va_calli (va_runS (As := [.int v243_2]) (rest := []) ⟨hx, hb, hml, hown, hts⟩ (r_isJump l g ad H.size U243 v243_2 hR.w  hv35) (va_cwS 1 hts (gd2_S kx_383 kx_384 kx_177 kx_385) rfl rfl rfl (by decide +kernel) ⟨Nat.le_of_ble_eq_true rfl, Nat.le_of_ble_eq_true rfl⟩) ⟨rblind, fun U hU hW9 => rmk hU hW9 hR hex hE hFc⟩ rfl rfl hl.1 rfl (lv_room (Nat.le_of_ble_eq_true rfl)) dX14_outRow_297 ⟨Nat.le_of_ble_eq_true rfl, Nat.le_of_ble_eq_true rfl⟩) hR.sS (fun q _ h => hFc q h) hFc (fun r36 u9 t9 H1 locs ht9 hvm9 hw9 hB9 hz9 hk9 hS => ?_)
                        have hR : Rep g ad A s U243 H1 locs := hR.call ht9 hB9 hR.w hS hFc
                        obtain ⟨rfl, hz_r36⟩ := hw9
                        clear hB9 hz9 hk9 hvm9 ht9 hS
                        generalize H1 = H at hR ⊢
                        refine lv_if_eq (tgt := 328) hx hb dX14_outRow_300 (by decide) (fun c38 => ?_) (fun c38 => ?_)
                        · replace h := h.1 (k_eq rfl (by decide) c38)
                          refine lv_iload_n hx hb dX14_outRow_328 rfl (lv_at hl 2 rfl) ?_
                          refine lv_sipush (v := 178) hx hb dX14_outRow_329 (by decide) ?_
                          have J_349 : ∀ (U349 : MS) (v349_1 : Int32) (v349_2 : Int32) (H : Heap) (locs : List Loc) (ls : Array Slot), w_outRow_J349 Q E U349 v349_1 v349_2 → shy S U349 → Rep g ad A s U349 H locs → lv_has ls 5 [(0, .ref (ad 0)), (1, .int v349_1), (2, .int v349_2)] → W p l e (headSpec (wt2 yX14_outRow cX14_outRow 5 none) ({ frames := 8, cells := 0, slots := 0, locals := 183 })).room s m ([.ref (ad 0), .int x1] : List Value).toArray below meth c H locs 0 0 (vx_MQ below (va_Qv (fun (u : MS) => Q u ∧ wfM u ∧ shy S u) (fun (u : MS) (t : State) => qE g ad A u t) A) ((vx_X (fun (u : MS) => E u ∧ wfM u ∧ shy S u) (fun (n9 : String) (u : MS) (t : State) => n9 = RJxb5711 ∧ qE g ad A u t) A)) ([.ref (ad 0), .int x1] : List Value).toArray s 0 0 A) (F0 m 349 ls []) := by
                            intro U349 v349_1 v349_2 H locs ls h hsh hR hl
                            unfold w_outRow_J349 at h
                            refine lv_aload_n hx hb dX14_outRow_349 rfl (lv_at hl 0 rfl) ?_
                            refine lv_iload_n hx hb dX14_outRow_350 rfl (lv_at hl 2 rfl) ?_
                            refine lv_bipush (v := 16) hx hb dX14_outRow_351 (by decide) ?_
                            refine lv_ishl hx hb dX14_outRow_353 ?_
                            refine lv_topi (fun z39 ez39 => ?_)
                            obtain rfl : z39 = (v349_2 <<< ((16 : Int32) &&& 31)) := ez39
                            refine lv_aload_n hx hb dX14_outRow_354 rfl (lv_at hl 0 rfl) ?_
                            refine lv_iload_n hx hb dX14_outRow_355 rfl (lv_at hl 1 rfl) ?_
                            obtain ⟨Q40, EQ40, h0, h⟩ := h
                            have hFc := rfree hR hA
                            refine vx_calli (vx_runV (As := [.int v349_1]) (rest := [.int (v349_2 <<< ((16 : Int32) &&& 31)), .ref (ad 0)]) ⟨hx, hb, hml, hown, hts⟩ (r_needOf l g ad H.size U349 v349_1 hR.w  Q40 EQ40 h0) (cwV 1 hts (gd2_V kx_575 kx_576 kx_577 kx_177 kx_578) rfl rfl rfl (by decide +kernel) ⟨Nat.le_of_ble_eq_true rfl, Nat.le_of_ble_eq_true rfl⟩) ⟨rblind, va_recv hR.K hR.P (ci := 13) (q0 := 0) rfl (hR.at14 hR.w.1), fun U hU hW9 => rmk hU hW9 hR hex hE hFc⟩ rfl rfl hl.1 rfl (lv_room (Nat.le_of_ble_eq_true rfl)) dX14_outRow_356 ⟨Nat.le_of_ble_eq_true rfl, Nat.le_of_ble_eq_true rfl⟩) hR.sS (fun q _ h => hFc q h) hFc (fun q _ h => hFc q h) (fun E9 ce9 q9 u9 t9 H1 locs ht9 hvm9 hp9 hB9 hz9 hk9 hS hce9 hcv9 hcl9 => ?_) (fun r41 S42 t9 H1 locs ht9 hvm9 hw9 hB9 hz9 hk9 hS => ?_)
                            · obtain ⟨hp9, hwx, hsx⟩ := hp9
                              obtain ⟨rfl, hBx⟩ := hB9
                              replace h := h.2 u9 hp9
                              have hR : Rep g ad A s u9 H1 locs := hR.call ht9 hBx hwx hS hFc
                              have hsh := hsh.tr hsx
                              exact vx_out (E := RJxb5711) (q := q9) (fun x h9 => (hnt x h9).elim) hlocks hce9 hcv9 hcl9 (fun t9 ht9 ha9 => ⟨u9, ⟨h, hR.w, hsh⟩, ⟨rfl, by rw [ht9]; exact hR.P, hR.D⟩, hR.sS.F ht9⟩) hR.sS.2.2 (Nat.le_of_ble_eq_true rfl) (Nat.le_of_ble_eq_true rfl)
                            · obtain ⟨hq43, hw9, hs9⟩ := hw9
                              have hR : Rep g ad A s S42 H1 locs := hR.call ht9 hB9 hw9 hS hFc
                              have hsh := hsh.tr hs9
                              replace h := h.1 r41 S42 hq43
                              clear hB9 hz9 hk9 hvm9 ht9 hw9 hs9 hS
                              generalize H1 = H at hR ⊢
                              refine lv_ior hx hb dX14_outRow_359 ?_
                              refine lv_topi (fun z44 ez44 => ?_)
                              obtain rfl : z44 = ((v349_2 <<< ((16 : Int32) &&& 31)) ||| r41) := ez44
                              refine lv_i2l (v := (((v349_2 <<< ((16 : Int32) &&& 31)) ||| r41).toInt64)) hx hb dX14_outRow_360 rfl ?_
                              refine lv_iconst (v := 3) hx hb dX14_outRow_361 (by decide) ?_
                              obtain ⟨Q45, h0, h⟩ := h
                              have hFc := rfree hR hA
                              refine va_callv (va_runV (As := [.long (((v349_2 <<< ((16 : Int32) &&& 31)) ||| r41).toInt64), .int 3]) (rest := []) ⟨hx, hb, hml, hown, hts⟩ (r_out l g ad H.size S42 (((v349_2 <<< ((16 : Int32) &&& 31)) ||| r41).toInt64) (3 : Int32) hR.w  Q45 h0) (cwV 2 hts (gd2_V kx_586 kx_587 kx_588 kx_177 kx_589) rfl rfl rfl (by decide +kernel) ⟨Nat.le_of_ble_eq_true rfl, Nat.le_of_ble_eq_true rfl⟩) ⟨rblind, va_recv hR.K hR.P (ci := 13) (q0 := 0) rfl (hR.at14 hR.w.1), fun U hU hW9 => rmk hU hW9 hR hex hE hFc⟩ rfl rfl hl.1 rfl (lv_room (Nat.le_of_ble_eq_true rfl)) dX14_outRow_362 ⟨Nat.le_of_ble_eq_true rfl, Nat.le_of_ble_eq_true rfl⟩) hR.sS (fun q _ h => hFc q h) hFc (fun  S46 t9 H1 locs ht9 hvm9 hw9 hB9 hz9 hk9 hS => ?_)
                              obtain ⟨hq47, hw9, hs9⟩ := hw9
                              have hR : Rep g ad A s S46 H1 locs := hR.call ht9 hB9 hw9 hS hFc
                              have hsh := hsh.tr hs9
                              replace h := h  S46 hq47
                              clear hB9 hz9 hk9 hvm9 ht9 hw9 hs9 hS
                              generalize H1 = H at hR ⊢
                              refine lv_goto (tgt := 393) hx hb dX14_outRow_365 (by decide) ?_
                              exact vx_ret (W.vret hx hb hr (fun t9 ht9 hW9 => ⟨⟨S46, rfl, ⟨h, hR.w, hsh⟩, ⟨by rw [ht9]; exact hR.P, hR.D⟩⟩, hR.sS.F ht9⟩) hR.sS.2.2 dX14_outRow_393)
                          refine lv_icmp_eq (tgt := 349) hx hb dX14_outRow_332 (by decide) (fun c48 => ?_) (fun c48 => ?_)
                          · replace h := h.1 (k_eq rfl (by decide) c48)
                            exact J_349 U243 v243_1 v243_2 _ _ ls h  hsh hR (lv_sub hl [0, 1, 2] rfl)
                          · replace h := h.2 (k_ne rfl (by decide) c48)
                            refine lv_iload_n hx hb dX14_outRow_335 rfl (lv_at hl 2 rfl) ?_
                            refine lv_sipush (v := 179) hx hb dX14_outRow_336 (by decide) ?_
                            refine lv_icmp_eq (tgt := 349) hx hb dX14_outRow_339 (by decide) (fun c49 => ?_) (fun c49 => ?_)
                            · replace h := h.1 (k_eq rfl (by decide) c49)
                              exact J_349 U243 v243_1 v243_2 _ _ ls h  hsh hR (lv_sub hl [0, 1, 2] rfl)
                            · replace h := h.2 (k_ne rfl (by decide) c49)
                              refine lv_iload_n hx hb dX14_outRow_342 rfl (lv_at hl 2 rfl) ?_
                              refine lv_sipush (v := 184) hx hb dX14_outRow_343 (by decide) ?_
                              refine lv_icmp_ne (tgt := 368) hx hb dX14_outRow_346 (by decide) (fun c50 => ?_) (fun c50 => ?_)
                              · replace h := h.2 (k_ne rfl (by decide) c50)
                                refine lv_iload_n hx hb dX14_outRow_368 rfl (lv_at hl 2 rfl) ?_
                                refine lv_sipush (v := 188) hx hb dX14_outRow_369 (by decide) ?_
                                refine lv_icmp_ne (tgt := 386) hx hb dX14_outRow_372 (by decide) (fun c51 => ?_) (fun c51 => ?_)
                                · replace h := h.2 (k_ne rfl (by decide) c51)
                                  refine lv_aload_n hx hb dX14_outRow_386 rfl (lv_at hl 0 rfl) ?_
                                  refine lv_iload_n hx hb dX14_outRow_387 rfl (lv_at hl 2 rfl) ?_
                                  refine lv_i2l (v := (v243_2.toInt64)) hx hb dX14_outRow_388 rfl ?_
                                  refine lv_iconst (v := 1) hx hb dX14_outRow_389 (by decide) ?_
                                  obtain ⟨Q52, h0, h⟩ := h
                                  have hFc := rfree hR hA
                                  refine va_callv (va_runV (As := [.long (v243_2.toInt64), .int 1]) (rest := []) ⟨hx, hb, hml, hown, hts⟩ (r_out l g ad H.size U243 (v243_2.toInt64) (1 : Int32) hR.w  Q52 h0) (cwV 2 hts (gd2_V kx_586 kx_587 kx_588 kx_177 kx_589) rfl rfl rfl (by decide +kernel) ⟨Nat.le_of_ble_eq_true rfl, Nat.le_of_ble_eq_true rfl⟩) ⟨rblind, va_recv hR.K hR.P (ci := 13) (q0 := 0) rfl (hR.at14 hR.w.1), fun U hU hW9 => rmk hU hW9 hR hex hE hFc⟩ rfl rfl hl.1 rfl (lv_room (Nat.le_of_ble_eq_true rfl)) dX14_outRow_390 ⟨Nat.le_of_ble_eq_true rfl, Nat.le_of_ble_eq_true rfl⟩) hR.sS (fun q _ h => hFc q h) hFc (fun  S53 t9 H1 locs ht9 hvm9 hw9 hB9 hz9 hk9 hS => ?_)
                                  obtain ⟨hq54, hw9, hs9⟩ := hw9
                                  have hR : Rep g ad A s S53 H1 locs := hR.call ht9 hB9 hw9 hS hFc
                                  have hsh := hsh.tr hs9
                                  replace h := h  S53 hq54
                                  clear hB9 hz9 hk9 hvm9 ht9 hw9 hs9 hS
                                  generalize H1 = H at hR ⊢
                                  exact vx_ret (W.vret hx hb hr (fun t9 ht9 hW9 => ⟨⟨S53, rfl, ⟨h, hR.w, hsh⟩, ⟨by rw [ht9]; exact hR.P, hR.D⟩⟩, hR.sS.F ht9⟩) hR.sS.2.2 dX14_outRow_393)
                                · replace h := h.1 (k_eq rfl (by decide) c51)
                                  refine lv_aload_n hx hb dX14_outRow_375 rfl (lv_at hl 0 rfl) ?_
                                  refine lv_ldc2 hx hb hown (hts _ kx_913) dX14_outRow_376 ?_
                                  refine lv_iconst (v := 2) hx hb dX14_outRow_379 (by decide) ?_
                                  obtain ⟨Q55, h0, h⟩ := h
                                  have hFc := rfree hR hA
                                  refine va_callv (va_runV (As := [.long (48138 : Int64), .int 2]) (rest := []) ⟨hx, hb, hml, hown, hts⟩ (r_out l g ad H.size U243 (48138 : Int64) (2 : Int32) hR.w  Q55 h0) (cwV 2 hts (gd2_V kx_586 kx_587 kx_588 kx_177 kx_589) rfl rfl rfl (by decide +kernel) ⟨Nat.le_of_ble_eq_true rfl, Nat.le_of_ble_eq_true rfl⟩) ⟨rblind, va_recv hR.K hR.P (ci := 13) (q0 := 0) rfl (hR.at14 hR.w.1), fun U hU hW9 => rmk hU hW9 hR hex hE hFc⟩ rfl rfl hl.1 rfl (lv_room (Nat.le_of_ble_eq_true rfl)) dX14_outRow_380 ⟨Nat.le_of_ble_eq_true rfl, Nat.le_of_ble_eq_true rfl⟩) hR.sS (fun q _ h => hFc q h) hFc (fun  S56 t9 H1 locs ht9 hvm9 hw9 hB9 hz9 hk9 hS => ?_)
                                  obtain ⟨hq57, hw9, hs9⟩ := hw9
                                  have hR : Rep g ad A s S56 H1 locs := hR.call ht9 hB9 hw9 hS hFc
                                  have hsh := hsh.tr hs9
                                  replace h := h  S56 hq57
                                  clear hB9 hz9 hk9 hvm9 ht9 hw9 hs9 hS
                                  generalize H1 = H at hR ⊢
                                  refine lv_goto (tgt := 393) hx hb dX14_outRow_383 (by decide) ?_
                                  exact vx_ret (W.vret hx hb hr (fun t9 ht9 hW9 => ⟨⟨S56, rfl, ⟨h, hR.w, hsh⟩, ⟨by rw [ht9]; exact hR.P, hR.D⟩⟩, hR.sS.F ht9⟩) hR.sS.2.2 dX14_outRow_393)
                              · replace h := h.1 (k_eq rfl (by decide) c50)
                                exact J_349 U243 v243_1 v243_2 _ _ ls h  hsh hR (lv_sub hl [0, 1, 2] rfl)
                        · replace h := h.2 (k_ne rfl (by decide) c38)
                          refine lv_aload_n hx hb dX14_outRow_303 rfl (lv_at hl 0 rfl) ?_
                          refine lv_iload_n hx hb dX14_outRow_304 rfl (lv_at hl 2 rfl) ?_
                          refine lv_i2l (v := (v243_2.toInt64)) hx hb dX14_outRow_305 rfl ?_
                          refine lv_iconst (v := 1) hx hb dX14_outRow_306 (by decide) ?_
                          obtain ⟨Q58, h0, h⟩ := h
                          have hFc := rfree hR hA
                          refine va_callv (va_runV (As := [.long (v243_2.toInt64), .int 1]) (rest := []) ⟨hx, hb, hml, hown, hts⟩ (r_out l g ad H.size U243 (v243_2.toInt64) (1 : Int32) hR.w  Q58 h0) (cwV 2 hts (gd2_V kx_586 kx_587 kx_588 kx_177 kx_589) rfl rfl rfl (by decide +kernel) ⟨Nat.le_of_ble_eq_true rfl, Nat.le_of_ble_eq_true rfl⟩) ⟨rblind, va_recv hR.K hR.P (ci := 13) (q0 := 0) rfl (hR.at14 hR.w.1), fun U hU hW9 => rmk hU hW9 hR hex hE hFc⟩ rfl rfl hl.1 rfl (lv_room (Nat.le_of_ble_eq_true rfl)) dX14_outRow_307 ⟨Nat.le_of_ble_eq_true rfl, Nat.le_of_ble_eq_true rfl⟩) hR.sS (fun q _ h => hFc q h) hFc (fun  S59 t9 H1 locs ht9 hvm9 hw9 hB9 hz9 hk9 hS => ?_)
                          obtain ⟨hq60, hw9, hs9⟩ := hw9
                          have hR : Rep g ad A s S59 H1 locs := hR.call ht9 hB9 hw9 hS hFc
                          have hsh := hsh.tr hs9
                          replace h := h  S59 hq60
                          clear hB9 hz9 hk9 hvm9 ht9 hw9 hs9 hS
                          generalize H1 = H at hR ⊢
                          refine lv_aload_n hx hb dX14_outRow_310 rfl (lv_at hl 0 rfl) ?_
                          refine lv_aload_n hx hb dX14_outRow_311 rfl (lv_at hl 0 rfl) ?_
                          refine va_get (D := rD g) (ci := 13) (v := .ref (ad 36)) (C := RX14) (T := TX14) (N := 143) hx hb hts in2X14 hown hR.K hR.P 0 (hR.at14 hR.w.1) rfl 79 (by decide) (hts _ kx_584) (fun _ h9 => h9) (congrArg (fun z => some (vf ad z)) (hR.w.2.1 _ fin_79).1) dX14_outRow_312 ?_
                          refine lv_iload_n hx hb dX14_outRow_315 rfl (lv_at hl 3 rfl) ?_
                          obtain ⟨hv61, h⟩ := h
                          refine va_iald hx hb hR.K hR.P 36 1 (hR.atI (hR.w.2.1 _ fin_79).2.1) rfl (k_ixN (k_ix (n := 1297) (x := v243_3) (a := v243_3.toInt) rfl hv61) (hR.w.2.1 _ fin_79).2.2) dX14_outRow_316 ?_
                          refine lv_topi (fun z62 ez62 => ?_)
                          obtain rfl : z62 = (qI S59 36 v243_3.toInt.toNat) := ez62
                          refine lv_iload hx hb dX14_outRow_317 (lv_at hl 4 rfl) ?_
                          refine lv_isub hx hb dX14_outRow_319 ?_
                          refine lv_topi (fun z63 ez63 => ?_)
                          obtain rfl : z63 = ((qI S59 36 v243_3.toInt.toNat) - v243_4) := ez63
                          refine lv_i2l (v := (((qI S59 36 v243_3.toInt.toNat) - v243_4).toInt64)) hx hb dX14_outRow_320 rfl ?_
                          refine lv_iconst (v := 2) hx hb dX14_outRow_321 (by decide) ?_
                          obtain ⟨Q64, h0, h⟩ := h
                          have hFc := rfree hR hA
                          refine va_callv (va_runV (As := [.long (((qI S59 36 v243_3.toInt.toNat) - v243_4).toInt64), .int 2]) (rest := []) ⟨hx, hb, hml, hown, hts⟩ (r_out l g ad H.size S59 (((qI S59 36 v243_3.toInt.toNat) - v243_4).toInt64) (2 : Int32) hR.w  Q64 h0) (cwV 2 hts (gd2_V kx_586 kx_587 kx_588 kx_177 kx_589) rfl rfl rfl (by decide +kernel) ⟨Nat.le_of_ble_eq_true rfl, Nat.le_of_ble_eq_true rfl⟩) ⟨rblind, va_recv hR.K hR.P (ci := 13) (q0 := 0) rfl (hR.at14 hR.w.1), fun U hU hW9 => rmk hU hW9 hR hex hE hFc⟩ rfl rfl hl.1 rfl (lv_room (Nat.le_of_ble_eq_true rfl)) dX14_outRow_322 ⟨Nat.le_of_ble_eq_true rfl, Nat.le_of_ble_eq_true rfl⟩) hR.sS (fun q _ h => hFc q h) hFc (fun  S65 t9 H1 locs ht9 hvm9 hw9 hB9 hz9 hk9 hS => ?_)
                          obtain ⟨hq66, hw9, hs9⟩ := hw9
                          have hR : Rep g ad A s S65 H1 locs := hR.call ht9 hB9 hw9 hS hFc
                          have hsh := hsh.tr hs9
                          replace h := h  S65 hq66
                          clear hB9 hz9 hk9 hvm9 ht9 hw9 hs9 hS
                          generalize H1 = H at hR ⊢
                          refine lv_goto (tgt := 393) hx hb dX14_outRow_325 (by decide) ?_
                          exact vx_ret (W.vret hx hb hr (fun t9 ht9 hW9 => ⟨⟨S65, rfl, ⟨h, hR.w, hsh⟩, ⟨by rw [ht9]; exact hR.P, hR.D⟩⟩, hR.sS.F ht9⟩) hR.sS.2.2 dX14_outRow_393)
                      · replace h := h.2 (k_ne rfl (by decide) c34)
                        refine lv_aload_n hx hb dX14_outRow_286 rfl (lv_at hl 0 rfl) ?_
                        refine lv_iload_n hx hb dX14_outRow_287 rfl (lv_at hl 1 rfl) ?_
                        refine lv_iload hx hb dX14_outRow_288 (lv_at hl 4 rfl) ?_
                        obtain ⟨Q67, h0, h⟩ := h
                        have hFc := rfree hR hA
                        refine va_callv (va_runV (As := [.int v243_1, .int v243_4]) (rest := []) ⟨hx, hb, hml, hown, hts⟩ (r_outSwitch l g ad H.size U243 v243_1 v243_4 hR.w  Q67 h0) (cwV 2 hts (gd2_V kx_914 kx_915 kx_916 kx_177 kx_917) rfl rfl rfl (by decide +kernel) ⟨Nat.le_of_ble_eq_true rfl, Nat.le_of_ble_eq_true rfl⟩) ⟨rblind, va_recv hR.K hR.P (ci := 13) (q0 := 0) rfl (hR.at14 hR.w.1), fun U hU hW9 => rmk hU hW9 hR hex hE hFc⟩ rfl rfl hl.1 rfl (lv_room (Nat.le_of_ble_eq_true rfl)) dX14_outRow_290 ⟨Nat.le_of_ble_eq_true rfl, Nat.le_of_ble_eq_true rfl⟩) hR.sS (fun q _ h => hFc q h) hFc (fun  S68 t9 H1 locs ht9 hvm9 hw9 hB9 hz9 hk9 hS => ?_)
                        obtain ⟨hq69, hw9, hs9⟩ := hw9
                        have hR : Rep g ad A s S68 H1 locs := hR.call ht9 hB9 hw9 hS hFc
                        have hsh := hsh.tr hs9
                        replace h := h  S68 hq69
                        clear hB9 hz9 hk9 hvm9 ht9 hw9 hs9 hS
                        generalize H1 = H at hR ⊢
                        refine lv_goto (tgt := 393) hx hb dX14_outRow_293 (by decide) ?_
                        exact vx_ret (W.vret hx hb hr (fun t9 ht9 hW9 => ⟨⟨S68, rfl, ⟨h, hR.w, hsh⟩, ⟨by rw [ht9]; exact hR.P, hR.D⟩⟩, hR.sS.F ht9⟩) hR.sS.2.2 dX14_outRow_393)
                    · replace h := h.1 (k_eq rfl (by decide) c30)
                      refine lv_aload_n hx hb dX14_outRow_250 rfl (lv_at hl 0 rfl) ?_
                      refine lv_ldc2 hx hb hown (hts _ kx_918) dX14_outRow_251 ?_
                      refine lv_iconst (v := 2) hx hb dX14_outRow_254 (by decide) ?_
                      obtain ⟨Q70, h0, h⟩ := h
                      have hFc := rfree hR hA
                      refine va_callv (va_runV (As := [.long (50308 : Int64), .int 2]) (rest := []) ⟨hx, hb, hml, hown, hts⟩ (r_out l g ad H.size U243 (50308 : Int64) (2 : Int32) hR.w  Q70 h0) (cwV 2 hts (gd2_V kx_586 kx_587 kx_588 kx_177 kx_589) rfl rfl rfl (by decide +kernel) ⟨Nat.le_of_ble_eq_true rfl, Nat.le_of_ble_eq_true rfl⟩) ⟨rblind, va_recv hR.K hR.P (ci := 13) (q0 := 0) rfl (hR.at14 hR.w.1), fun U hU hW9 => rmk hU hW9 hR hex hE hFc⟩ rfl rfl hl.1 rfl (lv_room (Nat.le_of_ble_eq_true rfl)) dX14_outRow_255 ⟨Nat.le_of_ble_eq_true rfl, Nat.le_of_ble_eq_true rfl⟩) hR.sS (fun q _ h => hFc q h) hFc (fun  S71 t9 H1 locs ht9 hvm9 hw9 hB9 hz9 hk9 hS => ?_)
                      obtain ⟨hq72, hw9, hs9⟩ := hw9
                      have hR : Rep g ad A s S71 H1 locs := hR.call ht9 hB9 hw9 hS hFc
                      have hsh := hsh.tr hs9
                      replace h := h  S71 hq72
                      clear hB9 hz9 hk9 hvm9 ht9 hw9 hs9 hS
                      generalize H1 = H at hR ⊢
                      refine lv_aload_n hx hb dX14_outRow_258 rfl (lv_at hl 0 rfl) ?_
                      refine lv_iload_n hx hb dX14_outRow_259 rfl (lv_at hl 3 rfl) ?_
                      refine lv_i2l (v := (v243_3.toInt64)) hx hb dX14_outRow_260 rfl ?_
                      refine lv_iconst (v := 2) hx hb dX14_outRow_261 (by decide) ?_
                      obtain ⟨Q73, h0, h⟩ := h
                      have hFc := rfree hR hA
                      refine va_callv (va_runV (As := [.long (v243_3.toInt64), .int 2]) (rest := []) ⟨hx, hb, hml, hown, hts⟩ (r_out l g ad H.size S71 (v243_3.toInt64) (2 : Int32) hR.w  Q73 h0) (cwV 2 hts (gd2_V kx_586 kx_587 kx_588 kx_177 kx_589) rfl rfl rfl (by decide +kernel) ⟨Nat.le_of_ble_eq_true rfl, Nat.le_of_ble_eq_true rfl⟩) ⟨rblind, va_recv hR.K hR.P (ci := 13) (q0 := 0) rfl (hR.at14 hR.w.1), fun U hU hW9 => rmk hU hW9 hR hex hE hFc⟩ rfl rfl hl.1 rfl (lv_room (Nat.le_of_ble_eq_true rfl)) dX14_outRow_262 ⟨Nat.le_of_ble_eq_true rfl, Nat.le_of_ble_eq_true rfl⟩) hR.sS (fun q _ h => hFc q h) hFc (fun  S74 t9 H1 locs ht9 hvm9 hw9 hB9 hz9 hk9 hS => ?_)
                      obtain ⟨hq75, hw9, hs9⟩ := hw9
                      have hR : Rep g ad A s S74 H1 locs := hR.call ht9 hB9 hw9 hS hFc
                      have hsh := hsh.tr hs9
                      replace h := h  S74 hq75
                      clear hB9 hz9 hk9 hvm9 ht9 hw9 hs9 hS
                      generalize H1 = H at hR ⊢
                      refine lv_aload_n hx hb dX14_outRow_265 rfl (lv_at hl 0 rfl) ?_
                      refine lv_aload_n hx hb dX14_outRow_266 rfl (lv_at hl 0 rfl) ?_
                      refine lv_iload_n hx hb dX14_outRow_267 rfl (lv_at hl 1 rfl) ?_
                      obtain ⟨hv76, h⟩ := h
                      have hFc := rfree hR hA
                      refine va_calli (va_runV (As := [.int v243_1]) (rest := [.ref (ad 0)]) ⟨hx, hb, hml, hown, hts⟩ (r_second l g ad H.size S74 v243_1 hR.w  hv76) (cwV 1 hts (gd2_V kx_389 kx_390 kx_391 kx_177 kx_392) rfl rfl rfl (by decide +kernel) ⟨Nat.le_of_ble_eq_true rfl, Nat.le_of_ble_eq_true rfl⟩) ⟨rblind, va_recv hR.K hR.P (ci := 13) (q0 := 0) rfl (hR.at14 hR.w.1), fun U hU hW9 => rmk hU hW9 hR hex hE hFc⟩ rfl rfl hl.1 rfl (lv_room (Nat.le_of_ble_eq_true rfl)) dX14_outRow_268 ⟨Nat.le_of_ble_eq_true rfl, Nat.le_of_ble_eq_true rfl⟩) hR.sS (fun q _ h => hFc q h) hFc (fun r77 u9 t9 H1 locs ht9 hvm9 hw9 hB9 hz9 hk9 hS => ?_)
                      have hR : Rep g ad A s S74 H1 locs := hR.call ht9 hB9 hR.w hS hFc
                      obtain rfl : r77 = (f_second S74 v243_1) := hw9
                      clear hB9 hz9 hk9 hvm9 ht9 hS
                      generalize H1 = H at hR ⊢
                      refine lv_i2l (v := ((f_second S74 v243_1).toInt64)) hx hb dX14_outRow_271 rfl ?_
                      refine lv_iconst (v := 2) hx hb dX14_outRow_272 (by decide) ?_
                      obtain ⟨Q79, h0, h⟩ := h
                      have hFc := rfree hR hA
                      refine va_callv (va_runV (As := [.long ((f_second S74 v243_1).toInt64), .int 2]) (rest := []) ⟨hx, hb, hml, hown, hts⟩ (r_out l g ad H.size S74 ((f_second S74 v243_1).toInt64) (2 : Int32) hR.w  Q79 h0) (cwV 2 hts (gd2_V kx_586 kx_587 kx_588 kx_177 kx_589) rfl rfl rfl (by decide +kernel) ⟨Nat.le_of_ble_eq_true rfl, Nat.le_of_ble_eq_true rfl⟩) ⟨rblind, va_recv hR.K hR.P (ci := 13) (q0 := 0) rfl (hR.at14 hR.w.1), fun U hU hW9 => rmk hU hW9 hR hex hE hFc⟩ rfl rfl hl.1 rfl (lv_room (Nat.le_of_ble_eq_true rfl)) dX14_outRow_273 ⟨Nat.le_of_ble_eq_true rfl, Nat.le_of_ble_eq_true rfl⟩) hR.sS (fun q _ h => hFc q h) hFc (fun  S80 t9 H1 locs ht9 hvm9 hw9 hB9 hz9 hk9 hS => ?_)
                      obtain ⟨hq81, hw9, hs9⟩ := hw9
                      have hR : Rep g ad A s S80 H1 locs := hR.call ht9 hB9 hw9 hS hFc
                      have hsh := hsh.tr hs9
                      replace h := h  S80 hq81
                      clear hB9 hz9 hk9 hvm9 ht9 hw9 hs9 hS
                      generalize H1 = H at hR ⊢
                      refine lv_goto (tgt := 393) hx hb dX14_outRow_276 (by decide) ?_
                      exact vx_ret (W.vret hx hb hr (fun t9 ht9 hW9 => ⟨⟨S80, rfl, ⟨h, hR.w, hsh⟩, ⟨by rw [ht9]; exact hR.P, hR.D⟩⟩, hR.sS.F ht9⟩) hR.sS.2.2 dX14_outRow_393)
                  refine lv_icmp_ne (tgt := 243) hx hb dX14_outRow_202 (by decide) (fun c82 => ?_) (fun c82 => ?_)
                  · replace h := h.2 (k_ne rfl (by decide) c82)
                    exact J_243 S x1 a4 a8 a11 _ _ ls h  hsh hR (lv_sub hl [3, 4, 2, 1, 0] rfl)
                  · replace h := h.1 (k_eq rfl (by decide) c82)
                    refine lv_aload_n hx hb dX14_outRow_205 rfl (lv_at hl 3 rfl) ?_
                    refine lv_iload_n hx hb dX14_outRow_206 rfl (lv_at hl 4 rfl) ?_
                    obtain ⟨hv83, h⟩ := h
                    have hFc := rfree hR hA
                    refine va_calli (va_runV (As := [.int x1]) (rest := []) ⟨hx, hb, hml, hown, hts⟩ (r_second l g ad H.size S x1 hR.w  hv83) (cwV 1 hts (gd2_V kx_389 kx_390 kx_391 kx_177 kx_392) rfl rfl rfl (by decide +kernel) ⟨Nat.le_of_ble_eq_true rfl, Nat.le_of_ble_eq_true rfl⟩) ⟨rblind, va_recv hR.K hR.P (ci := 13) (q0 := 0) rfl (hR.at14 hR.w.1), fun U hU hW9 => rmk hU hW9 hR hex hE hFc⟩ rfl rfl hl.1 rfl (lv_room (Nat.le_of_ble_eq_true rfl)) dX14_outRow_207 ⟨Nat.le_of_ble_eq_true rfl, Nat.le_of_ble_eq_true rfl⟩) hR.sS (fun q _ h => hFc q h) hFc (fun r84 u9 t9 H1 locs ht9 hvm9 hw9 hB9 hz9 hk9 hS => ?_)
                    have hR : Rep g ad A s S H1 locs := hR.call ht9 hB9 hR.w hS hFc
                    obtain rfl : r84 = (f_second S x1) := hw9
                    clear hB9 hz9 hk9 hvm9 ht9 hS
                    generalize H1 = H at hR ⊢
                    obtain ⟨hv86, h⟩ := h
                    have hFc := rfree hR hA
                    refine va_calli (va_runS (As := [.int (f_second S x1)]) (rest := []) ⟨hx, hb, hml, hown, hts⟩ (r_isByte l g ad H.size S (f_second S x1) hR.w  hv86) (va_cwS 1 hts (gd2_S kx_581 kx_582 kx_177 kx_583) rfl rfl rfl (by decide +kernel) ⟨Nat.le_of_ble_eq_true rfl, Nat.le_of_ble_eq_true rfl⟩) ⟨rblind, fun U hU hW9 => rmk hU hW9 hR hex hE hFc⟩ rfl rfl hl.1 rfl (lv_room (Nat.le_of_ble_eq_true rfl)) dX14_outRow_210 ⟨Nat.le_of_ble_eq_true rfl, Nat.le_of_ble_eq_true rfl⟩) hR.sS (fun q _ h => hFc q h) hFc (fun r87 u9 t9 H1 locs ht9 hvm9 hw9 hB9 hz9 hk9 hS => ?_)
                    have hR : Rep g ad A s S H1 locs := hR.call ht9 hB9 hR.w hS hFc
                    obtain ⟨rfl, hz_r87⟩ := hw9
                    clear hB9 hz9 hk9 hvm9 ht9 hS
                    generalize H1 = H at hR ⊢
                    refine lv_if_eq (tgt := 243) hx hb dX14_outRow_213 (by decide) (fun c89 => ?_) (fun c89 => ?_)
                    · replace h := h.1 (k_eq rfl (by decide) c89)
                      exact J_243 S x1 a4 a8 a11 _ _ ls h  hsh hR (lv_sub hl [3, 4, 2, 1, 0] rfl)
                    · replace h := h.2 (k_ne rfl (by decide) c89)
                      refine lv_aload_n hx hb dX14_outRow_216 rfl (lv_at hl 3 rfl) ?_
                      refine lv_ldcw hx hb hown (hts _ kx_919) dX14_outRow_217 ?_
                      refine lv_iload_n hx hb dX14_outRow_220 rfl (lv_at hl 1 rfl) ?_
                      refine lv_bipush (v := 8) hx hb dX14_outRow_221 (by decide) ?_
                      refine lv_ishl hx hb dX14_outRow_223 ?_
                      refine lv_topi (fun z90 ez90 => ?_)
                      obtain rfl : z90 = (a8 <<< ((8 : Int32) &&& 31)) := ez90
                      refine lv_ior hx hb dX14_outRow_224 ?_
                      refine lv_topi (fun z91 ez91 => ?_)
                      obtain rfl : z91 = ((8650752 : Int32) ||| (a8 <<< ((8 : Int32) &&& 31))) := ez91
                      refine lv_aload_n hx hb dX14_outRow_225 rfl (lv_at hl 3 rfl) ?_
                      refine lv_iload_n hx hb dX14_outRow_226 rfl (lv_at hl 4 rfl) ?_
                      obtain ⟨hv92, h⟩ := h
                      have hFc := rfree hR hA
                      refine va_calli (va_runV (As := [.int x1]) (rest := [.int ((8650752 : Int32) ||| (a8 <<< ((8 : Int32) &&& 31))), .ref (ad 0)]) ⟨hx, hb, hml, hown, hts⟩ (r_second l g ad H.size S x1 hR.w  hv92) (cwV 1 hts (gd2_V kx_389 kx_390 kx_391 kx_177 kx_392) rfl rfl rfl (by decide +kernel) ⟨Nat.le_of_ble_eq_true rfl, Nat.le_of_ble_eq_true rfl⟩) ⟨rblind, va_recv hR.K hR.P (ci := 13) (q0 := 0) rfl (hR.at14 hR.w.1), fun U hU hW9 => rmk hU hW9 hR hex hE hFc⟩ rfl rfl hl.1 rfl (lv_room (Nat.le_of_ble_eq_true rfl)) dX14_outRow_227 ⟨Nat.le_of_ble_eq_true rfl, Nat.le_of_ble_eq_true rfl⟩) hR.sS (fun q _ h => hFc q h) hFc (fun r93 u9 t9 H1 locs ht9 hvm9 hw9 hB9 hz9 hk9 hS => ?_)
                      have hR : Rep g ad A s S H1 locs := hR.call ht9 hB9 hR.w hS hFc
                      obtain rfl : r93 = (f_second S x1) := hw9
                      clear hB9 hz9 hk9 hvm9 ht9 hS
                      generalize H1 = H at hR ⊢
                      refine lv_sipush (v := 255) hx hb dX14_outRow_230 (by decide) ?_
                      refine lv_iand hx hb dX14_outRow_233 ?_
                      refine lv_topi (fun z95 ez95 => ?_)
                      obtain rfl : z95 = ((f_second S x1) &&& (255 : Int32)) := ez95
                      refine lv_ior hx hb dX14_outRow_234 ?_
                      refine lv_topi (fun z96 ez96 => ?_)
                      obtain rfl : z96 = (((8650752 : Int32) ||| (a8 <<< ((8 : Int32) &&& 31))) ||| ((f_second S x1) &&& (255 : Int32))) := ez96
                      refine lv_i2l (v := ((((8650752 : Int32) ||| (a8 <<< ((8 : Int32) &&& 31))) ||| ((f_second S x1) &&& (255 : Int32))).toInt64)) hx hb dX14_outRow_235 rfl ?_
                      refine lv_iconst (v := 3) hx hb dX14_outRow_236 (by decide) ?_
                      obtain ⟨Q97, h0, h⟩ := h
                      have hFc := rfree hR hA
                      refine va_callv (va_runV (As := [.long ((((8650752 : Int32) ||| (a8 <<< ((8 : Int32) &&& 31))) ||| ((f_second S x1) &&& (255 : Int32))).toInt64), .int 3]) (rest := []) ⟨hx, hb, hml, hown, hts⟩ (r_out l g ad H.size S ((((8650752 : Int32) ||| (a8 <<< ((8 : Int32) &&& 31))) ||| ((f_second S x1) &&& (255 : Int32))).toInt64) (3 : Int32) hR.w  Q97 h0) (cwV 2 hts (gd2_V kx_586 kx_587 kx_588 kx_177 kx_589) rfl rfl rfl (by decide +kernel) ⟨Nat.le_of_ble_eq_true rfl, Nat.le_of_ble_eq_true rfl⟩) ⟨rblind, va_recv hR.K hR.P (ci := 13) (q0 := 0) rfl (hR.at14 hR.w.1), fun U hU hW9 => rmk hU hW9 hR hex hE hFc⟩ rfl rfl hl.1 rfl (lv_room (Nat.le_of_ble_eq_true rfl)) dX14_outRow_237 ⟨Nat.le_of_ble_eq_true rfl, Nat.le_of_ble_eq_true rfl⟩) hR.sS (fun q _ h => hFc q h) hFc (fun  S98 t9 H1 locs ht9 hvm9 hw9 hB9 hz9 hk9 hS => ?_)
                      obtain ⟨hq99, hw9, hs9⟩ := hw9
                      have hR : Rep g ad A s S98 H1 locs := hR.call ht9 hB9 hw9 hS hFc
                      have hsh := hsh.tr hs9
                      replace h := h  S98 hq99
                      clear hB9 hz9 hk9 hvm9 ht9 hw9 hs9 hS
                      generalize H1 = H at hR ⊢
                      refine lv_goto (tgt := 393) hx hb dX14_outRow_240 (by decide) ?_
                      exact vx_ret (W.vret hx hb hr (fun t9 ht9 hW9 => ⟨⟨S98, rfl, ⟨h, hR.w, hsh⟩, ⟨by rw [ht9]; exact hR.P, hR.D⟩⟩, hR.sS.F ht9⟩) hR.sS.2.2 dX14_outRow_393)
                · replace h := h.1 (k_eq rfl (by decide) c29)
                  exact J_165 S a4 a8 _ _ ls h  hsh hR (lv_sub hl [3, 2, 1] rfl)
          · replace h := h.1 (k_eq rfl (by decide) c21)
            exact J_114 S a4 a8 _ _ ls h  hsh hR (lv_sub hl [3, 2, 1] rfl)
    · replace h := h.1 (k_eq rfl (by decide) c13)
      refine lv_aload_n hx hb dX14_outRow_41 rfl (lv_at hl 3 rfl) ?_
      refine lv_iload_n hx hb dX14_outRow_42 rfl (lv_at hl 4 rfl) ?_
      obtain ⟨hv100, h⟩ := h
      have hFc := rfree hR hA
      refine va_calll (va_runV (As := [.int x1]) (rest := []) ⟨hx, hb, hml, hown, hts⟩ (r_longOf l g ad H.size S x1 hR.w  hv100) (cwV 1 hts (gd2_V kx_559 kx_560 kx_561 kx_177 kx_562) rfl rfl rfl (by decide +kernel) ⟨Nat.le_of_ble_eq_true rfl, Nat.le_of_ble_eq_true rfl⟩) ⟨rblind, va_recv hR.K hR.P (ci := 13) (q0 := 0) rfl (hR.at14 hR.w.1), fun U hU hW9 => rmk hU hW9 hR hex hE hFc⟩ rfl rfl hl.1 rfl (lv_room (Nat.le_of_ble_eq_true rfl)) dX14_outRow_43 ⟨Nat.le_of_ble_eq_true rfl, Nat.le_of_ble_eq_true rfl⟩) hR.sS (fun q _ h => hFc q h) hFc (fun r101 u9 t9 H1 locs ht9 hvm9 hw9 hB9 hz9 hk9 hS => ?_)
      have hR : Rep g ad A s S H1 locs := hR.call ht9 hB9 hR.w hS hFc
      obtain rfl : r101 = (f_longOf S x1) := hw9
      clear hB9 hz9 hk9 hvm9 ht9 hS
      generalize H1 = H at hR ⊢
      refine lv_lconst (v := 0) hx hb dX14_outRow_46 (by decide) ?_
      refine W.lcmp hx hb dX14_outRow_47 ?_
      refine lv_topi (fun z103 ez103 => ?_)
      obtain rfl : z103 = (lg_cmp (f_longOf S x1) 0) := ez103
      have J_61 : ∀ (U61 : MS) (v61_1 : Int32) (H : Heap) (locs : List Loc) (ls : Array Slot), w_outRow_J61 Q E U61 v61_1 → shy S U61 → Rep g ad A s U61 H locs → lv_has ls 5 [(0, .ref (ad 0)), (1, .int v61_1)] → W p l e (headSpec (wt2 yX14_outRow cX14_outRow 5 none) ({ frames := 8, cells := 0, slots := 0, locals := 183 })).room s m ([.ref (ad 0), .int x1] : List Value).toArray below meth c H locs 0 0 (vx_MQ below (va_Qv (fun (u : MS) => Q u ∧ wfM u ∧ shy S u) (fun (u : MS) (t : State) => qE g ad A u t) A) ((vx_X (fun (u : MS) => E u ∧ wfM u ∧ shy S u) (fun (n9 : String) (u : MS) (t : State) => n9 = RJxb5711 ∧ qE g ad A u t) A)) ([.ref (ad 0), .int x1] : List Value).toArray s 0 0 A) (F0 m 61 ls []) := by
        intro U61 v61_1 H locs ls h hsh hR hl
        unfold w_outRow_J61 at h
        refine lv_aload_n hx hb dX14_outRow_61 rfl (lv_at hl 0 rfl) ?_
        refine lv_ldc2 hx hb hown (hts _ kx_592) dX14_outRow_62 ?_
        refine lv_aload_n hx hb dX14_outRow_65 rfl (lv_at hl 0 rfl) ?_
        refine lv_iload_n hx hb dX14_outRow_66 rfl (lv_at hl 1 rfl) ?_
        obtain ⟨hv104, h⟩ := h
        have hFc := rfree hR hA
        refine va_calll (va_runV (As := [.int v61_1]) (rest := [.long (9 : Int64), .ref (ad 0)]) ⟨hx, hb, hml, hown, hts⟩ (r_longOf l g ad H.size U61 v61_1 hR.w  hv104) (cwV 1 hts (gd2_V kx_559 kx_560 kx_561 kx_177 kx_562) rfl rfl rfl (by decide +kernel) ⟨Nat.le_of_ble_eq_true rfl, Nat.le_of_ble_eq_true rfl⟩) ⟨rblind, va_recv hR.K hR.P (ci := 13) (q0 := 0) rfl (hR.at14 hR.w.1), fun U hU hW9 => rmk hU hW9 hR hex hE hFc⟩ rfl rfl hl.1 rfl (lv_room (Nat.le_of_ble_eq_true rfl)) dX14_outRow_67 ⟨Nat.le_of_ble_eq_true rfl, Nat.le_of_ble_eq_true rfl⟩) hR.sS (fun q _ h => hFc q h) hFc (fun r105 u9 t9 H1 locs ht9 hvm9 hw9 hB9 hz9 hk9 hS => ?_)
        have hR : Rep g ad A s U61 H1 locs := hR.call ht9 hB9 hR.w hS hFc
        obtain rfl : r105 = (f_longOf U61 v61_1) := hw9
        clear hB9 hz9 hk9 hvm9 ht9 hS
        generalize H1 = H at hR ⊢
        refine lv_ladd hx hb dX14_outRow_70 ?_
        refine lv_topl (fun z107 ez107 => ?_)
        obtain rfl : z107 = ((9 : Int64) + (f_longOf U61 v61_1)) := ez107
        refine lv_iconst (v := 1) hx hb dX14_outRow_71 (by decide) ?_
        obtain ⟨Q108, h0, h⟩ := h
        have hFc := rfree hR hA
        refine va_callv (va_runV (As := [.long ((9 : Int64) + (f_longOf U61 v61_1)), .int 1]) (rest := []) ⟨hx, hb, hml, hown, hts⟩ (r_out l g ad H.size U61 ((9 : Int64) + (f_longOf U61 v61_1)) (1 : Int32) hR.w  Q108 h0) (cwV 2 hts (gd2_V kx_586 kx_587 kx_588 kx_177 kx_589) rfl rfl rfl (by decide +kernel) ⟨Nat.le_of_ble_eq_true rfl, Nat.le_of_ble_eq_true rfl⟩) ⟨rblind, va_recv hR.K hR.P (ci := 13) (q0 := 0) rfl (hR.at14 hR.w.1), fun U hU hW9 => rmk hU hW9 hR hex hE hFc⟩ rfl rfl hl.1 rfl (lv_room (Nat.le_of_ble_eq_true rfl)) dX14_outRow_72 ⟨Nat.le_of_ble_eq_true rfl, Nat.le_of_ble_eq_true rfl⟩) hR.sS (fun q _ h => hFc q h) hFc (fun  S109 t9 H1 locs ht9 hvm9 hw9 hB9 hz9 hk9 hS => ?_)
        obtain ⟨hq110, hw9, hs9⟩ := hw9
        have hR : Rep g ad A s S109 H1 locs := hR.call ht9 hB9 hw9 hS hFc
        have hsh := hsh.tr hs9
        replace h := h  S109 hq110
        clear hB9 hz9 hk9 hvm9 ht9 hw9 hs9 hS
        generalize H1 = H at hR ⊢
        refine lv_goto (tgt := 393) hx hb dX14_outRow_75 (by decide) ?_
        exact vx_ret (W.vret hx hb hr (fun t9 ht9 hW9 => ⟨⟨S109, rfl, ⟨h, hR.w, hsh⟩, ⟨by rw [ht9]; exact hR.P, hR.D⟩⟩, hR.sS.F ht9⟩) hR.sS.2.2 dX14_outRow_393)
      refine lv_if_eq (tgt := 61) hx hb dX14_outRow_48 (by decide) (fun c111 => ?_) (fun c111 => ?_)
      · replace h := h.1 (k_eq rfl (by decide) c111)
        exact J_61 S x1 _ _ ls h  hsh hR (lv_sub hl [3, 4] rfl)
      · replace h := h.2 (k_ne rfl (by decide) c111)
        refine lv_aload_n hx hb dX14_outRow_51 rfl (lv_at hl 3 rfl) ?_
        refine lv_iload_n hx hb dX14_outRow_52 rfl (lv_at hl 4 rfl) ?_
        obtain ⟨hv112, h⟩ := h
        have hFc := rfree hR hA
        refine va_calll (va_runV (As := [.int x1]) (rest := []) ⟨hx, hb, hml, hown, hts⟩ (r_longOf l g ad H.size S x1 hR.w  hv112) (cwV 1 hts (gd2_V kx_559 kx_560 kx_561 kx_177 kx_562) rfl rfl rfl (by decide +kernel) ⟨Nat.le_of_ble_eq_true rfl, Nat.le_of_ble_eq_true rfl⟩) ⟨rblind, va_recv hR.K hR.P (ci := 13) (q0 := 0) rfl (hR.at14 hR.w.1), fun U hU hW9 => rmk hU hW9 hR hex hE hFc⟩ rfl rfl hl.1 rfl (lv_room (Nat.le_of_ble_eq_true rfl)) dX14_outRow_53 ⟨Nat.le_of_ble_eq_true rfl, Nat.le_of_ble_eq_true rfl⟩) hR.sS (fun q _ h => hFc q h) hFc (fun r113 u9 t9 H1 locs ht9 hvm9 hw9 hB9 hz9 hk9 hS => ?_)
        have hR : Rep g ad A s S H1 locs := hR.call ht9 hB9 hR.w hS hFc
        obtain rfl : r113 = (f_longOf S x1) := hw9
        clear hB9 hz9 hk9 hvm9 ht9 hS
        generalize H1 = H at hR ⊢
        refine lv_lconst (v := 1) hx hb dX14_outRow_56 (by decide) ?_
        refine W.lcmp hx hb dX14_outRow_57 ?_
        refine lv_topi (fun z115 ez115 => ?_)
        obtain rfl : z115 = (lg_cmp (f_longOf S x1) 1) := ez115
        refine lv_if_ne (tgt := 78) hx hb dX14_outRow_58 (by decide) (fun c116 => ?_) (fun c116 => ?_)
        · replace h := h.2 (k_ne rfl (by decide) c116)
          refine lv_aload_n hx hb dX14_outRow_78 rfl (lv_at hl 3 rfl) ?_
          refine lv_ldcw hx hb hown (hts _ kx_920) dX14_outRow_79 ?_
          refine lv_aload_n hx hb dX14_outRow_82 rfl (lv_at hl 3 rfl) ?_
          refine lv_iload_n hx hb dX14_outRow_83 rfl (lv_at hl 4 rfl) ?_
          obtain ⟨Q117, EQ117, h0, h⟩ := h
          have hFc := rfree hR hA
          refine vx_calli (vx_runV (As := [.int x1]) (rest := [.int 1310720, .ref (ad 0)]) ⟨hx, hb, hml, hown, hts⟩ (r_needOf l g ad H.size S x1 hR.w  Q117 EQ117 h0) (cwV 1 hts (gd2_V kx_575 kx_576 kx_577 kx_177 kx_578) rfl rfl rfl (by decide +kernel) ⟨Nat.le_of_ble_eq_true rfl, Nat.le_of_ble_eq_true rfl⟩) ⟨rblind, va_recv hR.K hR.P (ci := 13) (q0 := 0) rfl (hR.at14 hR.w.1), fun U hU hW9 => rmk hU hW9 hR hex hE hFc⟩ rfl rfl hl.1 rfl (lv_room (Nat.le_of_ble_eq_true rfl)) dX14_outRow_84 ⟨Nat.le_of_ble_eq_true rfl, Nat.le_of_ble_eq_true rfl⟩) hR.sS (fun q _ h => hFc q h) hFc (fun q _ h => hFc q h) (fun E9 ce9 q9 u9 t9 H1 locs ht9 hvm9 hp9 hB9 hz9 hk9 hS hce9 hcv9 hcl9 => ?_) (fun r118 S119 t9 H1 locs ht9 hvm9 hw9 hB9 hz9 hk9 hS => ?_)
          · obtain ⟨hp9, hwx, hsx⟩ := hp9
            obtain ⟨rfl, hBx⟩ := hB9
            replace h := h.2 u9 hp9
            have hR : Rep g ad A s u9 H1 locs := hR.call ht9 hBx hwx hS hFc
            have hsh := hsh.tr hsx
            exact vx_out (E := RJxb5711) (q := q9) (fun x h9 => (hnt x h9).elim) hlocks hce9 hcv9 hcl9 (fun t9 ht9 ha9 => ⟨u9, ⟨h, hR.w, hsh⟩, ⟨rfl, by rw [ht9]; exact hR.P, hR.D⟩, hR.sS.F ht9⟩) hR.sS.2.2 (Nat.le_of_ble_eq_true rfl) (Nat.le_of_ble_eq_true rfl)
          · obtain ⟨hq120, hw9, hs9⟩ := hw9
            have hR : Rep g ad A s S119 H1 locs := hR.call ht9 hB9 hw9 hS hFc
            have hsh := hsh.tr hs9
            replace h := h.1 r118 S119 hq120
            clear hB9 hz9 hk9 hvm9 ht9 hw9 hs9 hS
            generalize H1 = H at hR ⊢
            refine lv_ior hx hb dX14_outRow_87 ?_
            refine lv_topi (fun z121 ez121 => ?_)
            obtain rfl : z121 = ((1310720 : Int32) ||| r118) := ez121
            refine lv_i2l (v := (((1310720 : Int32) ||| r118).toInt64)) hx hb dX14_outRow_88 rfl ?_
            refine lv_iconst (v := 3) hx hb dX14_outRow_89 (by decide) ?_
            obtain ⟨Q122, h0, h⟩ := h
            have hFc := rfree hR hA
            refine va_callv (va_runV (As := [.long (((1310720 : Int32) ||| r118).toInt64), .int 3]) (rest := []) ⟨hx, hb, hml, hown, hts⟩ (r_out l g ad H.size S119 (((1310720 : Int32) ||| r118).toInt64) (3 : Int32) hR.w  Q122 h0) (cwV 2 hts (gd2_V kx_586 kx_587 kx_588 kx_177 kx_589) rfl rfl rfl (by decide +kernel) ⟨Nat.le_of_ble_eq_true rfl, Nat.le_of_ble_eq_true rfl⟩) ⟨rblind, va_recv hR.K hR.P (ci := 13) (q0 := 0) rfl (hR.at14 hR.w.1), fun U hU hW9 => rmk hU hW9 hR hex hE hFc⟩ rfl rfl hl.1 rfl (lv_room (Nat.le_of_ble_eq_true rfl)) dX14_outRow_90 ⟨Nat.le_of_ble_eq_true rfl, Nat.le_of_ble_eq_true rfl⟩) hR.sS (fun q _ h => hFc q h) hFc (fun  S123 t9 H1 locs ht9 hvm9 hw9 hB9 hz9 hk9 hS => ?_)
            obtain ⟨hq124, hw9, hs9⟩ := hw9
            have hR : Rep g ad A s S123 H1 locs := hR.call ht9 hB9 hw9 hS hFc
            have hsh := hsh.tr hs9
            replace h := h  S123 hq124
            clear hB9 hz9 hk9 hvm9 ht9 hw9 hs9 hS
            generalize H1 = H at hR ⊢
            refine lv_goto (tgt := 393) hx hb dX14_outRow_93 (by decide) ?_
            exact vx_ret (W.vret hx hb hr (fun t9 ht9 hW9 => ⟨⟨S123, rfl, ⟨h, hR.w, hsh⟩, ⟨by rw [ht9]; exact hR.P, hR.D⟩⟩, hR.sS.F ht9⟩) hR.sS.2.2 dX14_outRow_393)
        · replace h := h.1 (k_eq rfl (by decide) c116)
          exact J_61 S x1 _ _ ls h  hsh hR (lv_sub hl [3, 4] rfl)
  · replace h := h.1 (k_eq rfl (by decide) c12)
    refine lv_aload_n hx hb dX14_outRow_26 rfl (lv_at hl 3 rfl) ?_
    refine lv_iload_n hx hb dX14_outRow_27 rfl (lv_at hl 4 rfl) ?_
    refine lv_iload_n hx hb dX14_outRow_28 rfl (lv_at hl 1 rfl) ?_
    obtain ⟨Q125, EQ125, h0, h⟩ := h
    have hFc := rfree hR hA
    refine vx_callv (vx_runV (As := [.int x1, .int a8]) (rest := []) ⟨hx, hb, hml, hown, hts⟩ (r_outPush l g ad H.size S x1 a8 hR.w  Q125 EQ125 h0) (cwV 2 hts (gd2_V kx_921 kx_922 kx_923 kx_177 kx_924) rfl rfl rfl (by decide +kernel) ⟨Nat.le_of_ble_eq_true rfl, Nat.le_of_ble_eq_true rfl⟩) ⟨rblind, va_recv hR.K hR.P (ci := 13) (q0 := 0) rfl (hR.at14 hR.w.1), fun U hU hW9 => rmk hU hW9 hR hex hE hFc⟩ rfl rfl hl.1 rfl (lv_room (Nat.le_of_ble_eq_true rfl)) dX14_outRow_29 ⟨Nat.le_of_ble_eq_true rfl, Nat.le_of_ble_eq_true rfl⟩) hR.sS (fun q _ h => hFc q h) hFc (fun q _ h => hFc q h) (fun E9 ce9 q9 u9 t9 H1 locs ht9 hvm9 hp9 hB9 hz9 hk9 hS hce9 hcv9 hcl9 => ?_) (fun  S126 t9 H1 locs ht9 hvm9 hw9 hB9 hz9 hk9 hS => ?_)
    · obtain ⟨hp9, hwx, hsx⟩ := hp9
      obtain ⟨rfl, hBx⟩ := hB9
      replace h := h.2 u9 hp9
      have hR : Rep g ad A s u9 H1 locs := hR.call ht9 hBx hwx hS hFc
      have hsh := hsh.tr hsx
      exact vx_out (E := RJxb5711) (q := q9) (fun x h9 => (hnt x h9).elim) hlocks hce9 hcv9 hcl9 (fun t9 ht9 ha9 => ⟨u9, ⟨h, hR.w, hsh⟩, ⟨rfl, by rw [ht9]; exact hR.P, hR.D⟩, hR.sS.F ht9⟩) hR.sS.2.2 (Nat.le_of_ble_eq_true rfl) (Nat.le_of_ble_eq_true rfl)
    · obtain ⟨hq127, hw9, hs9⟩ := hw9
      have hR : Rep g ad A s S126 H1 locs := hR.call ht9 hB9 hw9 hS hFc
      have hsh := hsh.tr hs9
      replace h := h.1  S126 hq127
      clear hB9 hz9 hk9 hvm9 ht9 hw9 hs9 hS
      generalize H1 = H at hR ⊢
      refine lv_goto (tgt := 393) hx hb dX14_outRow_32 (by decide) ?_
      exact vx_ret (W.vret hx hb hr (fun t9 ht9 hW9 => ⟨⟨S126, rfl, ⟨h, hR.w, hsh⟩, ⟨by rw [ht9]; exact hR.P, hR.D⟩⟩, hR.sS.F ht9⟩) hR.sS.2.2 dX14_outRow_393)
