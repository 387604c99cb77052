def w_X2_catchesHold_J185 (Q : Int32 → MS → Prop) (U185 : MS) : Prop := (wfC U185 → Q (1 : Int32) U185)
def w_X2_catchesHold_J129 (Q : Int32 → MS → Prop) (U129 : MS) (v129_2 : Int32) : Prop := (wfC U129 → (∃ Q27, wX7_breaks U129 (14 : Int32) v129_2 Q27 ∧ ∀ r28 S29, Q27 r28 S29 → wfC S29 → shy U129 S29 → Q r28 S29))
def w_X2_catchesHold_L90 (Q : Int32 → MS → Prop) : Nat → MS → Int32 → Int32 → Int32 → Int32 → Prop
  | 0, _, _, _, _, _ => False
  | n90 + 1, U90, v90_2, v90_4, v90_5, v90_6 => (wfC U90 → ((v90_5.toInt ≤ v90_6.toInt → ((v90_4.toInt = v90_2.toInt → w_X2_catchesHold_J185 Q U90) ∧ (¬ v90_4.toInt = v90_2.toInt → (∃ Q21, wX7_breaks U90 (14 : Int32) v90_4 Q21 ∧ ∀ r22 S23, Q21 r22 S23 → wfC S23 → shy U90 S23 → ((r22.toInt = 0 → Q (0 : Int32) S23) ∧ (¬ r22.toInt = 0 → w_X2_catchesHold_J185 Q S23)))))) ∧ (¬ v90_5.toInt ≤ v90_6.toInt → ((v90_2.toInt < (v90_4 + (6 : Int32)).toInt → w_X2_catchesHold_J129 Q U90 v90_2) ∧ (¬ v90_2.toInt < (v90_4 + (6 : Int32)).toInt → (d_X7_u4 U90 (v90_4 + (2 : Int32)) ∧ (((lg_cmp (fX7_u4 U90 (v90_4 + (2 : Int32))) (((v90_2 - v90_4) - (6 : Int32)).toInt64)).toInt ≤ 0 → (d_X7_s4 U90 (v90_4 + (2 : Int32)) ∧ (∀ a46 : Int32, a46 = (v90_4 + ((6 : Int32) + (fX7_s4 U90 (v90_4 + (2 : Int32))))) → (∀ a47 : Int32, a47 = (v90_6 + Int32.ofInt 1) → (w_X2_catchesHold_L90 Q n90) U90 v90_2 a46 v90_5 a47)))) ∧ (¬ (lg_cmp (fX7_u4 U90 (v90_4 + (2 : Int32))) (((v90_2 - v90_4) - (6 : Int32)).toInt64)).toInt ≤ 0 → w_X2_catchesHold_J129 Q U90 v90_2))))))))
def wX2_catchesHold (S : MS) (x1 : Int32) (x2 : Int32) (Q : Int32 → MS → Prop) : Prop := (((x1 + (2 : Int32)).toInt ≤ x2.toInt → (d_X7_u2 S x1 ∧ (∀ a6 : Int32, a6 = (fX7_u2 S x1) → ((a6.toInt ≤ 16 → (∀ a11 : Int32, a11 = ((x1 + (2 : Int32)) + ((8 : Int32) * a6)) → (((a11 + (2 : Int32)).toInt ≤ x2.toInt → (d_X7_u2 S a11 ∧ (∀ a17 : Int32, a17 = (fX7_u2 S a11) → (∀ a18 : Int32, a18 = (a11 + Int32.ofInt 2) → (∃ n, w_X2_catchesHold_L90 Q n S x2 a18 a17 0))))) ∧ (¬ (a11 + (2 : Int32)).toInt ≤ x2.toInt → (∃ Q48, wX7_breaks S (14 : Int32) x2 Q48 ∧ ∀ r49 S50, Q48 r49 S50 → wfC S50 → shy S S50 → Q r49 S50))))) ∧ (¬ a6.toInt ≤ 16 → (∃ Q52, wX7_breaks S (13 : Int32) x1 Q52 ∧ ∀ r53 S54, Q52 r53 S54 → wfC S54 → shy S S54 → Q r53 S54)))))) ∧ (¬ (x1 + (2 : Int32)).toInt ≤ x2.toInt → (∃ Q56, wX7_breaks S (14 : Int32) x2 Q56 ∧ ∀ r57 S58, Q56 r57 S58 → wfC S58 → shy S S58 → Q r57 S58)))
set_option maxHeartbeats 2000000 in
set_option maxRecDepth 100000 in
theorem rX2_catchesHold (l : Launch) (g : Gr) (ad : Nat → Nat) (sz : Nat) (S : MS) (x1 : Int32) (x2 : Int32) (hw : wfC S) (Q : Int32 → MS → Prop) (h : wX2_catchesHold S x1 x2 Q) : Met l yX2_catchesHold (wt yX2_catchesHold cX2_catchesHold 7 (some .boolean)) ({ frames := 2, cells := 0, slots := 0, locals := 42 }) (va_Pc [.ref (ad 8), .int x1, .int x2] (st_C g ad sz S)) (va_Qi (fun (r : Int32) (u : MS) => Q r u ∧ wfC u ∧ shy S u ∧ (r = 0 ∨ r = 1)) (fun (u : MS) (t : State) => qEC g ad (va_A (WdC g ad S) sz) u t) (va_A (WdC g ad S) sz)) 0 0 (va_A (WdC g ad S) sz) := by
  refine Met.ofW (cc := cX2_catchesHold) (maxL := 7) (ret := (some .boolean)) (by decide) rfl ?_
  intro p e s m args below meth c s₁ B hml hv
  obtain ⟨rfl, hsz, hP, hK, hD0, hex, hE⟩ := hv
  have hx := B.exec
  have hb := B.bytes
  have hr := B.returns
  have hts0 := atoms_spec (ws := wt yX2_catchesHold cX2_catchesHold 7 (some .boolean)) B.pre
  have hts : ∀ w ∈ tb, w.before _ s = true := fun w h => hts0 w (List.mem_cons_of_mem _ h)
  have hown : s.vm.findClass RX2 = some m.cls := findClass_of_methodNamed B.named
  subst hsz
  have hD := hD0.self (sz := s.heap.size)
  generalize hAe : va_A (WdC g ad S) s.heap.size = A at hD hE ⊢
  have hA : ∀ q : Nat, s.heap.size ≤ q → A q := fun q h => by rw [← hAe]; exact Or.inr h
  have hR : RepC g ad A s S s.heap [] := ⟨hK, hP, hD, va_S.rf, hw⟩
  clear hK hP hD hD0
  have hl := lv_entry ([.ref (ad 8), .int x1, .int x2]) (n := 7) (Nat.le_of_ble_eq_true rfl)
  rw [lg_entry_eq]
  generalize (lg_sl ([.ref (ad 8), .int x1, .int x2]) ++ List.replicate (7 - (lg_sl ([.ref (ad 8), .int x1, .int x2])).length) Slot.unset).toArray = ls at hl ⊢
  have hl : lv_has ls 7 [(0, .ref (ad 8)), (1, .int x1), (2, .int x2)] := hl
  have hsh : shy S S := shy.rf
  unfold wX2_catchesHold at h
  refine lv_iload_n hx hb dX2_catchesHold_0 rfl (lv_at hl 1 rfl) ?_
  refine lv_iconst (v := 2) hx hb dX2_catchesHold_1 (by decide) ?_
  refine lv_iadd hx hb dX2_catchesHold_2 ?_
  refine lv_topi (fun z1 ez1 => ?_)
  obtain rfl : z1 = (x1 + (2 : Int32)) := ez1
  refine lv_iload_n hx hb dX2_catchesHold_3 rfl (lv_at hl 2 rfl) ?_
  refine lv_icmp_le (tgt := 18) hx hb dX2_catchesHold_4 (by decide) (fun c2 => ?_) (fun c2 => ?_)
  · replace h := h.1 (k_le rfl rfl c2)
    refine lv_aload_n hx hb dX2_catchesHold_18 rfl (lv_at hl 0 rfl) ?_
    refine va_get (D := rD g) (ci := 2) (v := .ref (ad 9)) (C := RX2) (T := TX2) (N := 12) hx hb hts inX2 hown hR.K hR.P 8 (hR.at42 (hR.w.2.1 _ finC_26).2.1) rfl 0 (by decide) (hts _ kw_632) (fun _ h9 => h9) (congrArg (fun z => some (vf ad z)) (hR.w.2.1 _ finC_2).1) dX2_catchesHold_19 ?_
    refine lv_iload_n hx hb dX2_catchesHold_22 rfl (lv_at hl 1 rfl) ?_
    obtain ⟨hv3, h⟩ := h
    have hFc := cfree hR hA
    refine va_calli (va_runV (As := [.int x1]) (rest := []) ⟨hx, hb, hml, hown, hts⟩ (rX7_u2 l g ad s.heap.size S x1 hR.w  hv3) (cwV 1 hts (gd_V kw_651 kw_1450 kw_1451 kw_710 kw_1449) rfl rfl rfl (by decide +kernel) ⟨Nat.le_of_ble_eq_true rfl, Nat.le_of_ble_eq_true rfl⟩) ⟨cblind, va_recv hR.K hR.P (ci := 6) (q0 := 9) rfl (hR.at46 (hR.w.2.1 _ finC_2).2.1), fun U hU hW9 => cmk hU hW9 hR hex hE hFc⟩ rfl rfl hl.1 rfl (lv_room (Nat.le_of_ble_eq_true rfl)) dX2_catchesHold_23 ⟨Nat.le_of_ble_eq_true rfl, Nat.le_of_ble_eq_true rfl⟩) hR.sS (fun q _ h => hFc q h) hFc (fun r4 u9 t9 H1 locs ht9 hvm9 hw9 hB9 hz9 hk9 hS => ?_)
    have hR : RepC g ad A s S H1 locs := hR.call ht9 hB9 hR.w hS hFc
    obtain rfl : r4 = (fX7_u2 S x1) := hw9
    clear hB9 hz9 hk9 hvm9 ht9 hS
    generalize H1 = H at hR ⊢
    obtain ⟨a6, ea6⟩ : ∃ z, z = (fX7_u2 S x1) := ⟨_, rfl⟩
    rw [← ea6]
    replace h := h a6 ea6
    refine lv_istore_n (lv' := [(3, .int a6), (0, .ref (ad 8)), (1, .int x1), (2, .int x2)]) hx hb dX2_catchesHold_26 rfl hl (by decide) rfl (fun ls hl => ?_)
    refine lv_iload_n hx hb dX2_catchesHold_27 rfl (lv_at hl 0 rfl) ?_
    refine lv_bipush (v := 16) hx hb dX2_catchesHold_28 (by decide) ?_
    refine lv_icmp_le (tgt := 44) hx hb dX2_catchesHold_30 (by decide) (fun c7 => ?_) (fun c7 => ?_)
    · replace h := h.1 (k_le rfl (by decide) c7)
      refine lv_iload_n hx hb dX2_catchesHold_44 rfl (lv_at hl 2 rfl) ?_
      refine lv_iconst (v := 2) hx hb dX2_catchesHold_45 (by decide) ?_
      refine lv_iadd hx hb dX2_catchesHold_46 ?_
      refine lv_topi (fun z8 ez8 => ?_)
      obtain rfl : z8 = (x1 + (2 : Int32)) := ez8
      refine lv_bipush (v := 8) hx hb dX2_catchesHold_47 (by decide) ?_
      refine lv_iload_n hx hb dX2_catchesHold_49 rfl (lv_at hl 0 rfl) ?_
      refine lv_imul hx hb dX2_catchesHold_50 ?_
      refine lv_topi (fun z9 ez9 => ?_)
      obtain rfl : z9 = ((8 : Int32) * a6) := ez9
      refine lv_iadd hx hb dX2_catchesHold_51 ?_
      refine lv_topi (fun z10 ez10 => ?_)
      obtain rfl : z10 = ((x1 + (2 : Int32)) + ((8 : Int32) * a6)) := ez10
      obtain ⟨a11, ea11⟩ : ∃ z, z = ((x1 + (2 : Int32)) + ((8 : Int32) * a6)) := ⟨_, rfl⟩
      rw [← ea11]
      replace h := h a11 ea11
      refine lv_istore (lv' := [(4, .int a11), (3, .int a6), (0, .ref (ad 8)), (1, .int x1), (2, .int x2)]) hx hb dX2_catchesHold_52 hl (by decide) rfl (fun ls hl => ?_)
      refine lv_iload hx hb dX2_catchesHold_54 (lv_at hl 0 rfl) ?_
      refine lv_iconst (v := 2) hx hb dX2_catchesHold_56 (by decide) ?_
      refine lv_iadd hx hb dX2_catchesHold_57 ?_
      refine lv_topi (fun z12 ez12 => ?_)
      obtain rfl : z12 = (a11 + (2 : Int32)) := ez12
      refine lv_iload_n hx hb dX2_catchesHold_58 rfl (lv_at hl 4 rfl) ?_
      refine lv_icmp_le (tgt := 73) hx hb dX2_catchesHold_59 (by decide) (fun c13 => ?_) (fun c13 => ?_)
      · replace h := h.1 (k_le rfl rfl c13)
        refine lv_aload_n hx hb dX2_catchesHold_73 rfl (lv_at hl 2 rfl) ?_
        refine va_get (D := rD g) (ci := 2) (v := .ref (ad 9)) (C := RX2) (T := TX2) (N := 12) hx hb hts inX2 hown hR.K hR.P 8 (hR.at42 (hR.w.2.1 _ finC_26).2.1) rfl 0 (by decide) (hts _ kw_632) (fun _ h9 => h9) (congrArg (fun z => some (vf ad z)) (hR.w.2.1 _ finC_2).1) dX2_catchesHold_74 ?_
        refine lv_iload hx hb dX2_catchesHold_77 (lv_at hl 0 rfl) ?_
        obtain ⟨hv14, h⟩ := h
        have hFc := cfree hR hA
        refine va_calli (va_runV (As := [.int a11]) (rest := []) ⟨hx, hb, hml, hown, hts⟩ (rX7_u2 l g ad H.size S a11 hR.w  hv14) (cwV 1 hts (gd_V kw_651 kw_1450 kw_1451 kw_710 kw_1449) rfl rfl rfl (by decide +kernel) ⟨Nat.le_of_ble_eq_true rfl, Nat.le_of_ble_eq_true rfl⟩) ⟨cblind, va_recv hR.K hR.P (ci := 6) (q0 := 9) rfl (hR.at46 (hR.w.2.1 _ finC_2).2.1), fun U hU hW9 => cmk hU hW9 hR hex hE hFc⟩ rfl rfl hl.1 rfl (lv_room (Nat.le_of_ble_eq_true rfl)) dX2_catchesHold_79 ⟨Nat.le_of_ble_eq_true rfl, Nat.le_of_ble_eq_true rfl⟩) hR.sS (fun q _ h => hFc q h) hFc (fun r15 u9 t9 H1 locs ht9 hvm9 hw9 hB9 hz9 hk9 hS => ?_)
        have hR : RepC g ad A s S H1 locs := hR.call ht9 hB9 hR.w hS hFc
        obtain rfl : r15 = (fX7_u2 S a11) := hw9
        clear hB9 hz9 hk9 hvm9 ht9 hS
        generalize H1 = H at hR ⊢
        obtain ⟨a17, ea17⟩ : ∃ z, z = (fX7_u2 S a11) := ⟨_, rfl⟩
        rw [← ea17]
        replace h := h a17 ea17
        refine lv_istore (lv' := [(5, .int a17), (4, .int a11), (3, .int a6), (0, .ref (ad 8)), (1, .int x1), (2, .int x2)]) hx hb dX2_catchesHold_82 hl (by decide) rfl (fun ls hl => ?_)
        obtain ⟨a18, ea18⟩ : ∃ z, z = (a11 + Int32.ofInt 2) := ⟨_, rfl⟩
        replace h := h a18 ea18
        refine lv_iinc (v := a18) (lv' := [(4, .int a18), (5, .int a17), (3, .int a6), (0, .ref (ad 8)), (1, .int x1), (2, .int x2)]) hx hb dX2_catchesHold_84 hl (k := 1) rfl ea18.symm (by decide) rfl (fun ls hl => ?_)
        refine lv_iconst (v := 0) hx hb dX2_catchesHold_87 (by decide) ?_
        refine lv_istore (lv' := [(6, .int 0), (4, .int a18), (5, .int a17), (3, .int a6), (0, .ref (ad 8)), (1, .int x1), (2, .int x2)]) hx hb dX2_catchesHold_88 hl (by decide) rfl (fun ls hl => ?_)
        have J_90 : ∀ (n90 : Nat) (U90 : MS) (v90_2 : Int32) (v90_4 : Int32) (v90_5 : Int32) (v90_6 : Int32) (H : Heap) (locs : List Loc) (ls : Array Slot), w_X2_catchesHold_L90 Q n90 U90 v90_2 v90_4 v90_5 v90_6 → shy S U90 → RepC g ad A s U90 H locs → lv_has ls 7 [(0, .ref (ad 8)), (2, .int v90_2), (4, .int v90_4), (5, .int v90_5), (6, .int v90_6)] → W p l e (headSpec (wt yX2_catchesHold cX2_catchesHold 7 (some .boolean)) ({ frames := 2, cells := 0, slots := 0, locals := 42 })).room s m ([.ref (ad 8), .int x1, .int x2] : List Value).toArray below meth c H locs 0 0 (MQ below (va_Qi (fun (r : Int32) (u : MS) => Q r u ∧ wfC u ∧ shy S u ∧ (r = 0 ∨ r = 1)) (fun (u : MS) (t : State) => qEC g ad A u t) A) ([.ref (ad 8), .int x1, .int x2] : List Value).toArray s 0 0 A) (F0 m 90 ls []) := by
          intro n90
          induction n90 with
          | zero => intro U90 v90_2 v90_4 v90_5 v90_6 H locs ls h hsh hR hl; unfold w_X2_catchesHold_L90 at h; exact h.elim
          | succ n90 ih_90 =>
            intro U90 v90_2 v90_4 v90_5 v90_6 H locs ls h hsh hR hl
            unfold w_X2_catchesHold_L90 at h
            replace h := h hR.w
            refine lv_iload hx hb dX2_catchesHold_90 (lv_at hl 4 rfl) ?_
            refine lv_iload hx hb dX2_catchesHold_92 (lv_at hl 3 rfl) ?_
            refine lv_icmp_ge (tgt := 165) hx hb dX2_catchesHold_94 (by decide) (fun c19 => ?_) (fun c19 => ?_)
            · replace h := h.1 (k_le rfl rfl c19)
              refine lv_iload hx hb dX2_catchesHold_165 (lv_at hl 2 rfl) ?_
              refine lv_iload_n hx hb dX2_catchesHold_167 rfl (lv_at hl 1 rfl) ?_
              have J_185 : ∀ (U185 : MS) (H : Heap) (locs : List Loc) (ls : Array Slot), w_X2_catchesHold_J185 Q U185 → shy S U185 → RepC g ad A s U185 H locs → lv_has ls 7 [] → W p l e (headSpec (wt yX2_catchesHold cX2_catchesHold 7 (some .boolean)) ({ frames := 2, cells := 0, slots := 0, locals := 42 })).room s m ([.ref (ad 8), .int x1, .int x2] : List Value).toArray below meth c H locs 0 0 (MQ below (va_Qi (fun (r : Int32) (u : MS) => Q r u ∧ wfC u ∧ shy S u ∧ (r = 0 ∨ r = 1)) (fun (u : MS) (t : State) => qEC g ad A u t) A) ([.ref (ad 8), .int x1, .int x2] : List Value).toArray s 0 0 A) (F0 m 185 ls []) := by
                intro U185 H locs ls h hsh hR hl
                unfold w_X2_catchesHold_J185 at h
                replace h := h hR.w
                refine lv_iconst (v := 1) hx hb dX2_catchesHold_185 (by decide) ?_
                refine lv_goto (tgt := 190) hx hb dX2_catchesHold_186 (by decide) ?_
                exact W.zret (v := 1) hx hb hr (nz (Or.inr rfl)) (fun t9 ht9 hW9 => ⟨⟨_, U185, rfl, ⟨h, hR.w, hsh, (Or.inr rfl)⟩, ⟨by rw [ht9]; exact hR.P, hR.D⟩⟩, hR.sS.F ht9⟩) hR.sS.2.2 dX2_catchesHold_190
              refine lv_icmp_eq (tgt := 185) hx hb dX2_catchesHold_168 (by decide) (fun c20 => ?_) (fun c20 => ?_)
              · replace h := h.1 (k_eq rfl rfl c20)
                exact J_185 U90 _ _ ls h  hsh hR (lv_sub hl [] rfl)
              · replace h := h.2 (k_ne rfl rfl c20)
                refine lv_aload_n hx hb dX2_catchesHold_171 rfl (lv_at hl 0 rfl) ?_
                refine va_get (D := rD g) (ci := 2) (v := .ref (ad 9)) (C := RX2) (T := TX2) (N := 12) hx hb hts inX2 hown hR.K hR.P 8 (hR.at42 (hR.w.2.1 _ finC_26).2.1) rfl 0 (by decide) (hts _ kw_632) (fun _ h9 => h9) (congrArg (fun z => some (vf ad z)) (hR.w.2.1 _ finC_2).1) dX2_catchesHold_172 ?_
                refine lv_bipush (v := 14) hx hb dX2_catchesHold_175 (by decide) ?_
                refine lv_iload hx hb dX2_catchesHold_177 (lv_at hl 2 rfl) ?_
                obtain ⟨Q21, h0, h⟩ := h
                have hFc := cfree hR hA
                refine va_calli (va_runV (As := [.int 14, .int v90_4]) (rest := []) ⟨hx, hb, hml, hown, hts⟩ (rX7_breaks l g ad H.size U90 (14 : Int32) v90_4 hR.w  Q21 h0) (cwV 2 hts (gd_V kw_677 kw_1278 kw_1279 kw_710 kw_1277) rfl rfl rfl (by decide +kernel) ⟨Nat.le_of_ble_eq_true rfl, Nat.le_of_ble_eq_true rfl⟩) ⟨cblind, va_recv hR.K hR.P (ci := 6) (q0 := 9) rfl (hR.at46 (hR.w.2.1 _ finC_2).2.1), fun U hU hW9 => cmk hU hW9 hR hex hE hFc⟩ rfl rfl hl.1 rfl (lv_room (Nat.le_of_ble_eq_true rfl)) dX2_catchesHold_179 ⟨Nat.le_of_ble_eq_true rfl, Nat.le_of_ble_eq_true rfl⟩) hR.sS (fun q _ h => hFc q h) hFc (fun r22 S23 t9 H1 locs ht9 hvm9 hw9 hB9 hz9 hk9 hS => ?_)
                obtain ⟨hq24, hw9, hs9, hz_r22⟩ := hw9
                have hR : RepC g ad A s S23 H1 locs := hR.call ht9 hB9 hw9 hS hFc
                have hsh := hsh.tr hs9
                replace h := h r22 S23 hq24 hw9 hs9
                clear hB9 hz9 hk9 hvm9 ht9 hw9 hs9 hS
                generalize H1 = H at hR ⊢
                refine lv_if_eq (tgt := 189) hx hb dX2_catchesHold_182 (by decide) (fun c25 => ?_) (fun c25 => ?_)
                · replace h := h.1 (k_eq rfl (by decide) c25)
                  refine lv_iconst (v := 0) hx hb dX2_catchesHold_189 (by decide) ?_
                  exact W.zret (v := 0) hx hb hr (nz (Or.inl rfl)) (fun t9 ht9 hW9 => ⟨⟨_, S23, rfl, ⟨h, hR.w, hsh, (Or.inl rfl)⟩, ⟨by rw [ht9]; exact hR.P, hR.D⟩⟩, hR.sS.F ht9⟩) hR.sS.2.2 dX2_catchesHold_190
                · replace h := h.2 (k_ne rfl (by decide) c25)
                  exact J_185 S23 _ _ ls h  hsh hR (lv_sub hl [] rfl)
            · replace h := h.2 (k_nle rfl rfl c19)
              refine lv_iload hx hb dX2_catchesHold_97 (lv_at hl 2 rfl) ?_
              refine lv_bipush (v := 6) hx hb dX2_catchesHold_99 (by decide) ?_
              refine lv_iadd hx hb dX2_catchesHold_101 ?_
              refine lv_topi (fun z26 ez26 => ?_)
              obtain rfl : z26 = (v90_4 + (6 : Int32)) := ez26
              refine lv_iload_n hx hb dX2_catchesHold_102 rfl (lv_at hl 1 rfl) ?_
              have J_129 : ∀ (U129 : MS) (v129_2 : Int32) (H : Heap) (locs : List Loc) (ls : Array Slot), w_X2_catchesHold_J129 Q U129 v129_2 → shy S U129 → RepC g ad A s U129 H locs → lv_has ls 7 [(0, .ref (ad 8)), (2, .int v129_2)] → W p l e (headSpec (wt yX2_catchesHold cX2_catchesHold 7 (some .boolean)) ({ frames := 2, cells := 0, slots := 0, locals := 42 })).room s m ([.ref (ad 8), .int x1, .int x2] : List Value).toArray below meth c H locs 0 0 (MQ below (va_Qi (fun (r : Int32) (u : MS) => Q r u ∧ wfC u ∧ shy S u ∧ (r = 0 ∨ r = 1)) (fun (u : MS) (t : State) => qEC g ad A u t) A) ([.ref (ad 8), .int x1, .int x2] : List Value).toArray s 0 0 A) (F0 m 129 ls []) := by
                intro U129 v129_2 H locs ls h hsh hR hl
                unfold w_X2_catchesHold_J129 at h
                replace h := h hR.w
                refine lv_aload_n hx hb dX2_catchesHold_129 rfl (lv_at hl 0 rfl) ?_
                refine va_get (D := rD g) (ci := 2) (v := .ref (ad 9)) (C := RX2) (T := TX2) (N := 12) hx hb hts inX2 hown hR.K hR.P 8 (hR.at42 (hR.w.2.1 _ finC_26).2.1) rfl 0 (by decide) (hts _ kw_632) (fun _ h9 => h9) (congrArg (fun z => some (vf ad z)) (hR.w.2.1 _ finC_2).1) dX2_catchesHold_130 ?_
                refine lv_bipush (v := 14) hx hb dX2_catchesHold_133 (by decide) ?_
                refine lv_iload_n hx hb dX2_catchesHold_135 rfl (lv_at hl 1 rfl) ?_
                obtain ⟨Q27, h0, h⟩ := h
                have hFc := cfree hR hA
                refine va_calli (va_runV (As := [.int 14, .int v129_2]) (rest := []) ⟨hx, hb, hml, hown, hts⟩ (rX7_breaks l g ad H.size U129 (14 : Int32) v129_2 hR.w  Q27 h0) (cwV 2 hts (gd_V kw_677 kw_1278 kw_1279 kw_710 kw_1277) rfl rfl rfl (by decide +kernel) ⟨Nat.le_of_ble_eq_true rfl, Nat.le_of_ble_eq_true rfl⟩) ⟨cblind, va_recv hR.K hR.P (ci := 6) (q0 := 9) rfl (hR.at46 (hR.w.2.1 _ finC_2).2.1), fun U hU hW9 => cmk hU hW9 hR hex hE hFc⟩ rfl rfl hl.1 rfl (lv_room (Nat.le_of_ble_eq_true rfl)) dX2_catchesHold_136 ⟨Nat.le_of_ble_eq_true rfl, Nat.le_of_ble_eq_true rfl⟩) hR.sS (fun q _ h => hFc q h) hFc (fun r28 S29 t9 H1 locs ht9 hvm9 hw9 hB9 hz9 hk9 hS => ?_)
                obtain ⟨hq30, hw9, hs9, hz_r28⟩ := hw9
                have hR : RepC g ad A s S29 H1 locs := hR.call ht9 hB9 hw9 hS hFc
                have hsh := hsh.tr hs9
                replace h := h r28 S29 hq30 hw9 hs9
                clear hB9 hz9 hk9 hvm9 ht9 hw9 hs9 hS
                generalize H1 = H at hR ⊢
                exact W.zret (v := r28) hx hb hr (nz hz_r28) (fun t9 ht9 hW9 => ⟨⟨_, S29, rfl, ⟨h, hR.w, hsh, hz_r28⟩, ⟨by rw [ht9]; exact hR.P, hR.D⟩⟩, hR.sS.F ht9⟩) hR.sS.2.2 dX2_catchesHold_139
              refine lv_icmp_gt (tgt := 129) hx hb dX2_catchesHold_103 (by decide) (fun c31 => ?_) (fun c31 => ?_)
              · replace h := h.1 (k_lt rfl rfl c31)
                exact J_129 U90 v90_2 _ _ ls h  hsh hR (lv_sub hl [0, 1] rfl)
              · replace h := h.2 (k_nlt rfl rfl c31)
                refine lv_aload_n hx hb dX2_catchesHold_106 rfl (lv_at hl 0 rfl) ?_
                refine va_get (D := rD g) (ci := 2) (v := .ref (ad 9)) (C := RX2) (T := TX2) (N := 12) hx hb hts inX2 hown hR.K hR.P 8 (hR.at42 (hR.w.2.1 _ finC_26).2.1) rfl 0 (by decide) (hts _ kw_632) (fun _ h9 => h9) (congrArg (fun z => some (vf ad z)) (hR.w.2.1 _ finC_2).1) dX2_catchesHold_107 ?_
                refine lv_iload hx hb dX2_catchesHold_110 (lv_at hl 2 rfl) ?_
                refine lv_iconst (v := 2) hx hb dX2_catchesHold_112 (by decide) ?_
                refine lv_iadd hx hb dX2_catchesHold_113 ?_
                refine lv_topi (fun z32 ez32 => ?_)
                obtain rfl : z32 = (v90_4 + (2 : Int32)) := ez32
                obtain ⟨hv33, h⟩ := h
                have hFc := cfree hR hA
                refine va_calll (va_runV (As := [.int (v90_4 + (2 : Int32))]) (rest := []) ⟨hx, hb, hml, hown, hts⟩ (rX7_u4 l g ad H.size U90 (v90_4 + (2 : Int32)) hR.w  hv33) (cwV 1 hts (gd_V kw_678 kw_1453 kw_1454 kw_710 kw_1452) rfl rfl rfl (by decide +kernel) ⟨Nat.le_of_ble_eq_true rfl, Nat.le_of_ble_eq_true rfl⟩) ⟨cblind, va_recv hR.K hR.P (ci := 6) (q0 := 9) rfl (hR.at46 (hR.w.2.1 _ finC_2).2.1), fun U hU hW9 => cmk hU hW9 hR hex hE hFc⟩ rfl rfl hl.1 rfl (lv_room (Nat.le_of_ble_eq_true rfl)) dX2_catchesHold_114 ⟨Nat.le_of_ble_eq_true rfl, Nat.le_of_ble_eq_true rfl⟩) hR.sS (fun q _ h => hFc q h) hFc (fun r34 u9 t9 H1 locs ht9 hvm9 hw9 hB9 hz9 hk9 hS => ?_)
                have hR : RepC g ad A s U90 H1 locs := hR.call ht9 hB9 hR.w hS hFc
                obtain rfl : r34 = (fX7_u4 U90 (v90_4 + (2 : Int32))) := hw9
                clear hB9 hz9 hk9 hvm9 ht9 hS
                generalize H1 = H at hR ⊢
                refine lv_iload_n hx hb dX2_catchesHold_117 rfl (lv_at hl 1 rfl) ?_
                refine lv_iload hx hb dX2_catchesHold_118 (lv_at hl 2 rfl) ?_
                refine lv_isub hx hb dX2_catchesHold_120 ?_
                refine lv_topi (fun z36 ez36 => ?_)
                obtain rfl : z36 = (v90_2 - v90_4) := ez36
                refine lv_bipush (v := 6) hx hb dX2_catchesHold_121 (by decide) ?_
                refine lv_isub hx hb dX2_catchesHold_123 ?_
                refine lv_topi (fun z37 ez37 => ?_)
                obtain rfl : z37 = ((v90_2 - v90_4) - (6 : Int32)) := ez37
                refine lv_i2l (v := (((v90_2 - v90_4) - (6 : Int32)).toInt64)) hx hb dX2_catchesHold_124 rfl ?_
                refine W.lcmp hx hb dX2_catchesHold_125 ?_
                refine lv_topi (fun z38 ez38 => ?_)
                obtain rfl : z38 = (lg_cmp (fX7_u4 U90 (v90_4 + (2 : Int32))) (((v90_2 - v90_4) - (6 : Int32)).toInt64)) := ez38
                refine lv_if_le (tgt := 140) hx hb dX2_catchesHold_126 (by decide) (fun c39 => ?_) (fun c39 => ?_)
                · replace h := h.1 (k_le rfl (by decide) c39)
                  refine lv_iload hx hb dX2_catchesHold_140 (lv_at hl 2 rfl) ?_
                  refine lv_bipush (v := 6) hx hb dX2_catchesHold_142 (by decide) ?_
                  refine lv_aload_n hx hb dX2_catchesHold_144 rfl (lv_at hl 0 rfl) ?_
                  refine va_get (D := rD g) (ci := 2) (v := .ref (ad 9)) (C := RX2) (T := TX2) (N := 12) hx hb hts inX2 hown hR.K hR.P 8 (hR.at42 (hR.w.2.1 _ finC_26).2.1) rfl 0 (by decide) (hts _ kw_632) (fun _ h9 => h9) (congrArg (fun z => some (vf ad z)) (hR.w.2.1 _ finC_2).1) dX2_catchesHold_145 ?_
                  refine lv_iload hx hb dX2_catchesHold_148 (lv_at hl 2 rfl) ?_
                  refine lv_iconst (v := 2) hx hb dX2_catchesHold_150 (by decide) ?_
                  refine lv_iadd hx hb dX2_catchesHold_151 ?_
                  refine lv_topi (fun z40 ez40 => ?_)
                  obtain rfl : z40 = (v90_4 + (2 : Int32)) := ez40
                  obtain ⟨hv41, h⟩ := h
                  have hFc := cfree hR hA
                  refine va_calli (va_runV (As := [.int (v90_4 + (2 : Int32))]) (rest := [.int 6, .int v90_4]) ⟨hx, hb, hml, hown, hts⟩ (rX7_s4 l g ad H.size U90 (v90_4 + (2 : Int32)) hR.w  hv41) (cwV 1 hts (gd_V kw_634 kw_1429 kw_1430 kw_710 kw_1428) rfl rfl rfl (by decide +kernel) ⟨Nat.le_of_ble_eq_true rfl, Nat.le_of_ble_eq_true rfl⟩) ⟨cblind, va_recv hR.K hR.P (ci := 6) (q0 := 9) rfl (hR.at46 (hR.w.2.1 _ finC_2).2.1), fun U hU hW9 => cmk hU hW9 hR hex hE hFc⟩ rfl rfl hl.1 rfl (lv_room (Nat.le_of_ble_eq_true rfl)) dX2_catchesHold_152 ⟨Nat.le_of_ble_eq_true rfl, Nat.le_of_ble_eq_true rfl⟩) hR.sS (fun q _ h => hFc q h) hFc (fun r42 u9 t9 H1 locs ht9 hvm9 hw9 hB9 hz9 hk9 hS => ?_)
                  have hR : RepC g ad A s U90 H1 locs := hR.call ht9 hB9 hR.w hS hFc
                  obtain rfl : r42 = (fX7_s4 U90 (v90_4 + (2 : Int32))) := hw9
                  clear hB9 hz9 hk9 hvm9 ht9 hS
                  generalize H1 = H at hR ⊢
                  refine lv_iadd hx hb dX2_catchesHold_155 ?_
                  refine lv_topi (fun z44 ez44 => ?_)
                  obtain rfl : z44 = ((6 : Int32) + (fX7_s4 U90 (v90_4 + (2 : Int32)))) := ez44
                  refine lv_iadd hx hb dX2_catchesHold_156 ?_
                  refine lv_topi (fun z45 ez45 => ?_)
                  obtain rfl : z45 = (v90_4 + ((6 : Int32) + (fX7_s4 U90 (v90_4 + (2 : Int32))))) := ez45
                  obtain ⟨a46, ea46⟩ : ∃ z, z = (v90_4 + ((6 : Int32) + (fX7_s4 U90 (v90_4 + (2 : Int32))))) := ⟨_, rfl⟩
                  rw [← ea46]
                  replace h := h a46 ea46
                  refine lv_istore (lv' := [(4, .int a46), (0, .ref (ad 8)), (2, .int v90_2), (5, .int v90_5), (6, .int v90_6)]) hx hb dX2_catchesHold_157 hl (by decide) rfl (fun ls hl => ?_)
                  obtain ⟨a47, ea47⟩ : ∃ z, z = (v90_6 + Int32.ofInt 1) := ⟨_, rfl⟩
                  replace h := h a47 ea47
                  refine lv_iinc (v := a47) (lv' := [(6, .int a47), (4, .int a46), (0, .ref (ad 8)), (2, .int v90_2), (5, .int v90_5)]) hx hb dX2_catchesHold_159 hl (k := 4) rfl ea47.symm (by decide) rfl (fun ls hl => ?_)
                  refine lv_goto (tgt := 90) hx hb dX2_catchesHold_162 (by decide) ?_
                  exact ih_90 U90 v90_2 a46 v90_5 a47 _ _ ls h  hsh hR (lv_sub hl [2, 3, 1, 4, 0] rfl)
                · replace h := h.2 (k_nle rfl (by decide) c39)
                  exact J_129 U90 v90_2 _ _ ls h  hsh hR (lv_sub hl [0, 1] rfl)
        obtain ⟨n9, h⟩ := h
        exact J_90 n9 S x2 a18 a17 0 _ _ ls h  hsh hR (lv_sub hl [4, 6, 1, 2, 0] rfl)
      · replace h := h.2 (k_nle rfl rfl c13)
        refine lv_aload_n hx hb dX2_catchesHold_62 rfl (lv_at hl 2 rfl) ?_
        refine va_get (D := rD g) (ci := 2) (v := .ref (ad 9)) (C := RX2) (T := TX2) (N := 12) hx hb hts inX2 hown hR.K hR.P 8 (hR.at42 (hR.w.2.1 _ finC_26).2.1) rfl 0 (by decide) (hts _ kw_632) (fun _ h9 => h9) (congrArg (fun z => some (vf ad z)) (hR.w.2.1 _ finC_2).1) dX2_catchesHold_63 ?_
        refine lv_bipush (v := 14) hx hb dX2_catchesHold_66 (by decide) ?_
        refine lv_iload_n hx hb dX2_catchesHold_68 rfl (lv_at hl 4 rfl) ?_
        obtain ⟨Q48, h0, h⟩ := h
        have hFc := cfree hR hA
        refine va_calli (va_runV (As := [.int 14, .int x2]) (rest := []) ⟨hx, hb, hml, hown, hts⟩ (rX7_breaks l g ad H.size S (14 : Int32) x2 hR.w  Q48 h0) (cwV 2 hts (gd_V kw_677 kw_1278 kw_1279 kw_710 kw_1277) rfl rfl rfl (by decide +kernel) ⟨Nat.le_of_ble_eq_true rfl, Nat.le_of_ble_eq_true rfl⟩) ⟨cblind, va_recv hR.K hR.P (ci := 6) (q0 := 9) rfl (hR.at46 (hR.w.2.1 _ finC_2).2.1), fun U hU hW9 => cmk hU hW9 hR hex hE hFc⟩ rfl rfl hl.1 rfl (lv_room (Nat.le_of_ble_eq_true rfl)) dX2_catchesHold_69 ⟨Nat.le_of_ble_eq_true rfl, Nat.le_of_ble_eq_true rfl⟩) hR.sS (fun q _ h => hFc q h) hFc (fun r49 S50 t9 H1 locs ht9 hvm9 hw9 hB9 hz9 hk9 hS => ?_)
        obtain ⟨hq51, hw9, hs9, hz_r49⟩ := hw9
        have hR : RepC g ad A s S50 H1 locs := hR.call ht9 hB9 hw9 hS hFc
        have hsh := hsh.tr hs9
        replace h := h r49 S50 hq51 hw9 hs9
        clear hB9 hz9 hk9 hvm9 ht9 hw9 hs9 hS
        generalize H1 = H at hR ⊢
        exact W.zret (v := r49) hx hb hr (nz hz_r49) (fun t9 ht9 hW9 => ⟨⟨_, S50, rfl, ⟨h, hR.w, hsh, hz_r49⟩, ⟨by rw [ht9]; exact hR.P, hR.D⟩⟩, hR.sS.F ht9⟩) hR.sS.2.2 dX2_catchesHold_72
    · replace h := h.2 (k_nle rfl (by decide) c7)
      refine lv_aload_n hx hb dX2_catchesHold_33 rfl (lv_at hl 1 rfl) ?_
      refine va_get (D := rD g) (ci := 2) (v := .ref (ad 9)) (C := RX2) (T := TX2) (N := 12) hx hb hts inX2 hown hR.K hR.P 8 (hR.at42 (hR.w.2.1 _ finC_26).2.1) rfl 0 (by decide) (hts _ kw_632) (fun _ h9 => h9) (congrArg (fun z => some (vf ad z)) (hR.w.2.1 _ finC_2).1) dX2_catchesHold_34 ?_
      refine lv_bipush (v := 13) hx hb dX2_catchesHold_37 (by decide) ?_
      refine lv_iload_n hx hb dX2_catchesHold_39 rfl (lv_at hl 2 rfl) ?_
      obtain ⟨Q52, h0, h⟩ := h
      have hFc := cfree hR hA
      refine va_calli (va_runV (As := [.int 13, .int x1]) (rest := []) ⟨hx, hb, hml, hown, hts⟩ (rX7_breaks l g ad H.size S (13 : Int32) x1 hR.w  Q52 h0) (cwV 2 hts (gd_V kw_677 kw_1278 kw_1279 kw_710 kw_1277) rfl rfl rfl (by decide +kernel) ⟨Nat.le_of_ble_eq_true rfl, Nat.le_of_ble_eq_true rfl⟩) ⟨cblind, va_recv hR.K hR.P (ci := 6) (q0 := 9) rfl (hR.at46 (hR.w.2.1 _ finC_2).2.1), fun U hU hW9 => cmk hU hW9 hR hex hE hFc⟩ rfl rfl hl.1 rfl (lv_room (Nat.le_of_ble_eq_true rfl)) dX2_catchesHold_40 ⟨Nat.le_of_ble_eq_true rfl, Nat.le_of_ble_eq_true rfl⟩) hR.sS (fun q _ h => hFc q h) hFc (fun r53 S54 t9 H1 locs ht9 hvm9 hw9 hB9 hz9 hk9 hS => ?_)
      obtain ⟨hq55, hw9, hs9, hz_r53⟩ := hw9
      have hR : RepC g ad A s S54 H1 locs := hR.call ht9 hB9 hw9 hS hFc
      have hsh := hsh.tr hs9
      replace h := h r53 S54 hq55 hw9 hs9
      clear hB9 hz9 hk9 hvm9 ht9 hw9 hs9 hS
      generalize H1 = H at hR ⊢
      exact W.zret (v := r53) hx hb hr (nz hz_r53) (fun t9 ht9 hW9 => ⟨⟨_, S54, rfl, ⟨h, hR.w, hsh, hz_r53⟩, ⟨by rw [ht9]; exact hR.P, hR.D⟩⟩, hR.sS.F ht9⟩) hR.sS.2.2 dX2_catchesHold_43
  · replace h := h.2 (k_nle rfl rfl c2)
    refine lv_aload_n hx hb dX2_catchesHold_7 rfl (lv_at hl 0 rfl) ?_
    refine va_get (D := rD g) (ci := 2) (v := .ref (ad 9)) (C := RX2) (T := TX2) (N := 12) hx hb hts inX2 hown hR.K hR.P 8 (hR.at42 (hR.w.2.1 _ finC_26).2.1) rfl 0 (by decide) (hts _ kw_632) (fun _ h9 => h9) (congrArg (fun z => some (vf ad z)) (hR.w.2.1 _ finC_2).1) dX2_catchesHold_8 ?_
    refine lv_bipush (v := 14) hx hb dX2_catchesHold_11 (by decide) ?_
    refine lv_iload_n hx hb dX2_catchesHold_13 rfl (lv_at hl 2 rfl) ?_
    obtain ⟨Q56, h0, h⟩ := h
    have hFc := cfree hR hA
    refine va_calli (va_runV (As := [.int 14, .int x2]) (rest := []) ⟨hx, hb, hml, hown, hts⟩ (rX7_breaks l g ad s.heap.size S (14 : Int32) x2 hR.w  Q56 h0) (cwV 2 hts (gd_V kw_677 kw_1278 kw_1279 kw_710 kw_1277) rfl rfl rfl (by decide +kernel) ⟨Nat.le_of_ble_eq_true rfl, Nat.le_of_ble_eq_true rfl⟩) ⟨cblind, va_recv hR.K hR.P (ci := 6) (q0 := 9) rfl (hR.at46 (hR.w.2.1 _ finC_2).2.1), fun U hU hW9 => cmk hU hW9 hR hex hE hFc⟩ rfl rfl hl.1 rfl (lv_room (Nat.le_of_ble_eq_true rfl)) dX2_catchesHold_14 ⟨Nat.le_of_ble_eq_true rfl, Nat.le_of_ble_eq_true rfl⟩) hR.sS (fun q _ h => hFc q h) hFc (fun r57 S58 t9 H1 locs ht9 hvm9 hw9 hB9 hz9 hk9 hS => ?_)
    obtain ⟨hq59, hw9, hs9, hz_r57⟩ := hw9
    have hR : RepC g ad A s S58 H1 locs := hR.call ht9 hB9 hw9 hS hFc
    have hsh := hsh.tr hs9
    replace h := h r57 S58 hq59 hw9 hs9
    clear hB9 hz9 hk9 hvm9 ht9 hw9 hs9 hS
    generalize H1 = H at hR ⊢
    exact W.zret (v := r57) hx hb hr (nz hz_r57) (fun t9 ht9 hW9 => ⟨⟨_, S58, rfl, ⟨h, hR.w, hsh, hz_r57⟩, ⟨by rw [ht9]; exact hR.P, hR.D⟩⟩, hR.sS.F ht9⟩) hR.sS.2.2 dX2_catchesHold_17
def w_X2_lookAt_J23 (Q : MS → Prop) (U23 : MS) (t23_0 : Int32) : Prop := (wfC U23 → (d_X7_u2 U23 t23_0 ∧ (∀ S4, S4 = wI U23 8 3 (fX7_u2 U23 t23_0) → qT U23 8 = 42 → wfC S4 → (d_X7_u2 S4 (t23_0 + (2 : Int32)) ∧ (∀ S9, S9 = wI S4 8 4 (fX7_u2 S4 (t23_0 + (2 : Int32))) → qT S4 8 = 42 → wfC S9 → (d_X7_s4 S9 (t23_0 + (4 : Int32)) ∧ (∀ S15, S15 = wI S9 8 2 (if (1200 : Int32) < (fX7_s4 S9 (t23_0 + (4 : Int32))) then (1200 : Int32) else (fX7_s4 S9 (t23_0 + (4 : Int32)))) → qT S9 8 = 42 → wfC S15 → (∀ S17, S17 = wI S15 8 1 (t23_0 + (8 : Int32)) → qT S15 8 = 42 → wfC S17 → (∀ S20, S20 = wI S17 8 5 (((qI S17 8 1) + (qI S17 8 2)) + (2 : Int32)) → qT S17 8 = 42 → wfC S20 → (d_X7_u2 S20 ((qI S20 8 1) + (qI S20 8 2)) ∧ (∀ S25, S25 = wI S20 8 6 (fX7_u2 S20 ((qI S20 8 1) + (qI S20 8 2))) → qT S20 8 = 42 → wfC S25 → Q S25)))))))))))
def w_X2_lookAt_J10 (Q : MS → Prop) (U10 : MS) : Prop := (wfC U10 → w_X2_lookAt_J23 Q U10 0)
def wX2_lookAt (S : MS) (x1 : Int32) (Q : MS → Prop) : Prop := ((x1.toInt < 0 → w_X2_lookAt_J10 Q S) ∧ (¬ x1.toInt < 0 → ((x1.toInt < 24 → (((0 : Int) ≤ x1.toInt ∧ x1.toInt < 24) ∧ w_X2_lookAt_J23 Q S (qI S 13 x1.toInt.toNat))) ∧ (¬ x1.toInt < 24 → w_X2_lookAt_J10 Q S))))
set_option maxHeartbeats 2000000 in
set_option maxRecDepth 100000 in
theorem rX2_lookAt (l : Launch) (g : Gr) (ad : Nat → Nat) (sz : Nat) (S : MS) (x1 : Int32) (hw : wfC S) (Q : MS → Prop) (h : wX2_lookAt S x1 Q) : Met l yX2_lookAt (wt yX2_lookAt cX2_lookAt 3 none) ({ frames := 1, cells := 0, slots := 0, locals := 21 }) (va_Pc [.ref (ad 8), .int x1] (st_C g ad sz S)) (va_Qv (fun (u : MS) => Q u ∧ wfC u ∧ shy S u) (fun (u : MS) (t : State) => qEC g ad (va_A (WdC g ad S) sz) u t) (va_A (WdC g ad S) sz)) 0 0 (va_A (WdC g ad S) sz) := by
  refine Met.ofW (cc := cX2_lookAt) (maxL := 3) (ret := none) (by decide) rfl ?_
  intro p e s m args below meth c s₁ B hml hv
  obtain ⟨rfl, hsz, hP, hK, hD0, hex, hE⟩ := hv
  have hx := B.exec
  have hb := B.bytes
  have hr := B.returns
  have hts0 := atoms_spec (ws := wt yX2_lookAt cX2_lookAt 3 none) B.pre
  have hts : ∀ w ∈ tb, w.before _ s = true := fun w h => hts0 w (List.mem_cons_of_mem _ h)
  have hown : s.vm.findClass RX2 = some m.cls := findClass_of_methodNamed B.named
  subst hsz
  have hD := hD0.self (sz := s.heap.size)
  generalize hAe : va_A (WdC g ad S) s.heap.size = A at hD hE ⊢
  have hA : ∀ q : Nat, s.heap.size ≤ q → A q := fun q h => by rw [← hAe]; exact Or.inr h
  have hR : RepC g ad A s S s.heap [] := ⟨hK, hP, hD, va_S.rf, hw⟩
  clear hK hP hD hD0
  have hl := lv_entry ([.ref (ad 8), .int x1]) (n := 3) (Nat.le_of_ble_eq_true rfl)
  rw [lg_entry_eq]
  generalize (lg_sl ([.ref (ad 8), .int x1]) ++ List.replicate (3 - (lg_sl ([.ref (ad 8), .int x1])).length) Slot.unset).toArray = ls at hl ⊢
  have hl : lv_has ls 3 [(0, .ref (ad 8)), (1, .int x1)] := hl
  have hsh : shy S S := shy.rf
  unfold wX2_lookAt at h
  refine lv_iload_n hx hb dX2_lookAt_0 rfl (lv_at hl 1 rfl) ?_
  have J_23 : ∀ (U23 : MS) (t23_0 : Int32) (H : Heap) (locs : List Loc) (ls : Array Slot), w_X2_lookAt_J23 Q U23 t23_0 → shy S U23 → RepC g ad A s U23 H locs → lv_has ls 3 [(0, .ref (ad 8))] → W p l e (headSpec (wt yX2_lookAt cX2_lookAt 3 none) ({ frames := 1, cells := 0, slots := 0, locals := 21 })).room s m ([.ref (ad 8), .int x1] : List Value).toArray below meth c H locs 0 0 (MQ below (va_Qv (fun (u : MS) => Q u ∧ wfC u ∧ shy S u) (fun (u : MS) (t : State) => qEC g ad A u t) A) ([.ref (ad 8), .int x1] : List Value).toArray s 0 0 A) (F0 m 23 ls [.int t23_0]) := by
    intro U23 t23_0 H locs ls h hsh hR hl
    unfold w_X2_lookAt_J23 at h
    replace h := h hR.w
    refine lv_istore_n (lv' := [(2, .int t23_0), (0, .ref (ad 8))]) hx hb dX2_lookAt_23 rfl hl (by decide) rfl (fun ls hl => ?_)
    refine lv_aload_n hx hb dX2_lookAt_24 rfl (lv_at hl 1 rfl) ?_
    refine lv_aload_n hx hb dX2_lookAt_25 rfl (lv_at hl 1 rfl) ?_
    refine va_get (D := rD g) (ci := 2) (v := .ref (ad 9)) (C := RX2) (T := TX2) (N := 12) hx hb hts inX2 hown hR.K hR.P 8 (hR.at42 (hR.w.2.1 _ finC_26).2.1) rfl 0 (by decide) (hts _ kw_632) (fun _ h9 => h9) (congrArg (fun z => some (vf ad z)) (hR.w.2.1 _ finC_2).1) dX2_lookAt_26 ?_
    refine lv_iload_n hx hb dX2_lookAt_29 rfl (lv_at hl 0 rfl) ?_
    obtain ⟨hv1, h⟩ := h
    have hFc := cfree hR hA
    refine va_calli (va_runV (As := [.int t23_0]) (rest := [.ref (ad 8)]) ⟨hx, hb, hml, hown, hts⟩ (rX7_u2 l g ad H.size U23 t23_0 hR.w  hv1) (cwV 1 hts (gd_V kw_651 kw_1450 kw_1451 kw_710 kw_1449) rfl rfl rfl (by decide +kernel) ⟨Nat.le_of_ble_eq_true rfl, Nat.le_of_ble_eq_true rfl⟩) ⟨cblind, va_recv hR.K hR.P (ci := 6) (q0 := 9) rfl (hR.at46 (hR.w.2.1 _ finC_2).2.1), fun U hU hW9 => cmk hU hW9 hR hex hE hFc⟩ rfl rfl hl.1 rfl (lv_room (Nat.le_of_ble_eq_true rfl)) dX2_lookAt_30 ⟨Nat.le_of_ble_eq_true rfl, Nat.le_of_ble_eq_true rfl⟩) hR.sS (fun q _ h => hFc q h) hFc (fun r2 u9 t9 H1 locs ht9 hvm9 hw9 hB9 hz9 hk9 hS => ?_)
    have hR : RepC g ad A s U23 H1 locs := hR.call ht9 hB9 hR.w hS hFc
    obtain rfl : r2 = (fX7_u2 U23 t23_0) := hw9
    clear hB9 hz9 hk9 hvm9 ht9 hS
    generalize H1 = H at hR ⊢
    refine va_put (D := rD g) (ci := 2) (v := .int (fX7_u2 U23 t23_0)) (ty := .int) (C := RX2) (T := TX2) (N := 12) hx hb hts inX2 tyX2 tyX2_ok nmX2 hown hR.K hR.P hR.D hR.sS 8 (hR.at42 (hR.w.2.1 _ finC_26).2.1) rfl 3 (by decide) (hts _ kw_741) (fun _ h9 => h9) rfl (by decide +kernel) rfl rfl (Nat.le_of_ble_eq_true rfl) dX2_lookAt_33 (fun H locs hP hD hS => ?_)
    have hTk9 : qT U23 8 = 42 := (hR.w.2.1 _ finC_26).2.1
    have hR : RepC g ad A s (wI U23 8 3 (fX7_u2 U23 t23_0)) H locs := hR.pI42 (hR.w.2.1 _ finC_26).2.1 FX2_s3 (fun q9 => absurd q9 (by decide)) hP hD hS
    obtain ⟨S4, eS4⟩ : ∃ z, z = wI U23 8 3 (fX7_u2 U23 t23_0) := ⟨_, rfl⟩
    rw [← eS4] at hR
    replace h := h S4 eS4 hTk9 hR.w
    have hsh : shy S S4 := by rw [eS4]; exact hsh
    refine lv_aload_n hx hb dX2_lookAt_36 rfl (lv_at hl 1 rfl) ?_
    refine lv_aload_n hx hb dX2_lookAt_37 rfl (lv_at hl 1 rfl) ?_
    refine va_get (D := rD g) (ci := 2) (v := .ref (ad 9)) (C := RX2) (T := TX2) (N := 12) hx hb hts inX2 hown hR.K hR.P 8 (hR.at42 (hR.w.2.1 _ finC_26).2.1) rfl 0 (by decide) (hts _ kw_632) (fun _ h9 => h9) (congrArg (fun z => some (vf ad z)) (hR.w.2.1 _ finC_2).1) dX2_lookAt_38 ?_
    refine lv_iload_n hx hb dX2_lookAt_41 rfl (lv_at hl 0 rfl) ?_
    refine lv_iconst (v := 2) hx hb dX2_lookAt_42 (by decide) ?_
    refine lv_iadd hx hb dX2_lookAt_43 ?_
    refine lv_topi (fun z5 ez5 => ?_)
    obtain rfl : z5 = (t23_0 + (2 : Int32)) := ez5
    obtain ⟨hv6, h⟩ := h
    have hFc := cfree hR hA
    refine va_calli (va_runV (As := [.int (t23_0 + (2 : Int32))]) (rest := [.ref (ad 8)]) ⟨hx, hb, hml, hown, hts⟩ (rX7_u2 l g ad H.size S4 (t23_0 + (2 : Int32)) hR.w  hv6) (cwV 1 hts (gd_V kw_651 kw_1450 kw_1451 kw_710 kw_1449) rfl rfl rfl (by decide +kernel) ⟨Nat.le_of_ble_eq_true rfl, Nat.le_of_ble_eq_true rfl⟩) ⟨cblind, va_recv hR.K hR.P (ci := 6) (q0 := 9) rfl (hR.at46 (hR.w.2.1 _ finC_2).2.1), fun U hU hW9 => cmk hU hW9 hR hex hE hFc⟩ rfl rfl hl.1 rfl (lv_room (Nat.le_of_ble_eq_true rfl)) dX2_lookAt_44 ⟨Nat.le_of_ble_eq_true rfl, Nat.le_of_ble_eq_true rfl⟩) hR.sS (fun q _ h => hFc q h) hFc (fun r7 u9 t9 H1 locs ht9 hvm9 hw9 hB9 hz9 hk9 hS => ?_)
    have hR : RepC g ad A s S4 H1 locs := hR.call ht9 hB9 hR.w hS hFc
    obtain rfl : r7 = (fX7_u2 S4 (t23_0 + (2 : Int32))) := hw9
    clear hB9 hz9 hk9 hvm9 ht9 hS
    generalize H1 = H at hR ⊢
    refine va_put (D := rD g) (ci := 2) (v := .int (fX7_u2 S4 (t23_0 + (2 : Int32)))) (ty := .int) (C := RX2) (T := TX2) (N := 12) hx hb hts inX2 tyX2 tyX2_ok nmX2 hown hR.K hR.P hR.D hR.sS 8 (hR.at42 (hR.w.2.1 _ finC_26).2.1) rfl 4 (by decide) (hts _ kw_742) (fun _ h9 => h9) rfl (by decide +kernel) rfl rfl (Nat.le_of_ble_eq_true rfl) dX2_lookAt_47 (fun H locs hP hD hS => ?_)
    have hTk9 : qT S4 8 = 42 := (hR.w.2.1 _ finC_26).2.1
    have hR : RepC g ad A s (wI S4 8 4 (fX7_u2 S4 (t23_0 + (2 : Int32)))) H locs := hR.pI42 (hR.w.2.1 _ finC_26).2.1 FX2_s4 (fun q9 => absurd q9 (by decide)) hP hD hS
    obtain ⟨S9, eS9⟩ : ∃ z, z = wI S4 8 4 (fX7_u2 S4 (t23_0 + (2 : Int32))) := ⟨_, rfl⟩
    rw [← eS9] at hR
    replace h := h S9 eS9 hTk9 hR.w
    have hsh : shy S S9 := by rw [eS9]; exact hsh
    refine lv_aload_n hx hb dX2_lookAt_50 rfl (lv_at hl 1 rfl) ?_
    refine lv_aload_n hx hb dX2_lookAt_51 rfl (lv_at hl 1 rfl) ?_
    refine va_get (D := rD g) (ci := 2) (v := .ref (ad 9)) (C := RX2) (T := TX2) (N := 12) hx hb hts inX2 hown hR.K hR.P 8 (hR.at42 (hR.w.2.1 _ finC_26).2.1) rfl 0 (by decide) (hts _ kw_632) (fun _ h9 => h9) (congrArg (fun z => some (vf ad z)) (hR.w.2.1 _ finC_2).1) dX2_lookAt_52 ?_
    refine lv_iload_n hx hb dX2_lookAt_55 rfl (lv_at hl 0 rfl) ?_
    refine lv_iconst (v := 4) hx hb dX2_lookAt_56 (by decide) ?_
    refine lv_iadd hx hb dX2_lookAt_57 ?_
    refine lv_topi (fun z10 ez10 => ?_)
    obtain rfl : z10 = (t23_0 + (4 : Int32)) := ez10
    obtain ⟨hv11, h⟩ := h
    have hFc := cfree hR hA
    refine va_calli (va_runV (As := [.int (t23_0 + (4 : Int32))]) (rest := [.ref (ad 8)]) ⟨hx, hb, hml, hown, hts⟩ (rX7_s4 l g ad H.size S9 (t23_0 + (4 : Int32)) hR.w  hv11) (cwV 1 hts (gd_V kw_634 kw_1429 kw_1430 kw_710 kw_1428) rfl rfl rfl (by decide +kernel) ⟨Nat.le_of_ble_eq_true rfl, Nat.le_of_ble_eq_true rfl⟩) ⟨cblind, va_recv hR.K hR.P (ci := 6) (q0 := 9) rfl (hR.at46 (hR.w.2.1 _ finC_2).2.1), fun U hU hW9 => cmk hU hW9 hR hex hE hFc⟩ rfl rfl hl.1 rfl (lv_room (Nat.le_of_ble_eq_true rfl)) dX2_lookAt_58 ⟨Nat.le_of_ble_eq_true rfl, Nat.le_of_ble_eq_true rfl⟩) hR.sS (fun q _ h => hFc q h) hFc (fun r12 u9 t9 H1 locs ht9 hvm9 hw9 hB9 hz9 hk9 hS => ?_)
    have hR : RepC g ad A s S9 H1 locs := hR.call ht9 hB9 hR.w hS hFc
    obtain rfl : r12 = (fX7_s4 S9 (t23_0 + (4 : Int32))) := hw9
    clear hB9 hz9 hk9 hvm9 ht9 hS
    generalize H1 = H at hR ⊢
    refine lv_sipush (v := 1200) hx hb dX2_lookAt_61 (by decide) ?_
    refine va_mmin hx hb (by rw [hml]; exact hl.1.symm) hown (hts _ kw_743) (hts _ kw_1750) (hts _ kw_1748) (hts _ kw_1749) (Nat.le_of_ble_eq_true rfl) (Nat.le_of_ble_eq_true rfl) (Nat.le_of_ble_eq_true rfl) (Nat.le_of_ble_eq_true rfl) dX2_lookAt_64 ?_
    refine lv_topi (fun z14 ez14 => ?_)
    obtain rfl : z14 = (if (1200 : Int32) < (fX7_s4 S9 (t23_0 + (4 : Int32))) then (1200 : Int32) else (fX7_s4 S9 (t23_0 + (4 : Int32)))) := ez14
    refine va_put (D := rD g) (ci := 2) (v := .int (if (1200 : Int32) < (fX7_s4 S9 (t23_0 + (4 : Int32))) then (1200 : Int32) else (fX7_s4 S9 (t23_0 + (4 : Int32))))) (ty := .int) (C := RX2) (T := TX2) (N := 12) hx hb hts inX2 tyX2 tyX2_ok nmX2 hown hR.K hR.P hR.D hR.sS 8 (hR.at42 (hR.w.2.1 _ finC_26).2.1) rfl 2 (by decide) (hts _ kw_716) (fun _ h9 => h9) rfl (by decide +kernel) rfl rfl (Nat.le_of_ble_eq_true rfl) dX2_lookAt_67 (fun H locs hP hD hS => ?_)
    have hTk9 : qT S9 8 = 42 := (hR.w.2.1 _ finC_26).2.1
    have hR : RepC g ad A s (wI S9 8 2 (if (1200 : Int32) < (fX7_s4 S9 (t23_0 + (4 : Int32))) then (1200 : Int32) else (fX7_s4 S9 (t23_0 + (4 : Int32))))) H locs := hR.pI42 (hR.w.2.1 _ finC_26).2.1 FX2_s2 (fun q9 => absurd q9 (by decide)) hP hD hS
    obtain ⟨S15, eS15⟩ : ∃ z, z = wI S9 8 2 (if (1200 : Int32) < (fX7_s4 S9 (t23_0 + (4 : Int32))) then (1200 : Int32) else (fX7_s4 S9 (t23_0 + (4 : Int32)))) := ⟨_, rfl⟩
    rw [← eS15] at hR
    replace h := h S15 eS15 hTk9 hR.w
    have hsh : shy S S15 := by rw [eS15]; exact hsh
    refine lv_aload_n hx hb dX2_lookAt_70 rfl (lv_at hl 1 rfl) ?_
    refine lv_iload_n hx hb dX2_lookAt_71 rfl (lv_at hl 0 rfl) ?_
    refine lv_bipush (v := 8) hx hb dX2_lookAt_72 (by decide) ?_
    refine lv_iadd hx hb dX2_lookAt_74 ?_
    refine lv_topi (fun z16 ez16 => ?_)
    obtain rfl : z16 = (t23_0 + (8 : Int32)) := ez16
    refine va_put (D := rD g) (ci := 2) (v := .int (t23_0 + (8 : Int32))) (ty := .int) (C := RX2) (T := TX2) (N := 12) hx hb hts inX2 tyX2 tyX2_ok nmX2 hown hR.K hR.P hR.D hR.sS 8 (hR.at42 (hR.w.2.1 _ finC_26).2.1) rfl 1 (by decide) (hts _ kw_718) (fun _ h9 => h9) rfl (by decide +kernel) rfl rfl (Nat.le_of_ble_eq_true rfl) dX2_lookAt_75 (fun H locs hP hD hS => ?_)
    have hTk9 : qT S15 8 = 42 := (hR.w.2.1 _ finC_26).2.1
    have hR : RepC g ad A s (wI S15 8 1 (t23_0 + (8 : Int32))) H locs := hR.pI42 (hR.w.2.1 _ finC_26).2.1 FX2_s1 (fun q9 => absurd q9 (by decide)) hP hD hS
    obtain ⟨S17, eS17⟩ : ∃ z, z = wI S15 8 1 (t23_0 + (8 : Int32)) := ⟨_, rfl⟩
    rw [← eS17] at hR
    replace h := h S17 eS17 hTk9 hR.w
    have hsh : shy S S17 := by rw [eS17]; exact hsh
    refine lv_aload_n hx hb dX2_lookAt_78 rfl (lv_at hl 1 rfl) ?_
    refine lv_aload_n hx hb dX2_lookAt_79 rfl (lv_at hl 1 rfl) ?_
    refine va_get (D := rD g) (ci := 2) (v := .int (qI S17 8 1)) (C := RX2) (T := TX2) (N := 12) hx hb hts inX2 hown hR.K hR.P 8 (hR.at42 (hR.w.2.1 _ finC_26).2.1) rfl 1 (by decide) (hts _ kw_718) (fun _ h9 => h9) rfl dX2_lookAt_80 ?_
    refine lv_aload_n hx hb dX2_lookAt_83 rfl (lv_at hl 1 rfl) ?_
    refine va_get (D := rD g) (ci := 2) (v := .int (qI S17 8 2)) (C := RX2) (T := TX2) (N := 12) hx hb hts inX2 hown hR.K hR.P 8 (hR.at42 (hR.w.2.1 _ finC_26).2.1) rfl 2 (by decide) (hts _ kw_716) (fun _ h9 => h9) rfl dX2_lookAt_84 ?_
    refine lv_iadd hx hb dX2_lookAt_87 ?_
    refine lv_topi (fun z18 ez18 => ?_)
    obtain rfl : z18 = ((qI S17 8 1) + (qI S17 8 2)) := ez18
    refine lv_iconst (v := 2) hx hb dX2_lookAt_88 (by decide) ?_
    refine lv_iadd hx hb dX2_lookAt_89 ?_
    refine lv_topi (fun z19 ez19 => ?_)
    obtain rfl : z19 = (((qI S17 8 1) + (qI S17 8 2)) + (2 : Int32)) := ez19
    refine va_put (D := rD g) (ci := 2) (v := .int (((qI S17 8 1) + (qI S17 8 2)) + (2 : Int32))) (ty := .int) (C := RX2) (T := TX2) (N := 12) hx hb hts inX2 tyX2 tyX2_ok nmX2 hown hR.K hR.P hR.D hR.sS 8 (hR.at42 (hR.w.2.1 _ finC_26).2.1) rfl 5 (by decide) (hts _ kw_744) (fun _ h9 => h9) rfl (by decide +kernel) rfl rfl (Nat.le_of_ble_eq_true rfl) dX2_lookAt_90 (fun H locs hP hD hS => ?_)
    have hTk9 : qT S17 8 = 42 := (hR.w.2.1 _ finC_26).2.1
    have hR : RepC g ad A s (wI S17 8 5 (((qI S17 8 1) + (qI S17 8 2)) + (2 : Int32))) H locs := hR.pI42 (hR.w.2.1 _ finC_26).2.1 FX2_s5 (fun q9 => absurd q9 (by decide)) hP hD hS
    obtain ⟨S20, eS20⟩ : ∃ z, z = wI S17 8 5 (((qI S17 8 1) + (qI S17 8 2)) + (2 : Int32)) := ⟨_, rfl⟩
    rw [← eS20] at hR
    replace h := h S20 eS20 hTk9 hR.w
    have hsh : shy S S20 := by rw [eS20]; exact hsh
    refine lv_aload_n hx hb dX2_lookAt_93 rfl (lv_at hl 1 rfl) ?_
    refine lv_aload_n hx hb dX2_lookAt_94 rfl (lv_at hl 1 rfl) ?_
    refine va_get (D := rD g) (ci := 2) (v := .ref (ad 9)) (C := RX2) (T := TX2) (N := 12) hx hb hts inX2 hown hR.K hR.P 8 (hR.at42 (hR.w.2.1 _ finC_26).2.1) rfl 0 (by decide) (hts _ kw_632) (fun _ h9 => h9) (congrArg (fun z => some (vf ad z)) (hR.w.2.1 _ finC_2).1) dX2_lookAt_95 ?_
    refine lv_aload_n hx hb dX2_lookAt_98 rfl (lv_at hl 1 rfl) ?_
    refine va_get (D := rD g) (ci := 2) (v := .int (qI S20 8 1)) (C := RX2) (T := TX2) (N := 12) hx hb hts inX2 hown hR.K hR.P 8 (hR.at42 (hR.w.2.1 _ finC_26).2.1) rfl 1 (by decide) (hts _ kw_718) (fun _ h9 => h9) rfl dX2_lookAt_99 ?_
    refine lv_aload_n hx hb dX2_lookAt_102 rfl (lv_at hl 1 rfl) ?_
    refine va_get (D := rD g) (ci := 2) (v := .int (qI S20 8 2)) (C := RX2) (T := TX2) (N := 12) hx hb hts inX2 hown hR.K hR.P 8 (hR.at42 (hR.w.2.1 _ finC_26).2.1) rfl 2 (by decide) (hts _ kw_716) (fun _ h9 => h9) rfl dX2_lookAt_103 ?_
    refine lv_iadd hx hb dX2_lookAt_106 ?_
    refine lv_topi (fun z21 ez21 => ?_)
    obtain rfl : z21 = ((qI S20 8 1) + (qI S20 8 2)) := ez21
    obtain ⟨hv22, h⟩ := h
    have hFc := cfree hR hA
    refine va_calli (va_runV (As := [.int ((qI S20 8 1) + (qI S20 8 2))]) (rest := [.ref (ad 8)]) ⟨hx, hb, hml, hown, hts⟩ (rX7_u2 l g ad H.size S20 ((qI S20 8 1) + (qI S20 8 2)) hR.w  hv22) (cwV 1 hts (gd_V kw_651 kw_1450 kw_1451 kw_710 kw_1449) rfl rfl rfl (by decide +kernel) ⟨Nat.le_of_ble_eq_true rfl, Nat.le_of_ble_eq_true rfl⟩) ⟨cblind, va_recv hR.K hR.P (ci := 6) (q0 := 9) rfl (hR.at46 (hR.w.2.1 _ finC_2).2.1), fun U hU hW9 => cmk hU hW9 hR hex hE hFc⟩ rfl rfl hl.1 rfl (lv_room (Nat.le_of_ble_eq_true rfl)) dX2_lookAt_107 ⟨Nat.le_of_ble_eq_true rfl, Nat.le_of_ble_eq_true rfl⟩) hR.sS (fun q _ h => hFc q h) hFc (fun r23 u9 t9 H1 locs ht9 hvm9 hw9 hB9 hz9 hk9 hS => ?_)
    have hR : RepC g ad A s S20 H1 locs := hR.call ht9 hB9 hR.w hS hFc
    obtain rfl : r23 = (fX7_u2 S20 ((qI S20 8 1) + (qI S20 8 2))) := hw9
    clear hB9 hz9 hk9 hvm9 ht9 hS
    generalize H1 = H at hR ⊢
    refine va_put (D := rD g) (ci := 2) (v := .int (fX7_u2 S20 ((qI S20 8 1) + (qI S20 8 2)))) (ty := .int) (C := RX2) (T := TX2) (N := 12) hx hb hts inX2 tyX2 tyX2_ok nmX2 hown hR.K hR.P hR.D hR.sS 8 (hR.at42 (hR.w.2.1 _ finC_26).2.1) rfl 6 (by decide) (hts _ kw_745) (fun _ h9 => h9) rfl (by decide +kernel) rfl rfl (Nat.le_of_ble_eq_true rfl) dX2_lookAt_110 (fun H locs hP hD hS => ?_)
    have hTk9 : qT S20 8 = 42 := (hR.w.2.1 _ finC_26).2.1
    have hR : RepC g ad A s (wI S20 8 6 (fX7_u2 S20 ((qI S20 8 1) + (qI S20 8 2)))) H locs := hR.pI42 (hR.w.2.1 _ finC_26).2.1 FX2_s6 (fun q9 => absurd q9 (by decide)) hP hD hS
    obtain ⟨S25, eS25⟩ : ∃ z, z = wI S20 8 6 (fX7_u2 S20 ((qI S20 8 1) + (qI S20 8 2))) := ⟨_, rfl⟩
    rw [← eS25] at hR
    replace h := h S25 eS25 hTk9 hR.w
    have hsh : shy S S25 := by rw [eS25]; exact hsh
    exact W.vret hx hb hr (fun t9 ht9 hW9 => ⟨⟨S25, rfl, ⟨h, hR.w, hsh⟩, ⟨by rw [ht9]; exact hR.P, hR.D⟩⟩, hR.sS.F ht9⟩) hR.sS.2.2 dX2_lookAt_113
  have J_10 : ∀ (U10 : MS) (H : Heap) (locs : List Loc) (ls : Array Slot), w_X2_lookAt_J10 Q U10 → shy S U10 → RepC g ad A s U10 H locs → lv_has ls 3 [(0, .ref (ad 8))] → W p l e (headSpec (wt yX2_lookAt cX2_lookAt 3 none) ({ frames := 1, cells := 0, slots := 0, locals := 21 })).room s m ([.ref (ad 8), .int x1] : List Value).toArray below meth c H locs 0 0 (MQ below (va_Qv (fun (u : MS) => Q u ∧ wfC u ∧ shy S u) (fun (u : MS) (t : State) => qEC g ad A u t) A) ([.ref (ad 8), .int x1] : List Value).toArray s 0 0 A) (F0 m 10 ls []) := by
    intro U10 H locs ls h hsh hR hl
    unfold w_X2_lookAt_J10 at h
    replace h := h hR.w
    refine lv_iconst (v := 0) hx hb dX2_lookAt_10 (by decide) ?_
    refine lv_goto (tgt := 23) hx hb dX2_lookAt_11 (by decide) ?_
    exact J_23 U10 0 _ _ ls h  hsh hR (lv_sub hl [0] rfl)
  refine lv_if_lt (tgt := 10) hx hb dX2_lookAt_1 (by decide) (fun c26 => ?_) (fun c26 => ?_)
  · replace h := h.1 (k_lt rfl (by decide) c26)
    exact J_10 S _ _ ls h  hsh hR (lv_sub hl [0] rfl)
  · replace h := h.2 (k_nlt rfl (by decide) c26)
    refine lv_iload_n hx hb dX2_lookAt_4 rfl (lv_at hl 1 rfl) ?_
    refine lv_bipush (v := 24) hx hb dX2_lookAt_5 (by decide) ?_
    refine lv_icmp_lt (tgt := 14) hx hb dX2_lookAt_7 (by decide) (fun c27 => ?_) (fun c27 => ?_)
    · replace h := h.1 (k_lt rfl (by decide) c27)
      refine lv_aload_n hx hb dX2_lookAt_14 rfl (lv_at hl 0 rfl) ?_
      refine va_get (D := rD g) (ci := 2) (v := .ref (ad 9)) (C := RX2) (T := TX2) (N := 12) hx hb hts inX2 hown hR.K hR.P 8 (hR.at42 (hR.w.2.1 _ finC_26).2.1) rfl 0 (by decide) (hts _ kw_632) (fun _ h9 => h9) (congrArg (fun z => some (vf ad z)) (hR.w.2.1 _ finC_2).1) dX2_lookAt_15 ?_
      refine va_get (D := rD g) (ci := 6) (v := .ref (ad 13)) (C := RX7) (T := TX7) (N := 17) hx hb hts inX7 hown hR.K hR.P 9 (hR.at46 (hR.w.2.1 _ finC_2).2.1) rfl 10 (by decide) (hts _ kw_731) (fun _ h9 => h9) (congrArg (fun z => some (vf ad z)) (hR.w.2.1 _ finC_9).1) dX2_lookAt_18 ?_
      refine lv_iload_n hx hb dX2_lookAt_21 rfl (lv_at hl 1 rfl) ?_
      obtain ⟨hv28, h⟩ := h
      refine va_iald hx hb hR.K hR.P 13 1 (hR.atI (hR.w.2.1 _ finC_9).2.1 (by decide)) rfl (k_ixN (k_ix (n := 24) (x := x1) (a := x1.toInt) rfl hv28) (hR.w.2.1 _ finC_9).2.2) dX2_lookAt_22 ?_
      refine lv_topi (fun z29 ez29 => ?_)
      obtain rfl : z29 = (qI S 13 x1.toInt.toNat) := ez29
      exact J_23 S (qI S 13 x1.toInt.toNat) _ _ ls h  hsh hR (lv_sub hl [0] rfl)
    · replace h := h.2 (k_nlt rfl (by decide) c27)
      exact J_10 S _ _ ls h  hsh hR (lv_sub hl [0] rfl)
def f_X2_u1_J12 (S : MS) : Int32 := (0 : Int32)
def d_X2_u1_J12 (S : MS) : Prop := True
def fX2_u1 (S : MS) (x1 : Int32) : Int32 := (if x1.toInt < 0 then f_X2_u1_J12 S else (if x1.toInt < (qI S 8 2).toInt then (fX7_u1 S ((qI S 8 1) + x1)) else f_X2_u1_J12 S))
def d_X2_u1 (S : MS) (x1 : Int32) : Prop := (if x1.toInt < 0 then d_X2_u1_J12 S else (if x1.toInt < (qI S 8 2).toInt then (d_X7_u1 S ((qI S 8 1) + x1) ∧ True) else d_X2_u1_J12 S))
set_option maxHeartbeats 2000000 in
set_option maxRecDepth 100000 in
theorem rX2_u1 (l : Launch) (g : Gr) (ad : Nat → Nat) (sz : Nat) (S : MS) (x1 : Int32) (hw : wfC S) (hd : d_X2_u1 S x1) : Met l yX2_u1 (wt yX2_u1 cX2_u1 2 (some .int)) ({ frames := 1, cells := 0, slots := 0, locals := 21 }) (va_Pc [.ref (ad 8), .int x1] (st_C g ad sz S)) (va_Qi (fun (r : Int32) (_ : Unit) => r = fX2_u1 S x1) (fun (_ : Unit) (t : State) => qEC g ad (va_A (WdC g ad S) sz) S t) (va_A (WdC g ad S) sz)) 0 0 (va_A (WdC g ad S) sz) := by
  refine Met.ofW (cc := cX2_u1) (maxL := 2) (ret := (some .int)) (by decide) rfl ?_
  intro p e s m args below meth c s₁ B hml hv
  obtain ⟨rfl, hsz, hP, hK, hD0, hex, hE⟩ := hv
  have hx := B.exec
  have hb := B.bytes
  have hr := B.returns
  have hts0 := atoms_spec (ws := wt yX2_u1 cX2_u1 2 (some .int)) B.pre
  have hts : ∀ w ∈ tb, w.before _ s = true := fun w h => hts0 w (List.mem_cons_of_mem _ h)
  have hown : s.vm.findClass RX2 = some m.cls := findClass_of_methodNamed B.named
  subst hsz
  have hD := hD0.self (sz := s.heap.size)
  generalize hAe : va_A (WdC g ad S) s.heap.size = A at hD hE ⊢
  have hA : ∀ q : Nat, s.heap.size ≤ q → A q := fun q h => by rw [← hAe]; exact Or.inr h
  have hR : RepC g ad A s S s.heap [] := ⟨hK, hP, hD, va_S.rf, hw⟩
  clear hK hP hD hD0
  have hl := lv_entry ([.ref (ad 8), .int x1]) (n := 2) (Nat.le_of_ble_eq_true rfl)
  rw [lg_entry_eq]
  generalize (lg_sl ([.ref (ad 8), .int x1]) ++ List.replicate (2 - (lg_sl ([.ref (ad 8), .int x1])).length) Slot.unset).toArray = ls at hl ⊢
  have hl : lv_has ls 2 [(0, .ref (ad 8)), (1, .int x1)] := hl
  obtain ⟨r0, hf⟩ : ∃ r0, fX2_u1 S x1 = r0 := ⟨_, rfl⟩
  have hf0 := hf
  unfold fX2_u1 at hf
  unfold d_X2_u1 at hd
  refine lv_iload_n hx hb dX2_u1_0 rfl (lv_at hl 1 rfl) ?_
  have J_12 : ∀ (H : Heap) (locs : List Loc) (ls : Array Slot), d_X2_u1_J12 S → f_X2_u1_J12 S = r0 → RepC g ad A s S H locs → lv_has ls 2 [] → W p l e (headSpec (wt yX2_u1 cX2_u1 2 (some .int)) ({ frames := 1, cells := 0, slots := 0, locals := 21 })).room s m ([.ref (ad 8), .int x1] : List Value).toArray below meth c H locs 0 0 (MQ below (va_Qi (fun (r : Int32) (_ : Unit) => r = fX2_u1 S x1) (fun (_ : Unit) (t : State) => qEC g ad A S t) A) ([.ref (ad 8), .int x1] : List Value).toArray s 0 0 A) (F0 m 12 ls []) := by
    intro H locs ls hd hf hR hl
    unfold d_X2_u1_J12 at hd
    unfold f_X2_u1_J12 at hf
    refine lv_iconst (v := 0) hx hb dX2_u1_12 (by decide) ?_
    refine lv_goto (tgt := 29) hx hb dX2_u1_13 (by decide) ?_
    exact W.iret (v := 0) hx hb hr (fun t9 ht9 hW9 => ⟨⟨_, (), rfl, hf.trans hf0.symm, ⟨by rw [ht9]; exact hR.P, hR.D⟩⟩, hR.sS.F ht9⟩) hR.sS.2.2 dX2_u1_29
  refine lv_if_lt (tgt := 12) hx hb dX2_u1_1 (by decide) (fun c1 => ?_) (fun c1 => ?_)
  · rw [if_pos (k_lt rfl (by decide) c1)] at hf
    (try rw [if_pos (k_lt rfl (by decide) c1)] at hd)
    exact J_12 _ _ ls hd hf  hR (lv_sub hl [] rfl)
  · rw [if_neg (k_nlt rfl (by decide) c1)] at hf
    (try rw [if_neg (k_nlt rfl (by decide) c1)] at hd)
    refine lv_iload_n hx hb dX2_u1_4 rfl (lv_at hl 1 rfl) ?_
    refine lv_aload_n hx hb dX2_u1_5 rfl (lv_at hl 0 rfl) ?_
    refine va_get (D := rD g) (ci := 2) (v := .int (qI S 8 2)) (C := RX2) (T := TX2) (N := 12) hx hb hts inX2 hown hR.K hR.P 8 (hR.at42 (hR.w.2.1 _ finC_26).2.1) rfl 2 (by decide) (hts _ kw_716) (fun _ h9 => h9) rfl dX2_u1_6 ?_
    refine lv_icmp_lt (tgt := 16) hx hb dX2_u1_9 (by decide) (fun c2 => ?_) (fun c2 => ?_)
    · rw [if_pos (k_lt rfl rfl c2)] at hf
      (try rw [if_pos (k_lt rfl rfl c2)] at hd)
      refine lv_aload_n hx hb dX2_u1_16 rfl (lv_at hl 0 rfl) ?_
      refine va_get (D := rD g) (ci := 2) (v := .ref (ad 9)) (C := RX2) (T := TX2) (N := 12) hx hb hts inX2 hown hR.K hR.P 8 (hR.at42 (hR.w.2.1 _ finC_26).2.1) rfl 0 (by decide) (hts _ kw_632) (fun _ h9 => h9) (congrArg (fun z => some (vf ad z)) (hR.w.2.1 _ finC_2).1) dX2_u1_17 ?_
      refine lv_aload_n hx hb dX2_u1_20 rfl (lv_at hl 0 rfl) ?_
      refine va_get (D := rD g) (ci := 2) (v := .int (qI S 8 1)) (C := RX2) (T := TX2) (N := 12) hx hb hts inX2 hown hR.K hR.P 8 (hR.at42 (hR.w.2.1 _ finC_26).2.1) rfl 1 (by decide) (hts _ kw_718) (fun _ h9 => h9) rfl dX2_u1_21 ?_
      refine lv_iload_n hx hb dX2_u1_24 rfl (lv_at hl 1 rfl) ?_
      refine lv_iadd hx hb dX2_u1_25 ?_
      refine lv_topi (fun z3 ez3 => ?_)
      obtain rfl : z3 = ((qI S 8 1) + x1) := ez3
      obtain ⟨hv4, hd⟩ := hd
      have hFc := cfree hR hA
      refine va_calli (va_runV (As := [.int ((qI S 8 1) + x1)]) (rest := []) ⟨hx, hb, hml, hown, hts⟩ (rX7_u1 l g ad s.heap.size S ((qI S 8 1) + x1) hR.w  hv4) (cwV 1 hts (gd_V kw_814 kw_1447 kw_1448 kw_710 kw_1446) rfl rfl rfl (by decide +kernel) ⟨Nat.le_of_ble_eq_true rfl, Nat.le_of_ble_eq_true rfl⟩) ⟨cblind, va_recv hR.K hR.P (ci := 6) (q0 := 9) rfl (hR.at46 (hR.w.2.1 _ finC_2).2.1), fun U hU hW9 => cmk hU hW9 hR hex hE hFc⟩ rfl rfl hl.1 rfl (lv_room (Nat.le_of_ble_eq_true rfl)) dX2_u1_26 ⟨Nat.le_of_ble_eq_true rfl, Nat.le_of_ble_eq_true rfl⟩) hR.sS (fun q _ h => hFc q h) hFc (fun r5 u9 t9 H1 locs ht9 hvm9 hw9 hB9 hz9 hk9 hS => ?_)
      have hR : RepC g ad A s S H1 locs := hR.call ht9 hB9 hR.w hS hFc
      obtain rfl : r5 = (fX7_u1 S ((qI S 8 1) + x1)) := hw9
      clear hB9 hz9 hk9 hvm9 ht9 hS
      generalize H1 = H at hR ⊢
      exact W.iret (v := (fX7_u1 S ((qI S 8 1) + x1))) hx hb hr (fun t9 ht9 hW9 => ⟨⟨_, (), rfl, hf.trans hf0.symm, ⟨by rw [ht9]; exact hR.P, hR.D⟩⟩, hR.sS.F ht9⟩) hR.sS.2.2 dX2_u1_29
    · rw [if_neg (k_nlt rfl rfl c2)] at hf
      (try rw [if_neg (k_nlt rfl rfl c2)] at hd)
      exact J_12 _ _ ls hd hf  hR (lv_sub hl [] rfl)
def f_X2_u2_J14 (S : MS) : Int32 := (0 : Int32)
def d_X2_u2_J14 (S : MS) : Prop := True
def fX2_u2 (S : MS) (x1 : Int32) : Int32 := (if x1.toInt < 0 then f_X2_u2_J14 S else (if x1.toInt ≤ ((qI S 8 2) - (2 : Int32)).toInt then (fX7_u2 S ((qI S 8 1) + x1)) else f_X2_u2_J14 S))
def d_X2_u2 (S : MS) (x1 : Int32) : Prop := (if x1.toInt < 0 then d_X2_u2_J14 S else (if x1.toInt ≤ ((qI S 8 2) - (2 : Int32)).toInt then (d_X7_u2 S ((qI S 8 1) + x1) ∧ True) else d_X2_u2_J14 S))
set_option maxHeartbeats 2000000 in
set_option maxRecDepth 100000 in
theorem rX2_u2 (l : Launch) (g : Gr) (ad : Nat → Nat) (sz : Nat) (S : MS) (x1 : Int32) (hw : wfC S) (hd : d_X2_u2 S x1) : Met l yX2_u2 (wt yX2_u2 cX2_u2 2 (some .int)) ({ frames := 1, cells := 0, slots := 0, locals := 21 }) (va_Pc [.ref (ad 8), .int x1] (st_C g ad sz S)) (va_Qi (fun (r : Int32) (_ : Unit) => r = fX2_u2 S x1) (fun (_ : Unit) (t : State) => qEC g ad (va_A (WdC g ad S) sz) S t) (va_A (WdC g ad S) sz)) 0 0 (va_A (WdC g ad S) sz) := by
  refine Met.ofW (cc := cX2_u2) (maxL := 2) (ret := (some .int)) (by decide) rfl ?_
  intro p e s m args below meth c s₁ B hml hv
  obtain ⟨rfl, hsz, hP, hK, hD0, hex, hE⟩ := hv
  have hx := B.exec
  have hb := B.bytes
  have hr := B.returns
  have hts0 := atoms_spec (ws := wt yX2_u2 cX2_u2 2 (some .int)) B.pre
  have hts : ∀ w ∈ tb, w.before _ s = true := fun w h => hts0 w (List.mem_cons_of_mem _ h)
  have hown : s.vm.findClass RX2 = some m.cls := findClass_of_methodNamed B.named
  subst hsz
  have hD := hD0.self (sz := s.heap.size)
  generalize hAe : va_A (WdC g ad S) s.heap.size = A at hD hE ⊢
  have hA : ∀ q : Nat, s.heap.size ≤ q → A q := fun q h => by rw [← hAe]; exact Or.inr h
  have hR : RepC g ad A s S s.heap [] := ⟨hK, hP, hD, va_S.rf, hw⟩
  clear hK hP hD hD0
  have hl := lv_entry ([.ref (ad 8), .int x1]) (n := 2) (Nat.le_of_ble_eq_true rfl)
  rw [lg_entry_eq]
  generalize (lg_sl ([.ref (ad 8), .int x1]) ++ List.replicate (2 - (lg_sl ([.ref (ad 8), .int x1])).length) Slot.unset).toArray = ls at hl ⊢
  have hl : lv_has ls 2 [(0, .ref (ad 8)), (1, .int x1)] := hl
  obtain ⟨r0, hf⟩ : ∃ r0, fX2_u2 S x1 = r0 := ⟨_, rfl⟩
  have hf0 := hf
  unfold fX2_u2 at hf
  unfold d_X2_u2 at hd
  refine lv_iload_n hx hb dX2_u2_0 rfl (lv_at hl 1 rfl) ?_
  have J_14 : ∀ (H : Heap) (locs : List Loc) (ls : Array Slot), d_X2_u2_J14 S → f_X2_u2_J14 S = r0 → RepC g ad A s S H locs → lv_has ls 2 [] → W p l e (headSpec (wt yX2_u2 cX2_u2 2 (some .int)) ({ frames := 1, cells := 0, slots := 0, locals := 21 })).room s m ([.ref (ad 8), .int x1] : List Value).toArray below meth c H locs 0 0 (MQ below (va_Qi (fun (r : Int32) (_ : Unit) => r = fX2_u2 S x1) (fun (_ : Unit) (t : State) => qEC g ad A S t) A) ([.ref (ad 8), .int x1] : List Value).toArray s 0 0 A) (F0 m 14 ls []) := by
    intro H locs ls hd hf hR hl
    unfold d_X2_u2_J14 at hd
    unfold f_X2_u2_J14 at hf
    refine lv_iconst (v := 0) hx hb dX2_u2_14 (by decide) ?_
    refine lv_goto (tgt := 31) hx hb dX2_u2_15 (by decide) ?_
    exact W.iret (v := 0) hx hb hr (fun t9 ht9 hW9 => ⟨⟨_, (), rfl, hf.trans hf0.symm, ⟨by rw [ht9]; exact hR.P, hR.D⟩⟩, hR.sS.F ht9⟩) hR.sS.2.2 dX2_u2_31
  refine lv_if_lt (tgt := 14) hx hb dX2_u2_1 (by decide) (fun c1 => ?_) (fun c1 => ?_)
  · rw [if_pos (k_lt rfl (by decide) c1)] at hf
    (try rw [if_pos (k_lt rfl (by decide) c1)] at hd)
    exact J_14 _ _ ls hd hf  hR (lv_sub hl [] rfl)
  · rw [if_neg (k_nlt rfl (by decide) c1)] at hf
    (try rw [if_neg (k_nlt rfl (by decide) c1)] at hd)
    refine lv_iload_n hx hb dX2_u2_4 rfl (lv_at hl 1 rfl) ?_
    refine lv_aload_n hx hb dX2_u2_5 rfl (lv_at hl 0 rfl) ?_
    refine va_get (D := rD g) (ci := 2) (v := .int (qI S 8 2)) (C := RX2) (T := TX2) (N := 12) hx hb hts inX2 hown hR.K hR.P 8 (hR.at42 (hR.w.2.1 _ finC_26).2.1) rfl 2 (by decide) (hts _ kw_716) (fun _ h9 => h9) rfl dX2_u2_6 ?_
    refine lv_iconst (v := 2) hx hb dX2_u2_9 (by decide) ?_
    refine lv_isub hx hb dX2_u2_10 ?_
    refine lv_topi (fun z2 ez2 => ?_)
    obtain rfl : z2 = ((qI S 8 2) - (2 : Int32)) := ez2
    refine lv_icmp_le (tgt := 18) hx hb dX2_u2_11 (by decide) (fun c3 => ?_) (fun c3 => ?_)
    · rw [if_pos (k_le rfl rfl c3)] at hf
      (try rw [if_pos (k_le rfl rfl c3)] at hd)
      refine lv_aload_n hx hb dX2_u2_18 rfl (lv_at hl 0 rfl) ?_
      refine va_get (D := rD g) (ci := 2) (v := .ref (ad 9)) (C := RX2) (T := TX2) (N := 12) hx hb hts inX2 hown hR.K hR.P 8 (hR.at42 (hR.w.2.1 _ finC_26).2.1) rfl 0 (by decide) (hts _ kw_632) (fun _ h9 => h9) (congrArg (fun z => some (vf ad z)) (hR.w.2.1 _ finC_2).1) dX2_u2_19 ?_
      refine lv_aload_n hx hb dX2_u2_22 rfl (lv_at hl 0 rfl) ?_
      refine va_get (D := rD g) (ci := 2) (v := .int (qI S 8 1)) (C := RX2) (T := TX2) (N := 12) hx hb hts inX2 hown hR.K hR.P 8 (hR.at42 (hR.w.2.1 _ finC_26).2.1) rfl 1 (by decide) (hts _ kw_718) (fun _ h9 => h9) rfl dX2_u2_23 ?_
      refine lv_iload_n hx hb dX2_u2_26 rfl (lv_at hl 1 rfl) ?_
      refine lv_iadd hx hb dX2_u2_27 ?_
      refine lv_topi (fun z4 ez4 => ?_)
      obtain rfl : z4 = ((qI S 8 1) + x1) := ez4
      obtain ⟨hv5, hd⟩ := hd
      have hFc := cfree hR hA
      refine va_calli (va_runV (As := [.int ((qI S 8 1) + x1)]) (rest := []) ⟨hx, hb, hml, hown, hts⟩ (rX7_u2 l g ad s.heap.size S ((qI S 8 1) + x1) hR.w  hv5) (cwV 1 hts (gd_V kw_651 kw_1450 kw_1451 kw_710 kw_1449) rfl rfl rfl (by decide +kernel) ⟨Nat.le_of_ble_eq_true rfl, Nat.le_of_ble_eq_true rfl⟩) ⟨cblind, va_recv hR.K hR.P (ci := 6) (q0 := 9) rfl (hR.at46 (hR.w.2.1 _ finC_2).2.1), fun U hU hW9 => cmk hU hW9 hR hex hE hFc⟩ rfl rfl hl.1 rfl (lv_room (Nat.le_of_ble_eq_true rfl)) dX2_u2_28 ⟨Nat.le_of_ble_eq_true rfl, Nat.le_of_ble_eq_true rfl⟩) hR.sS (fun q _ h => hFc q h) hFc (fun r6 u9 t9 H1 locs ht9 hvm9 hw9 hB9 hz9 hk9 hS => ?_)
      have hR : RepC g ad A s S H1 locs := hR.call ht9 hB9 hR.w hS hFc
      obtain rfl : r6 = (fX7_u2 S ((qI S 8 1) + x1)) := hw9
      clear hB9 hz9 hk9 hvm9 ht9 hS
      generalize H1 = H at hR ⊢
      exact W.iret (v := (fX7_u2 S ((qI S 8 1) + x1))) hx hb hr (fun t9 ht9 hW9 => ⟨⟨_, (), rfl, hf.trans hf0.symm, ⟨by rw [ht9]; exact hR.P, hR.D⟩⟩, hR.sS.F ht9⟩) hR.sS.2.2 dX2_u2_31
    · rw [if_neg (k_nle rfl rfl c3)] at hf
      (try rw [if_neg (k_nle rfl rfl c3)] at hd)
      exact J_14 _ _ ls hd hf  hR (lv_sub hl [] rfl)
def f_X2_s4_J14 (S : MS) : Int32 := (0 : Int32)
def d_X2_s4_J14 (S : MS) : Prop := True
def fX2_s4 (S : MS) (x1 : Int32) : Int32 := (if x1.toInt < 0 then f_X2_s4_J14 S else (if x1.toInt ≤ ((qI S 8 2) - (4 : Int32)).toInt then (fX7_s4 S ((qI S 8 1) + x1)) else f_X2_s4_J14 S))
def d_X2_s4 (S : MS) (x1 : Int32) : Prop := (if x1.toInt < 0 then d_X2_s4_J14 S else (if x1.toInt ≤ ((qI S 8 2) - (4 : Int32)).toInt then (d_X7_s4 S ((qI S 8 1) + x1) ∧ True) else d_X2_s4_J14 S))
set_option maxHeartbeats 2000000 in
set_option maxRecDepth 100000 in
theorem rX2_s4 (l : Launch) (g : Gr) (ad : Nat → Nat) (sz : Nat) (S : MS) (x1 : Int32) (hw : wfC S) (hd : d_X2_s4 S x1) : Met l yX2_s4 (wt yX2_s4 cX2_s4 2 (some .int)) ({ frames := 1, cells := 0, slots := 0, locals := 21 }) (va_Pc [.ref (ad 8), .int x1] (st_C g ad sz S)) (va_Qi (fun (r : Int32) (_ : Unit) => r = fX2_s4 S x1) (fun (_ : Unit) (t : State) => qEC g ad (va_A (WdC g ad S) sz) S t) (va_A (WdC g ad S) sz)) 0 0 (va_A (WdC g ad S) sz) := by
  refine Met.ofW (cc := cX2_s4) (maxL := 2) (ret := (some .int)) (by decide) rfl ?_
  intro p e s m args below meth c s₁ B hml hv
  obtain ⟨rfl, hsz, hP, hK, hD0, hex, hE⟩ := hv
  have hx := B.exec
  have hb := B.bytes
  have hr := B.returns
  have hts0 := atoms_spec (ws := wt yX2_s4 cX2_s4 2 (some .int)) B.pre
  have hts : ∀ w ∈ tb, w.before _ s = true := fun w h => hts0 w (List.mem_cons_of_mem _ h)
  have hown : s.vm.findClass RX2 = some m.cls := findClass_of_methodNamed B.named
  subst hsz
  have hD := hD0.self (sz := s.heap.size)
  generalize hAe : va_A (WdC g ad S) s.heap.size = A at hD hE ⊢
  have hA : ∀ q : Nat, s.heap.size ≤ q → A q := fun q h => by rw [← hAe]; exact Or.inr h
  have hR : RepC g ad A s S s.heap [] := ⟨hK, hP, hD, va_S.rf, hw⟩
  clear hK hP hD hD0
  have hl := lv_entry ([.ref (ad 8), .int x1]) (n := 2) (Nat.le_of_ble_eq_true rfl)
  rw [lg_entry_eq]
  generalize (lg_sl ([.ref (ad 8), .int x1]) ++ List.replicate (2 - (lg_sl ([.ref (ad 8), .int x1])).length) Slot.unset).toArray = ls at hl ⊢
  have hl : lv_has ls 2 [(0, .ref (ad 8)), (1, .int x1)] := hl
  obtain ⟨r0, hf⟩ : ∃ r0, fX2_s4 S x1 = r0 := ⟨_, rfl⟩
  have hf0 := hf
  unfold fX2_s4 at hf
  unfold d_X2_s4 at hd
  refine lv_iload_n hx hb dX2_s4_0 rfl (lv_at hl 1 rfl) ?_
  have J_14 : ∀ (H : Heap) (locs : List Loc) (ls : Array Slot), d_X2_s4_J14 S → f_X2_s4_J14 S = r0 → RepC g ad A s S H locs → lv_has ls 2 [] → W p l e (headSpec (wt yX2_s4 cX2_s4 2 (some .int)) ({ frames := 1, cells := 0, slots := 0, locals := 21 })).room s m ([.ref (ad 8), .int x1] : List Value).toArray below meth c H locs 0 0 (MQ below (va_Qi (fun (r : Int32) (_ : Unit) => r = fX2_s4 S x1) (fun (_ : Unit) (t : State) => qEC g ad A S t) A) ([.ref (ad 8), .int x1] : List Value).toArray s 0 0 A) (F0 m 14 ls []) := by
    intro H locs ls hd hf hR hl
    unfold d_X2_s4_J14 at hd
    unfold f_X2_s4_J14 at hf
    refine lv_iconst (v := 0) hx hb dX2_s4_14 (by decide) ?_
    refine lv_goto (tgt := 31) hx hb dX2_s4_15 (by decide) ?_
    exact W.iret (v := 0) hx hb hr (fun t9 ht9 hW9 => ⟨⟨_, (), rfl, hf.trans hf0.symm, ⟨by rw [ht9]; exact hR.P, hR.D⟩⟩, hR.sS.F ht9⟩) hR.sS.2.2 dX2_s4_31
  refine lv_if_lt (tgt := 14) hx hb dX2_s4_1 (by decide) (fun c1 => ?_) (fun c1 => ?_)
  · rw [if_pos (k_lt rfl (by decide) c1)] at hf
    (try rw [if_pos (k_lt rfl (by decide) c1)] at hd)
    exact J_14 _ _ ls hd hf  hR (lv_sub hl [] rfl)
  · rw [if_neg (k_nlt rfl (by decide) c1)] at hf
    (try rw [if_neg (k_nlt rfl (by decide) c1)] at hd)
    refine lv_iload_n hx hb dX2_s4_4 rfl (lv_at hl 1 rfl) ?_
    refine lv_aload_n hx hb dX2_s4_5 rfl (lv_at hl 0 rfl) ?_
    refine va_get (D := rD g) (ci := 2) (v := .int (qI S 8 2)) (C := RX2) (T := TX2) (N := 12) hx hb hts inX2 hown hR.K hR.P 8 (hR.at42 (hR.w.2.1 _ finC_26).2.1) rfl 2 (by decide) (hts _ kw_716) (fun _ h9 => h9) rfl dX2_s4_6 ?_
    refine lv_iconst (v := 4) hx hb dX2_s4_9 (by decide) ?_
    refine lv_isub hx hb dX2_s4_10 ?_
    refine lv_topi (fun z2 ez2 => ?_)
    obtain rfl : z2 = ((qI S 8 2) - (4 : Int32)) := ez2
    refine lv_icmp_le (tgt := 18) hx hb dX2_s4_11 (by decide) (fun c3 => ?_) (fun c3 => ?_)
    · rw [if_pos (k_le rfl rfl c3)] at hf
      (try rw [if_pos (k_le rfl rfl c3)] at hd)
      refine lv_aload_n hx hb dX2_s4_18 rfl (lv_at hl 0 rfl) ?_
      refine va_get (D := rD g) (ci := 2) (v := .ref (ad 9)) (C := RX2) (T := TX2) (N := 12) hx hb hts inX2 hown hR.K hR.P 8 (hR.at42 (hR.w.2.1 _ finC_26).2.1) rfl 0 (by decide) (hts _ kw_632) (fun _ h9 => h9) (congrArg (fun z => some (vf ad z)) (hR.w.2.1 _ finC_2).1) dX2_s4_19 ?_
      refine lv_aload_n hx hb dX2_s4_22 rfl (lv_at hl 0 rfl) ?_
      refine va_get (D := rD g) (ci := 2) (v := .int (qI S 8 1)) (C := RX2) (T := TX2) (N := 12) hx hb hts inX2 hown hR.K hR.P 8 (hR.at42 (hR.w.2.1 _ finC_26).2.1) rfl 1 (by decide) (hts _ kw_718) (fun _ h9 => h9) rfl dX2_s4_23 ?_
      refine lv_iload_n hx hb dX2_s4_26 rfl (lv_at hl 1 rfl) ?_
      refine lv_iadd hx hb dX2_s4_27 ?_
      refine lv_topi (fun z4 ez4 => ?_)
      obtain rfl : z4 = ((qI S 8 1) + x1) := ez4
      obtain ⟨hv5, hd⟩ := hd
      have hFc := cfree hR hA
      refine va_calli (va_runV (As := [.int ((qI S 8 1) + x1)]) (rest := []) ⟨hx, hb, hml, hown, hts⟩ (rX7_s4 l g ad s.heap.size S ((qI S 8 1) + x1) hR.w  hv5) (cwV 1 hts (gd_V kw_634 kw_1429 kw_1430 kw_710 kw_1428) rfl rfl rfl (by decide +kernel) ⟨Nat.le_of_ble_eq_true rfl, Nat.le_of_ble_eq_true rfl⟩) ⟨cblind, va_recv hR.K hR.P (ci := 6) (q0 := 9) rfl (hR.at46 (hR.w.2.1 _ finC_2).2.1), fun U hU hW9 => cmk hU hW9 hR hex hE hFc⟩ rfl rfl hl.1 rfl (lv_room (Nat.le_of_ble_eq_true rfl)) dX2_s4_28 ⟨Nat.le_of_ble_eq_true rfl, Nat.le_of_ble_eq_true rfl⟩) hR.sS (fun q _ h => hFc q h) hFc (fun r6 u9 t9 H1 locs ht9 hvm9 hw9 hB9 hz9 hk9 hS => ?_)
      have hR : RepC g ad A s S H1 locs := hR.call ht9 hB9 hR.w hS hFc
      obtain rfl : r6 = (fX7_s4 S ((qI S 8 1) + x1)) := hw9
      clear hB9 hz9 hk9 hvm9 ht9 hS
      generalize H1 = H at hR ⊢
      exact W.iret (v := (fX7_s4 S ((qI S 8 1) + x1))) hx hb hr (fun t9 ht9 hW9 => ⟨⟨_, (), rfl, hf.trans hf0.symm, ⟨by rw [ht9]; exact hR.P, hR.D⟩⟩, hR.sS.F ht9⟩) hR.sS.2.2 dX2_s4_31
    · rw [if_neg (k_nle rfl rfl c3)] at hf
      (try rw [if_neg (k_nle rfl rfl c3)] at hd)
      exact J_14 _ _ ls hd hf  hR (lv_sub hl [] rfl)
def f_X2_wideLength_J24 (S : MS) : Int32 := (4 : Int32)
def d_X2_wideLength_J24 (S : MS) : Prop := True
def fX2_wideLength (S : MS) (x0 : Int32) : Int32 := (if x0.toInt = 132 then (6 : Int32) else (if (fX6_isLoad S x0).toInt = 0 then (if (fX6_isStore S x0).toInt = 0 then (0 : Int32) else f_X2_wideLength_J24 S) else f_X2_wideLength_J24 S))
def d_X2_wideLength (S : MS) (x0 : Int32) : Prop := (if x0.toInt = 132 then True else (d_X6_isLoad S x0 ∧ (if (fX6_isLoad S x0).toInt = 0 then (d_X6_isStore S x0 ∧ (if (fX6_isStore S x0).toInt = 0 then True else d_X2_wideLength_J24 S)) else d_X2_wideLength_J24 S)))
set_option maxHeartbeats 2000000 in
set_option maxRecDepth 100000 in
theorem rX2_wideLength (l : Launch) (g : Gr) (ad : Nat → Nat) (sz : Nat) (S : MS) (x0 : Int32) (hw : wfC S) (hd : d_X2_wideLength S x0) : Met l yX2_wideLength (wt yX2_wideLength cX2_wideLength 1 (some .int)) ({ frames := 1, cells := 0, slots := 0, locals := 20 }) (va_Pc [.int x0] (st_C g ad sz S)) (va_Qi (fun (r : Int32) (_ : Unit) => r = fX2_wideLength S x0) (fun (_ : Unit) (t : State) => qEC g ad (va_A (WdC g ad S) sz) S t) (va_A (WdC g ad S) sz)) 0 0 (va_A (WdC g ad S) sz) := by
  refine Met.ofW (cc := cX2_wideLength) (maxL := 1) (ret := (some .int)) (by decide) rfl ?_
  intro p e s m args below meth c s₁ B hml hv
  obtain ⟨rfl, hsz, hP, hK, hD0, hex, hE⟩ := hv
  have hx := B.exec
  have hb := B.bytes
  have hr := B.returns
  have hts0 := atoms_spec (ws := wt yX2_wideLength cX2_wideLength 1 (some .int)) B.pre
  have hts : ∀ w ∈ tb, w.before _ s = true := fun w h => hts0 w (List.mem_cons_of_mem _ h)
  have hown : s.vm.findClass RX2 = some m.cls := findClass_of_methodNamed B.named
  subst hsz
  have hD := hD0.self (sz := s.heap.size)
  generalize hAe : va_A (WdC g ad S) s.heap.size = A at hD hE ⊢
  have hA : ∀ q : Nat, s.heap.size ≤ q → A q := fun q h => by rw [← hAe]; exact Or.inr h
  have hR : RepC g ad A s S s.heap [] := ⟨hK, hP, hD, va_S.rf, hw⟩
  clear hK hP hD hD0
  have hl := lv_entry ([.int x0]) (n := 1) (Nat.le_of_ble_eq_true rfl)
  rw [lg_entry_eq]
  generalize (lg_sl ([.int x0]) ++ List.replicate (1 - (lg_sl ([.int x0])).length) Slot.unset).toArray = ls at hl ⊢
  have hl : lv_has ls 1 [(0, .int x0)] := hl
  obtain ⟨r0, hf⟩ : ∃ r0, fX2_wideLength S x0 = r0 := ⟨_, rfl⟩
  have hf0 := hf
  unfold fX2_wideLength at hf
  unfold d_X2_wideLength at hd
  refine lv_iload_n hx hb dX2_wideLength_0 rfl (lv_at hl 0 rfl) ?_
  refine lv_sipush (v := 132) hx hb dX2_wideLength_1 (by decide) ?_
  refine lv_icmp_ne (tgt := 10) hx hb dX2_wideLength_4 (by decide) (fun c1 => ?_) (fun c1 => ?_)
  · rw [if_neg (k_ne rfl (by decide) c1)] at hf
    (try rw [if_neg (k_ne rfl (by decide) c1)] at hd)
    refine lv_iload_n hx hb dX2_wideLength_10 rfl (lv_at hl 0 rfl) ?_
    obtain ⟨hv2, hd⟩ := hd
    have hFc := cfree hR hA
    refine va_calli (va_runS (As := [.int x0]) (rest := []) ⟨hx, hb, hml, hown, hts⟩ (rX6_isLoad l g ad s.heap.size S x0 hR.w  hv2) (va_cwS 1 hts (gd_S kw_831 kw_1227 kw_1207 kw_1226) rfl rfl rfl (by decide +kernel) ⟨Nat.le_of_ble_eq_true rfl, Nat.le_of_ble_eq_true rfl⟩) ⟨cblind, fun U hU hW9 => cmk hU hW9 hR hex hE hFc⟩ rfl rfl hl.1 rfl (lv_room (Nat.le_of_ble_eq_true rfl)) dX2_wideLength_11 ⟨Nat.le_of_ble_eq_true rfl, Nat.le_of_ble_eq_true rfl⟩) hR.sS (fun q _ h => hFc q h) hFc (fun r3 u9 t9 H1 locs ht9 hvm9 hw9 hB9 hz9 hk9 hS => ?_)
    have hR : RepC g ad A s S H1 locs := hR.call ht9 hB9 hR.w hS hFc
    obtain ⟨rfl, hz_r3⟩ := hw9
    clear hB9 hz9 hk9 hvm9 ht9 hS
    generalize H1 = H at hR ⊢
    have J_24 : ∀ (H : Heap) (locs : List Loc) (ls : Array Slot), d_X2_wideLength_J24 S → f_X2_wideLength_J24 S = r0 → RepC g ad A s S H locs → lv_has ls 1 [] → W p l e (headSpec (wt yX2_wideLength cX2_wideLength 1 (some .int)) ({ frames := 1, cells := 0, slots := 0, locals := 20 })).room s m ([.int x0] : List Value).toArray below meth c H locs 0 0 (MQ below (va_Qi (fun (r : Int32) (_ : Unit) => r = fX2_wideLength S x0) (fun (_ : Unit) (t : State) => qEC g ad A S t) A) ([.int x0] : List Value).toArray s 0 0 A) (F0 m 24 ls []) := by
      intro H locs ls hd hf hR hl
      unfold d_X2_wideLength_J24 at hd
      unfold f_X2_wideLength_J24 at hf
      refine lv_iconst (v := 4) hx hb dX2_wideLength_24 (by decide) ?_
      refine lv_goto (tgt := 29) hx hb dX2_wideLength_25 (by decide) ?_
      exact W.iret (v := 4) hx hb hr (fun t9 ht9 hW9 => ⟨⟨_, (), rfl, hf.trans hf0.symm, ⟨by rw [ht9]; exact hR.P, hR.D⟩⟩, hR.sS.F ht9⟩) hR.sS.2.2 dX2_wideLength_29
    refine lv_if_ne (tgt := 24) hx hb dX2_wideLength_14 (by decide) (fun c5 => ?_) (fun c5 => ?_)
    · rw [if_neg (k_ne rfl (by decide) c5)] at hf
      (try rw [if_neg (k_ne rfl (by decide) c5)] at hd)
      exact J_24 _ _ ls hd hf  hR (lv_sub hl [] rfl)
    · rw [if_pos (k_eq rfl (by decide) c5)] at hf
      (try rw [if_pos (k_eq rfl (by decide) c5)] at hd)
      refine lv_iload_n hx hb dX2_wideLength_17 rfl (lv_at hl 0 rfl) ?_
      obtain ⟨hv6, hd⟩ := hd
      have hFc := cfree hR hA
      refine va_calli (va_runS (As := [.int x0]) (rest := []) ⟨hx, hb, hml, hown, hts⟩ (rX6_isStore l g ad H.size S x0 hR.w  hv6) (va_cwS 1 hts (gd_S kw_832 kw_1231 kw_1207 kw_1230) rfl rfl rfl (by decide +kernel) ⟨Nat.le_of_ble_eq_true rfl, Nat.le_of_ble_eq_true rfl⟩) ⟨cblind, fun U hU hW9 => cmk hU hW9 hR hex hE hFc⟩ rfl rfl hl.1 rfl (lv_room (Nat.le_of_ble_eq_true rfl)) dX2_wideLength_18 ⟨Nat.le_of_ble_eq_true rfl, Nat.le_of_ble_eq_true rfl⟩) hR.sS (fun q _ h => hFc q h) hFc (fun r7 u9 t9 H1 locs ht9 hvm9 hw9 hB9 hz9 hk9 hS => ?_)
      have hR : RepC g ad A s S H1 locs := hR.call ht9 hB9 hR.w hS hFc
      obtain ⟨rfl, hz_r7⟩ := hw9
      clear hB9 hz9 hk9 hvm9 ht9 hS
      generalize H1 = H at hR ⊢
      refine lv_if_eq (tgt := 28) hx hb dX2_wideLength_21 (by decide) (fun c9 => ?_) (fun c9 => ?_)
      · rw [if_pos (k_eq rfl (by decide) c9)] at hf
        (try rw [if_pos (k_eq rfl (by decide) c9)] at hd)
        refine lv_iconst (v := 0) hx hb dX2_wideLength_28 (by decide) ?_
        exact W.iret (v := 0) hx hb hr (fun t9 ht9 hW9 => ⟨⟨_, (), rfl, hf.trans hf0.symm, ⟨by rw [ht9]; exact hR.P, hR.D⟩⟩, hR.sS.F ht9⟩) hR.sS.2.2 dX2_wideLength_29
      · rw [if_neg (k_ne rfl (by decide) c9)] at hf
        (try rw [if_neg (k_ne rfl (by decide) c9)] at hd)
        exact J_24 _ _ ls hd hf  hR (lv_sub hl [] rfl)
  · rw [if_pos (k_eq rfl (by decide) c1)] at hf
    (try rw [if_pos (k_eq rfl (by decide) c1)] at hd)
    refine lv_bipush (v := 6) hx hb dX2_wideLength_7 (by decide) ?_
    exact W.iret (v := 6) hx hb hr (fun t9 ht9 hW9 => ⟨⟨_, (), rfl, hf.trans hf0.symm, ⟨by rw [ht9]; exact hR.P, hR.D⟩⟩, hR.sS.F ht9⟩) hR.sS.2.2 dX2_wideLength_9
def fX2_tableLength (S : MS) (x1 : Int32) : Int32 := (if (qI S 8 2).toInt < ((fX2_numbersOf S x1) + (12 : Int32)).toInt then (0 : Int32) else (if (lg_cmp (((fX2_s4 S ((fX2_numbersOf S x1) + (8 : Int32))).toInt64) - ((fX2_s4 S ((fX2_numbersOf S x1) + (4 : Int32))).toInt64)) 0).toInt < 0 then (0 : Int32) else (if (lg_cmp (((fX2_s4 S ((fX2_numbersOf S x1) + (8 : Int32))).toInt64) - ((fX2_s4 S ((fX2_numbersOf S x1) + (4 : Int32))).toInt64)) (200 : Int64)).toInt ≤ 0 then ((((fX2_numbersOf S x1) + (16 : Int32)) + ((4 : Int32) * ((((fX2_s4 S ((fX2_numbersOf S x1) + (8 : Int32))).toInt64) - ((fX2_s4 S ((fX2_numbersOf S x1) + (4 : Int32))).toInt64)).toInt32))) - x1) else (0 : Int32))))
def d_X2_tableLength (S : MS) (x1 : Int32) : Prop := (d_X2_numbersOf S x1 ∧ (d_X2_s4 S ((fX2_numbersOf S x1) + (8 : Int32)) ∧ (d_X2_s4 S ((fX2_numbersOf S x1) + (4 : Int32)) ∧ True)))
set_option maxHeartbeats 2000000 in
set_option maxRecDepth 100000 in
theorem rX2_tableLength (l : Launch) (g : Gr) (ad : Nat → Nat) (sz : Nat) (S : MS) (x1 : Int32) (hw : wfC S) (hd : d_X2_tableLength S x1) : Met l yX2_tableLength (wt yX2_tableLength cX2_tableLength 5 (some .int)) ({ frames := 2, cells := 0, slots := 0, locals := 42 }) (va_Pc [.ref (ad 8), .int x1] (st_C g ad sz S)) (va_Qi (fun (r : Int32) (_ : Unit) => r = fX2_tableLength S x1) (fun (_ : Unit) (t : State) => qEC g ad (va_A (WdC g ad S) sz) S t) (va_A (WdC g ad S) sz)) 0 0 (va_A (WdC g ad S) sz) := by
  refine Met.ofW (cc := cX2_tableLength) (maxL := 5) (ret := (some .int)) (by decide) rfl ?_
  intro p e s m args below meth c s₁ B hml hv
  obtain ⟨rfl, hsz, hP, hK, hD0, hex, hE⟩ := hv
  have hx := B.exec
  have hb := B.bytes
  have hr := B.returns
  have hts0 := atoms_spec (ws := wt yX2_tableLength cX2_tableLength 5 (some .int)) B.pre
  have hts : ∀ w ∈ tb, w.before _ s = true := fun w h => hts0 w (List.mem_cons_of_mem _ h)
  have hown : s.vm.findClass RX2 = some m.cls := findClass_of_methodNamed B.named
  subst hsz
  have hD := hD0.self (sz := s.heap.size)
  generalize hAe : va_A (WdC g ad S) s.heap.size = A at hD hE ⊢
  have hA : ∀ q : Nat, s.heap.size ≤ q → A q := fun q h => by rw [← hAe]; exact Or.inr h
  have hR : RepC g ad A s S s.heap [] := ⟨hK, hP, hD, va_S.rf, hw⟩
  clear hK hP hD hD0
  have hl := lv_entry ([.ref (ad 8), .int x1]) (n := 5) (Nat.le_of_ble_eq_true rfl)
  rw [lg_entry_eq]
  generalize (lg_sl ([.ref (ad 8), .int x1]) ++ List.replicate (5 - (lg_sl ([.ref (ad 8), .int x1])).length) Slot.unset).toArray = ls at hl ⊢
  have hl : lv_has ls 5 [(0, .ref (ad 8)), (1, .int x1)] := hl
  obtain ⟨r0, hf⟩ : ∃ r0, fX2_tableLength S x1 = r0 := ⟨_, rfl⟩
  have hf0 := hf
  unfold fX2_tableLength at hf
  unfold d_X2_tableLength at hd
  refine lv_iload_n hx hb dX2_tableLength_0 rfl (lv_at hl 1 rfl) ?_
  obtain ⟨hv1, hd⟩ := hd
  have hFc := cfree hR hA
  refine va_calli (va_runS (As := [.int x1]) (rest := []) ⟨hx, hb, hml, hown, hts⟩ (rX2_numbersOf l g ad s.heap.size S x1 hR.w  hv1) (va_cwS 1 hts (gd_S kw_686 kw_764 kw_389 kw_763) rfl rfl rfl (by decide +kernel) ⟨Nat.le_of_ble_eq_true rfl, Nat.le_of_ble_eq_true rfl⟩) ⟨cblind, fun U hU hW9 => cmk hU hW9 hR hex hE hFc⟩ rfl rfl hl.1 rfl (lv_room (Nat.le_of_ble_eq_true rfl)) dX2_tableLength_1 ⟨Nat.le_of_ble_eq_true rfl, Nat.le_of_ble_eq_true rfl⟩) hR.sS (fun q _ h => hFc q h) hFc (fun r2 u9 t9 H1 locs ht9 hvm9 hw9 hB9 hz9 hk9 hS => ?_)
  have hR : RepC g ad A s S H1 locs := hR.call ht9 hB9 hR.w hS hFc
  obtain rfl : r2 = (fX2_numbersOf S x1) := hw9
  clear hB9 hz9 hk9 hvm9 ht9 hS
  generalize H1 = H at hR ⊢
  refine lv_istore_n (lv' := [(2, .int (fX2_numbersOf S x1)), (0, .ref (ad 8)), (1, .int x1)]) hx hb dX2_tableLength_4 rfl hl (by decide) rfl (fun ls hl => ?_)
  refine lv_aload_n hx hb dX2_tableLength_5 rfl (lv_at hl 1 rfl) ?_
  refine lv_iload_n hx hb dX2_tableLength_6 rfl (lv_at hl 0 rfl) ?_
  refine lv_bipush (v := 8) hx hb dX2_tableLength_7 (by decide) ?_
  refine lv_iadd hx hb dX2_tableLength_9 ?_
  refine lv_topi (fun z4 ez4 => ?_)
  obtain rfl : z4 = ((fX2_numbersOf S x1) + (8 : Int32)) := ez4
  obtain ⟨hv5, hd⟩ := hd
  have hFc := cfree hR hA
  refine va_calli (va_runV (As := [.int ((fX2_numbersOf S x1) + (8 : Int32))]) (rest := []) ⟨hx, hb, hml, hown, hts⟩ (rX2_s4 l g ad H.size S ((fX2_numbersOf S x1) + (8 : Int32)) hR.w  hv5) (cwV 1 hts (gd_V kw_623 kw_790 kw_791 kw_389 kw_789) rfl rfl rfl (by decide +kernel) ⟨Nat.le_of_ble_eq_true rfl, Nat.le_of_ble_eq_true rfl⟩) ⟨cblind, va_recv hR.K hR.P (ci := 2) (q0 := 8) rfl (hR.at42 (hR.w.2.1 _ finC_26).2.1), fun U hU hW9 => cmk hU hW9 hR hex hE hFc⟩ rfl rfl hl.1 rfl (lv_room (Nat.le_of_ble_eq_true rfl)) dX2_tableLength_10 ⟨Nat.le_of_ble_eq_true rfl, Nat.le_of_ble_eq_true rfl⟩) hR.sS (fun q _ h => hFc q h) hFc (fun r6 u9 t9 H1 locs ht9 hvm9 hw9 hB9 hz9 hk9 hS => ?_)
  have hR : RepC g ad A s S H1 locs := hR.call ht9 hB9 hR.w hS hFc
  obtain rfl : r6 = (fX2_s4 S ((fX2_numbersOf S x1) + (8 : Int32))) := hw9
  clear hB9 hz9 hk9 hvm9 ht9 hS
  generalize H1 = H at hR ⊢
  refine lv_i2l (v := ((fX2_s4 S ((fX2_numbersOf S x1) + (8 : Int32))).toInt64)) hx hb dX2_tableLength_13 rfl ?_
  refine lv_aload_n hx hb dX2_tableLength_14 rfl (lv_at hl 1 rfl) ?_
  refine lv_iload_n hx hb dX2_tableLength_15 rfl (lv_at hl 0 rfl) ?_
  refine lv_iconst (v := 4) hx hb dX2_tableLength_16 (by decide) ?_
  refine lv_iadd hx hb dX2_tableLength_17 ?_
  refine lv_topi (fun z8 ez8 => ?_)
  obtain rfl : z8 = ((fX2_numbersOf S x1) + (4 : Int32)) := ez8
  obtain ⟨hv9, hd⟩ := hd
  have hFc := cfree hR hA
  refine va_calli (va_runV (As := [.int ((fX2_numbersOf S x1) + (4 : Int32))]) (rest := [.long ((fX2_s4 S ((fX2_numbersOf S x1) + (8 : Int32))).toInt64)]) ⟨hx, hb, hml, hown, hts⟩ (rX2_s4 l g ad H.size S ((fX2_numbersOf S x1) + (4 : Int32)) hR.w  hv9) (cwV 1 hts (gd_V kw_623 kw_790 kw_791 kw_389 kw_789) rfl rfl rfl (by decide +kernel) ⟨Nat.le_of_ble_eq_true rfl, Nat.le_of_ble_eq_true rfl⟩) ⟨cblind, va_recv hR.K hR.P (ci := 2) (q0 := 8) rfl (hR.at42 (hR.w.2.1 _ finC_26).2.1), fun U hU hW9 => cmk hU hW9 hR hex hE hFc⟩ rfl rfl hl.1 rfl (lv_room (Nat.le_of_ble_eq_true rfl)) dX2_tableLength_18 ⟨Nat.le_of_ble_eq_true rfl, Nat.le_of_ble_eq_true rfl⟩) hR.sS (fun q _ h => hFc q h) hFc (fun r10 u9 t9 H1 locs ht9 hvm9 hw9 hB9 hz9 hk9 hS => ?_)
  have hR : RepC g ad A s S H1 locs := hR.call ht9 hB9 hR.w hS hFc
  obtain rfl : r10 = (fX2_s4 S ((fX2_numbersOf S x1) + (4 : Int32))) := hw9
  clear hB9 hz9 hk9 hvm9 ht9 hS
  generalize H1 = H at hR ⊢
  refine lv_i2l (v := ((fX2_s4 S ((fX2_numbersOf S x1) + (4 : Int32))).toInt64)) hx hb dX2_tableLength_21 rfl ?_
  refine lv_lsub hx hb dX2_tableLength_22 ?_
  refine lv_topl (fun z12 ez12 => ?_)
  obtain rfl : z12 = (((fX2_s4 S ((fX2_numbersOf S x1) + (8 : Int32))).toInt64) - ((fX2_s4 S ((fX2_numbersOf S x1) + (4 : Int32))).toInt64)) := ez12
  refine lv_lstore_n (lv' := [(3, .long (((fX2_s4 S ((fX2_numbersOf S x1) + (8 : Int32))).toInt64) - ((fX2_s4 S ((fX2_numbersOf S x1) + (4 : Int32))).toInt64))), (2, .int (fX2_numbersOf S x1)), (0, .ref (ad 8)), (1, .int x1)]) hx hb dX2_tableLength_23 rfl hl (by decide) rfl (fun ls hl => ?_)
  refine lv_iload_n hx hb dX2_tableLength_24 rfl (lv_at hl 1 rfl) ?_
  refine lv_bipush (v := 12) hx hb dX2_tableLength_25 (by decide) ?_
  refine lv_iadd hx hb dX2_tableLength_27 ?_
  refine lv_topi (fun z13 ez13 => ?_)
  obtain rfl : z13 = ((fX2_numbersOf S x1) + (12 : Int32)) := ez13
  refine lv_aload_n hx hb dX2_tableLength_28 rfl (lv_at hl 2 rfl) ?_
  refine va_get (D := rD g) (ci := 2) (v := .int (qI S 8 2)) (C := RX2) (T := TX2) (N := 12) hx hb hts inX2 hown hR.K hR.P 8 (hR.at42 (hR.w.2.1 _ finC_26).2.1) rfl 2 (by decide) (hts _ kw_716) (fun _ h9 => h9) rfl dX2_tableLength_29 ?_
  refine lv_icmp_gt (tgt := 49) hx hb dX2_tableLength_32 (by decide) (fun c14 => ?_) (fun c14 => ?_)
  · rw [if_pos (k_lt rfl rfl c14)] at hf
    (try rw [if_pos (k_lt rfl rfl c14)] at hd)
    refine lv_iconst (v := 0) hx hb dX2_tableLength_49 (by decide) ?_
    exact W.iret (v := 0) hx hb hr (fun t9 ht9 hW9 => ⟨⟨_, (), rfl, hf.trans hf0.symm, ⟨by rw [ht9]; exact hR.P, hR.D⟩⟩, hR.sS.F ht9⟩) hR.sS.2.2 dX2_tableLength_50
  · rw [if_neg (k_nlt rfl rfl c14)] at hf
    (try rw [if_neg (k_nlt rfl rfl c14)] at hd)
    refine lv_lload_n hx hb dX2_tableLength_35 rfl (lv_at hl 0 rfl) ?_
    refine lv_lconst (v := 0) hx hb dX2_tableLength_36 (by decide) ?_
    refine W.lcmp hx hb dX2_tableLength_37 ?_
    refine lv_topi (fun z15 ez15 => ?_)
    obtain rfl : z15 = (lg_cmp (((fX2_s4 S ((fX2_numbersOf S x1) + (8 : Int32))).toInt64) - ((fX2_s4 S ((fX2_numbersOf S x1) + (4 : Int32))).toInt64)) 0) := ez15
    refine lv_if_lt (tgt := 49) hx hb dX2_tableLength_38 (by decide) (fun c16 => ?_) (fun c16 => ?_)
    · rw [if_pos (k_lt rfl (by decide) c16)] at hf
      (try rw [if_pos (k_lt rfl (by decide) c16)] at hd)
      refine lv_iconst (v := 0) hx hb dX2_tableLength_49 (by decide) ?_
      exact W.iret (v := 0) hx hb hr (fun t9 ht9 hW9 => ⟨⟨_, (), rfl, hf.trans hf0.symm, ⟨by rw [ht9]; exact hR.P, hR.D⟩⟩, hR.sS.F ht9⟩) hR.sS.2.2 dX2_tableLength_50
    · rw [if_neg (k_nlt rfl (by decide) c16)] at hf
      (try rw [if_neg (k_nlt rfl (by decide) c16)] at hd)
      refine lv_lload_n hx hb dX2_tableLength_41 rfl (lv_at hl 0 rfl) ?_
      refine lv_ldc2 hx hb hown (hts _ kw_804) dX2_tableLength_42 ?_
      refine W.lcmp hx hb dX2_tableLength_45 ?_
      refine lv_topi (fun z17 ez17 => ?_)
      obtain rfl : z17 = (lg_cmp (((fX2_s4 S ((fX2_numbersOf S x1) + (8 : Int32))).toInt64) - ((fX2_s4 S ((fX2_numbersOf S x1) + (4 : Int32))).toInt64)) (200 : Int64)) := ez17
      refine lv_if_le (tgt := 51) hx hb dX2_tableLength_46 (by decide) (fun c18 => ?_) (fun c18 => ?_)
      · rw [if_pos (k_le rfl (by decide) c18)] at hf
        (try rw [if_pos (k_le rfl (by decide) c18)] at hd)
        refine lv_iload_n hx hb dX2_tableLength_51 rfl (lv_at hl 1 rfl) ?_
        refine lv_bipush (v := 16) hx hb dX2_tableLength_52 (by decide) ?_
        refine lv_iadd hx hb dX2_tableLength_54 ?_
        refine lv_topi (fun z19 ez19 => ?_)
        obtain rfl : z19 = ((fX2_numbersOf S x1) + (16 : Int32)) := ez19
        refine lv_iconst (v := 4) hx hb dX2_tableLength_55 (by decide) ?_
        refine lv_lload_n hx hb dX2_tableLength_56 rfl (lv_at hl 0 rfl) ?_
        refine lv_l2i (v := ((((fX2_s4 S ((fX2_numbersOf S x1) + (8 : Int32))).toInt64) - ((fX2_s4 S ((fX2_numbersOf S x1) + (4 : Int32))).toInt64)).toInt32)) hx hb dX2_tableLength_57 rfl ?_
        refine lv_imul hx hb dX2_tableLength_58 ?_
        refine lv_topi (fun z20 ez20 => ?_)
        obtain rfl : z20 = ((4 : Int32) * ((((fX2_s4 S ((fX2_numbersOf S x1) + (8 : Int32))).toInt64) - ((fX2_s4 S ((fX2_numbersOf S x1) + (4 : Int32))).toInt64)).toInt32)) := ez20
        refine lv_iadd hx hb dX2_tableLength_59 ?_
        refine lv_topi (fun z21 ez21 => ?_)
        obtain rfl : z21 = (((fX2_numbersOf S x1) + (16 : Int32)) + ((4 : Int32) * ((((fX2_s4 S ((fX2_numbersOf S x1) + (8 : Int32))).toInt64) - ((fX2_s4 S ((fX2_numbersOf S x1) + (4 : Int32))).toInt64)).toInt32))) := ez21
        refine lv_iload_n hx hb dX2_tableLength_60 rfl (lv_at hl 3 rfl) ?_
        refine lv_isub hx hb dX2_tableLength_61 ?_
        refine lv_topi (fun z22 ez22 => ?_)
        obtain rfl : z22 = ((((fX2_numbersOf S x1) + (16 : Int32)) + ((4 : Int32) * ((((fX2_s4 S ((fX2_numbersOf S x1) + (8 : Int32))).toInt64) - ((fX2_s4 S ((fX2_numbersOf S x1) + (4 : Int32))).toInt64)).toInt32))) - x1) := ez22
        exact W.iret (v := ((((fX2_numbersOf S x1) + (16 : Int32)) + ((4 : Int32) * ((((fX2_s4 S ((fX2_numbersOf S x1) + (8 : Int32))).toInt64) - ((fX2_s4 S ((fX2_numbersOf S x1) + (4 : Int32))).toInt64)).toInt32))) - x1)) hx hb hr (fun t9 ht9 hW9 => ⟨⟨_, (), rfl, hf.trans hf0.symm, ⟨by rw [ht9]; exact hR.P, hR.D⟩⟩, hR.sS.F ht9⟩) hR.sS.2.2 dX2_tableLength_62
      · rw [if_neg (k_nle rfl (by decide) c18)] at hf
        (try rw [if_neg (k_nle rfl (by decide) c18)] at hd)
        refine lv_iconst (v := 0) hx hb dX2_tableLength_49 (by decide) ?_
        exact W.iret (v := 0) hx hb hr (fun t9 ht9 hW9 => ⟨⟨_, (), rfl, hf.trans hf0.symm, ⟨by rw [ht9]; exact hR.P, hR.D⟩⟩, hR.sS.F ht9⟩) hR.sS.2.2 dX2_tableLength_50
def w_X2_lookupLength_L56 (Q : Int32 → MS → Prop) : Nat → MS → Int32 → Int32 → Int32 → Int32 → Prop
  | 0, _, _, _, _, _ => False
  | n56 + 1, U56, v56_1, v56_2, v56_3, v56_4 => (wfC U56 → ((v56_3.toInt ≤ v56_4.toInt → Q (((v56_2 + (8 : Int32)) + ((8 : Int32) * v56_3)) - v56_1) U56) ∧ (¬ v56_3.toInt ≤ v56_4.toInt → (d_X2_s4 U56 ((v56_2 + (8 : Int32)) + ((8 : Int32) * v56_4)) ∧ (d_X2_s4 U56 (v56_2 + ((8 : Int32) * v56_4)) ∧ (((fX2_s4 U56 (v56_2 + ((8 : Int32) * v56_4))).toInt < (fX2_s4 U56 ((v56_2 + (8 : Int32)) + ((8 : Int32) * v56_4))).toInt → (∀ a35 : Int32, a35 = (v56_4 + Int32.ofInt 1) → (w_X2_lookupLength_L56 Q n56) U56 v56_1 v56_2 v56_3 a35)) ∧ (¬ (fX2_s4 U56 (v56_2 + ((8 : Int32) * v56_4))).toInt < (fX2_s4 U56 ((v56_2 + (8 : Int32)) + ((8 : Int32) * v56_4))).toInt → Q (0 : Int32) U56)))))))
def wX2_lookupLength (S : MS) (x1 : Int32) (Q : Int32 → MS → Prop) : Prop := (d_X2_numbersOf S x1 ∧ (∀ a4 : Int32, a4 = (fX2_numbersOf S x1) → (d_X2_s4 S (a4 + (4 : Int32)) ∧ (∀ a9 : Int32, a9 = (fX2_s4 S (a4 + (4 : Int32))) → (((qI S 8 2).toInt < (a4 + (8 : Int32)).toInt → Q (0 : Int32) S) ∧ (¬ (qI S 8 2).toInt < (a4 + (8 : Int32)).toInt → ((a9.toInt < 0 → Q (0 : Int32) S) ∧ (¬ a9.toInt < 0 → ((200 < a9.toInt → Q (0 : Int32) S) ∧ (¬ 200 < a9.toInt → ((((a4 + (8 : Int32)) + ((8 : Int32) * a9)).toInt ≤ (qI S 8 2).toInt → (∃ n, w_X2_lookupLength_L56 Q n S x1 a4 a9 1)) ∧ (¬ ((a4 + (8 : Int32)) + ((8 : Int32) * a9)).toInt ≤ (qI S 8 2).toInt → Q (0 : Int32) S))))))))))))
set_option maxHeartbeats 2000000 in
set_option maxRecDepth 100000 in
theorem rX2_lookupLength (l : Launch) (g : Gr) (ad : Nat → Nat) (sz : Nat) (S : MS) (x1 : Int32) (hw : wfC S) (Q : Int32 → MS → Prop) (h : wX2_lookupLength S x1 Q) : Met l yX2_lookupLength (wt yX2_lookupLength cX2_lookupLength 5 (some .int)) ({ frames := 2, cells := 0, slots := 0, locals := 42 }) (va_Pc [.ref (ad 8), .int x1] (st_C g ad sz S)) (va_Qi (fun (r : Int32) (u : MS) => Q r u ∧ wfC u ∧ shy S u) (fun (u : MS) (t : State) => qEC g ad (va_A (WdC g ad S) sz) u t) (va_A (WdC g ad S) sz)) 0 0 (va_A (WdC g ad S) sz) := by
  refine Met.ofW (cc := cX2_lookupLength) (maxL := 5) (ret := (some .int)) (by decide) rfl ?_
  intro p e s m args below meth c s₁ B hml hv
  obtain ⟨rfl, hsz, hP, hK, hD0, hex, hE⟩ := hv
  have hx := B.exec
  have hb := B.bytes
  have hr := B.returns
  have hts0 := atoms_spec (ws := wt yX2_lookupLength cX2_lookupLength 5 (some .int)) B.pre
  have hts : ∀ w ∈ tb, w.before _ s = true := fun w h => hts0 w (List.mem_cons_of_mem _ h)
  have hown : s.vm.findClass RX2 = some m.cls := findClass_of_methodNamed B.named
  subst hsz
  have hD := hD0.self (sz := s.heap.size)
  generalize hAe : va_A (WdC g ad S) s.heap.size = A at hD hE ⊢
  have hA : ∀ q : Nat, s.heap.size ≤ q → A q := fun q h => by rw [← hAe]; exact Or.inr h
  have hR : RepC g ad A s S s.heap [] := ⟨hK, hP, hD, va_S.rf, hw⟩
  clear hK hP hD hD0
  have hl := lv_entry ([.ref (ad 8), .int x1]) (n := 5) (Nat.le_of_ble_eq_true rfl)
  rw [lg_entry_eq]
  generalize (lg_sl ([.ref (ad 8), .int x1]) ++ List.replicate (5 - (lg_sl ([.ref (ad 8), .int x1])).length) Slot.unset).toArray = ls at hl ⊢
  have hl : lv_has ls 5 [(0, .ref (ad 8)), (1, .int x1)] := hl
  have hsh : shy S S := shy.rf
  unfold wX2_lookupLength at h
  refine lv_iload_n hx hb dX2_lookupLength_0 rfl (lv_at hl 1 rfl) ?_
  obtain ⟨hv1, h⟩ := h
  have hFc := cfree hR hA
  refine va_calli (va_runS (As := [.int x1]) (rest := []) ⟨hx, hb, hml, hown, hts⟩ (rX2_numbersOf l g ad s.heap.size S x1 hR.w  hv1) (va_cwS 1 hts (gd_S kw_686 kw_764 kw_389 kw_763) rfl rfl rfl (by decide +kernel) ⟨Nat.le_of_ble_eq_true rfl, Nat.le_of_ble_eq_true rfl⟩) ⟨cblind, fun U hU hW9 => cmk hU hW9 hR hex hE hFc⟩ rfl rfl hl.1 rfl (lv_room (Nat.le_of_ble_eq_true rfl)) dX2_lookupLength_1 ⟨Nat.le_of_ble_eq_true rfl, Nat.le_of_ble_eq_true rfl⟩) hR.sS (fun q _ h => hFc q h) hFc (fun r2 u9 t9 H1 locs ht9 hvm9 hw9 hB9 hz9 hk9 hS => ?_)
  have hR : RepC g ad A s S H1 locs := hR.call ht9 hB9 hR.w hS hFc
  obtain rfl : r2 = (fX2_numbersOf S x1) := hw9
  clear hB9 hz9 hk9 hvm9 ht9 hS
  generalize H1 = H at hR ⊢
  obtain ⟨a4, ea4⟩ : ∃ z, z = (fX2_numbersOf S x1) := ⟨_, rfl⟩
  rw [← ea4]
  replace h := h a4 ea4
  refine lv_istore_n (lv' := [(2, .int a4), (0, .ref (ad 8)), (1, .int x1)]) hx hb dX2_lookupLength_4 rfl hl (by decide) rfl (fun ls hl => ?_)
  refine lv_aload_n hx hb dX2_lookupLength_5 rfl (lv_at hl 1 rfl) ?_
  refine lv_iload_n hx hb dX2_lookupLength_6 rfl (lv_at hl 0 rfl) ?_
  refine lv_iconst (v := 4) hx hb dX2_lookupLength_7 (by decide) ?_
  refine lv_iadd hx hb dX2_lookupLength_8 ?_
  refine lv_topi (fun z5 ez5 => ?_)
  obtain rfl : z5 = (a4 + (4 : Int32)) := ez5
  obtain ⟨hv6, h⟩ := h
  have hFc := cfree hR hA
  refine va_calli (va_runV (As := [.int (a4 + (4 : Int32))]) (rest := []) ⟨hx, hb, hml, hown, hts⟩ (rX2_s4 l g ad H.size S (a4 + (4 : Int32)) hR.w  hv6) (cwV 1 hts (gd_V kw_623 kw_790 kw_791 kw_389 kw_789) rfl rfl rfl (by decide +kernel) ⟨Nat.le_of_ble_eq_true rfl, Nat.le_of_ble_eq_true rfl⟩) ⟨cblind, va_recv hR.K hR.P (ci := 2) (q0 := 8) rfl (hR.at42 (hR.w.2.1 _ finC_26).2.1), fun U hU hW9 => cmk hU hW9 hR hex hE hFc⟩ rfl rfl hl.1 rfl (lv_room (Nat.le_of_ble_eq_true rfl)) dX2_lookupLength_9 ⟨Nat.le_of_ble_eq_true rfl, Nat.le_of_ble_eq_true rfl⟩) hR.sS (fun q _ h => hFc q h) hFc (fun r7 u9 t9 H1 locs ht9 hvm9 hw9 hB9 hz9 hk9 hS => ?_)
  have hR : RepC g ad A s S H1 locs := hR.call ht9 hB9 hR.w hS hFc
  obtain rfl : r7 = (fX2_s4 S (a4 + (4 : Int32))) := hw9
  clear hB9 hz9 hk9 hvm9 ht9 hS
  generalize H1 = H at hR ⊢
  obtain ⟨a9, ea9⟩ : ∃ z, z = (fX2_s4 S (a4 + (4 : Int32))) := ⟨_, rfl⟩
  rw [← ea9]
  replace h := h a9 ea9
  refine lv_istore_n (lv' := [(3, .int a9), (2, .int a4), (0, .ref (ad 8)), (1, .int x1)]) hx hb dX2_lookupLength_12 rfl hl (by decide) rfl (fun ls hl => ?_)
  refine lv_iload_n hx hb dX2_lookupLength_13 rfl (lv_at hl 1 rfl) ?_
  refine lv_bipush (v := 8) hx hb dX2_lookupLength_14 (by decide) ?_
  refine lv_iadd hx hb dX2_lookupLength_16 ?_
  refine lv_topi (fun z10 ez10 => ?_)
  obtain rfl : z10 = (a4 + (8 : Int32)) := ez10
  refine lv_aload_n hx hb dX2_lookupLength_17 rfl (lv_at hl 2 rfl) ?_
  refine va_get (D := rD g) (ci := 2) (v := .int (qI S 8 2)) (C := RX2) (T := TX2) (N := 12) hx hb hts inX2 hown hR.K hR.P 8 (hR.at42 (hR.w.2.1 _ finC_26).2.1) rfl 2 (by decide) (hts _ kw_716) (fun _ h9 => h9) rfl dX2_lookupLength_18 ?_
  refine lv_icmp_gt (tgt := 51) hx hb dX2_lookupLength_21 (by decide) (fun c11 => ?_) (fun c11 => ?_)
  · replace h := h.1 (k_lt rfl rfl c11)
    refine lv_iconst (v := 0) hx hb dX2_lookupLength_51 (by decide) ?_
    exact W.iret (v := 0) hx hb hr (fun t9 ht9 hW9 => ⟨⟨_, S, rfl, ⟨h, hR.w, hsh⟩, ⟨by rw [ht9]; exact hR.P, hR.D⟩⟩, hR.sS.F ht9⟩) hR.sS.2.2 dX2_lookupLength_52
  · replace h := h.2 (k_nlt rfl rfl c11)
    refine lv_iload_n hx hb dX2_lookupLength_24 rfl (lv_at hl 0 rfl) ?_
    refine lv_if_lt (tgt := 51) hx hb dX2_lookupLength_25 (by decide) (fun c12 => ?_) (fun c12 => ?_)
    · replace h := h.1 (k_lt rfl (by decide) c12)
      refine lv_iconst (v := 0) hx hb dX2_lookupLength_51 (by decide) ?_
      exact W.iret (v := 0) hx hb hr (fun t9 ht9 hW9 => ⟨⟨_, S, rfl, ⟨h, hR.w, hsh⟩, ⟨by rw [ht9]; exact hR.P, hR.D⟩⟩, hR.sS.F ht9⟩) hR.sS.2.2 dX2_lookupLength_52
    · replace h := h.2 (k_nlt rfl (by decide) c12)
      refine lv_iload_n hx hb dX2_lookupLength_28 rfl (lv_at hl 0 rfl) ?_
      refine lv_sipush (v := 200) hx hb dX2_lookupLength_29 (by decide) ?_
      refine lv_icmp_gt (tgt := 51) hx hb dX2_lookupLength_32 (by decide) (fun c13 => ?_) (fun c13 => ?_)
      · replace h := h.1 (k_lt (by decide) rfl c13)
        refine lv_iconst (v := 0) hx hb dX2_lookupLength_51 (by decide) ?_
        exact W.iret (v := 0) hx hb hr (fun t9 ht9 hW9 => ⟨⟨_, S, rfl, ⟨h, hR.w, hsh⟩, ⟨by rw [ht9]; exact hR.P, hR.D⟩⟩, hR.sS.F ht9⟩) hR.sS.2.2 dX2_lookupLength_52
      · replace h := h.2 (k_nlt (by decide) rfl c13)
        refine lv_iload_n hx hb dX2_lookupLength_35 rfl (lv_at hl 1 rfl) ?_
        refine lv_bipush (v := 8) hx hb dX2_lookupLength_36 (by decide) ?_
        refine lv_iadd hx hb dX2_lookupLength_38 ?_
        refine lv_topi (fun z14 ez14 => ?_)
        obtain rfl : z14 = (a4 + (8 : Int32)) := ez14
        refine lv_bipush (v := 8) hx hb dX2_lookupLength_39 (by decide) ?_
        refine lv_iload_n hx hb dX2_lookupLength_41 rfl (lv_at hl 0 rfl) ?_
        refine lv_imul hx hb dX2_lookupLength_42 ?_
        refine lv_topi (fun z15 ez15 => ?_)
        obtain rfl : z15 = ((8 : Int32) * a9) := ez15
        refine lv_iadd hx hb dX2_lookupLength_43 ?_
        refine lv_topi (fun z16 ez16 => ?_)
        obtain rfl : z16 = ((a4 + (8 : Int32)) + ((8 : Int32) * a9)) := ez16
        refine lv_aload_n hx hb dX2_lookupLength_44 rfl (lv_at hl 2 rfl) ?_
        refine va_get (D := rD g) (ci := 2) (v := .int (qI S 8 2)) (C := RX2) (T := TX2) (N := 12) hx hb hts inX2 hown hR.K hR.P 8 (hR.at42 (hR.w.2.1 _ finC_26).2.1) rfl 2 (by decide) (hts _ kw_716) (fun _ h9 => h9) rfl dX2_lookupLength_45 ?_
        refine lv_icmp_le (tgt := 53) hx hb dX2_lookupLength_48 (by decide) (fun c17 => ?_) (fun c17 => ?_)
        · replace h := h.1 (k_le rfl rfl c17)
          refine lv_iconst (v := 1) hx hb dX2_lookupLength_53 (by decide) ?_
          refine lv_istore (lv' := [(4, .int 1), (3, .int a9), (2, .int a4), (0, .ref (ad 8)), (1, .int x1)]) hx hb dX2_lookupLength_54 hl (by decide) rfl (fun ls hl => ?_)
          have J_56 : ∀ (n56 : Nat) (U56 : MS) (v56_1 : Int32) (v56_2 : Int32) (v56_3 : Int32) (v56_4 : Int32) (H : Heap) (locs : List Loc) (ls : Array Slot), w_X2_lookupLength_L56 Q n56 U56 v56_1 v56_2 v56_3 v56_4 → shy S U56 → RepC g ad A s U56 H locs → lv_has ls 5 [(0, .ref (ad 8)), (1, .int v56_1), (2, .int v56_2), (3, .int v56_3), (4, .int v56_4)] → W p l e (headSpec (wt yX2_lookupLength cX2_lookupLength 5 (some .int)) ({ frames := 2, cells := 0, slots := 0, locals := 42 })).room s m ([.ref (ad 8), .int x1] : List Value).toArray below meth c H locs 0 0 (MQ below (va_Qi (fun (r : Int32) (u : MS) => Q r u ∧ wfC u ∧ shy S u) (fun (u : MS) (t : State) => qEC g ad A u t) A) ([.ref (ad 8), .int x1] : List Value).toArray s 0 0 A) (F0 m 56 ls []) := by
            intro n56
            induction n56 with
            | zero => intro U56 v56_1 v56_2 v56_3 v56_4 H locs ls h hsh hR hl; unfold w_X2_lookupLength_L56 at h; exact h.elim
            | succ n56 ih_56 =>
              intro U56 v56_1 v56_2 v56_3 v56_4 H locs ls h hsh hR hl
              unfold w_X2_lookupLength_L56 at h
              replace h := h hR.w
              refine lv_iload hx hb dX2_lookupLength_56 (lv_at hl 4 rfl) ?_
              refine lv_iload_n hx hb dX2_lookupLength_58 rfl (lv_at hl 3 rfl) ?_
              refine lv_icmp_ge (tgt := 98) hx hb dX2_lookupLength_59 (by decide) (fun c18 => ?_) (fun c18 => ?_)
              · replace h := h.1 (k_le rfl rfl c18)
                refine lv_iload_n hx hb dX2_lookupLength_98 rfl (lv_at hl 2 rfl) ?_
                refine lv_bipush (v := 8) hx hb dX2_lookupLength_99 (by decide) ?_
                refine lv_iadd hx hb dX2_lookupLength_101 ?_
                refine lv_topi (fun z19 ez19 => ?_)
                obtain rfl : z19 = (v56_2 + (8 : Int32)) := ez19
                refine lv_bipush (v := 8) hx hb dX2_lookupLength_102 (by decide) ?_
                refine lv_iload_n hx hb dX2_lookupLength_104 rfl (lv_at hl 3 rfl) ?_
                refine lv_imul hx hb dX2_lookupLength_105 ?_
                refine lv_topi (fun z20 ez20 => ?_)
                obtain rfl : z20 = ((8 : Int32) * v56_3) := ez20
                refine lv_iadd hx hb dX2_lookupLength_106 ?_
                refine lv_topi (fun z21 ez21 => ?_)
                obtain rfl : z21 = ((v56_2 + (8 : Int32)) + ((8 : Int32) * v56_3)) := ez21
                refine lv_iload_n hx hb dX2_lookupLength_107 rfl (lv_at hl 1 rfl) ?_
                refine lv_isub hx hb dX2_lookupLength_108 ?_
                refine lv_topi (fun z22 ez22 => ?_)
                obtain rfl : z22 = (((v56_2 + (8 : Int32)) + ((8 : Int32) * v56_3)) - v56_1) := ez22
                exact W.iret (v := (((v56_2 + (8 : Int32)) + ((8 : Int32) * v56_3)) - v56_1)) hx hb hr (fun t9 ht9 hW9 => ⟨⟨_, U56, rfl, ⟨h, hR.w, hsh⟩, ⟨by rw [ht9]; exact hR.P, hR.D⟩⟩, hR.sS.F ht9⟩) hR.sS.2.2 dX2_lookupLength_109
              · replace h := h.2 (k_nle rfl rfl c18)
                refine lv_aload_n hx hb dX2_lookupLength_62 rfl (lv_at hl 0 rfl) ?_
                refine lv_iload_n hx hb dX2_lookupLength_63 rfl (lv_at hl 2 rfl) ?_
                refine lv_bipush (v := 8) hx hb dX2_lookupLength_64 (by decide) ?_
                refine lv_iadd hx hb dX2_lookupLength_66 ?_
                refine lv_topi (fun z23 ez23 => ?_)
                obtain rfl : z23 = (v56_2 + (8 : Int32)) := ez23
                refine lv_bipush (v := 8) hx hb dX2_lookupLength_67 (by decide) ?_
                refine lv_iload hx hb dX2_lookupLength_69 (lv_at hl 4 rfl) ?_
                refine lv_imul hx hb dX2_lookupLength_71 ?_
                refine lv_topi (fun z24 ez24 => ?_)
                obtain rfl : z24 = ((8 : Int32) * v56_4) := ez24
                refine lv_iadd hx hb dX2_lookupLength_72 ?_
                refine lv_topi (fun z25 ez25 => ?_)
                obtain rfl : z25 = ((v56_2 + (8 : Int32)) + ((8 : Int32) * v56_4)) := ez25
                obtain ⟨hv26, h⟩ := h
                have hFc := cfree hR hA
                refine va_calli (va_runV (As := [.int ((v56_2 + (8 : Int32)) + ((8 : Int32) * v56_4))]) (rest := []) ⟨hx, hb, hml, hown, hts⟩ (rX2_s4 l g ad H.size U56 ((v56_2 + (8 : Int32)) + ((8 : Int32) * v56_4)) hR.w  hv26) (cwV 1 hts (gd_V kw_623 kw_790 kw_791 kw_389 kw_789) rfl rfl rfl (by decide +kernel) ⟨Nat.le_of_ble_eq_true rfl, Nat.le_of_ble_eq_true rfl⟩) ⟨cblind, va_recv hR.K hR.P (ci := 2) (q0 := 8) rfl (hR.at42 (hR.w.2.1 _ finC_26).2.1), fun U hU hW9 => cmk hU hW9 hR hex hE hFc⟩ rfl rfl hl.1 rfl (lv_room (Nat.le_of_ble_eq_true rfl)) dX2_lookupLength_73 ⟨Nat.le_of_ble_eq_true rfl, Nat.le_of_ble_eq_true rfl⟩) hR.sS (fun q _ h => hFc q h) hFc (fun r27 u9 t9 H1 locs ht9 hvm9 hw9 hB9 hz9 hk9 hS => ?_)
                have hR : RepC g ad A s U56 H1 locs := hR.call ht9 hB9 hR.w hS hFc
                obtain rfl : r27 = (fX2_s4 U56 ((v56_2 + (8 : Int32)) + ((8 : Int32) * v56_4))) := hw9
                clear hB9 hz9 hk9 hvm9 ht9 hS
                generalize H1 = H at hR ⊢
                refine lv_aload_n hx hb dX2_lookupLength_76 rfl (lv_at hl 0 rfl) ?_
                refine lv_iload_n hx hb dX2_lookupLength_77 rfl (lv_at hl 2 rfl) ?_
                refine lv_bipush (v := 8) hx hb dX2_lookupLength_78 (by decide) ?_
                refine lv_iload hx hb dX2_lookupLength_80 (lv_at hl 4 rfl) ?_
                refine lv_imul hx hb dX2_lookupLength_82 ?_
                refine lv_topi (fun z29 ez29 => ?_)
                obtain rfl : z29 = ((8 : Int32) * v56_4) := ez29
                refine lv_iadd hx hb dX2_lookupLength_83 ?_
                refine lv_topi (fun z30 ez30 => ?_)
                obtain rfl : z30 = (v56_2 + ((8 : Int32) * v56_4)) := ez30
                obtain ⟨hv31, h⟩ := h
                have hFc := cfree hR hA
                refine va_calli (va_runV (As := [.int (v56_2 + ((8 : Int32) * v56_4))]) (rest := [.int (fX2_s4 U56 ((v56_2 + (8 : Int32)) + ((8 : Int32) * v56_4)))]) ⟨hx, hb, hml, hown, hts⟩ (rX2_s4 l g ad H.size U56 (v56_2 + ((8 : Int32) * v56_4)) hR.w  hv31) (cwV 1 hts (gd_V kw_623 kw_790 kw_791 kw_389 kw_789) rfl rfl rfl (by decide +kernel) ⟨Nat.le_of_ble_eq_true rfl, Nat.le_of_ble_eq_true rfl⟩) ⟨cblind, va_recv hR.K hR.P (ci := 2) (q0 := 8) rfl (hR.at42 (hR.w.2.1 _ finC_26).2.1), fun U hU hW9 => cmk hU hW9 hR hex hE hFc⟩ rfl rfl hl.1 rfl (lv_room (Nat.le_of_ble_eq_true rfl)) dX2_lookupLength_84 ⟨Nat.le_of_ble_eq_true rfl, Nat.le_of_ble_eq_true rfl⟩) hR.sS (fun q _ h => hFc q h) hFc (fun r32 u9 t9 H1 locs ht9 hvm9 hw9 hB9 hz9 hk9 hS => ?_)
                have hR : RepC g ad A s U56 H1 locs := hR.call ht9 hB9 hR.w hS hFc
                obtain rfl : r32 = (fX2_s4 U56 (v56_2 + ((8 : Int32) * v56_4))) := hw9
                clear hB9 hz9 hk9 hvm9 ht9 hS
                generalize H1 = H at hR ⊢
                refine lv_icmp_gt (tgt := 92) hx hb dX2_lookupLength_87 (by decide) (fun c34 => ?_) (fun c34 => ?_)
                · replace h := h.1 (k_lt rfl rfl c34)
                  obtain ⟨a35, ea35⟩ : ∃ z, z = (v56_4 + Int32.ofInt 1) := ⟨_, rfl⟩
                  replace h := h a35 ea35
                  refine lv_iinc (v := a35) (lv' := [(4, .int a35), (0, .ref (ad 8)), (1, .int v56_1), (2, .int v56_2), (3, .int v56_3)]) hx hb dX2_lookupLength_92 hl (k := 4) rfl ea35.symm (by decide) rfl (fun ls hl => ?_)
                  refine lv_goto (tgt := 56) hx hb dX2_lookupLength_95 (by decide) ?_
                  exact ih_56 U56 v56_1 v56_2 v56_3 a35 _ _ ls h  hsh hR (lv_sub hl [1, 2, 3, 4, 0] rfl)
                · replace h := h.2 (k_nlt rfl rfl c34)
                  refine lv_iconst (v := 0) hx hb dX2_lookupLength_90 (by decide) ?_
                  exact W.iret (v := 0) hx hb hr (fun t9 ht9 hW9 => ⟨⟨_, U56, rfl, ⟨h, hR.w, hsh⟩, ⟨by rw [ht9]; exact hR.P, hR.D⟩⟩, hR.sS.F ht9⟩) hR.sS.2.2 dX2_lookupLength_91
          obtain ⟨n9, h⟩ := h
          exact J_56 n9 S x1 a4 a9 1 _ _ ls h  hsh hR (lv_sub hl [3, 4, 2, 1, 0] rfl)
        · replace h := h.2 (k_nle rfl rfl c17)
          refine lv_iconst (v := 0) hx hb dX2_lookupLength_51 (by decide) ?_
          exact W.iret (v := 0) hx hb hr (fun t9 ht9 hW9 => ⟨⟨_, S, rfl, ⟨h, hR.w, hsh⟩, ⟨by rw [ht9]; exact hR.P, hR.D⟩⟩, hR.sS.F ht9⟩) hR.sS.2.2 dX2_lookupLength_52
def w_X2_decodeLocal_J246 (Q : MS → Prop) (U246 : MS) (v246_2 : Int32) : Prop := (wfC U246 → ((v246_2.toInt < 75 → Q U246) ∧ (¬ v246_2.toInt < 75 → ((78 < v246_2.toInt → Q U246) ∧ (¬ 78 < v246_2.toInt → (∃ Q14, wX2_set U246 (58 : Int32) ((v246_2 - (75 : Int32)).toInt64) Q14 ∧ ∀ S15, Q14 S15 → wfC S15 → shy U246 S15 → Q S15))))))
def w_X2_decodeLocal_J233 (Q : MS → Prop) (U233 : MS) (t233_0 : Int32) (v233_2 : Int32) : Prop := (wfC U233 → (∃ Q21, wX2_set U233 t233_0 (((v233_2 - (59 : Int32)) &&& (3 : Int32)).toInt64) Q21 ∧ ∀ S22, Q21 S22 → wfC S22 → shy U233 S22 → Q S22))
def w_X2_decodeLocal_J207 (Q : MS → Prop) (U207 : MS) (v207_2 : Int32) : Prop := (wfC U207 → ((v207_2.toInt < 59 → w_X2_decodeLocal_J246 Q U207 v207_2) ∧ (¬ v207_2.toInt < 59 → ((66 < v207_2.toInt → w_X2_decodeLocal_J246 Q U207 v207_2) ∧ (¬ 66 < v207_2.toInt → ((63 ≤ v207_2.toInt → w_X2_decodeLocal_J233 Q U207 55 v207_2) ∧ (¬ 63 ≤ v207_2.toInt → w_X2_decodeLocal_J233 Q U207 54 v207_2)))))))
def w_X2_decodeLocal_J181 (Q : MS → Prop) (U181 : MS) (v181_2 : Int32) : Prop := (wfC U181 → ((v181_2.toInt < 42 → w_X2_decodeLocal_J207 Q U181 v181_2) ∧ (¬ v181_2.toInt < 42 → ((45 < v181_2.toInt → w_X2_decodeLocal_J207 Q U181 v181_2) ∧ (¬ 45 < v181_2.toInt → (∃ Q28, wX2_set U181 (25 : Int32) ((v181_2 - (42 : Int32)).toInt64) Q28 ∧ ∀ S29, Q28 S29 → wfC S29 → shy U181 S29 → Q S29))))))
def w_X2_decodeLocal_J168 (Q : MS → Prop) (U168 : MS) (t168_0 : Int32) (v168_2 : Int32) : Prop := (wfC U168 → (∃ Q35, wX2_set U168 t168_0 (((v168_2 - (26 : Int32)) &&& (3 : Int32)).toInt64) Q35 ∧ ∀ S36, Q35 S36 → wfC S36 → shy U168 S36 → Q S36))
def w_X2_decodeLocal_J75 (Q : MS → Prop) (U75 : MS) (t75_0 : Int64) (t75_1 : Int32) : Prop := (wfC U75 → (∃ Q67, wX2_set U75 t75_1 t75_0 Q67 ∧ ∀ S68, Q67 S68 → wfC S68 → shy U75 S68 → Q S68))
def wX2_decodeLocal (S : MS) (x1 : Int32) (Q : MS → Prop) : Prop := (d_X2_u1 S x1 ∧ (∀ a4 : Int32, a4 = (fX2_u1 S x1) → ((a4.toInt = 196 → (d_X2_u2 S (x1 + (2 : Int32)) ∧ (∀ a62 : Int32, a62 = (fX2_u2 S (x1 + (2 : Int32))) → (d_X2_u1 S (x1 + (1 : Int32)) ∧ ((a62.toInt ≤ 255 → (d_X2_u1 S (x1 + (1 : Int32)) ∧ (((fX2_u1 S (x1 + (1 : Int32))).toInt = 132 → (d_X2_u2 S (x1 + (4 : Int32)) ∧ w_X2_decodeLocal_J75 Q S (((((fX2_u2 S (x1 + (4 : Int32))).toInt16.toInt32).toInt64) <<< ((8 : Int32).toInt64 &&& 63)) ||| (a62.toInt64)) (fX2_u1 S (x1 + (1 : Int32))))) ∧ (¬ (fX2_u1 S (x1 + (1 : Int32))).toInt = 132 → w_X2_decodeLocal_J75 Q S (a62.toInt64) (fX2_u1 S (x1 + (1 : Int32))))))) ∧ (¬ a62.toInt ≤ 255 → w_X2_decodeLocal_J75 Q S (255 : Int64) (fX2_u1 S (x1 + (1 : Int32))))))))) ∧ (¬ a4.toInt = 196 → ((a4.toInt = 132 → (d_X2_u1 S (x1 + (2 : Int32)) ∧ (d_X2_u1 S (x1 + (1 : Int32)) ∧ (∃ Q55, wX2_set S (132 : Int32) (((((fX2_u1 S (x1 + (2 : Int32))).toInt8.toInt32).toInt64) <<< ((8 : Int32).toInt64 &&& 63)) ||| ((fX2_u1 S (x1 + (1 : Int32))).toInt64)) Q55 ∧ ∀ S56, Q55 S56 → wfC S56 → shy S S56 → Q S56)))) ∧ (¬ a4.toInt = 132 → (d_X6_usesLocal S a4 ∧ (((fX6_usesLocal S a4).toInt = 0 → ((a4.toInt < 26 → w_X2_decodeLocal_J181 Q S a4) ∧ (¬ a4.toInt < 26 → ((33 < a4.toInt → w_X2_decodeLocal_J181 Q S a4) ∧ (¬ 33 < a4.toInt → ((30 ≤ a4.toInt → w_X2_decodeLocal_J168 Q S 22 a4) ∧ (¬ 30 ≤ a4.toInt → w_X2_decodeLocal_J168 Q S 21 a4))))))) ∧ (¬ (fX6_usesLocal S a4).toInt = 0 → (d_X2_u1 S (x1 + (1 : Int32)) ∧ (∃ Q43, wX2_set S a4 ((fX2_u1 S (x1 + (1 : Int32))).toInt64) Q43 ∧ ∀ S44, Q43 S44 → wfC S44 → shy S S44 → Q S44)))))))))))
set_option maxHeartbeats 2000000 in
set_option maxRecDepth 100000 in
theorem rX2_decodeLocal (l : Launch) (g : Gr) (ad : Nat → Nat) (sz : Nat) (S : MS) (x1 : Int32) (hw : wfC S) (Q : MS → Prop) (h : wX2_decodeLocal S x1 Q) : Met l yX2_decodeLocal (wt yX2_decodeLocal cX2_decodeLocal 4 none) ({ frames := 2, cells := 0, slots := 0, locals := 42 }) (va_Pc [.ref (ad 8), .int x1] (st_C g ad sz S)) (va_Qv (fun (u : MS) => Q u ∧ wfC u ∧ shy S u) (fun (u : MS) (t : State) => qEC g ad (va_A (WdC g ad S) sz) u t) (va_A (WdC g ad S) sz)) 0 0 (va_A (WdC g ad S) sz) := by
  refine Met.ofW (cc := cX2_decodeLocal) (maxL := 4) (ret := none) (by decide) rfl ?_
  intro p e s m args below meth c s₁ B hml hv
  obtain ⟨rfl, hsz, hP, hK, hD0, hex, hE⟩ := hv
  have hx := B.exec
  have hb := B.bytes
  have hr := B.returns
  have hts0 := atoms_spec (ws := wt yX2_decodeLocal cX2_decodeLocal 4 none) B.pre
  have hts : ∀ w ∈ tb, w.before _ s = true := fun w h => hts0 w (List.mem_cons_of_mem _ h)
  have hown : s.vm.findClass RX2 = some m.cls := findClass_of_methodNamed B.named
  subst hsz
  have hD := hD0.self (sz := s.heap.size)
  generalize hAe : va_A (WdC g ad S) s.heap.size = A at hD hE ⊢
  have hA : ∀ q : Nat, s.heap.size ≤ q → A q := fun q h => by rw [← hAe]; exact Or.inr h
  have hR : RepC g ad A s S s.heap [] := ⟨hK, hP, hD, va_S.rf, hw⟩
  clear hK hP hD hD0
  have hl := lv_entry ([.ref (ad 8), .int x1]) (n := 4) (Nat.le_of_ble_eq_true rfl)
  rw [lg_entry_eq]
  generalize (lg_sl ([.ref (ad 8), .int x1]) ++ List.replicate (4 - (lg_sl ([.ref (ad 8), .int x1])).length) Slot.unset).toArray = ls at hl ⊢
  have hl : lv_has ls 4 [(0, .ref (ad 8)), (1, .int x1)] := hl
  have hsh : shy S S := shy.rf
  unfold wX2_decodeLocal at h
  refine lv_aload_n hx hb dX2_decodeLocal_0 rfl (lv_at hl 0 rfl) ?_
  refine lv_iload_n hx hb dX2_decodeLocal_1 rfl (lv_at hl 1 rfl) ?_
  obtain ⟨hv1, h⟩ := h
  have hFc := cfree hR hA
  refine va_calli (va_runV (As := [.int x1]) (rest := []) ⟨hx, hb, hml, hown, hts⟩ (rX2_u1 l g ad s.heap.size S x1 hR.w  hv1) (cwV 1 hts (gd_V kw_682 kw_812 kw_813 kw_389 kw_811) rfl rfl rfl (by decide +kernel) ⟨Nat.le_of_ble_eq_true rfl, Nat.le_of_ble_eq_true rfl⟩) ⟨cblind, va_recv hR.K hR.P (ci := 2) (q0 := 8) rfl (hR.at42 (hR.w.2.1 _ finC_26).2.1), fun U hU hW9 => cmk hU hW9 hR hex hE hFc⟩ rfl rfl hl.1 rfl (lv_room (Nat.le_of_ble_eq_true rfl)) dX2_decodeLocal_2 ⟨Nat.le_of_ble_eq_true rfl, Nat.le_of_ble_eq_true rfl⟩) hR.sS (fun q _ h => hFc q h) hFc (fun r2 u9 t9 H1 locs ht9 hvm9 hw9 hB9 hz9 hk9 hS => ?_)
  have hR : RepC g ad A s S H1 locs := hR.call ht9 hB9 hR.w hS hFc
  obtain rfl : r2 = (fX2_u1 S x1) := hw9
  clear hB9 hz9 hk9 hvm9 ht9 hS
  generalize H1 = H at hR ⊢
  obtain ⟨a4, ea4⟩ : ∃ z, z = (fX2_u1 S x1) := ⟨_, rfl⟩
  rw [← ea4]
  replace h := h a4 ea4
  refine lv_istore_n (lv' := [(2, .int a4), (0, .ref (ad 8)), (1, .int x1)]) hx hb dX2_decodeLocal_5 rfl hl (by decide) rfl (fun ls hl => ?_)
  refine lv_iload_n hx hb dX2_decodeLocal_6 rfl (lv_at hl 0 rfl) ?_
  refine lv_sipush (v := 196) hx hb dX2_decodeLocal_7 (by decide) ?_
  refine lv_icmp_ne (tgt := 81) hx hb dX2_decodeLocal_10 (by decide) (fun c5 => ?_) (fun c5 => ?_)
  · replace h := h.2 (k_ne rfl (by decide) c5)
    refine lv_iload_n hx hb dX2_decodeLocal_81 rfl (lv_at hl 0 rfl) ?_
    refine lv_sipush (v := 132) hx hb dX2_decodeLocal_82 (by decide) ?_
    refine lv_icmp_ne (tgt := 119) hx hb dX2_decodeLocal_85 (by decide) (fun c6 => ?_) (fun c6 => ?_)
    · replace h := h.2 (k_ne rfl (by decide) c6)
      refine lv_iload_n hx hb dX2_decodeLocal_119 rfl (lv_at hl 0 rfl) ?_
      obtain ⟨hv7, h⟩ := h
      have hFc := cfree hR hA
      refine va_calli (va_runS (As := [.int a4]) (rest := []) ⟨hx, hb, hml, hown, hts⟩ (rX6_usesLocal l g ad H.size S a4 hR.w  hv7) (va_cwS 1 hts (gd_S kw_693 kw_1260 kw_1207 kw_1259) rfl rfl rfl (by decide +kernel) ⟨Nat.le_of_ble_eq_true rfl, Nat.le_of_ble_eq_true rfl⟩) ⟨cblind, fun U hU hW9 => cmk hU hW9 hR hex hE hFc⟩ rfl rfl hl.1 rfl (lv_room (Nat.le_of_ble_eq_true rfl)) dX2_decodeLocal_120 ⟨Nat.le_of_ble_eq_true rfl, Nat.le_of_ble_eq_true rfl⟩) hR.sS (fun q _ h => hFc q h) hFc (fun r8 u9 t9 H1 locs ht9 hvm9 hw9 hB9 hz9 hk9 hS => ?_)
      have hR : RepC g ad A s S H1 locs := hR.call ht9 hB9 hR.w hS hFc
      obtain ⟨rfl, hz_r8⟩ := hw9
      clear hB9 hz9 hk9 hvm9 ht9 hS
      generalize H1 = H at hR ⊢
      refine lv_if_eq (tgt := 142) hx hb dX2_decodeLocal_123 (by decide) (fun c10 => ?_) (fun c10 => ?_)
      · replace h := h.1 (k_eq rfl (by decide) c10)
        refine lv_iload_n hx hb dX2_decodeLocal_142 rfl (lv_at hl 0 rfl) ?_
        refine lv_bipush (v := 26) hx hb dX2_decodeLocal_143 (by decide) ?_
        have J_181 : ∀ (U181 : MS) (v181_2 : Int32) (H : Heap) (locs : List Loc) (ls : Array Slot), w_X2_decodeLocal_J181 Q U181 v181_2 → shy S U181 → RepC g ad A s U181 H locs → lv_has ls 4 [(0, .ref (ad 8)), (2, .int v181_2)] → W p l e (headSpec (wt yX2_decodeLocal cX2_decodeLocal 4 none) ({ frames := 2, cells := 0, slots := 0, locals := 42 })).room s m ([.ref (ad 8), .int x1] : List Value).toArray below meth c H locs 0 0 (MQ below (va_Qv (fun (u : MS) => Q u ∧ wfC u ∧ shy S u) (fun (u : MS) (t : State) => qEC g ad A u t) A) ([.ref (ad 8), .int x1] : List Value).toArray s 0 0 A) (F0 m 181 ls []) := by
          intro U181 v181_2 H locs ls h hsh hR hl
          unfold w_X2_decodeLocal_J181 at h
          replace h := h hR.w
          refine lv_iload_n hx hb dX2_decodeLocal_181 rfl (lv_at hl 1 rfl) ?_
          refine lv_bipush (v := 42) hx hb dX2_decodeLocal_182 (by decide) ?_
          have J_207 : ∀ (U207 : MS) (v207_2 : Int32) (H : Heap) (locs : List Loc) (ls : Array Slot), w_X2_decodeLocal_J207 Q U207 v207_2 → shy S U207 → RepC g ad A s U207 H locs → lv_has ls 4 [(0, .ref (ad 8)), (2, .int v207_2)] → W p l e (headSpec (wt yX2_decodeLocal cX2_decodeLocal 4 none) ({ frames := 2, cells := 0, slots := 0, locals := 42 })).room s m ([.ref (ad 8), .int x1] : List Value).toArray below meth c H locs 0 0 (MQ below (va_Qv (fun (u : MS) => Q u ∧ wfC u ∧ shy S u) (fun (u : MS) (t : State) => qEC g ad A u t) A) ([.ref (ad 8), .int x1] : List Value).toArray s 0 0 A) (F0 m 207 ls []) := by
            intro U207 v207_2 H locs ls h hsh hR hl
            unfold w_X2_decodeLocal_J207 at h
            replace h := h hR.w
            refine lv_iload_n hx hb dX2_decodeLocal_207 rfl (lv_at hl 1 rfl) ?_
            refine lv_bipush (v := 59) hx hb dX2_decodeLocal_208 (by decide) ?_
            have J_246 : ∀ (U246 : MS) (v246_2 : Int32) (H : Heap) (locs : List Loc) (ls : Array Slot), w_X2_decodeLocal_J246 Q U246 v246_2 → shy S U246 → RepC g ad A s U246 H locs → lv_has ls 4 [(0, .ref (ad 8)), (2, .int v246_2)] → W p l e (headSpec (wt yX2_decodeLocal cX2_decodeLocal 4 none) ({ frames := 2, cells := 0, slots := 0, locals := 42 })).room s m ([.ref (ad 8), .int x1] : List Value).toArray below meth c H locs 0 0 (MQ below (va_Qv (fun (u : MS) => Q u ∧ wfC u ∧ shy S u) (fun (u : MS) (t : State) => qEC g ad A u t) A) ([.ref (ad 8), .int x1] : List Value).toArray s 0 0 A) (F0 m 246 ls []) := by
              intro U246 v246_2 H locs ls h hsh hR hl
              unfold w_X2_decodeLocal_J246 at h
              replace h := h hR.w
              refine lv_iload_n hx hb dX2_decodeLocal_246 rfl (lv_at hl 1 rfl) ?_
              refine lv_bipush (v := 75) hx hb dX2_decodeLocal_247 (by decide) ?_
              refine lv_icmp_lt (tgt := 269) hx hb dX2_decodeLocal_249 (by decide) (fun c11 => ?_) (fun c11 => ?_)
              · replace h := h.1 (k_lt rfl (by decide) c11)
                exact W.vret hx hb hr (fun t9 ht9 hW9 => ⟨⟨U246, rfl, ⟨h, hR.w, hsh⟩, ⟨by rw [ht9]; exact hR.P, hR.D⟩⟩, hR.sS.F ht9⟩) hR.sS.2.2 dX2_decodeLocal_269
              · replace h := h.2 (k_nlt rfl (by decide) c11)
                refine lv_iload_n hx hb dX2_decodeLocal_252 rfl (lv_at hl 1 rfl) ?_
                refine lv_bipush (v := 78) hx hb dX2_decodeLocal_253 (by decide) ?_
                refine lv_icmp_gt (tgt := 269) hx hb dX2_decodeLocal_255 (by decide) (fun c12 => ?_) (fun c12 => ?_)
                · replace h := h.1 (k_lt (by decide) rfl c12)
                  exact W.vret hx hb hr (fun t9 ht9 hW9 => ⟨⟨U246, rfl, ⟨h, hR.w, hsh⟩, ⟨by rw [ht9]; exact hR.P, hR.D⟩⟩, hR.sS.F ht9⟩) hR.sS.2.2 dX2_decodeLocal_269
                · replace h := h.2 (k_nlt (by decide) rfl c12)
                  refine lv_aload_n hx hb dX2_decodeLocal_258 rfl (lv_at hl 0 rfl) ?_
                  refine lv_bipush (v := 58) hx hb dX2_decodeLocal_259 (by decide) ?_
                  refine lv_iload_n hx hb dX2_decodeLocal_261 rfl (lv_at hl 1 rfl) ?_
                  refine lv_bipush (v := 75) hx hb dX2_decodeLocal_262 (by decide) ?_
                  refine lv_isub hx hb dX2_decodeLocal_264 ?_
                  refine lv_topi (fun z13 ez13 => ?_)
                  obtain rfl : z13 = (v246_2 - (75 : Int32)) := ez13
                  refine lv_i2l (v := ((v246_2 - (75 : Int32)).toInt64)) hx hb dX2_decodeLocal_265 rfl ?_
                  obtain ⟨Q14, h0, h⟩ := h
                  have hFc := cfree hR hA
                  refine va_callv (va_runV (As := [.int 58, .long ((v246_2 - (75 : Int32)).toInt64)]) (rest := []) ⟨hx, hb, hml, hown, hts⟩ (rX2_set l g ad H.size U246 (58 : Int32) ((v246_2 - (75 : Int32)).toInt64) hR.w  Q14 h0) (cwV 2 hts (gd_V kw_684 kw_793 kw_794 kw_389 kw_792) rfl rfl rfl (by decide +kernel) ⟨Nat.le_of_ble_eq_true rfl, Nat.le_of_ble_eq_true rfl⟩) ⟨cblind, va_recv hR.K hR.P (ci := 2) (q0 := 8) rfl (hR.at42 (hR.w.2.1 _ finC_26).2.1), fun U hU hW9 => cmk hU hW9 hR hex hE hFc⟩ rfl rfl hl.1 rfl (lv_room (Nat.le_of_ble_eq_true rfl)) dX2_decodeLocal_266 ⟨Nat.le_of_ble_eq_true rfl, Nat.le_of_ble_eq_true rfl⟩) hR.sS (fun q _ h => hFc q h) hFc (fun  S15 t9 H1 locs ht9 hvm9 hw9 hB9 hz9 hk9 hS => ?_)
                  obtain ⟨hq16, hw9, hs9⟩ := hw9
                  have hR : RepC g ad A s S15 H1 locs := hR.call ht9 hB9 hw9 hS hFc
                  have hsh := hsh.tr hs9
                  replace h := h  S15 hq16 hw9 hs9
                  clear hB9 hz9 hk9 hvm9 ht9 hw9 hs9 hS
                  generalize H1 = H at hR ⊢
                  exact W.vret hx hb hr (fun t9 ht9 hW9 => ⟨⟨S15, rfl, ⟨h, hR.w, hsh⟩, ⟨by rw [ht9]; exact hR.P, hR.D⟩⟩, hR.sS.F ht9⟩) hR.sS.2.2 dX2_decodeLocal_269
            refine lv_icmp_lt (tgt := 246) hx hb dX2_decodeLocal_210 (by decide) (fun c17 => ?_) (fun c17 => ?_)
            · replace h := h.1 (k_lt rfl (by decide) c17)
              exact J_246 U207 v207_2 _ _ ls h  hsh hR (lv_sub hl [0, 1] rfl)
            · replace h := h.2 (k_nlt rfl (by decide) c17)
              refine lv_iload_n hx hb dX2_decodeLocal_213 rfl (lv_at hl 1 rfl) ?_
              refine lv_bipush (v := 66) hx hb dX2_decodeLocal_214 (by decide) ?_
              refine lv_icmp_gt (tgt := 246) hx hb dX2_decodeLocal_216 (by decide) (fun c18 => ?_) (fun c18 => ?_)
              · replace h := h.1 (k_lt (by decide) rfl c18)
                exact J_246 U207 v207_2 _ _ ls h  hsh hR (lv_sub hl [0, 1] rfl)
              · replace h := h.2 (k_nlt (by decide) rfl c18)
                refine lv_aload_n hx hb dX2_decodeLocal_219 rfl (lv_at hl 0 rfl) ?_
                refine lv_iload_n hx hb dX2_decodeLocal_220 rfl (lv_at hl 1 rfl) ?_
                refine lv_bipush (v := 63) hx hb dX2_decodeLocal_221 (by decide) ?_
                have J_233 : ∀ (U233 : MS) (t233_0 : Int32) (v233_2 : Int32) (H : Heap) (locs : List Loc) (ls : Array Slot), w_X2_decodeLocal_J233 Q U233 t233_0 v233_2 → shy S U233 → RepC g ad A s U233 H locs → lv_has ls 4 [(2, .int v233_2)] → W p l e (headSpec (wt yX2_decodeLocal cX2_decodeLocal 4 none) ({ frames := 2, cells := 0, slots := 0, locals := 42 })).room s m ([.ref (ad 8), .int x1] : List Value).toArray below meth c H locs 0 0 (MQ below (va_Qv (fun (u : MS) => Q u ∧ wfC u ∧ shy S u) (fun (u : MS) (t : State) => qEC g ad A u t) A) ([.ref (ad 8), .int x1] : List Value).toArray s 0 0 A) (F0 m 233 ls [.int t233_0, .ref (ad 8)]) := by
                  intro U233 t233_0 v233_2 H locs ls h hsh hR hl
                  unfold w_X2_decodeLocal_J233 at h
                  replace h := h hR.w
                  refine lv_iload_n hx hb dX2_decodeLocal_233 rfl (lv_at hl 0 rfl) ?_
                  refine lv_bipush (v := 59) hx hb dX2_decodeLocal_234 (by decide) ?_
                  refine lv_isub hx hb dX2_decodeLocal_236 ?_
                  refine lv_topi (fun z19 ez19 => ?_)
                  obtain rfl : z19 = (v233_2 - (59 : Int32)) := ez19
                  refine lv_iconst (v := 3) hx hb dX2_decodeLocal_237 (by decide) ?_
                  refine lv_iand hx hb dX2_decodeLocal_238 ?_
                  refine lv_topi (fun z20 ez20 => ?_)
                  obtain rfl : z20 = ((v233_2 - (59 : Int32)) &&& (3 : Int32)) := ez20
                  refine lv_i2l (v := (((v233_2 - (59 : Int32)) &&& (3 : Int32)).toInt64)) hx hb dX2_decodeLocal_239 rfl ?_
                  obtain ⟨Q21, h0, h⟩ := h
                  have hFc := cfree hR hA
                  refine va_callv (va_runV (As := [.int t233_0, .long (((v233_2 - (59 : Int32)) &&& (3 : Int32)).toInt64)]) (rest := []) ⟨hx, hb, hml, hown, hts⟩ (rX2_set l g ad H.size U233 t233_0 (((v233_2 - (59 : Int32)) &&& (3 : Int32)).toInt64) hR.w  Q21 h0) (cwV 2 hts (gd_V kw_684 kw_793 kw_794 kw_389 kw_792) rfl rfl rfl (by decide +kernel) ⟨Nat.le_of_ble_eq_true rfl, Nat.le_of_ble_eq_true rfl⟩) ⟨cblind, va_recv hR.K hR.P (ci := 2) (q0 := 8) rfl (hR.at42 (hR.w.2.1 _ finC_26).2.1), fun U hU hW9 => cmk hU hW9 hR hex hE hFc⟩ rfl rfl hl.1 rfl (lv_room (Nat.le_of_ble_eq_true rfl)) dX2_decodeLocal_240 ⟨Nat.le_of_ble_eq_true rfl, Nat.le_of_ble_eq_true rfl⟩) hR.sS (fun q _ h => hFc q h) hFc (fun  S22 t9 H1 locs ht9 hvm9 hw9 hB9 hz9 hk9 hS => ?_)
                  obtain ⟨hq23, hw9, hs9⟩ := hw9
                  have hR : RepC g ad A s S22 H1 locs := hR.call ht9 hB9 hw9 hS hFc
                  have hsh := hsh.tr hs9
                  replace h := h  S22 hq23 hw9 hs9
                  clear hB9 hz9 hk9 hvm9 ht9 hw9 hs9 hS
                  generalize H1 = H at hR ⊢
                  refine lv_goto (tgt := 269) hx hb dX2_decodeLocal_243 (by decide) ?_
                  exact W.vret hx hb hr (fun t9 ht9 hW9 => ⟨⟨S22, rfl, ⟨h, hR.w, hsh⟩, ⟨by rw [ht9]; exact hR.P, hR.D⟩⟩, hR.sS.F ht9⟩) hR.sS.2.2 dX2_decodeLocal_269
                refine lv_icmp_ge (tgt := 231) hx hb dX2_decodeLocal_223 (by decide) (fun c24 => ?_) (fun c24 => ?_)
                · replace h := h.1 (k_le (by decide) rfl c24)
                  refine lv_bipush (v := 55) hx hb dX2_decodeLocal_231 (by decide) ?_
                  exact J_233 U207 55 v207_2 _ _ ls h  hsh hR (lv_sub hl [1] rfl)
                · replace h := h.2 (k_nle (by decide) rfl c24)
                  refine lv_bipush (v := 54) hx hb dX2_decodeLocal_226 (by decide) ?_
                  refine lv_goto (tgt := 233) hx hb dX2_decodeLocal_228 (by decide) ?_
                  exact J_233 U207 54 v207_2 _ _ ls h  hsh hR (lv_sub hl [1] rfl)
          refine lv_icmp_lt (tgt := 207) hx hb dX2_decodeLocal_184 (by decide) (fun c25 => ?_) (fun c25 => ?_)
          · replace h := h.1 (k_lt rfl (by decide) c25)
            exact J_207 U181 v181_2 _ _ ls h  hsh hR (lv_sub hl [0, 1] rfl)
          · replace h := h.2 (k_nlt rfl (by decide) c25)
            refine lv_iload_n hx hb dX2_decodeLocal_187 rfl (lv_at hl 1 rfl) ?_
            refine lv_bipush (v := 45) hx hb dX2_decodeLocal_188 (by decide) ?_
            refine lv_icmp_gt (tgt := 207) hx hb dX2_decodeLocal_190 (by decide) (fun c26 => ?_) (fun c26 => ?_)
            · replace h := h.1 (k_lt (by decide) rfl c26)
              exact J_207 U181 v181_2 _ _ ls h  hsh hR (lv_sub hl [0, 1] rfl)
            · replace h := h.2 (k_nlt (by decide) rfl c26)
              refine lv_aload_n hx hb dX2_decodeLocal_193 rfl (lv_at hl 0 rfl) ?_
              refine lv_bipush (v := 25) hx hb dX2_decodeLocal_194 (by decide) ?_
              refine lv_iload_n hx hb dX2_decodeLocal_196 rfl (lv_at hl 1 rfl) ?_
              refine lv_bipush (v := 42) hx hb dX2_decodeLocal_197 (by decide) ?_
              refine lv_isub hx hb dX2_decodeLocal_199 ?_
              refine lv_topi (fun z27 ez27 => ?_)
              obtain rfl : z27 = (v181_2 - (42 : Int32)) := ez27
              refine lv_i2l (v := ((v181_2 - (42 : Int32)).toInt64)) hx hb dX2_decodeLocal_200 rfl ?_
              obtain ⟨Q28, h0, h⟩ := h
              have hFc := cfree hR hA
              refine va_callv (va_runV (As := [.int 25, .long ((v181_2 - (42 : Int32)).toInt64)]) (rest := []) ⟨hx, hb, hml, hown, hts⟩ (rX2_set l g ad H.size U181 (25 : Int32) ((v181_2 - (42 : Int32)).toInt64) hR.w  Q28 h0) (cwV 2 hts (gd_V kw_684 kw_793 kw_794 kw_389 kw_792) rfl rfl rfl (by decide +kernel) ⟨Nat.le_of_ble_eq_true rfl, Nat.le_of_ble_eq_true rfl⟩) ⟨cblind, va_recv hR.K hR.P (ci := 2) (q0 := 8) rfl (hR.at42 (hR.w.2.1 _ finC_26).2.1), fun U hU hW9 => cmk hU hW9 hR hex hE hFc⟩ rfl rfl hl.1 rfl (lv_room (Nat.le_of_ble_eq_true rfl)) dX2_decodeLocal_201 ⟨Nat.le_of_ble_eq_true rfl, Nat.le_of_ble_eq_true rfl⟩) hR.sS (fun q _ h => hFc q h) hFc (fun  S29 t9 H1 locs ht9 hvm9 hw9 hB9 hz9 hk9 hS => ?_)
              obtain ⟨hq30, hw9, hs9⟩ := hw9
              have hR : RepC g ad A s S29 H1 locs := hR.call ht9 hB9 hw9 hS hFc
              have hsh := hsh.tr hs9
              replace h := h  S29 hq30 hw9 hs9
              clear hB9 hz9 hk9 hvm9 ht9 hw9 hs9 hS
              generalize H1 = H at hR ⊢
              refine lv_goto (tgt := 269) hx hb dX2_decodeLocal_204 (by decide) ?_
              exact W.vret hx hb hr (fun t9 ht9 hW9 => ⟨⟨S29, rfl, ⟨h, hR.w, hsh⟩, ⟨by rw [ht9]; exact hR.P, hR.D⟩⟩, hR.sS.F ht9⟩) hR.sS.2.2 dX2_decodeLocal_269
        refine lv_icmp_lt (tgt := 181) hx hb dX2_decodeLocal_145 (by decide) (fun c31 => ?_) (fun c31 => ?_)
        · replace h := h.1 (k_lt rfl (by decide) c31)
          exact J_181 S a4 _ _ ls h  hsh hR (lv_sub hl [1, 0] rfl)
        · replace h := h.2 (k_nlt rfl (by decide) c31)
          refine lv_iload_n hx hb dX2_decodeLocal_148 rfl (lv_at hl 0 rfl) ?_
          refine lv_bipush (v := 33) hx hb dX2_decodeLocal_149 (by decide) ?_
          refine lv_icmp_gt (tgt := 181) hx hb dX2_decodeLocal_151 (by decide) (fun c32 => ?_) (fun c32 => ?_)
          · replace h := h.1 (k_lt (by decide) rfl c32)
            exact J_181 S a4 _ _ ls h  hsh hR (lv_sub hl [1, 0] rfl)
          · replace h := h.2 (k_nlt (by decide) rfl c32)
            refine lv_aload_n hx hb dX2_decodeLocal_154 rfl (lv_at hl 1 rfl) ?_
            refine lv_iload_n hx hb dX2_decodeLocal_155 rfl (lv_at hl 0 rfl) ?_
            refine lv_bipush (v := 30) hx hb dX2_decodeLocal_156 (by decide) ?_
            have J_168 : ∀ (U168 : MS) (t168_0 : Int32) (v168_2 : Int32) (H : Heap) (locs : List Loc) (ls : Array Slot), w_X2_decodeLocal_J168 Q U168 t168_0 v168_2 → shy S U168 → RepC g ad A s U168 H locs → lv_has ls 4 [(2, .int v168_2)] → W p l e (headSpec (wt yX2_decodeLocal cX2_decodeLocal 4 none) ({ frames := 2, cells := 0, slots := 0, locals := 42 })).room s m ([.ref (ad 8), .int x1] : List Value).toArray below meth c H locs 0 0 (MQ below (va_Qv (fun (u : MS) => Q u ∧ wfC u ∧ shy S u) (fun (u : MS) (t : State) => qEC g ad A u t) A) ([.ref (ad 8), .int x1] : List Value).toArray s 0 0 A) (F0 m 168 ls [.int t168_0, .ref (ad 8)]) := by
              intro U168 t168_0 v168_2 H locs ls h hsh hR hl
              unfold w_X2_decodeLocal_J168 at h
              replace h := h hR.w
              refine lv_iload_n hx hb dX2_decodeLocal_168 rfl (lv_at hl 0 rfl) ?_
              refine lv_bipush (v := 26) hx hb dX2_decodeLocal_169 (by decide) ?_
              refine lv_isub hx hb dX2_decodeLocal_171 ?_
              refine lv_topi (fun z33 ez33 => ?_)
              obtain rfl : z33 = (v168_2 - (26 : Int32)) := ez33
              refine lv_iconst (v := 3) hx hb dX2_decodeLocal_172 (by decide) ?_
              refine lv_iand hx hb dX2_decodeLocal_173 ?_
              refine lv_topi (fun z34 ez34 => ?_)
              obtain rfl : z34 = ((v168_2 - (26 : Int32)) &&& (3 : Int32)) := ez34
              refine lv_i2l (v := (((v168_2 - (26 : Int32)) &&& (3 : Int32)).toInt64)) hx hb dX2_decodeLocal_174 rfl ?_
              obtain ⟨Q35, h0, h⟩ := h
              have hFc := cfree hR hA
              refine va_callv (va_runV (As := [.int t168_0, .long (((v168_2 - (26 : Int32)) &&& (3 : Int32)).toInt64)]) (rest := []) ⟨hx, hb, hml, hown, hts⟩ (rX2_set l g ad H.size U168 t168_0 (((v168_2 - (26 : Int32)) &&& (3 : Int32)).toInt64) hR.w  Q35 h0) (cwV 2 hts (gd_V kw_684 kw_793 kw_794 kw_389 kw_792) rfl rfl rfl (by decide +kernel) ⟨Nat.le_of_ble_eq_true rfl, Nat.le_of_ble_eq_true rfl⟩) ⟨cblind, va_recv hR.K hR.P (ci := 2) (q0 := 8) rfl (hR.at42 (hR.w.2.1 _ finC_26).2.1), fun U hU hW9 => cmk hU hW9 hR hex hE hFc⟩ rfl rfl hl.1 rfl (lv_room (Nat.le_of_ble_eq_true rfl)) dX2_decodeLocal_175 ⟨Nat.le_of_ble_eq_true rfl, Nat.le_of_ble_eq_true rfl⟩) hR.sS (fun q _ h => hFc q h) hFc (fun  S36 t9 H1 locs ht9 hvm9 hw9 hB9 hz9 hk9 hS => ?_)
              obtain ⟨hq37, hw9, hs9⟩ := hw9
              have hR : RepC g ad A s S36 H1 locs := hR.call ht9 hB9 hw9 hS hFc
              have hsh := hsh.tr hs9
              replace h := h  S36 hq37 hw9 hs9
              clear hB9 hz9 hk9 hvm9 ht9 hw9 hs9 hS
              generalize H1 = H at hR ⊢
              refine lv_goto (tgt := 269) hx hb dX2_decodeLocal_178 (by decide) ?_
              exact W.vret hx hb hr (fun t9 ht9 hW9 => ⟨⟨S36, rfl, ⟨h, hR.w, hsh⟩, ⟨by rw [ht9]; exact hR.P, hR.D⟩⟩, hR.sS.F ht9⟩) hR.sS.2.2 dX2_decodeLocal_269
            refine lv_icmp_ge (tgt := 166) hx hb dX2_decodeLocal_158 (by decide) (fun c38 => ?_) (fun c38 => ?_)
            · replace h := h.1 (k_le (by decide) rfl c38)
              refine lv_bipush (v := 22) hx hb dX2_decodeLocal_166 (by decide) ?_
              exact J_168 S 22 a4 _ _ ls h  hsh hR (lv_sub hl [0] rfl)
            · replace h := h.2 (k_nle (by decide) rfl c38)
              refine lv_bipush (v := 21) hx hb dX2_decodeLocal_161 (by decide) ?_
              refine lv_goto (tgt := 168) hx hb dX2_decodeLocal_163 (by decide) ?_
              exact J_168 S 21 a4 _ _ ls h  hsh hR (lv_sub hl [0] rfl)
      · replace h := h.2 (k_ne rfl (by decide) c10)
        refine lv_aload_n hx hb dX2_decodeLocal_126 rfl (lv_at hl 1 rfl) ?_
        refine lv_iload_n hx hb dX2_decodeLocal_127 rfl (lv_at hl 0 rfl) ?_
        refine lv_aload_n hx hb dX2_decodeLocal_128 rfl (lv_at hl 1 rfl) ?_
        refine lv_iload_n hx hb dX2_decodeLocal_129 rfl (lv_at hl 2 rfl) ?_
        refine lv_iconst (v := 1) hx hb dX2_decodeLocal_130 (by decide) ?_
        refine lv_iadd hx hb dX2_decodeLocal_131 ?_
        refine lv_topi (fun z39 ez39 => ?_)
        obtain rfl : z39 = (x1 + (1 : Int32)) := ez39
        obtain ⟨hv40, h⟩ := h
        have hFc := cfree hR hA
        refine va_calli (va_runV (As := [.int (x1 + (1 : Int32))]) (rest := [.int a4, .ref (ad 8)]) ⟨hx, hb, hml, hown, hts⟩ (rX2_u1 l g ad H.size S (x1 + (1 : Int32)) hR.w  hv40) (cwV 1 hts (gd_V kw_682 kw_812 kw_813 kw_389 kw_811) rfl rfl rfl (by decide +kernel) ⟨Nat.le_of_ble_eq_true rfl, Nat.le_of_ble_eq_true rfl⟩) ⟨cblind, va_recv hR.K hR.P (ci := 2) (q0 := 8) rfl (hR.at42 (hR.w.2.1 _ finC_26).2.1), fun U hU hW9 => cmk hU hW9 hR hex hE hFc⟩ rfl rfl hl.1 rfl (lv_room (Nat.le_of_ble_eq_true rfl)) dX2_decodeLocal_132 ⟨Nat.le_of_ble_eq_true rfl, Nat.le_of_ble_eq_true rfl⟩) hR.sS (fun q _ h => hFc q h) hFc (fun r41 u9 t9 H1 locs ht9 hvm9 hw9 hB9 hz9 hk9 hS => ?_)
        have hR : RepC g ad A s S H1 locs := hR.call ht9 hB9 hR.w hS hFc
        obtain rfl : r41 = (fX2_u1 S (x1 + (1 : Int32))) := hw9
        clear hB9 hz9 hk9 hvm9 ht9 hS
        generalize H1 = H at hR ⊢
        refine lv_i2l (v := ((fX2_u1 S (x1 + (1 : Int32))).toInt64)) hx hb dX2_decodeLocal_135 rfl ?_
        obtain ⟨Q43, h0, h⟩ := h
        have hFc := cfree hR hA
        refine va_callv (va_runV (As := [.int a4, .long ((fX2_u1 S (x1 + (1 : Int32))).toInt64)]) (rest := []) ⟨hx, hb, hml, hown, hts⟩ (rX2_set l g ad H.size S a4 ((fX2_u1 S (x1 + (1 : Int32))).toInt64) hR.w  Q43 h0) (cwV 2 hts (gd_V kw_684 kw_793 kw_794 kw_389 kw_792) rfl rfl rfl (by decide +kernel) ⟨Nat.le_of_ble_eq_true rfl, Nat.le_of_ble_eq_true rfl⟩) ⟨cblind, va_recv hR.K hR.P (ci := 2) (q0 := 8) rfl (hR.at42 (hR.w.2.1 _ finC_26).2.1), fun U hU hW9 => cmk hU hW9 hR hex hE hFc⟩ rfl rfl hl.1 rfl (lv_room (Nat.le_of_ble_eq_true rfl)) dX2_decodeLocal_136 ⟨Nat.le_of_ble_eq_true rfl, Nat.le_of_ble_eq_true rfl⟩) hR.sS (fun q _ h => hFc q h) hFc (fun  S44 t9 H1 locs ht9 hvm9 hw9 hB9 hz9 hk9 hS => ?_)
        obtain ⟨hq45, hw9, hs9⟩ := hw9
        have hR : RepC g ad A s S44 H1 locs := hR.call ht9 hB9 hw9 hS hFc
        have hsh := hsh.tr hs9
        replace h := h  S44 hq45 hw9 hs9
        clear hB9 hz9 hk9 hvm9 ht9 hw9 hs9 hS
        generalize H1 = H at hR ⊢
        refine lv_goto (tgt := 269) hx hb dX2_decodeLocal_139 (by decide) ?_
        exact W.vret hx hb hr (fun t9 ht9 hW9 => ⟨⟨S44, rfl, ⟨h, hR.w, hsh⟩, ⟨by rw [ht9]; exact hR.P, hR.D⟩⟩, hR.sS.F ht9⟩) hR.sS.2.2 dX2_decodeLocal_269
    · replace h := h.1 (k_eq rfl (by decide) c6)
      refine lv_aload_n hx hb dX2_decodeLocal_88 rfl (lv_at hl 1 rfl) ?_
      refine lv_sipush (v := 132) hx hb dX2_decodeLocal_89 (by decide) ?_
      refine lv_aload_n hx hb dX2_decodeLocal_92 rfl (lv_at hl 1 rfl) ?_
      refine lv_iload_n hx hb dX2_decodeLocal_93 rfl (lv_at hl 2 rfl) ?_
      refine lv_iconst (v := 2) hx hb dX2_decodeLocal_94 (by decide) ?_
      refine lv_iadd hx hb dX2_decodeLocal_95 ?_
      refine lv_topi (fun z46 ez46 => ?_)
      obtain rfl : z46 = (x1 + (2 : Int32)) := ez46
      obtain ⟨hv47, h⟩ := h
      have hFc := cfree hR hA
      refine va_calli (va_runV (As := [.int (x1 + (2 : Int32))]) (rest := [.int 132, .ref (ad 8)]) ⟨hx, hb, hml, hown, hts⟩ (rX2_u1 l g ad H.size S (x1 + (2 : Int32)) hR.w  hv47) (cwV 1 hts (gd_V kw_682 kw_812 kw_813 kw_389 kw_811) rfl rfl rfl (by decide +kernel) ⟨Nat.le_of_ble_eq_true rfl, Nat.le_of_ble_eq_true rfl⟩) ⟨cblind, va_recv hR.K hR.P (ci := 2) (q0 := 8) rfl (hR.at42 (hR.w.2.1 _ finC_26).2.1), fun U hU hW9 => cmk hU hW9 hR hex hE hFc⟩ rfl rfl hl.1 rfl (lv_room (Nat.le_of_ble_eq_true rfl)) dX2_decodeLocal_96 ⟨Nat.le_of_ble_eq_true rfl, Nat.le_of_ble_eq_true rfl⟩) hR.sS (fun q _ h => hFc q h) hFc (fun r48 u9 t9 H1 locs ht9 hvm9 hw9 hB9 hz9 hk9 hS => ?_)
      have hR : RepC g ad A s S H1 locs := hR.call ht9 hB9 hR.w hS hFc
      obtain rfl : r48 = (fX2_u1 S (x1 + (2 : Int32))) := hw9
      clear hB9 hz9 hk9 hvm9 ht9 hS
      generalize H1 = H at hR ⊢
      refine lv_i2b (v := ((fX2_u1 S (x1 + (2 : Int32))).toInt8.toInt32)) hx hb dX2_decodeLocal_99 rfl ?_
      refine lv_i2l (v := (((fX2_u1 S (x1 + (2 : Int32))).toInt8.toInt32).toInt64)) hx hb dX2_decodeLocal_100 rfl ?_
      refine lv_bipush (v := 8) hx hb dX2_decodeLocal_101 (by decide) ?_
      refine lv_lshl (v := ((((fX2_u1 S (x1 + (2 : Int32))).toInt8.toInt32).toInt64) <<< ((8 : Int32).toInt64 &&& 63))) hx hb dX2_decodeLocal_103 rfl ?_
      refine lv_aload_n hx hb dX2_decodeLocal_104 rfl (lv_at hl 1 rfl) ?_
      refine lv_iload_n hx hb dX2_decodeLocal_105 rfl (lv_at hl 2 rfl) ?_
      refine lv_iconst (v := 1) hx hb dX2_decodeLocal_106 (by decide) ?_
      refine lv_iadd hx hb dX2_decodeLocal_107 ?_
      refine lv_topi (fun z50 ez50 => ?_)
      obtain rfl : z50 = (x1 + (1 : Int32)) := ez50
      obtain ⟨hv51, h⟩ := h
      have hFc := cfree hR hA
      refine va_calli (va_runV (As := [.int (x1 + (1 : Int32))]) (rest := [.long ((((fX2_u1 S (x1 + (2 : Int32))).toInt8.toInt32).toInt64) <<< ((8 : Int32).toInt64 &&& 63)), .int 132, .ref (ad 8)]) ⟨hx, hb, hml, hown, hts⟩ (rX2_u1 l g ad H.size S (x1 + (1 : Int32)) hR.w  hv51) (cwV 1 hts (gd_V kw_682 kw_812 kw_813 kw_389 kw_811) rfl rfl rfl (by decide +kernel) ⟨Nat.le_of_ble_eq_true rfl, Nat.le_of_ble_eq_true rfl⟩) ⟨cblind, va_recv hR.K hR.P (ci := 2) (q0 := 8) rfl (hR.at42 (hR.w.2.1 _ finC_26).2.1), fun U hU hW9 => cmk hU hW9 hR hex hE hFc⟩ rfl rfl hl.1 rfl (lv_room (Nat.le_of_ble_eq_true rfl)) dX2_decodeLocal_108 ⟨Nat.le_of_ble_eq_true rfl, Nat.le_of_ble_eq_true rfl⟩) hR.sS (fun q _ h => hFc q h) hFc (fun r52 u9 t9 H1 locs ht9 hvm9 hw9 hB9 hz9 hk9 hS => ?_)
      have hR : RepC g ad A s S H1 locs := hR.call ht9 hB9 hR.w hS hFc
      obtain rfl : r52 = (fX2_u1 S (x1 + (1 : Int32))) := hw9
      clear hB9 hz9 hk9 hvm9 ht9 hS
      generalize H1 = H at hR ⊢
      refine lv_i2l (v := ((fX2_u1 S (x1 + (1 : Int32))).toInt64)) hx hb dX2_decodeLocal_111 rfl ?_
      refine lv_lor hx hb dX2_decodeLocal_112 ?_
      refine lv_topl (fun z54 ez54 => ?_)
      obtain rfl : z54 = (((((fX2_u1 S (x1 + (2 : Int32))).toInt8.toInt32).toInt64) <<< ((8 : Int32).toInt64 &&& 63)) ||| ((fX2_u1 S (x1 + (1 : Int32))).toInt64)) := ez54
      obtain ⟨Q55, h0, h⟩ := h
      have hFc := cfree hR hA
      refine va_callv (va_runV (As := [.int 132, .long (((((fX2_u1 S (x1 + (2 : Int32))).toInt8.toInt32).toInt64) <<< ((8 : Int32).toInt64 &&& 63)) ||| ((fX2_u1 S (x1 + (1 : Int32))).toInt64))]) (rest := []) ⟨hx, hb, hml, hown, hts⟩ (rX2_set l g ad H.size S (132 : Int32) (((((fX2_u1 S (x1 + (2 : Int32))).toInt8.toInt32).toInt64) <<< ((8 : Int32).toInt64 &&& 63)) ||| ((fX2_u1 S (x1 + (1 : Int32))).toInt64)) hR.w  Q55 h0) (cwV 2 hts (gd_V kw_684 kw_793 kw_794 kw_389 kw_792) rfl rfl rfl (by decide +kernel) ⟨Nat.le_of_ble_eq_true rfl, Nat.le_of_ble_eq_true rfl⟩) ⟨cblind, va_recv hR.K hR.P (ci := 2) (q0 := 8) rfl (hR.at42 (hR.w.2.1 _ finC_26).2.1), fun U hU hW9 => cmk hU hW9 hR hex hE hFc⟩ rfl rfl hl.1 rfl (lv_room (Nat.le_of_ble_eq_true rfl)) dX2_decodeLocal_113 ⟨Nat.le_of_ble_eq_true rfl, Nat.le_of_ble_eq_true rfl⟩) hR.sS (fun q _ h => hFc q h) hFc (fun  S56 t9 H1 locs ht9 hvm9 hw9 hB9 hz9 hk9 hS => ?_)
      obtain ⟨hq57, hw9, hs9⟩ := hw9
      have hR : RepC g ad A s S56 H1 locs := hR.call ht9 hB9 hw9 hS hFc
      have hsh := hsh.tr hs9
      replace h := h  S56 hq57 hw9 hs9
      clear hB9 hz9 hk9 hvm9 ht9 hw9 hs9 hS
      generalize H1 = H at hR ⊢
      refine lv_goto (tgt := 269) hx hb dX2_decodeLocal_116 (by decide) ?_
      exact W.vret hx hb hr (fun t9 ht9 hW9 => ⟨⟨S56, rfl, ⟨h, hR.w, hsh⟩, ⟨by rw [ht9]; exact hR.P, hR.D⟩⟩, hR.sS.F ht9⟩) hR.sS.2.2 dX2_decodeLocal_269
  · replace h := h.1 (k_eq rfl (by decide) c5)
    refine lv_aload_n hx hb dX2_decodeLocal_13 rfl (lv_at hl 1 rfl) ?_
    refine lv_iload_n hx hb dX2_decodeLocal_14 rfl (lv_at hl 2 rfl) ?_
    refine lv_iconst (v := 2) hx hb dX2_decodeLocal_15 (by decide) ?_
    refine lv_iadd hx hb dX2_decodeLocal_16 ?_
    refine lv_topi (fun z58 ez58 => ?_)
    obtain rfl : z58 = (x1 + (2 : Int32)) := ez58
    obtain ⟨hv59, h⟩ := h
    have hFc := cfree hR hA
    refine va_calli (va_runV (As := [.int (x1 + (2 : Int32))]) (rest := []) ⟨hx, hb, hml, hown, hts⟩ (rX2_u2 l g ad H.size S (x1 + (2 : Int32)) hR.w  hv59) (cwV 1 hts (gd_V kw_685 kw_816 kw_817 kw_389 kw_815) rfl rfl rfl (by decide +kernel) ⟨Nat.le_of_ble_eq_true rfl, Nat.le_of_ble_eq_true rfl⟩) ⟨cblind, va_recv hR.K hR.P (ci := 2) (q0 := 8) rfl (hR.at42 (hR.w.2.1 _ finC_26).2.1), fun U hU hW9 => cmk hU hW9 hR hex hE hFc⟩ rfl rfl hl.1 rfl (lv_room (Nat.le_of_ble_eq_true rfl)) dX2_decodeLocal_17 ⟨Nat.le_of_ble_eq_true rfl, Nat.le_of_ble_eq_true rfl⟩) hR.sS (fun q _ h => hFc q h) hFc (fun r60 u9 t9 H1 locs ht9 hvm9 hw9 hB9 hz9 hk9 hS => ?_)
    have hR : RepC g ad A s S H1 locs := hR.call ht9 hB9 hR.w hS hFc
    obtain rfl : r60 = (fX2_u2 S (x1 + (2 : Int32))) := hw9
    clear hB9 hz9 hk9 hvm9 ht9 hS
    generalize H1 = H at hR ⊢
    obtain ⟨a62, ea62⟩ : ∃ z, z = (fX2_u2 S (x1 + (2 : Int32))) := ⟨_, rfl⟩
    rw [← ea62]
    replace h := h a62 ea62
    refine lv_istore_n (lv' := [(3, .int a62), (2, .int a4), (0, .ref (ad 8)), (1, .int x1)]) hx hb dX2_decodeLocal_20 rfl hl (by decide) rfl (fun ls hl => ?_)
    refine lv_aload_n hx hb dX2_decodeLocal_21 rfl (lv_at hl 2 rfl) ?_
    refine lv_aload_n hx hb dX2_decodeLocal_22 rfl (lv_at hl 2 rfl) ?_
    refine lv_iload_n hx hb dX2_decodeLocal_23 rfl (lv_at hl 3 rfl) ?_
    refine lv_iconst (v := 1) hx hb dX2_decodeLocal_24 (by decide) ?_
    refine lv_iadd hx hb dX2_decodeLocal_25 ?_
    refine lv_topi (fun z63 ez63 => ?_)
    obtain rfl : z63 = (x1 + (1 : Int32)) := ez63
    obtain ⟨hv64, h⟩ := h
    have hFc := cfree hR hA
    refine va_calli (va_runV (As := [.int (x1 + (1 : Int32))]) (rest := [.ref (ad 8)]) ⟨hx, hb, hml, hown, hts⟩ (rX2_u1 l g ad H.size S (x1 + (1 : Int32)) hR.w  hv64) (cwV 1 hts (gd_V kw_682 kw_812 kw_813 kw_389 kw_811) rfl rfl rfl (by decide +kernel) ⟨Nat.le_of_ble_eq_true rfl, Nat.le_of_ble_eq_true rfl⟩) ⟨cblind, va_recv hR.K hR.P (ci := 2) (q0 := 8) rfl (hR.at42 (hR.w.2.1 _ finC_26).2.1), fun U hU hW9 => cmk hU hW9 hR hex hE hFc⟩ rfl rfl hl.1 rfl (lv_room (Nat.le_of_ble_eq_true rfl)) dX2_decodeLocal_26 ⟨Nat.le_of_ble_eq_true rfl, Nat.le_of_ble_eq_true rfl⟩) hR.sS (fun q _ h => hFc q h) hFc (fun r65 u9 t9 H1 locs ht9 hvm9 hw9 hB9 hz9 hk9 hS => ?_)
    have hR : RepC g ad A s S H1 locs := hR.call ht9 hB9 hR.w hS hFc
    obtain rfl : r65 = (fX2_u1 S (x1 + (1 : Int32))) := hw9
    clear hB9 hz9 hk9 hvm9 ht9 hS
    generalize H1 = H at hR ⊢
    refine lv_iload_n hx hb dX2_decodeLocal_29 rfl (lv_at hl 0 rfl) ?_
    refine lv_sipush (v := 255) hx hb dX2_decodeLocal_30 (by decide) ?_
    have J_75 : ∀ (U75 : MS) (t75_0 : Int64) (t75_1 : Int32) (H : Heap) (locs : List Loc) (ls : Array Slot), w_X2_decodeLocal_J75 Q U75 t75_0 t75_1 → shy S U75 → RepC g ad A s U75 H locs → lv_has ls 4 [] → W p l e (headSpec (wt yX2_decodeLocal cX2_decodeLocal 4 none) ({ frames := 2, cells := 0, slots := 0, locals := 42 })).room s m ([.ref (ad 8), .int x1] : List Value).toArray below meth c H locs 0 0 (MQ below (va_Qv (fun (u : MS) => Q u ∧ wfC u ∧ shy S u) (fun (u : MS) (t : State) => qEC g ad A u t) A) ([.ref (ad 8), .int x1] : List Value).toArray s 0 0 A) (F0 m 75 ls [.long t75_0, .int t75_1, .ref (ad 8)]) := by
      intro U75 t75_0 t75_1 H locs ls h hsh hR hl
      unfold w_X2_decodeLocal_J75 at h
      replace h := h hR.w
      obtain ⟨Q67, h0, h⟩ := h
      have hFc := cfree hR hA
      refine va_callv (va_runV (As := [.int t75_1, .long t75_0]) (rest := []) ⟨hx, hb, hml, hown, hts⟩ (rX2_set l g ad H.size U75 t75_1 t75_0 hR.w  Q67 h0) (cwV 2 hts (gd_V kw_684 kw_793 kw_794 kw_389 kw_792) rfl rfl rfl (by decide +kernel) ⟨Nat.le_of_ble_eq_true rfl, Nat.le_of_ble_eq_true rfl⟩) ⟨cblind, va_recv hR.K hR.P (ci := 2) (q0 := 8) rfl (hR.at42 (hR.w.2.1 _ finC_26).2.1), fun U hU hW9 => cmk hU hW9 hR hex hE hFc⟩ rfl rfl hl.1 rfl (lv_room (Nat.le_of_ble_eq_true rfl)) dX2_decodeLocal_75 ⟨Nat.le_of_ble_eq_true rfl, Nat.le_of_ble_eq_true rfl⟩) hR.sS (fun q _ h => hFc q h) hFc (fun  S68 t9 H1 locs ht9 hvm9 hw9 hB9 hz9 hk9 hS => ?_)
      obtain ⟨hq69, hw9, hs9⟩ := hw9
      have hR : RepC g ad A s S68 H1 locs := hR.call ht9 hB9 hw9 hS hFc
      have hsh := hsh.tr hs9
      replace h := h  S68 hq69 hw9 hs9
      clear hB9 hz9 hk9 hvm9 ht9 hw9 hs9 hS
      generalize H1 = H at hR ⊢
      refine lv_goto (tgt := 269) hx hb dX2_decodeLocal_78 (by decide) ?_
      exact W.vret hx hb hr (fun t9 ht9 hW9 => ⟨⟨S68, rfl, ⟨h, hR.w, hsh⟩, ⟨by rw [ht9]; exact hR.P, hR.D⟩⟩, hR.sS.F ht9⟩) hR.sS.2.2 dX2_decodeLocal_269
    refine lv_icmp_le (tgt := 42) hx hb dX2_decodeLocal_33 (by decide) (fun c70 => ?_) (fun c70 => ?_)
    · replace h := h.1 (k_le rfl (by decide) c70)
      refine lv_aload_n hx hb dX2_decodeLocal_42 rfl (lv_at hl 2 rfl) ?_
      refine lv_iload_n hx hb dX2_decodeLocal_43 rfl (lv_at hl 3 rfl) ?_
      refine lv_iconst (v := 1) hx hb dX2_decodeLocal_44 (by decide) ?_
      refine lv_iadd hx hb dX2_decodeLocal_45 ?_
      refine lv_topi (fun z71 ez71 => ?_)
      obtain rfl : z71 = (x1 + (1 : Int32)) := ez71
      obtain ⟨hv72, h⟩ := h
      have hFc := cfree hR hA
      refine va_calli (va_runV (As := [.int (x1 + (1 : Int32))]) (rest := [.int (fX2_u1 S (x1 + (1 : Int32))), .ref (ad 8)]) ⟨hx, hb, hml, hown, hts⟩ (rX2_u1 l g ad H.size S (x1 + (1 : Int32)) hR.w  hv72) (cwV 1 hts (gd_V kw_682 kw_812 kw_813 kw_389 kw_811) rfl rfl rfl (by decide +kernel) ⟨Nat.le_of_ble_eq_true rfl, Nat.le_of_ble_eq_true rfl⟩) ⟨cblind, va_recv hR.K hR.P (ci := 2) (q0 := 8) rfl (hR.at42 (hR.w.2.1 _ finC_26).2.1), fun U hU hW9 => cmk hU hW9 hR hex hE hFc⟩ rfl rfl hl.1 rfl (lv_room (Nat.le_of_ble_eq_true rfl)) dX2_decodeLocal_46 ⟨Nat.le_of_ble_eq_true rfl, Nat.le_of_ble_eq_true rfl⟩) hR.sS (fun q _ h => hFc q h) hFc (fun r73 u9 t9 H1 locs ht9 hvm9 hw9 hB9 hz9 hk9 hS => ?_)
      have hR : RepC g ad A s S H1 locs := hR.call ht9 hB9 hR.w hS hFc
      obtain rfl : r73 = (fX2_u1 S (x1 + (1 : Int32))) := hw9
      clear hB9 hz9 hk9 hvm9 ht9 hS
      generalize H1 = H at hR ⊢
      refine lv_sipush (v := 132) hx hb dX2_decodeLocal_49 (by decide) ?_
      refine lv_icmp_ne (tgt := 73) hx hb dX2_decodeLocal_52 (by decide) (fun c75 => ?_) (fun c75 => ?_)
      · replace h := h.2 (k_ne rfl (by decide) c75)
        refine lv_iload_n hx hb dX2_decodeLocal_73 rfl (lv_at hl 0 rfl) ?_
        refine lv_i2l (v := (a62.toInt64)) hx hb dX2_decodeLocal_74 rfl ?_
        exact J_75 S (a62.toInt64) (fX2_u1 S (x1 + (1 : Int32))) _ _ ls h  hsh hR (lv_sub hl [] rfl)
      · replace h := h.1 (k_eq rfl (by decide) c75)
        refine lv_aload_n hx hb dX2_decodeLocal_55 rfl (lv_at hl 2 rfl) ?_
        refine lv_iload_n hx hb dX2_decodeLocal_56 rfl (lv_at hl 3 rfl) ?_
        refine lv_iconst (v := 4) hx hb dX2_decodeLocal_57 (by decide) ?_
        refine lv_iadd hx hb dX2_decodeLocal_58 ?_
        refine lv_topi (fun z76 ez76 => ?_)
        obtain rfl : z76 = (x1 + (4 : Int32)) := ez76
        obtain ⟨hv77, h⟩ := h
        have hFc := cfree hR hA
        refine va_calli (va_runV (As := [.int (x1 + (4 : Int32))]) (rest := [.int (fX2_u1 S (x1 + (1 : Int32))), .ref (ad 8)]) ⟨hx, hb, hml, hown, hts⟩ (rX2_u2 l g ad H.size S (x1 + (4 : Int32)) hR.w  hv77) (cwV 1 hts (gd_V kw_685 kw_816 kw_817 kw_389 kw_815) rfl rfl rfl (by decide +kernel) ⟨Nat.le_of_ble_eq_true rfl, Nat.le_of_ble_eq_true rfl⟩) ⟨cblind, va_recv hR.K hR.P (ci := 2) (q0 := 8) rfl (hR.at42 (hR.w.2.1 _ finC_26).2.1), fun U hU hW9 => cmk hU hW9 hR hex hE hFc⟩ rfl rfl hl.1 rfl (lv_room (Nat.le_of_ble_eq_true rfl)) dX2_decodeLocal_59 ⟨Nat.le_of_ble_eq_true rfl, Nat.le_of_ble_eq_true rfl⟩) hR.sS (fun q _ h => hFc q h) hFc (fun r78 u9 t9 H1 locs ht9 hvm9 hw9 hB9 hz9 hk9 hS => ?_)
        have hR : RepC g ad A s S H1 locs := hR.call ht9 hB9 hR.w hS hFc
        obtain rfl : r78 = (fX2_u2 S (x1 + (4 : Int32))) := hw9
        clear hB9 hz9 hk9 hvm9 ht9 hS
        generalize H1 = H at hR ⊢
        refine lv_i2s (v := ((fX2_u2 S (x1 + (4 : Int32))).toInt16.toInt32)) hx hb dX2_decodeLocal_62 rfl ?_
        refine lv_i2l (v := (((fX2_u2 S (x1 + (4 : Int32))).toInt16.toInt32).toInt64)) hx hb dX2_decodeLocal_63 rfl ?_
        refine lv_bipush (v := 8) hx hb dX2_decodeLocal_64 (by decide) ?_
        refine lv_lshl (v := ((((fX2_u2 S (x1 + (4 : Int32))).toInt16.toInt32).toInt64) <<< ((8 : Int32).toInt64 &&& 63))) hx hb dX2_decodeLocal_66 rfl ?_
        refine lv_iload_n hx hb dX2_decodeLocal_67 rfl (lv_at hl 0 rfl) ?_
        refine lv_i2l (v := (a62.toInt64)) hx hb dX2_decodeLocal_68 rfl ?_
        refine lv_lor hx hb dX2_decodeLocal_69 ?_
        refine lv_topl (fun z80 ez80 => ?_)
        obtain rfl : z80 = (((((fX2_u2 S (x1 + (4 : Int32))).toInt16.toInt32).toInt64) <<< ((8 : Int32).toInt64 &&& 63)) ||| (a62.toInt64)) := ez80
        refine lv_goto (tgt := 75) hx hb dX2_decodeLocal_70 (by decide) ?_
        exact J_75 S (((((fX2_u2 S (x1 + (4 : Int32))).toInt16.toInt32).toInt64) <<< ((8 : Int32).toInt64 &&& 63)) ||| (a62.toInt64)) (fX2_u1 S (x1 + (1 : Int32))) _ _ ls h  hsh hR (lv_sub hl [] rfl)
    · replace h := h.2 (k_nle rfl (by decide) c70)
      refine lv_ldc2 hx hb hown (hts _ kw_692) dX2_decodeLocal_36 ?_
      refine lv_goto (tgt := 75) hx hb dX2_decodeLocal_39 (by decide) ?_
      exact J_75 S (255 : Int64) (fX2_u1 S (x1 + (1 : Int32))) _ _ ls h  hsh hR (lv_sub hl [] rfl)
def fX2_switchCount (S : MS) (x1 : Int32) : Int32 := (if (qI S 8 9).toInt = 170 then (((fX2_s4 S (x1 + (8 : Int32))) - (fX2_s4 S (x1 + (4 : Int32)))) + (1 : Int32)) else (fX2_s4 S (x1 + (4 : Int32))))
def d_X2_switchCount (S : MS) (x1 : Int32) : Prop := (if (qI S 8 9).toInt = 170 then (d_X2_s4 S (x1 + (8 : Int32)) ∧ (d_X2_s4 S (x1 + (4 : Int32)) ∧ True)) else (d_X2_s4 S (x1 + (4 : Int32)) ∧ True))
set_option maxHeartbeats 2000000 in
set_option maxRecDepth 100000 in
theorem rX2_switchCount (l : Launch) (g : Gr) (ad : Nat → Nat) (sz : Nat) (S : MS) (x1 : Int32) (hw : wfC S) (hd : d_X2_switchCount S x1) : Met l yX2_switchCount (wt yX2_switchCount cX2_switchCount 2 (some .int)) ({ frames := 2, cells := 0, slots := 0, locals := 42 }) (va_Pc [.ref (ad 8), .int x1] (st_C g ad sz S)) (va_Qi (fun (r : Int32) (_ : Unit) => r = fX2_switchCount S x1) (fun (_ : Unit) (t : State) => qEC g ad (va_A (WdC g ad S) sz) S t) (va_A (WdC g ad S) sz)) 0 0 (va_A (WdC g ad S) sz) := by
  refine Met.ofW (cc := cX2_switchCount) (maxL := 2) (ret := (some .int)) (by decide) rfl ?_
  intro p e s m args below meth c s₁ B hml hv
  obtain ⟨rfl, hsz, hP, hK, hD0, hex, hE⟩ := hv
  have hx := B.exec
  have hb := B.bytes
  have hr := B.returns
  have hts0 := atoms_spec (ws := wt yX2_switchCount cX2_switchCount 2 (some .int)) B.pre
  have hts : ∀ w ∈ tb, w.before _ s = true := fun w h => hts0 w (List.mem_cons_of_mem _ h)
  have hown : s.vm.findClass RX2 = some m.cls := findClass_of_methodNamed B.named
  subst hsz
  have hD := hD0.self (sz := s.heap.size)
  generalize hAe : va_A (WdC g ad S) s.heap.size = A at hD hE ⊢
  have hA : ∀ q : Nat, s.heap.size ≤ q → A q := fun q h => by rw [← hAe]; exact Or.inr h
  have hR : RepC g ad A s S s.heap [] := ⟨hK, hP, hD, va_S.rf, hw⟩
  clear hK hP hD hD0
  have hl := lv_entry ([.ref (ad 8), .int x1]) (n := 2) (Nat.le_of_ble_eq_true rfl)
  rw [lg_entry_eq]
  generalize (lg_sl ([.ref (ad 8), .int x1]) ++ List.replicate (2 - (lg_sl ([.ref (ad 8), .int x1])).length) Slot.unset).toArray = ls at hl ⊢
  have hl : lv_has ls 2 [(0, .ref (ad 8)), (1, .int x1)] := hl
  obtain ⟨r0, hf⟩ : ∃ r0, fX2_switchCount S x1 = r0 := ⟨_, rfl⟩
  have hf0 := hf
  unfold fX2_switchCount at hf
  unfold d_X2_switchCount at hd
  refine lv_aload_n hx hb dX2_switchCount_0 rfl (lv_at hl 0 rfl) ?_
  refine va_get (D := rD g) (ci := 2) (v := .int (qI S 8 9)) (C := RX2) (T := TX2) (N := 12) hx hb hts inX2 hown hR.K hR.P 8 (hR.at42 (hR.w.2.1 _ finC_26).2.1) rfl 9 (by decide) (hts _ kw_619) (fun _ h9 => h9) rfl dX2_switchCount_1 ?_
  refine lv_sipush (v := 170) hx hb dX2_switchCount_4 (by decide) ?_
  refine lv_icmp_ne (tgt := 31) hx hb dX2_switchCount_7 (by decide) (fun c1 => ?_) (fun c1 => ?_)
  · rw [if_neg (k_ne rfl (by decide) c1)] at hf
    (try rw [if_neg (k_ne rfl (by decide) c1)] at hd)
    refine lv_aload_n hx hb dX2_switchCount_31 rfl (lv_at hl 0 rfl) ?_
    refine lv_iload_n hx hb dX2_switchCount_32 rfl (lv_at hl 1 rfl) ?_
    refine lv_iconst (v := 4) hx hb dX2_switchCount_33 (by decide) ?_
    refine lv_iadd hx hb dX2_switchCount_34 ?_
    refine lv_topi (fun z2 ez2 => ?_)
    obtain rfl : z2 = (x1 + (4 : Int32)) := ez2
    obtain ⟨hv3, hd⟩ := hd
    have hFc := cfree hR hA
    refine va_calli (va_runV (As := [.int (x1 + (4 : Int32))]) (rest := []) ⟨hx, hb, hml, hown, hts⟩ (rX2_s4 l g ad s.heap.size S (x1 + (4 : Int32)) hR.w  hv3) (cwV 1 hts (gd_V kw_623 kw_790 kw_791 kw_389 kw_789) rfl rfl rfl (by decide +kernel) ⟨Nat.le_of_ble_eq_true rfl, Nat.le_of_ble_eq_true rfl⟩) ⟨cblind, va_recv hR.K hR.P (ci := 2) (q0 := 8) rfl (hR.at42 (hR.w.2.1 _ finC_26).2.1), fun U hU hW9 => cmk hU hW9 hR hex hE hFc⟩ rfl rfl hl.1 rfl (lv_room (Nat.le_of_ble_eq_true rfl)) dX2_switchCount_35 ⟨Nat.le_of_ble_eq_true rfl, Nat.le_of_ble_eq_true rfl⟩) hR.sS (fun q _ h => hFc q h) hFc (fun r4 u9 t9 H1 locs ht9 hvm9 hw9 hB9 hz9 hk9 hS => ?_)
    have hR : RepC g ad A s S H1 locs := hR.call ht9 hB9 hR.w hS hFc
    obtain rfl : r4 = (fX2_s4 S (x1 + (4 : Int32))) := hw9
    clear hB9 hz9 hk9 hvm9 ht9 hS
    generalize H1 = H at hR ⊢
    exact W.iret (v := (fX2_s4 S (x1 + (4 : Int32)))) hx hb hr (fun t9 ht9 hW9 => ⟨⟨_, (), rfl, hf.trans hf0.symm, ⟨by rw [ht9]; exact hR.P, hR.D⟩⟩, hR.sS.F ht9⟩) hR.sS.2.2 dX2_switchCount_38
  · rw [if_pos (k_eq rfl (by decide) c1)] at hf
    (try rw [if_pos (k_eq rfl (by decide) c1)] at hd)
    refine lv_aload_n hx hb dX2_switchCount_10 rfl (lv_at hl 0 rfl) ?_
    refine lv_iload_n hx hb dX2_switchCount_11 rfl (lv_at hl 1 rfl) ?_
    refine lv_bipush (v := 8) hx hb dX2_switchCount_12 (by decide) ?_
    refine lv_iadd hx hb dX2_switchCount_14 ?_
    refine lv_topi (fun z6 ez6 => ?_)
    obtain rfl : z6 = (x1 + (8 : Int32)) := ez6
    obtain ⟨hv7, hd⟩ := hd
    have hFc := cfree hR hA
    refine va_calli (va_runV (As := [.int (x1 + (8 : Int32))]) (rest := []) ⟨hx, hb, hml, hown, hts⟩ (rX2_s4 l g ad s.heap.size S (x1 + (8 : Int32)) hR.w  hv7) (cwV 1 hts (gd_V kw_623 kw_790 kw_791 kw_389 kw_789) rfl rfl rfl (by decide +kernel) ⟨Nat.le_of_ble_eq_true rfl, Nat.le_of_ble_eq_true rfl⟩) ⟨cblind, va_recv hR.K hR.P (ci := 2) (q0 := 8) rfl (hR.at42 (hR.w.2.1 _ finC_26).2.1), fun U hU hW9 => cmk hU hW9 hR hex hE hFc⟩ rfl rfl hl.1 rfl (lv_room (Nat.le_of_ble_eq_true rfl)) dX2_switchCount_15 ⟨Nat.le_of_ble_eq_true rfl, Nat.le_of_ble_eq_true rfl⟩) hR.sS (fun q _ h => hFc q h) hFc (fun r8 u9 t9 H1 locs ht9 hvm9 hw9 hB9 hz9 hk9 hS => ?_)
    have hR : RepC g ad A s S H1 locs := hR.call ht9 hB9 hR.w hS hFc
    obtain rfl : r8 = (fX2_s4 S (x1 + (8 : Int32))) := hw9
    clear hB9 hz9 hk9 hvm9 ht9 hS
    generalize H1 = H at hR ⊢
    refine lv_aload_n hx hb dX2_switchCount_18 rfl (lv_at hl 0 rfl) ?_
    refine lv_iload_n hx hb dX2_switchCount_19 rfl (lv_at hl 1 rfl) ?_
    refine lv_iconst (v := 4) hx hb dX2_switchCount_20 (by decide) ?_
    refine lv_iadd hx hb dX2_switchCount_21 ?_
    refine lv_topi (fun z10 ez10 => ?_)
    obtain rfl : z10 = (x1 + (4 : Int32)) := ez10
    obtain ⟨hv11, hd⟩ := hd
    have hFc := cfree hR hA
    refine va_calli (va_runV (As := [.int (x1 + (4 : Int32))]) (rest := [.int (fX2_s4 S (x1 + (8 : Int32)))]) ⟨hx, hb, hml, hown, hts⟩ (rX2_s4 l g ad H.size S (x1 + (4 : Int32)) hR.w  hv11) (cwV 1 hts (gd_V kw_623 kw_790 kw_791 kw_389 kw_789) rfl rfl rfl (by decide +kernel) ⟨Nat.le_of_ble_eq_true rfl, Nat.le_of_ble_eq_true rfl⟩) ⟨cblind, va_recv hR.K hR.P (ci := 2) (q0 := 8) rfl (hR.at42 (hR.w.2.1 _ finC_26).2.1), fun U hU hW9 => cmk hU hW9 hR hex hE hFc⟩ rfl rfl hl.1 rfl (lv_room (Nat.le_of_ble_eq_true rfl)) dX2_switchCount_22 ⟨Nat.le_of_ble_eq_true rfl, Nat.le_of_ble_eq_true rfl⟩) hR.sS (fun q _ h => hFc q h) hFc (fun r12 u9 t9 H1 locs ht9 hvm9 hw9 hB9 hz9 hk9 hS => ?_)
    have hR : RepC g ad A s S H1 locs := hR.call ht9 hB9 hR.w hS hFc
    obtain rfl : r12 = (fX2_s4 S (x1 + (4 : Int32))) := hw9
    clear hB9 hz9 hk9 hvm9 ht9 hS
    generalize H1 = H at hR ⊢
    refine lv_isub hx hb dX2_switchCount_25 ?_
    refine lv_topi (fun z14 ez14 => ?_)
    obtain rfl : z14 = ((fX2_s4 S (x1 + (8 : Int32))) - (fX2_s4 S (x1 + (4 : Int32)))) := ez14
    refine lv_iconst (v := 1) hx hb dX2_switchCount_26 (by decide) ?_
    refine lv_iadd hx hb dX2_switchCount_27 ?_
    refine lv_topi (fun z15 ez15 => ?_)
    obtain rfl : z15 = (((fX2_s4 S (x1 + (8 : Int32))) - (fX2_s4 S (x1 + (4 : Int32)))) + (1 : Int32)) := ez15
    refine lv_goto (tgt := 38) hx hb dX2_switchCount_28 (by decide) ?_
    exact W.iret (v := (((fX2_s4 S (x1 + (8 : Int32))) - (fX2_s4 S (x1 + (4 : Int32)))) + (1 : Int32))) hx hb hr (fun t9 ht9 hW9 => ⟨⟨_, (), rfl, hf.trans hf0.symm, ⟨by rw [ht9]; exact hR.P, hR.D⟩⟩, hR.sS.F ht9⟩) hR.sS.2.2 dX2_switchCount_38
