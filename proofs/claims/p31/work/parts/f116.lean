def w_X3_findDominators_J163 (Q : MS → Prop) (k132 : MS → Int32 → Prop) (U163 : MS) (t163_0 : Int32) (t163_1 : Int32) (t163_2 : Nat) (v163_2 : Int32) : Prop := (wfC U163 → qT U163 t163_2 = 208 → (((0 : Int) ≤ t163_1.toInt ∧ t163_1.toInt < (qN U163 t163_2 : Int)) ∧ (∀ S13, S13 = wI U163 t163_2 t163_1.toInt.toNat t163_0 → qT U163 t163_2 = 208 → wfC S13 → (∀ a14 : Int32, a14 = (v163_2 + Int32.ofInt 1) → k132 S13 a14))))
def w_X3_findDominators_L132 (Q : MS → Prop) : Nat → MS → Int32 → Prop
  | 0, _, _ => False
  | n132 + 1, U132, v132_2 => (wfC U132 → (((qI U132 52 1).toInt ≤ v132_2.toInt → Q U132) ∧ (¬ (qI U132 52 1).toInt ≤ v132_2.toInt → (((0 : Int) ≤ v132_2.toInt ∧ v132_2.toInt < (qN U132 (qO U132 52 8) : Int)) ∧ (((qI U132 (qO U132 52 8) v132_2.toInt.toNat).toInt = 0 → w_X3_findDominators_J163 Q (w_X3_findDominators_L132 Q n132) U132 (-1) v132_2 (qO U132 52 11) v132_2) ∧ (¬ (qI U132 (qO U132 52 8) v132_2.toInt.toNat).toInt = 0 → (∃ Q16, wX3_nearestDominator U132 v132_2 Q16 ∧ ∀ r17 S18, Q16 r17 S18 → wfC S18 → shy U132 S18 → w_X3_findDominators_J163 Q (w_X3_findDominators_L132 Q n132) S18 r17 v132_2 (qO U132 52 11) v132_2)))))))
def w_X3_findDominators_J130 (Q : MS → Prop) (U130 : MS) : Prop := (wfC U130 → (∃ n, w_X3_findDominators_L132 Q n U130 0))
def w_X3_findDominators_J118 (Q : MS → Prop) (k59 : MS → Int32 → Int32 → Int32 → Prop) (U118 : MS) (v118_1 : Int32) (v118_2 : Int32) (v118_3 : Int32) : Prop := (wfC U118 → (∀ a32 : Int32, a32 = (v118_3 + Int32.ofInt 1) → k59 U118 v118_1 v118_2 a32))
def w_X3_findDominators_L75 (Q : MS → Prop) (k59 : MS → Int32 → Int32 → Int32 → Prop) : Nat → MS → Int32 → Int32 → Int32 → Int32 → Prop
  | 0, _, _, _, _, _ => False
  | n75 + 1, U75, v75_1, v75_2, v75_3, v75_4 => (wfC U75 → (((0 : Int) ≤ v75_3.toInt ∧ v75_3.toInt < (qN U75 (qO U75 52 8) : Int)) ∧ (((qI U75 (qO U75 52 8) v75_3.toInt.toNat).toInt = 0 → w_X3_findDominators_J118 Q k59 U75 v75_1 v75_2 v75_3) ∧ (¬ (qI U75 (qO U75 52 8) v75_3.toInt.toNat).toInt = 0 → (((0 : Int) ≤ (v75_3 + (1 : Int32)).toInt ∧ (v75_3 + (1 : Int32)).toInt < (qN U75 (qO U75 52 4) : Int)) ∧ (((qI U75 (qO U75 52 4) (((v75_3 + (1 : Int32)).toInt).toNat)).toInt ≤ v75_4.toInt → w_X3_findDominators_J118 Q k59 U75 v75_1 v75_2 v75_3) ∧ (¬ (qI U75 (qO U75 52 4) (((v75_3 + (1 : Int32)).toInt).toNat)).toInt ≤ v75_4.toInt → (((0 : Int) ≤ v75_4.toInt ∧ v75_4.toInt < (qN U75 (qO U75 52 5) : Int)) ∧ (∃ Q42, wX3_narrow U75 (qI U75 (qO U75 52 5) v75_4.toInt.toNat) v75_3 Q42 ∧ ∀ r43 S44, Q42 r43 S44 → wfC S44 → shy U75 S44 → (∀ a47 : Int32, a47 = (v75_1 ||| r43) → (∀ a48 : Int32, a48 = (v75_4 + Int32.ofInt 1) → (w_X3_findDominators_L75 Q k59 n75) S44 a47 v75_2 v75_3 a48)))))))))))
def w_X3_findDominators_L59 (Q : MS → Prop) (k45 : MS → Int32 → Int32 → Prop) : Nat → MS → Int32 → Int32 → Int32 → Prop
  | 0, _, _, _, _ => False
  | n59 + 1, U59, v59_1, v59_2, v59_3 => (wfC U59 → (((qI U59 52 1).toInt ≤ v59_3.toInt → (∀ a23 : Int32, a23 = (v59_2 + Int32.ofInt 1) → k45 U59 v59_1 a23)) ∧ (¬ (qI U59 52 1).toInt ≤ v59_3.toInt → (((0 : Int) ≤ v59_3.toInt ∧ v59_3.toInt < (qN U59 (qO U59 52 4) : Int)) ∧ (∀ a27 : Int32, a27 = (qI U59 (qO U59 52 4) v59_3.toInt.toNat) → (∃ n, w_X3_findDominators_L75 Q (w_X3_findDominators_L59 Q k45 n59) n U59 v59_1 v59_2 v59_3 a27))))))
def w_X3_findDominators_L45 (Q : MS → Prop) : Nat → MS → Int32 → Int32 → Prop
  | 0, _, _, _ => False
  | n45 + 1, U45, v45_1, v45_2 => (wfC U45 → ((v45_1.toInt = 0 → w_X3_findDominators_J130 Q U45) ∧ (¬ v45_1.toInt = 0 → ((1000000 ≤ v45_2.toInt → w_X3_findDominators_J130 Q U45) ∧ (¬ 1000000 ≤ v45_2.toInt → (∃ n, w_X3_findDominators_L59 Q (w_X3_findDominators_L45 Q n45) n U45 0 v45_2 0))))))
def w_X3_findDominators_J34 (Q : MS → Prop) (k12 : MS → Int32 → Prop) (U34 : MS) (t34_0 : Int64) (t34_1 : Int32) (t34_2 : Nat) (v34_1 : Int32) : Prop := (wfC U34 → qT U34 t34_2 = 401 → (((0 : Int) ≤ t34_1.toInt ∧ t34_1.toInt < (qN U34 t34_2 : Int)) ∧ (∀ S51, S51 = wJ U34 t34_2 t34_1.toInt.toNat t34_0 → qT U34 t34_2 = 401 → wfC S51 → (∀ a52 : Int32, a52 = (v34_1 + Int32.ofInt 1) → k12 S51 a52))))
def w_X3_findDominators_L12 (Q : MS → Prop) : Nat → MS → Int32 → Prop
  | 0, _, _ => False
  | n12 + 1, U12, v12_1 => (wfC U12 → (((qI U12 52 10).toInt ≤ v12_1.toInt → (∃ n, w_X3_findDominators_L45 Q n U12 1 0)) ∧ (¬ (qI U12 52 10).toInt ≤ v12_1.toInt → ((v12_1.toInt = 0 → w_X3_findDominators_J34 Q (w_X3_findDominators_L12 Q n12) U12 1 v12_1 (qO U12 52 9) v12_1) ∧ (¬ v12_1.toInt = 0 → w_X3_findDominators_J34 Q (w_X3_findDominators_L12 Q n12) U12 0 v12_1 (qO U12 52 9) v12_1)))))
def wX3_findDominators (S : MS) (Q : MS → Prop) : Prop := (qT S (qO S 52 9) = 401 → (∃ Q2, wJ7_fill_d0a16 S (qO S 52 9) (-1 : Int64) Q2 ∧ ∀ S3, Q2 S3 → wfC S3 → shy S S3 → (∃ n, w_X3_findDominators_L12 Q n S3 0)))
set_option maxHeartbeats 2000000 in
set_option maxRecDepth 100000 in
theorem rX3_findDominators (l : Launch) (g : Gr) (ad : Nat → Nat) (sz : Nat) (S : MS) (hw : wfC S) (Q : MS → Prop) (h : wX3_findDominators S Q) : Met l yX3_findDominators (wt yX3_findDominators cX3_findDominators 5 none) ({ frames := 3, cells := 0, slots := 0, locals := 67 }) (va_Pc [.ref (ad 52)] (st_C g ad sz S)) (va_Qv (fun (u : MS) => Q u ∧ wfC u ∧ shy S u) (fun (u : MS) (t : State) => qEC g ad (va_A (WdC g ad S) sz) u t) (va_A (WdC g ad S) sz)) 0 0 (va_A (WdC g ad S) sz) := by
  refine Met.ofW (cc := cX3_findDominators) (maxL := 5) (ret := none) (by decide) rfl ?_
  intro p e s m args below meth c s₁ B hml hv
  obtain ⟨rfl, hsz, hP, hK, hD0, hex, hE⟩ := hv
  have hx := B.exec
  have hb := B.bytes
  have hr := B.returns
  have hts0 := atoms_spec (ws := wt yX3_findDominators cX3_findDominators 5 none) B.pre
  have hts : ∀ w ∈ tb, w.before _ s = true := fun w h => hts0 w (List.mem_cons_of_mem _ h)
  have hown : s.vm.findClass RX3 = some m.cls := findClass_of_methodNamed B.named
  subst hsz
  have hD := hD0.self (sz := s.heap.size)
  generalize hAe : va_A (WdC g ad S) s.heap.size = A at hD hE ⊢
  have hA : ∀ q : Nat, s.heap.size ≤ q → A q := fun q h => by rw [← hAe]; exact Or.inr h
  have hR : RepC g ad A s S s.heap [] := ⟨hK, hP, hD, va_S.rf, hw⟩
  clear hK hP hD hD0
  have hl := lv_entry ([.ref (ad 52)]) (n := 5) (Nat.le_of_ble_eq_true rfl)
  rw [lg_entry_eq]
  generalize (lg_sl ([.ref (ad 52)]) ++ List.replicate (5 - (lg_sl ([.ref (ad 52)])).length) Slot.unset).toArray = ls at hl ⊢
  have hl : lv_has ls 5 [(0, .ref (ad 52))] := hl
  have hsh : shy S S := shy.rf
  unfold wX3_findDominators at h
  refine lv_aload_n hx hb dX3_findDominators_0 rfl (lv_at hl 0 rfl) ?_
  have hT_b1 : qT S (qO S 52 9) = 401 := hR.w.ref (hR.w.ptr ptrC_29) (hR.w.2.1 _ finC_30).2.1
  refine va_get (D := rD g) (ci := 3) (v := .ref (ad (qO S 52 9))) (C := RX3) (T := TX3) (N := 16) hx hb hts inX3 hown hR.K hR.P 52 (hR.at43 (hR.w.2.1 _ finC_30).2.1) rfl 9 (by decide) (hts _ kw_866) (fun _ h9 => h9) (congrArg (fun z => some (vf ad z)) (hR.w.ptr ptrC_29)) dX3_findDominators_1 ?_
  refine lv_ldc2 hx hb hown (hts _ kw_903) dX3_findDominators_4 ?_
  replace h := h (hT_b1)
  obtain ⟨Q2, h0, h⟩ := h
  have hFc := cfree hR hA
  refine va_callv (va_runS (As := [.ref (ad (qO S 52 9)), .long (-1 : Int64)]) (rest := []) ⟨hx, hb, hml, hown, hts⟩ (rJ7_fill_d0a16 l g ad s.heap.size S (qO S 52 9) (-1 : Int64) hR.w (by decide) hT_b1 Q2 h0) (va_cwS 2 hts (gd_S kw_904 kw_1725 kw_1723 kw_1724) rfl rfl rfl (by decide +kernel) ⟨Nat.le_of_ble_eq_true rfl, Nat.le_of_ble_eq_true rfl⟩) ⟨cblind, fun U hU hW9 => cmk hU hW9 hR hex hE hFc⟩ rfl rfl hl.1 rfl (lv_room (Nat.le_of_ble_eq_true rfl)) dX3_findDominators_7 ⟨Nat.le_of_ble_eq_true rfl, Nat.le_of_ble_eq_true rfl⟩) hR.sS (fun q _ h => hFc q h) hFc (fun  S3 t9 H1 locs ht9 hvm9 hw9 hB9 hz9 hk9 hS => ?_)
  obtain ⟨hq4, hw9, hs9⟩ := hw9
  have hR : RepC g ad A s S3 H1 locs := hR.call ht9 hB9 hw9 hS hFc
  have hsh := hsh.tr hs9
  replace h := h  S3 hq4 hw9 hs9
  clear hB9 hz9 hk9 hvm9 ht9 hw9 hs9 hS
  generalize H1 = H at hR ⊢
  refine lv_iconst (v := 0) hx hb dX3_findDominators_10 (by decide) ?_
  refine lv_istore_n (lv' := [(1, .int 0), (0, .ref (ad 52))]) hx hb dX3_findDominators_11 rfl hl (by decide) rfl (fun ls hl => ?_)
  have J_12 : ∀ (n12 : Nat) (U12 : MS) (v12_1 : Int32) (H : Heap) (locs : List Loc) (ls : Array Slot), w_X3_findDominators_L12 Q n12 U12 v12_1 → shy S U12 → RepC g ad A s U12 H locs → lv_has ls 5 [(0, .ref (ad 52)), (1, .int v12_1)] → W p l e (headSpec (wt yX3_findDominators cX3_findDominators 5 none) ({ frames := 3, cells := 0, slots := 0, locals := 67 })).room s m ([.ref (ad 52)] : List Value).toArray below meth c H locs 0 0 (MQ below (va_Qv (fun (u : MS) => Q u ∧ wfC u ∧ shy S u) (fun (u : MS) (t : State) => qEC g ad A u t) A) ([.ref (ad 52)] : List Value).toArray s 0 0 A) (F0 m 12 ls []) := by
    intro n12
    induction n12 with
    | zero => intro U12 v12_1 H locs ls h hsh hR hl; unfold w_X3_findDominators_L12 at h; exact h.elim
    | succ n12 ih_12 =>
      intro U12 v12_1 H locs ls h hsh hR hl
      unfold w_X3_findDominators_L12 at h
      replace h := h hR.w
      refine lv_iload_n hx hb dX3_findDominators_12 rfl (lv_at hl 1 rfl) ?_
      refine lv_aload_n hx hb dX3_findDominators_13 rfl (lv_at hl 0 rfl) ?_
      refine va_get (D := rD g) (ci := 3) (v := .int (qI U12 52 10)) (C := RX3) (T := TX3) (N := 16) hx hb hts inX3 hown hR.K hR.P 52 (hR.at43 (hR.w.2.1 _ finC_30).2.1) rfl 10 (by decide) (hts _ kw_867) (fun _ h9 => h9) rfl dX3_findDominators_14 ?_
      refine lv_icmp_ge (tgt := 41) hx hb dX3_findDominators_17 (by decide) (fun c5 => ?_) (fun c5 => ?_)
      · replace h := h.1 (k_le rfl rfl c5)
        refine lv_iconst (v := 1) hx hb dX3_findDominators_41 (by decide) ?_
        refine lv_istore_n (lv' := [(1, .int 1), (0, .ref (ad 52))]) hx hb dX3_findDominators_42 rfl hl (by decide) rfl (fun ls hl => ?_)
        refine lv_iconst (v := 0) hx hb dX3_findDominators_43 (by decide) ?_
        refine lv_istore_n (lv' := [(2, .int 0), (1, .int 1), (0, .ref (ad 52))]) hx hb dX3_findDominators_44 rfl hl (by decide) rfl (fun ls hl => ?_)
        have J_45 : ∀ (n45 : Nat) (U45 : MS) (v45_1 : Int32) (v45_2 : Int32) (H : Heap) (locs : List Loc) (ls : Array Slot), w_X3_findDominators_L45 Q n45 U45 v45_1 v45_2 → shy S U45 → RepC g ad A s U45 H locs → lv_has ls 5 [(0, .ref (ad 52)), (1, .int v45_1), (2, .int v45_2)] → W p l e (headSpec (wt yX3_findDominators cX3_findDominators 5 none) ({ frames := 3, cells := 0, slots := 0, locals := 67 })).room s m ([.ref (ad 52)] : List Value).toArray below meth c H locs 0 0 (MQ below (va_Qv (fun (u : MS) => Q u ∧ wfC u ∧ shy S u) (fun (u : MS) (t : State) => qEC g ad A u t) A) ([.ref (ad 52)] : List Value).toArray s 0 0 A) (F0 m 45 ls []) := by
          intro n45
          induction n45 with
          | zero => intro U45 v45_1 v45_2 H locs ls h hsh hR hl; unfold w_X3_findDominators_L45 at h; exact h.elim
          | succ n45 ih_45 =>
            intro U45 v45_1 v45_2 H locs ls h hsh hR hl
            unfold w_X3_findDominators_L45 at h
            replace h := h hR.w
            refine lv_iload_n hx hb dX3_findDominators_45 rfl (lv_at hl 1 rfl) ?_
            have J_130 : ∀ (U130 : MS) (H : Heap) (locs : List Loc) (ls : Array Slot), w_X3_findDominators_J130 Q U130 → shy S U130 → RepC g ad A s U130 H locs → lv_has ls 5 [(0, .ref (ad 52))] → W p l e (headSpec (wt yX3_findDominators cX3_findDominators 5 none) ({ frames := 3, cells := 0, slots := 0, locals := 67 })).room s m ([.ref (ad 52)] : List Value).toArray below meth c H locs 0 0 (MQ below (va_Qv (fun (u : MS) => Q u ∧ wfC u ∧ shy S u) (fun (u : MS) (t : State) => qEC g ad A u t) A) ([.ref (ad 52)] : List Value).toArray s 0 0 A) (F0 m 130 ls []) := by
              intro U130 H locs ls h hsh hR hl
              unfold w_X3_findDominators_J130 at h
              replace h := h hR.w
              refine lv_iconst (v := 0) hx hb dX3_findDominators_130 (by decide) ?_
              refine lv_istore_n (lv' := [(2, .int 0), (0, .ref (ad 52))]) hx hb dX3_findDominators_131 rfl hl (by decide) rfl (fun ls hl => ?_)
              have J_132 : ∀ (n132 : Nat) (U132 : MS) (v132_2 : Int32) (H : Heap) (locs : List Loc) (ls : Array Slot), w_X3_findDominators_L132 Q n132 U132 v132_2 → shy S U132 → RepC g ad A s U132 H locs → lv_has ls 5 [(0, .ref (ad 52)), (2, .int v132_2)] → W p l e (headSpec (wt yX3_findDominators cX3_findDominators 5 none) ({ frames := 3, cells := 0, slots := 0, locals := 67 })).room s m ([.ref (ad 52)] : List Value).toArray below meth c H locs 0 0 (MQ below (va_Qv (fun (u : MS) => Q u ∧ wfC u ∧ shy S u) (fun (u : MS) (t : State) => qEC g ad A u t) A) ([.ref (ad 52)] : List Value).toArray s 0 0 A) (F0 m 132 ls []) := by
                intro n132
                induction n132 with
                | zero => intro U132 v132_2 H locs ls h hsh hR hl; unfold w_X3_findDominators_L132 at h; exact h.elim
                | succ n132 ih_132 =>
                  intro U132 v132_2 H locs ls h hsh hR hl
                  unfold w_X3_findDominators_L132 at h
                  replace h := h hR.w
                  refine lv_iload_n hx hb dX3_findDominators_132 rfl (lv_at hl 1 rfl) ?_
                  refine lv_aload_n hx hb dX3_findDominators_133 rfl (lv_at hl 0 rfl) ?_
                  refine va_get (D := rD g) (ci := 3) (v := .int (qI U132 52 1)) (C := RX3) (T := TX3) (N := 16) hx hb hts inX3 hown hR.K hR.P 52 (hR.at43 (hR.w.2.1 _ finC_30).2.1) rfl 1 (by decide) (hts _ kw_851) (fun _ h9 => h9) rfl dX3_findDominators_134 ?_
                  refine lv_icmp_ge (tgt := 170) hx hb dX3_findDominators_137 (by decide) (fun c6 => ?_) (fun c6 => ?_)
                  · replace h := h.1 (k_le rfl rfl c6)
                    exact W.vret hx hb hr (fun t9 ht9 hW9 => ⟨⟨U132, rfl, ⟨h, hR.w, hsh⟩, ⟨by rw [ht9]; exact hR.P, hR.D⟩⟩, hR.sS.F ht9⟩) hR.sS.2.2 dX3_findDominators_170
                  · replace h := h.2 (k_nle rfl rfl c6)
                    refine lv_aload_n hx hb dX3_findDominators_140 rfl (lv_at hl 0 rfl) ?_
                    have hT_b7 : qT U132 (qO U132 52 11) = 208 := hR.w.ref (hR.w.ptr ptrC_30) (hR.w.2.1 _ finC_30).2.1
                    refine va_get (D := rD g) (ci := 3) (v := .ref (ad (qO U132 52 11))) (C := RX3) (T := TX3) (N := 16) hx hb hts inX3 hown hR.K hR.P 52 (hR.at43 (hR.w.2.1 _ finC_30).2.1) rfl 11 (by decide) (hts _ kw_907) (fun _ h9 => h9) (congrArg (fun z => some (vf ad z)) (hR.w.ptr ptrC_30)) dX3_findDominators_141 ?_
                    refine lv_iload_n hx hb dX3_findDominators_144 rfl (lv_at hl 1 rfl) ?_
                    refine lv_aload_n hx hb dX3_findDominators_145 rfl (lv_at hl 0 rfl) ?_
                    have hT_b8 : qT U132 (qO U132 52 8) = 303 := hR.w.ref (hR.w.ptr ptrC_28) (hR.w.2.1 _ finC_30).2.1
                    refine va_get (D := rD g) (ci := 3) (v := .ref (ad (qO U132 52 8))) (C := RX3) (T := TX3) (N := 16) hx hb hts inX3 hown hR.K hR.P 52 (hR.at43 (hR.w.2.1 _ finC_30).2.1) rfl 8 (by decide) (hts _ kw_847) (fun _ h9 => h9) (congrArg (fun z => some (vf ad z)) (hR.w.ptr ptrC_28)) dX3_findDominators_146 ?_
                    refine lv_iload_n hx hb dX3_findDominators_149 rfl (lv_at hl 1 rfl) ?_
                    obtain ⟨hv9, h⟩ := h
                    refine va_zald hx hb hR.K hR.P (qO U132 52 8) 2 (hR.atZ hT_b8 (by decide)) rfl (k_ix (x := v132_2) (a := v132_2.toInt) rfl hv9) dX3_findDominators_150 ?_
                    refine lv_topi (fun z10 ez10 => ?_)
                    obtain rfl : z10 = (qI U132 (qO U132 52 8) v132_2.toInt.toNat) := ez10
                    have hz11 := hR.w.bit3 (b := (qO U132 52 8)) (j := v132_2.toInt.toNat) (hT_b8) (by decide)
                    have J_163 : ∀ (U163 : MS) (t163_0 : Int32) (t163_1 : Int32) (t163_2 : Nat) (v163_2 : Int32) (H : Heap) (locs : List Loc) (ls : Array Slot), w_X3_findDominators_J163 Q (w_X3_findDominators_L132 Q n132) U163 t163_0 t163_1 t163_2 v163_2 → qT U163 t163_2 = 208 → shy S U163 → RepC g ad A s U163 H locs → lv_has ls 5 [(0, .ref (ad 52)), (2, .int v163_2)] → W p l e (headSpec (wt yX3_findDominators cX3_findDominators 5 none) ({ frames := 3, cells := 0, slots := 0, locals := 67 })).room s m ([.ref (ad 52)] : List Value).toArray below meth c H locs 0 0 (MQ below (va_Qv (fun (u : MS) => Q u ∧ wfC u ∧ shy S u) (fun (u : MS) (t : State) => qEC g ad A u t) A) ([.ref (ad 52)] : List Value).toArray s 0 0 A) (F0 m 163 ls [.int t163_0, .int t163_1, .ref (ad t163_2)]) := by
                      intro U163 t163_0 t163_1 t163_2 v163_2 H locs ls h hT_t163_2 hsh hR hl
                      unfold w_X3_findDominators_J163 at h
                      replace h := h hR.w hT_t163_2
                      obtain ⟨hv12, h⟩ := h
                      refine va_iast hx hb hR.K hR.P hR.D hR.sS t163_2 1 (hR.atI hT_t163_2 (by decide)) rfl (k_ix (x := t163_1) (a := t163_1.toInt) rfl hv12) dX3_findDominators_163 (fun H locs hP hD hS => ?_)
                      have hTk9 : qT U163 t163_2 = 208 := hT_t163_2
                      have hR : RepC g ad A s (wI U163 t163_2 t163_1.toInt.toNat t163_0) H locs := hR.aI hT_t163_2 (by decide) hP hD hS
                      obtain ⟨S13, eS13⟩ : ∃ z, z = wI U163 t163_2 t163_1.toInt.toNat t163_0 := ⟨_, rfl⟩
                      rw [← eS13] at hR
                      replace h := h S13 eS13 hTk9 hR.w
                      have hsh : shy S S13 := by rw [eS13]; exact hsh
                      obtain ⟨a14, ea14⟩ : ∃ z, z = (v163_2 + Int32.ofInt 1) := ⟨_, rfl⟩
                      replace h := h a14 ea14
                      refine lv_iinc (v := a14) (lv' := [(2, .int a14), (0, .ref (ad 52))]) hx hb dX3_findDominators_164 hl (k := 1) rfl ea14.symm (by decide) rfl (fun ls hl => ?_)
                      refine lv_goto (tgt := 132) hx hb dX3_findDominators_167 (by decide) ?_
                      exact ih_132 S13 a14 _ _ ls h  hsh hR (lv_sub hl [1, 0] rfl)
                    refine lv_if_eq (tgt := 162) hx hb dX3_findDominators_151 (by decide) (fun c15 => ?_) (fun c15 => ?_)
                    · replace h := h.1 (k_eq rfl (by decide) c15)
                      refine lv_iconst (v := (-1)) hx hb dX3_findDominators_162 (by decide) ?_
                      exact J_163 U132 (-1) v132_2 (qO U132 52 11) v132_2 _ _ ls h hT_b7 hsh hR (lv_sub hl [0, 1] rfl)
                    · replace h := h.2 (k_ne rfl (by decide) c15)
                      refine lv_aload_n hx hb dX3_findDominators_154 rfl (lv_at hl 0 rfl) ?_
                      refine lv_iload_n hx hb dX3_findDominators_155 rfl (lv_at hl 1 rfl) ?_
                      obtain ⟨Q16, h0, h⟩ := h
                      have hFc := cfree hR hA
                      refine va_calli (va_runV (As := [.int v132_2]) (rest := [.int v132_2, .ref (ad (qO U132 52 11))]) ⟨hx, hb, hml, hown, hts⟩ (rX3_nearestDominator l g ad H.size U132 v132_2 hR.w  Q16 h0) (cwV 1 hts (gd_V kw_908 kw_942 kw_943 kw_401 kw_941) rfl rfl rfl (by decide +kernel) ⟨Nat.le_of_ble_eq_true rfl, Nat.le_of_ble_eq_true rfl⟩) ⟨cblind, va_recv hR.K hR.P (ci := 3) (q0 := 52) rfl (hR.at43 (hR.w.2.1 _ finC_30).2.1), fun U hU hW9 => cmk hU hW9 hR hex hE hFc⟩ rfl rfl hl.1 rfl (lv_room (Nat.le_of_ble_eq_true rfl)) dX3_findDominators_156 ⟨Nat.le_of_ble_eq_true rfl, Nat.le_of_ble_eq_true rfl⟩) hR.sS (fun q _ h => hFc q h) hFc (fun r17 S18 t9 H1 locs ht9 hvm9 hw9 hB9 hz9 hk9 hS => ?_)
                      obtain ⟨hq19, hw9, hs9⟩ := hw9
                      have hR : RepC g ad A s S18 H1 locs := hR.call ht9 hB9 hw9 hS hFc
                      have hsh := hsh.tr hs9
                      replace h := h r17 S18 hq19 hw9 hs9
                      have hT_b7 := hs9.T hT_b7 (by decide)
                      clear hB9 hz9 hk9 hvm9 ht9 hw9 hs9 hS
                      generalize H1 = H at hR ⊢
                      refine lv_goto (tgt := 163) hx hb dX3_findDominators_159 (by decide) ?_
                      exact J_163 S18 r17 v132_2 (qO U132 52 11) v132_2 _ _ ls h hT_b7 hsh hR (lv_sub hl [0, 1] rfl)
              obtain ⟨n9, h⟩ := h
              exact J_132 n9 U130 0 _ _ ls h  hsh hR (lv_sub hl [1, 0] rfl)
            refine lv_if_eq (tgt := 130) hx hb dX3_findDominators_46 (by decide) (fun c20 => ?_) (fun c20 => ?_)
            · replace h := h.1 (k_eq rfl (by decide) c20)
              exact J_130 U45 _ _ ls h  hsh hR (lv_sub hl [0] rfl)
            · replace h := h.2 (k_ne rfl (by decide) c20)
              refine lv_iload_n hx hb dX3_findDominators_49 rfl (lv_at hl 2 rfl) ?_
              refine lv_ldc hx hb hown (hts _ kw_905) dX3_findDominators_50 ?_
              refine lv_icmp_ge (tgt := 130) hx hb dX3_findDominators_52 (by decide) (fun c21 => ?_) (fun c21 => ?_)
              · replace h := h.1 (k_le (by decide) rfl c21)
                exact J_130 U45 _ _ ls h  hsh hR (lv_sub hl [0] rfl)
              · replace h := h.2 (k_nle (by decide) rfl c21)
                refine lv_iconst (v := 0) hx hb dX3_findDominators_55 (by decide) ?_
                refine lv_istore_n (lv' := [(1, .int 0), (0, .ref (ad 52)), (2, .int v45_2)]) hx hb dX3_findDominators_56 rfl hl (by decide) rfl (fun ls hl => ?_)
                refine lv_iconst (v := 0) hx hb dX3_findDominators_57 (by decide) ?_
                refine lv_istore_n (lv' := [(3, .int 0), (1, .int 0), (0, .ref (ad 52)), (2, .int v45_2)]) hx hb dX3_findDominators_58 rfl hl (by decide) rfl (fun ls hl => ?_)
                have J_59 : ∀ (n59 : Nat) (U59 : MS) (v59_1 : Int32) (v59_2 : Int32) (v59_3 : Int32) (H : Heap) (locs : List Loc) (ls : Array Slot), w_X3_findDominators_L59 Q (w_X3_findDominators_L45 Q n45) n59 U59 v59_1 v59_2 v59_3 → shy S U59 → RepC g ad A s U59 H locs → lv_has ls 5 [(0, .ref (ad 52)), (1, .int v59_1), (2, .int v59_2), (3, .int v59_3)] → W p l e (headSpec (wt yX3_findDominators cX3_findDominators 5 none) ({ frames := 3, cells := 0, slots := 0, locals := 67 })).room s m ([.ref (ad 52)] : List Value).toArray below meth c H locs 0 0 (MQ below (va_Qv (fun (u : MS) => Q u ∧ wfC u ∧ shy S u) (fun (u : MS) (t : State) => qEC g ad A u t) A) ([.ref (ad 52)] : List Value).toArray s 0 0 A) (F0 m 59 ls []) := by
                  intro n59
                  induction n59 with
                  | zero => intro U59 v59_1 v59_2 v59_3 H locs ls h hsh hR hl; unfold w_X3_findDominators_L59 at h; exact h.elim
                  | succ n59 ih_59 =>
                    intro U59 v59_1 v59_2 v59_3 H locs ls h hsh hR hl
                    unfold w_X3_findDominators_L59 at h
                    replace h := h hR.w
                    refine lv_iload_n hx hb dX3_findDominators_59 rfl (lv_at hl 3 rfl) ?_
                    refine lv_aload_n hx hb dX3_findDominators_60 rfl (lv_at hl 0 rfl) ?_
                    refine va_get (D := rD g) (ci := 3) (v := .int (qI U59 52 1)) (C := RX3) (T := TX3) (N := 16) hx hb hts inX3 hown hR.K hR.P 52 (hR.at43 (hR.w.2.1 _ finC_30).2.1) rfl 1 (by decide) (hts _ kw_851) (fun _ h9 => h9) rfl dX3_findDominators_61 ?_
                    refine lv_icmp_ge (tgt := 124) hx hb dX3_findDominators_64 (by decide) (fun c22 => ?_) (fun c22 => ?_)
                    · replace h := h.1 (k_le rfl rfl c22)
                      obtain ⟨a23, ea23⟩ : ∃ z, z = (v59_2 + Int32.ofInt 1) := ⟨_, rfl⟩
                      replace h := h a23 ea23
                      refine lv_iinc (v := a23) (lv' := [(2, .int a23), (0, .ref (ad 52)), (1, .int v59_1), (3, .int v59_3)]) hx hb dX3_findDominators_124 hl (k := 2) rfl ea23.symm (by decide) rfl (fun ls hl => ?_)
                      refine lv_goto (tgt := 45) hx hb dX3_findDominators_127 (by decide) ?_
                      exact ih_45 U59 v59_1 a23 _ _ ls h  hsh hR (lv_sub hl [1, 2, 0] rfl)
                    · replace h := h.2 (k_nle rfl rfl c22)
                      refine lv_aload_n hx hb dX3_findDominators_67 rfl (lv_at hl 0 rfl) ?_
                      have hT_b24 : qT U59 (qO U59 52 4) = 204 := hR.w.ref (hR.w.ptr ptrC_24) (hR.w.2.1 _ finC_30).2.1
                      refine va_get (D := rD g) (ci := 3) (v := .ref (ad (qO U59 52 4))) (C := RX3) (T := TX3) (N := 16) hx hb hts inX3 hown hR.K hR.P 52 (hR.at43 (hR.w.2.1 _ finC_30).2.1) rfl 4 (by decide) (hts _ kw_885) (fun _ h9 => h9) (congrArg (fun z => some (vf ad z)) (hR.w.ptr ptrC_24)) dX3_findDominators_68 ?_
                      refine lv_iload_n hx hb dX3_findDominators_71 rfl (lv_at hl 3 rfl) ?_
                      obtain ⟨hv25, h⟩ := h
                      refine va_iald hx hb hR.K hR.P (qO U59 52 4) 1 (hR.atI hT_b24 (by decide)) rfl (k_ix (x := v59_3) (a := v59_3.toInt) rfl hv25) dX3_findDominators_72 ?_
                      refine lv_topi (fun z26 ez26 => ?_)
                      obtain rfl : z26 = (qI U59 (qO U59 52 4) v59_3.toInt.toNat) := ez26
                      obtain ⟨a27, ea27⟩ : ∃ z, z = (qI U59 (qO U59 52 4) v59_3.toInt.toNat) := ⟨_, rfl⟩
                      rw [← ea27]
                      replace h := h a27 ea27
                      refine lv_istore (lv' := [(4, .int a27), (0, .ref (ad 52)), (1, .int v59_1), (2, .int v59_2), (3, .int v59_3)]) hx hb dX3_findDominators_73 hl (by decide) rfl (fun ls hl => ?_)
                      have J_75 : ∀ (n75 : Nat) (U75 : MS) (v75_1 : Int32) (v75_2 : Int32) (v75_3 : Int32) (v75_4 : Int32) (H : Heap) (locs : List Loc) (ls : Array Slot), w_X3_findDominators_L75 Q (w_X3_findDominators_L59 Q (w_X3_findDominators_L45 Q n45) n59) n75 U75 v75_1 v75_2 v75_3 v75_4 → shy S U75 → RepC g ad A s U75 H locs → lv_has ls 5 [(0, .ref (ad 52)), (1, .int v75_1), (2, .int v75_2), (3, .int v75_3), (4, .int v75_4)] → W p l e (headSpec (wt yX3_findDominators cX3_findDominators 5 none) ({ frames := 3, cells := 0, slots := 0, locals := 67 })).room s m ([.ref (ad 52)] : List Value).toArray below meth c H locs 0 0 (MQ below (va_Qv (fun (u : MS) => Q u ∧ wfC u ∧ shy S u) (fun (u : MS) (t : State) => qEC g ad A u t) A) ([.ref (ad 52)] : List Value).toArray s 0 0 A) (F0 m 75 ls []) := by
                        intro n75
                        induction n75 with
                        | zero => intro U75 v75_1 v75_2 v75_3 v75_4 H locs ls h hsh hR hl; unfold w_X3_findDominators_L75 at h; exact h.elim
                        | succ n75 ih_75 =>
                          intro U75 v75_1 v75_2 v75_3 v75_4 H locs ls h hsh hR hl
                          unfold w_X3_findDominators_L75 at h
                          replace h := h hR.w
                          refine lv_aload_n hx hb dX3_findDominators_75 rfl (lv_at hl 0 rfl) ?_
                          have hT_b28 : qT U75 (qO U75 52 8) = 303 := hR.w.ref (hR.w.ptr ptrC_28) (hR.w.2.1 _ finC_30).2.1
                          refine va_get (D := rD g) (ci := 3) (v := .ref (ad (qO U75 52 8))) (C := RX3) (T := TX3) (N := 16) hx hb hts inX3 hown hR.K hR.P 52 (hR.at43 (hR.w.2.1 _ finC_30).2.1) rfl 8 (by decide) (hts _ kw_847) (fun _ h9 => h9) (congrArg (fun z => some (vf ad z)) (hR.w.ptr ptrC_28)) dX3_findDominators_76 ?_
                          refine lv_iload_n hx hb dX3_findDominators_79 rfl (lv_at hl 3 rfl) ?_
                          obtain ⟨hv29, h⟩ := h
                          refine va_zald hx hb hR.K hR.P (qO U75 52 8) 2 (hR.atZ hT_b28 (by decide)) rfl (k_ix (x := v75_3) (a := v75_3.toInt) rfl hv29) dX3_findDominators_80 ?_
                          refine lv_topi (fun z30 ez30 => ?_)
                          obtain rfl : z30 = (qI U75 (qO U75 52 8) v75_3.toInt.toNat) := ez30
                          have hz31 := hR.w.bit3 (b := (qO U75 52 8)) (j := v75_3.toInt.toNat) (hT_b28) (by decide)
                          have J_118 : ∀ (U118 : MS) (v118_1 : Int32) (v118_2 : Int32) (v118_3 : Int32) (H : Heap) (locs : List Loc) (ls : Array Slot), w_X3_findDominators_J118 Q (w_X3_findDominators_L59 Q (w_X3_findDominators_L45 Q n45) n59) U118 v118_1 v118_2 v118_3 → shy S U118 → RepC g ad A s U118 H locs → lv_has ls 5 [(0, .ref (ad 52)), (1, .int v118_1), (2, .int v118_2), (3, .int v118_3)] → W p l e (headSpec (wt yX3_findDominators cX3_findDominators 5 none) ({ frames := 3, cells := 0, slots := 0, locals := 67 })).room s m ([.ref (ad 52)] : List Value).toArray below meth c H locs 0 0 (MQ below (va_Qv (fun (u : MS) => Q u ∧ wfC u ∧ shy S u) (fun (u : MS) (t : State) => qEC g ad A u t) A) ([.ref (ad 52)] : List Value).toArray s 0 0 A) (F0 m 118 ls []) := by
                            intro U118 v118_1 v118_2 v118_3 H locs ls h hsh hR hl
                            unfold w_X3_findDominators_J118 at h
                            replace h := h hR.w
                            obtain ⟨a32, ea32⟩ : ∃ z, z = (v118_3 + Int32.ofInt 1) := ⟨_, rfl⟩
                            replace h := h a32 ea32
                            refine lv_iinc (v := a32) (lv' := [(3, .int a32), (0, .ref (ad 52)), (1, .int v118_1), (2, .int v118_2)]) hx hb dX3_findDominators_118 hl (k := 3) rfl ea32.symm (by decide) rfl (fun ls hl => ?_)
                            refine lv_goto (tgt := 59) hx hb dX3_findDominators_121 (by decide) ?_
                            exact ih_59 U118 v118_1 v118_2 a32 _ _ ls h  hsh hR (lv_sub hl [1, 2, 3, 0] rfl)
                          refine lv_if_eq (tgt := 118) hx hb dX3_findDominators_81 (by decide) (fun c33 => ?_) (fun c33 => ?_)
                          · replace h := h.1 (k_eq rfl (by decide) c33)
                            exact J_118 U75 v75_1 v75_2 v75_3 _ _ ls h  hsh hR (lv_sub hl [0, 1, 2, 3] rfl)
                          · replace h := h.2 (k_ne rfl (by decide) c33)
                            refine lv_iload hx hb dX3_findDominators_84 (lv_at hl 4 rfl) ?_
                            refine lv_aload_n hx hb dX3_findDominators_86 rfl (lv_at hl 0 rfl) ?_
                            have hT_b34 : qT U75 (qO U75 52 4) = 204 := hR.w.ref (hR.w.ptr ptrC_24) (hR.w.2.1 _ finC_30).2.1
                            refine va_get (D := rD g) (ci := 3) (v := .ref (ad (qO U75 52 4))) (C := RX3) (T := TX3) (N := 16) hx hb hts inX3 hown hR.K hR.P 52 (hR.at43 (hR.w.2.1 _ finC_30).2.1) rfl 4 (by decide) (hts _ kw_885) (fun _ h9 => h9) (congrArg (fun z => some (vf ad z)) (hR.w.ptr ptrC_24)) dX3_findDominators_87 ?_
                            refine lv_iload_n hx hb dX3_findDominators_90 rfl (lv_at hl 3 rfl) ?_
                            refine lv_iconst (v := 1) hx hb dX3_findDominators_91 (by decide) ?_
                            refine lv_iadd hx hb dX3_findDominators_92 ?_
                            refine lv_topi (fun z35 ez35 => ?_)
                            obtain rfl : z35 = (v75_3 + (1 : Int32)) := ez35
                            obtain ⟨hv36, h⟩ := h
                            refine va_iald hx hb hR.K hR.P (qO U75 52 4) 1 (hR.atI hT_b34 (by decide)) rfl (k_ix (x := (v75_3 + (1 : Int32))) (a := (v75_3 + (1 : Int32)).toInt) rfl hv36) dX3_findDominators_93 ?_
                            refine lv_topi (fun z37 ez37 => ?_)
                            obtain rfl : z37 = (qI U75 (qO U75 52 4) (((v75_3 + (1 : Int32)).toInt).toNat)) := ez37
                            refine lv_icmp_ge (tgt := 118) hx hb dX3_findDominators_94 (by decide) (fun c38 => ?_) (fun c38 => ?_)
                            · replace h := h.1 (k_le rfl rfl c38)
                              exact J_118 U75 v75_1 v75_2 v75_3 _ _ ls h  hsh hR (lv_sub hl [0, 1, 2, 3] rfl)
                            · replace h := h.2 (k_nle rfl rfl c38)
                              refine lv_iload_n hx hb dX3_findDominators_97 rfl (lv_at hl 1 rfl) ?_
                              refine lv_aload_n hx hb dX3_findDominators_98 rfl (lv_at hl 0 rfl) ?_
                              refine lv_aload_n hx hb dX3_findDominators_99 rfl (lv_at hl 0 rfl) ?_
                              have hT_b39 : qT U75 (qO U75 52 5) = 205 := hR.w.ref (hR.w.ptr ptrC_25) (hR.w.2.1 _ finC_30).2.1
                              refine va_get (D := rD g) (ci := 3) (v := .ref (ad (qO U75 52 5))) (C := RX3) (T := TX3) (N := 16) hx hb hts inX3 hown hR.K hR.P 52 (hR.at43 (hR.w.2.1 _ finC_30).2.1) rfl 5 (by decide) (hts _ kw_840) (fun _ h9 => h9) (congrArg (fun z => some (vf ad z)) (hR.w.ptr ptrC_25)) dX3_findDominators_100 ?_
                              refine lv_iload hx hb dX3_findDominators_103 (lv_at hl 4 rfl) ?_
                              obtain ⟨hv40, h⟩ := h
                              refine va_iald hx hb hR.K hR.P (qO U75 52 5) 1 (hR.atI hT_b39 (by decide)) rfl (k_ix (x := v75_4) (a := v75_4.toInt) rfl hv40) dX3_findDominators_105 ?_
                              refine lv_topi (fun z41 ez41 => ?_)
                              obtain rfl : z41 = (qI U75 (qO U75 52 5) v75_4.toInt.toNat) := ez41
                              refine lv_iload_n hx hb dX3_findDominators_106 rfl (lv_at hl 3 rfl) ?_
                              obtain ⟨Q42, h0, h⟩ := h
                              have hFc := cfree hR hA
                              refine va_calli (va_runV (As := [.int (qI U75 (qO U75 52 5) v75_4.toInt.toNat), .int v75_3]) (rest := [.int v75_1]) ⟨hx, hb, hml, hown, hts⟩ (rX3_narrow l g ad H.size U75 (qI U75 (qO U75 52 5) v75_4.toInt.toNat) v75_3 hR.w  Q42 h0) (cwV 2 hts (gd_V kw_906 kw_939 kw_940 kw_401 kw_938) rfl rfl rfl (by decide +kernel) ⟨Nat.le_of_ble_eq_true rfl, Nat.le_of_ble_eq_true rfl⟩) ⟨cblind, va_recv hR.K hR.P (ci := 3) (q0 := 52) rfl (hR.at43 (hR.w.2.1 _ finC_30).2.1), fun U hU hW9 => cmk hU hW9 hR hex hE hFc⟩ rfl rfl hl.1 rfl (lv_room (Nat.le_of_ble_eq_true rfl)) dX3_findDominators_107 ⟨Nat.le_of_ble_eq_true rfl, Nat.le_of_ble_eq_true rfl⟩) hR.sS (fun q _ h => hFc q h) hFc (fun r43 S44 t9 H1 locs ht9 hvm9 hw9 hB9 hz9 hk9 hS => ?_)
                              obtain ⟨hq45, hw9, hs9, hz_r43⟩ := hw9
                              have hR : RepC g ad A s S44 H1 locs := hR.call ht9 hB9 hw9 hS hFc
                              have hsh := hsh.tr hs9
                              replace h := h r43 S44 hq45 hw9 hs9
                              clear hB9 hz9 hk9 hvm9 ht9 hw9 hs9 hS
                              generalize H1 = H at hR ⊢
                              refine lv_ior hx hb dX3_findDominators_110 ?_
                              refine lv_topi (fun z46 ez46 => ?_)
                              obtain rfl : z46 = (v75_1 ||| r43) := ez46
                              obtain ⟨a47, ea47⟩ : ∃ z, z = (v75_1 ||| r43) := ⟨_, rfl⟩
                              rw [← ea47]
                              replace h := h a47 ea47
                              refine lv_istore_n (lv' := [(1, .int a47), (0, .ref (ad 52)), (2, .int v75_2), (3, .int v75_3), (4, .int v75_4)]) hx hb dX3_findDominators_111 rfl hl (by decide) rfl (fun ls hl => ?_)
                              obtain ⟨a48, ea48⟩ : ∃ z, z = (v75_4 + Int32.ofInt 1) := ⟨_, rfl⟩
                              replace h := h a48 ea48
                              refine lv_iinc (v := a48) (lv' := [(4, .int a48), (1, .int a47), (0, .ref (ad 52)), (2, .int v75_2), (3, .int v75_3)]) hx hb dX3_findDominators_112 hl (k := 4) rfl ea48.symm (by decide) rfl (fun ls hl => ?_)
                              refine lv_goto (tgt := 75) hx hb dX3_findDominators_115 (by decide) ?_
                              exact ih_75 S44 a47 v75_2 v75_3 a48 _ _ ls h  hsh hR (lv_sub hl [2, 1, 3, 4, 0] rfl)
                      obtain ⟨n9, h⟩ := h
                      exact J_75 n9 U59 v59_1 v59_2 v59_3 a27 _ _ ls h  hsh hR (lv_sub hl [1, 2, 3, 4, 0] rfl)
                obtain ⟨n9, h⟩ := h
                exact J_59 n9 U45 0 v45_2 0 _ _ ls h  hsh hR (lv_sub hl [2, 1, 3, 0] rfl)
        obtain ⟨n9, h⟩ := h
        exact J_45 n9 U12 1 0 _ _ ls h  hsh hR (lv_sub hl [2, 1, 0] rfl)
      · replace h := h.2 (k_nle rfl rfl c5)
        refine lv_aload_n hx hb dX3_findDominators_20 rfl (lv_at hl 0 rfl) ?_
        have hT_b49 : qT U12 (qO U12 52 9) = 401 := hR.w.ref (hR.w.ptr ptrC_29) (hR.w.2.1 _ finC_30).2.1
        refine va_get (D := rD g) (ci := 3) (v := .ref (ad (qO U12 52 9))) (C := RX3) (T := TX3) (N := 16) hx hb hts inX3 hown hR.K hR.P 52 (hR.at43 (hR.w.2.1 _ finC_30).2.1) rfl 9 (by decide) (hts _ kw_866) (fun _ h9 => h9) (congrArg (fun z => some (vf ad z)) (hR.w.ptr ptrC_29)) dX3_findDominators_21 ?_
        refine lv_iload_n hx hb dX3_findDominators_24 rfl (lv_at hl 1 rfl) ?_
        refine lv_iload_n hx hb dX3_findDominators_25 rfl (lv_at hl 1 rfl) ?_
        have J_34 : ∀ (U34 : MS) (t34_0 : Int64) (t34_1 : Int32) (t34_2 : Nat) (v34_1 : Int32) (H : Heap) (locs : List Loc) (ls : Array Slot), w_X3_findDominators_J34 Q (w_X3_findDominators_L12 Q n12) U34 t34_0 t34_1 t34_2 v34_1 → qT U34 t34_2 = 401 → shy S U34 → RepC g ad A s U34 H locs → lv_has ls 5 [(0, .ref (ad 52)), (1, .int v34_1)] → W p l e (headSpec (wt yX3_findDominators cX3_findDominators 5 none) ({ frames := 3, cells := 0, slots := 0, locals := 67 })).room s m ([.ref (ad 52)] : List Value).toArray below meth c H locs 0 0 (MQ below (va_Qv (fun (u : MS) => Q u ∧ wfC u ∧ shy S u) (fun (u : MS) (t : State) => qEC g ad A u t) A) ([.ref (ad 52)] : List Value).toArray s 0 0 A) (F0 m 34 ls [.long t34_0, .int t34_1, .ref (ad t34_2)]) := by
          intro U34 t34_0 t34_1 t34_2 v34_1 H locs ls h hT_t34_2 hsh hR hl
          unfold w_X3_findDominators_J34 at h
          replace h := h hR.w hT_t34_2
          obtain ⟨hv50, h⟩ := h
          refine va_last hx hb hR.K hR.P hR.D hR.sS t34_2 3 (hR.atL hT_t34_2 (by decide)) rfl (k_ix (x := t34_1) (a := t34_1.toInt) rfl hv50) dX3_findDominators_34 (fun H locs hP hD hS => ?_)
          have hTk9 : qT U34 t34_2 = 401 := hT_t34_2
          have hR : RepC g ad A s (wJ U34 t34_2 t34_1.toInt.toNat t34_0) H locs := hR.aL hT_t34_2 (by decide) hP hD hS
          obtain ⟨S51, eS51⟩ : ∃ z, z = wJ U34 t34_2 t34_1.toInt.toNat t34_0 := ⟨_, rfl⟩
          rw [← eS51] at hR
          replace h := h S51 eS51 hTk9 hR.w
          have hsh : shy S S51 := by rw [eS51]; exact hsh
          obtain ⟨a52, ea52⟩ : ∃ z, z = (v34_1 + Int32.ofInt 1) := ⟨_, rfl⟩
          replace h := h a52 ea52
          refine lv_iinc (v := a52) (lv' := [(1, .int a52), (0, .ref (ad 52))]) hx hb dX3_findDominators_35 hl (k := 1) rfl ea52.symm (by decide) rfl (fun ls hl => ?_)
          refine lv_goto (tgt := 12) hx hb dX3_findDominators_38 (by decide) ?_
          exact ih_12 S51 a52 _ _ ls h  hsh hR (lv_sub hl [1, 0] rfl)
        refine lv_if_ne (tgt := 33) hx hb dX3_findDominators_26 (by decide) (fun c53 => ?_) (fun c53 => ?_)
        · replace h := h.2 (k_ne rfl (by decide) c53)
          refine lv_lconst (v := 0) hx hb dX3_findDominators_33 (by decide) ?_
          exact J_34 U12 0 v12_1 (qO U12 52 9) v12_1 _ _ ls h hT_b49 hsh hR (lv_sub hl [0, 1] rfl)
        · replace h := h.1 (k_eq rfl (by decide) c53)
          refine lv_lconst (v := 1) hx hb dX3_findDominators_29 (by decide) ?_
          refine lv_goto (tgt := 34) hx hb dX3_findDominators_30 (by decide) ?_
          exact J_34 U12 1 v12_1 (qO U12 52 9) v12_1 _ _ ls h hT_b49 hsh hR (lv_sub hl [0, 1] rfl)
  obtain ⟨n9, h⟩ := h
  exact J_12 n9 S3 0 _ _ ls h  hsh hR (lv_sub hl [1, 0] rfl)
def w_X3_addLoop_L119 (Q : MS → Prop) (k87 : MS → Int32 → Int32 → Int32 → Prop) : Nat → MS → Int32 → Int32 → Int32 → Int32 → Int32 → Prop
  | 0, _, _, _, _, _, _ => False
  | n119 + 1, U119, v119_1, v119_2, v119_3, v119_4, v119_5 => (wfC U119 → (((0 : Int) ≤ (v119_4 + (1 : Int32)).toInt ∧ (v119_4 + (1 : Int32)).toInt < (qN U119 (qO U119 52 6) : Int)) ∧ (((qI U119 (qO U119 52 6) (((v119_4 + (1 : Int32)).toInt).toNat)).toInt ≤ v119_5.toInt → (∀ a35 : Int32, a35 = (v119_3 + Int32.ofInt 1) → k87 U119 v119_1 v119_2 a35)) ∧ (¬ (qI U119 (qO U119 52 6) (((v119_4 + (1 : Int32)).toInt).toNat)).toInt ≤ v119_5.toInt → (((0 : Int) ≤ v119_5.toInt ∧ v119_5.toInt < (qN U119 (qO U119 52 7) : Int)) ∧ (∃ Q39, wX3_addToLoop U119 v119_1 (qI U119 (qO U119 52 7) v119_5.toInt.toNat) v119_2 Q39 ∧ ∀ r40 S41, Q39 r40 S41 → wfC S41 → shy U119 S41 → (∀ a43 : Int32, a43 = (v119_5 + Int32.ofInt 1) → (w_X3_addLoop_L119 Q k87 n119) S41 v119_1 r40 v119_3 v119_4 a43)))))))
def w_X3_addLoop_L87 (Q : MS → Prop) : Nat → MS → Int32 → Int32 → Int32 → Prop
  | 0, _, _, _, _ => False
  | n87 + 1, U87, v87_1, v87_2, v87_3 => (wfC U87 → ((v87_2.toInt ≤ 0 → Q U87) ∧ (¬ v87_2.toInt ≤ 0 → (((qI U87 52 1).toInt ≤ v87_3.toInt → Q U87) ∧ (¬ (qI U87 52 1).toInt ≤ v87_3.toInt → (∀ a21 : Int32, a21 = (v87_2 + Int32.ofInt (-1)) → (((0 : Int) ≤ a21.toInt ∧ a21.toInt < (qN U87 (qO U87 52 15) : Int)) ∧ (∀ a25 : Int32, a25 = (qI U87 (qO U87 52 15) a21.toInt.toNat) → (((0 : Int) ≤ a25.toInt ∧ a25.toInt < (qN U87 (qO U87 52 6) : Int)) ∧ (∀ a29 : Int32, a29 = (qI U87 (qO U87 52 6) a25.toInt.toNat) → (∃ n, w_X3_addLoop_L119 Q (w_X3_addLoop_L87 Q n87) n U87 v87_1 a21 v87_3 a25 a29)))))))))))
def w_X3_addLoop_J79 (Q : MS → Prop) (k26 : MS → Int32 → Int32 → Int32 → Prop) (U79 : MS) (v79_1 : Int32) (v79_2 : Int32) (v79_3 : Int32) : Prop := (wfC U79 → (∀ a51 : Int32, a51 = (v79_3 + Int32.ofInt 1) → k26 U79 v79_1 v79_2 a51))
def w_X3_addLoop_L26 (Q : MS → Prop) : Nat → MS → Int32 → Int32 → Int32 → Prop
  | 0, _, _, _, _ => False
  | n26 + 1, U26, v26_1, v26_2, v26_3 => (wfC U26 → (((0 : Int) ≤ (v26_1 + (1 : Int32)).toInt ∧ (v26_1 + (1 : Int32)).toInt < (qN U26 (qO U26 52 6) : Int)) ∧ (((qI U26 (qO U26 52 6) (((v26_1 + (1 : Int32)).toInt).toNat)).toInt ≤ v26_3.toInt → (∃ n, w_X3_addLoop_L87 Q n U26 v26_1 v26_2 0)) ∧ (¬ (qI U26 (qO U26 52 6) (((v26_1 + (1 : Int32)).toInt).toNat)).toInt ≤ v26_3.toInt → (((0 : Int) ≤ v26_3.toInt ∧ v26_3.toInt < (qN U26 (qO U26 52 7) : Int)) ∧ (((0 : Int) ≤ (qI U26 (qO U26 52 7) v26_3.toInt.toNat).toInt ∧ (qI U26 (qO U26 52 7) v26_3.toInt.toNat).toInt < (qN U26 (qO U26 52 8) : Int)) ∧ (((qI U26 (qO U26 52 8) (((qI U26 (qO U26 52 7) v26_3.toInt.toNat).toInt).toNat)).toInt = 0 → w_X3_addLoop_J79 Q (w_X3_addLoop_L26 Q n26) U26 v26_1 v26_2 v26_3) ∧ (¬ (qI U26 (qO U26 52 8) (((qI U26 (qO U26 52 7) v26_3.toInt.toNat).toInt).toNat)).toInt = 0 → (((0 : Int) ≤ v26_3.toInt ∧ v26_3.toInt < (qN U26 (qO U26 52 7) : Int)) ∧ (d_X3_dominates U26 v26_1 (qI U26 (qO U26 52 7) v26_3.toInt.toNat) ∧ (((fX3_dominates U26 v26_1 (qI U26 (qO U26 52 7) v26_3.toInt.toNat)).toInt = 0 → w_X3_addLoop_J79 Q (w_X3_addLoop_L26 Q n26) U26 v26_1 v26_2 v26_3) ∧ (¬ (fX3_dominates U26 v26_1 (qI U26 (qO U26 52 7) v26_3.toInt.toNat)).toInt = 0 → (((0 : Int) ≤ v26_3.toInt ∧ v26_3.toInt < (qN U26 (qO U26 52 7) : Int)) ∧ (∃ Q63, wX3_addToLoop U26 v26_1 (qI U26 (qO U26 52 7) v26_3.toInt.toNat) v26_2 Q63 ∧ ∀ r64 S65, Q63 r64 S65 → wfC S65 → shy U26 S65 → w_X3_addLoop_J79 Q (w_X3_addLoop_L26 Q n26) S65 v26_1 r64 v26_3))))))))))))))
def wX3_addLoop (S : MS) (x1 : Int32) (Q : MS → Prop) : Prop := (((0 : Int) ≤ x1.toInt ∧ x1.toInt < (qN S (qO S 52 14) : Int)) ∧ (∀ S3, S3 = wI S (qO S 52 14) x1.toInt.toNat x1 → qT S (qO S 52 14) = 211 → wfC S3 → (((0 : Int) ≤ x1.toInt ∧ x1.toInt < (qN S3 (qO S3 52 13) : Int)) ∧ (((0 : Int) ≤ x1.toInt ∧ x1.toInt < (qN S3 (qO S3 52 13) : Int)) ∧ (∀ S9, S9 = wI S3 (qO S3 52 13) x1.toInt.toNat ((qI S3 (qO S3 52 13) x1.toInt.toNat) + (1 : Int32)) → qT S3 (qO S3 52 13) = 210 → wfC S9 → (((0 : Int) ≤ x1.toInt ∧ x1.toInt < (qN S9 (qO S9 52 6) : Int)) ∧ (∀ a13 : Int32, a13 = (qI S9 (qO S9 52 6) x1.toInt.toNat) → (∃ n, w_X3_addLoop_L26 Q n S9 x1 0 a13))))))))
set_option maxHeartbeats 2000000 in
set_option maxRecDepth 100000 in
theorem rX3_addLoop (l : Launch) (g : Gr) (ad : Nat → Nat) (sz : Nat) (S : MS) (x1 : Int32) (hw : wfC S) (Q : MS → Prop) (h : wX3_addLoop S x1 Q) : Met l yX3_addLoop (wt yX3_addLoop cX3_addLoop 6 none) ({ frames := 1, cells := 0, slots := 0, locals := 23 }) (va_Pc [.ref (ad 52), .int x1] (st_C g ad sz S)) (va_Qv (fun (u : MS) => Q u ∧ wfC u ∧ shy S u) (fun (u : MS) (t : State) => qEC g ad (va_A (WdC g ad S) sz) u t) (va_A (WdC g ad S) sz)) 0 0 (va_A (WdC g ad S) sz) := by
  refine Met.ofW (cc := cX3_addLoop) (maxL := 6) (ret := none) (by decide) rfl ?_
  intro p e s m args below meth c s₁ B hml hv
  obtain ⟨rfl, hsz, hP, hK, hD0, hex, hE⟩ := hv
  have hx := B.exec
  have hb := B.bytes
  have hr := B.returns
  have hts0 := atoms_spec (ws := wt yX3_addLoop cX3_addLoop 6 none) B.pre
  have hts : ∀ w ∈ tb, w.before _ s = true := fun w h => hts0 w (List.mem_cons_of_mem _ h)
  have hown : s.vm.findClass RX3 = some m.cls := findClass_of_methodNamed B.named
  subst hsz
  have hD := hD0.self (sz := s.heap.size)
  generalize hAe : va_A (WdC g ad S) s.heap.size = A at hD hE ⊢
  have hA : ∀ q : Nat, s.heap.size ≤ q → A q := fun q h => by rw [← hAe]; exact Or.inr h
  have hR : RepC g ad A s S s.heap [] := ⟨hK, hP, hD, va_S.rf, hw⟩
  clear hK hP hD hD0
  have hl := lv_entry ([.ref (ad 52), .int x1]) (n := 6) (Nat.le_of_ble_eq_true rfl)
  rw [lg_entry_eq]
  generalize (lg_sl ([.ref (ad 52), .int x1]) ++ List.replicate (6 - (lg_sl ([.ref (ad 52), .int x1])).length) Slot.unset).toArray = ls at hl ⊢
  have hl : lv_has ls 6 [(0, .ref (ad 52)), (1, .int x1)] := hl
  have hsh : shy S S := shy.rf
  unfold wX3_addLoop at h
  refine lv_aload_n hx hb dX3_addLoop_0 rfl (lv_at hl 0 rfl) ?_
  have hT_b1 : qT S (qO S 52 14) = 211 := hR.w.ref (hR.w.ptr ptrC_33) (hR.w.2.1 _ finC_30).2.1
  refine va_get (D := rD g) (ci := 3) (v := .ref (ad (qO S 52 14))) (C := RX3) (T := TX3) (N := 16) hx hb hts inX3 hown hR.K hR.P 52 (hR.at43 (hR.w.2.1 _ finC_30).2.1) rfl 14 (by decide) (hts _ kw_838) (fun _ h9 => h9) (congrArg (fun z => some (vf ad z)) (hR.w.ptr ptrC_33)) dX3_addLoop_1 ?_
  refine lv_iload_n hx hb dX3_addLoop_4 rfl (lv_at hl 1 rfl) ?_
  refine lv_iload_n hx hb dX3_addLoop_5 rfl (lv_at hl 1 rfl) ?_
  obtain ⟨hv2, h⟩ := h
  refine va_iast hx hb hR.K hR.P hR.D hR.sS (qO S 52 14) 1 (hR.atI hT_b1 (by decide)) rfl (k_ix (x := x1) (a := x1.toInt) rfl hv2) dX3_addLoop_6 (fun H locs hP hD hS => ?_)
  have hTk9 : qT S (qO S 52 14) = 211 := hT_b1
  have hR : RepC g ad A s (wI S (qO S 52 14) x1.toInt.toNat x1) H locs := hR.aI hT_b1 (by decide) hP hD hS
  obtain ⟨S3, eS3⟩ : ∃ z, z = wI S (qO S 52 14) x1.toInt.toNat x1 := ⟨_, rfl⟩
  rw [← eS3] at hR
  replace h := h S3 eS3 hTk9 hR.w
  have hsh : shy S S3 := by rw [eS3]; exact hsh
  refine lv_aload_n hx hb dX3_addLoop_7 rfl (lv_at hl 0 rfl) ?_
  have hT_b4 : qT S3 (qO S3 52 13) = 210 := hR.w.ref (hR.w.ptr ptrC_32) (hR.w.2.1 _ finC_30).2.1
  refine va_get (D := rD g) (ci := 3) (v := .ref (ad (qO S3 52 13))) (C := RX3) (T := TX3) (N := 16) hx hb hts inX3 hown hR.K hR.P 52 (hR.at43 (hR.w.2.1 _ finC_30).2.1) rfl 13 (by decide) (hts _ kw_845) (fun _ h9 => h9) (congrArg (fun z => some (vf ad z)) (hR.w.ptr ptrC_32)) dX3_addLoop_8 ?_
  refine lv_iload_n hx hb dX3_addLoop_11 rfl (lv_at hl 1 rfl) ?_
  refine lv_dup2_11 hx hb dX3_addLoop_12 rfl rfl ?_
  obtain ⟨hv5, h⟩ := h
  refine va_iald hx hb hR.K hR.P (qO S3 52 13) 1 (hR.atI hT_b4 (by decide)) rfl (k_ix (x := x1) (a := x1.toInt) rfl hv5) dX3_addLoop_13 ?_
  refine lv_topi (fun z6 ez6 => ?_)
  obtain rfl : z6 = (qI S3 (qO S3 52 13) x1.toInt.toNat) := ez6
  refine lv_iconst (v := 1) hx hb dX3_addLoop_14 (by decide) ?_
  refine lv_iadd hx hb dX3_addLoop_15 ?_
  refine lv_topi (fun z7 ez7 => ?_)
  obtain rfl : z7 = ((qI S3 (qO S3 52 13) x1.toInt.toNat) + (1 : Int32)) := ez7
  obtain ⟨hv8, h⟩ := h
  refine va_iast hx hb hR.K hR.P hR.D hR.sS (qO S3 52 13) 1 (hR.atI hT_b4 (by decide)) rfl (k_ix (x := x1) (a := x1.toInt) rfl hv8) dX3_addLoop_16 (fun H locs hP hD hS => ?_)
  have hTk9 : qT S3 (qO S3 52 13) = 210 := hT_b4
  have hR : RepC g ad A s (wI S3 (qO S3 52 13) x1.toInt.toNat ((qI S3 (qO S3 52 13) x1.toInt.toNat) + (1 : Int32))) H locs := hR.aI hT_b4 (by decide) hP hD hS
  obtain ⟨S9, eS9⟩ : ∃ z, z = wI S3 (qO S3 52 13) x1.toInt.toNat ((qI S3 (qO S3 52 13) x1.toInt.toNat) + (1 : Int32)) := ⟨_, rfl⟩
  rw [← eS9] at hR
  replace h := h S9 eS9 hTk9 hR.w
  have hsh : shy S S9 := by rw [eS9]; exact hsh
  refine lv_iconst (v := 0) hx hb dX3_addLoop_17 (by decide) ?_
  refine lv_istore_n (lv' := [(2, .int 0), (0, .ref (ad 52)), (1, .int x1)]) hx hb dX3_addLoop_18 rfl hl (by decide) rfl (fun ls hl => ?_)
  refine lv_aload_n hx hb dX3_addLoop_19 rfl (lv_at hl 1 rfl) ?_
  have hT_b10 : qT S9 (qO S9 52 6) = 206 := hR.w.ref (hR.w.ptr ptrC_26) (hR.w.2.1 _ finC_30).2.1
  refine va_get (D := rD g) (ci := 3) (v := .ref (ad (qO S9 52 6))) (C := RX3) (T := TX3) (N := 16) hx hb hts inX3 hown hR.K hR.P 52 (hR.at43 (hR.w.2.1 _ finC_30).2.1) rfl 6 (by decide) (hts _ kw_846) (fun _ h9 => h9) (congrArg (fun z => some (vf ad z)) (hR.w.ptr ptrC_26)) dX3_addLoop_20 ?_
  refine lv_iload_n hx hb dX3_addLoop_23 rfl (lv_at hl 2 rfl) ?_
  obtain ⟨hv11, h⟩ := h
  refine va_iald hx hb hR.K hR.P (qO S9 52 6) 1 (hR.atI hT_b10 (by decide)) rfl (k_ix (x := x1) (a := x1.toInt) rfl hv11) dX3_addLoop_24 ?_
  refine lv_topi (fun z12 ez12 => ?_)
  obtain rfl : z12 = (qI S9 (qO S9 52 6) x1.toInt.toNat) := ez12
  obtain ⟨a13, ea13⟩ : ∃ z, z = (qI S9 (qO S9 52 6) x1.toInt.toNat) := ⟨_, rfl⟩
  rw [← ea13]
  replace h := h a13 ea13
  refine lv_istore_n (lv' := [(3, .int a13), (2, .int 0), (0, .ref (ad 52)), (1, .int x1)]) hx hb dX3_addLoop_25 rfl hl (by decide) rfl (fun ls hl => ?_)
  have J_26 : ∀ (n26 : Nat) (U26 : MS) (v26_1 : Int32) (v26_2 : Int32) (v26_3 : Int32) (H : Heap) (locs : List Loc) (ls : Array Slot), w_X3_addLoop_L26 Q n26 U26 v26_1 v26_2 v26_3 → shy S U26 → RepC g ad A s U26 H locs → lv_has ls 6 [(0, .ref (ad 52)), (1, .int v26_1), (2, .int v26_2), (3, .int v26_3)] → W p l e (headSpec (wt yX3_addLoop cX3_addLoop 6 none) ({ frames := 1, cells := 0, slots := 0, locals := 23 })).room s m ([.ref (ad 52), .int x1] : List Value).toArray below meth c H locs 0 0 (MQ below (va_Qv (fun (u : MS) => Q u ∧ wfC u ∧ shy S u) (fun (u : MS) (t : State) => qEC g ad A u t) A) ([.ref (ad 52), .int x1] : List Value).toArray s 0 0 A) (F0 m 26 ls []) := by
    intro n26
    induction n26 with
    | zero => intro U26 v26_1 v26_2 v26_3 H locs ls h hsh hR hl; unfold w_X3_addLoop_L26 at h; exact h.elim
    | succ n26 ih_26 =>
      intro U26 v26_1 v26_2 v26_3 H locs ls h hsh hR hl
      unfold w_X3_addLoop_L26 at h
      replace h := h hR.w
      refine lv_iload_n hx hb dX3_addLoop_26 rfl (lv_at hl 3 rfl) ?_
      refine lv_aload_n hx hb dX3_addLoop_27 rfl (lv_at hl 0 rfl) ?_
      have hT_b14 : qT U26 (qO U26 52 6) = 206 := hR.w.ref (hR.w.ptr ptrC_26) (hR.w.2.1 _ finC_30).2.1
      refine va_get (D := rD g) (ci := 3) (v := .ref (ad (qO U26 52 6))) (C := RX3) (T := TX3) (N := 16) hx hb hts inX3 hown hR.K hR.P 52 (hR.at43 (hR.w.2.1 _ finC_30).2.1) rfl 6 (by decide) (hts _ kw_846) (fun _ h9 => h9) (congrArg (fun z => some (vf ad z)) (hR.w.ptr ptrC_26)) dX3_addLoop_28 ?_
      refine lv_iload_n hx hb dX3_addLoop_31 rfl (lv_at hl 1 rfl) ?_
      refine lv_iconst (v := 1) hx hb dX3_addLoop_32 (by decide) ?_
      refine lv_iadd hx hb dX3_addLoop_33 ?_
      refine lv_topi (fun z15 ez15 => ?_)
      obtain rfl : z15 = (v26_1 + (1 : Int32)) := ez15
      obtain ⟨hv16, h⟩ := h
      refine va_iald hx hb hR.K hR.P (qO U26 52 6) 1 (hR.atI hT_b14 (by decide)) rfl (k_ix (x := (v26_1 + (1 : Int32))) (a := (v26_1 + (1 : Int32)).toInt) rfl hv16) dX3_addLoop_34 ?_
      refine lv_topi (fun z17 ez17 => ?_)
      obtain rfl : z17 = (qI U26 (qO U26 52 6) (((v26_1 + (1 : Int32)).toInt).toNat)) := ez17
      refine lv_icmp_ge (tgt := 85) hx hb dX3_addLoop_35 (by decide) (fun c18 => ?_) (fun c18 => ?_)
      · replace h := h.1 (k_le rfl rfl c18)
        refine lv_iconst (v := 0) hx hb dX3_addLoop_85 (by decide) ?_
        refine lv_istore_n (lv' := [(3, .int 0), (0, .ref (ad 52)), (1, .int v26_1), (2, .int v26_2)]) hx hb dX3_addLoop_86 rfl hl (by decide) rfl (fun ls hl => ?_)
        have J_87 : ∀ (n87 : Nat) (U87 : MS) (v87_1 : Int32) (v87_2 : Int32) (v87_3 : Int32) (H : Heap) (locs : List Loc) (ls : Array Slot), w_X3_addLoop_L87 Q n87 U87 v87_1 v87_2 v87_3 → shy S U87 → RepC g ad A s U87 H locs → lv_has ls 6 [(0, .ref (ad 52)), (1, .int v87_1), (2, .int v87_2), (3, .int v87_3)] → W p l e (headSpec (wt yX3_addLoop cX3_addLoop 6 none) ({ frames := 1, cells := 0, slots := 0, locals := 23 })).room s m ([.ref (ad 52), .int x1] : List Value).toArray below meth c H locs 0 0 (MQ below (va_Qv (fun (u : MS) => Q u ∧ wfC u ∧ shy S u) (fun (u : MS) (t : State) => qEC g ad A u t) A) ([.ref (ad 52), .int x1] : List Value).toArray s 0 0 A) (F0 m 87 ls []) := by
          intro n87
          induction n87 with
          | zero => intro U87 v87_1 v87_2 v87_3 H locs ls h hsh hR hl; unfold w_X3_addLoop_L87 at h; exact h.elim
          | succ n87 ih_87 =>
            intro U87 v87_1 v87_2 v87_3 H locs ls h hsh hR hl
            unfold w_X3_addLoop_L87 at h
            replace h := h hR.w
            refine lv_iload_n hx hb dX3_addLoop_87 rfl (lv_at hl 2 rfl) ?_
            refine lv_if_le (tgt := 159) hx hb dX3_addLoop_88 (by decide) (fun c19 => ?_) (fun c19 => ?_)
            · replace h := h.1 (k_le rfl (by decide) c19)
              exact W.vret hx hb hr (fun t9 ht9 hW9 => ⟨⟨U87, rfl, ⟨h, hR.w, hsh⟩, ⟨by rw [ht9]; exact hR.P, hR.D⟩⟩, hR.sS.F ht9⟩) hR.sS.2.2 dX3_addLoop_159
            · replace h := h.2 (k_nle rfl (by decide) c19)
              refine lv_iload_n hx hb dX3_addLoop_91 rfl (lv_at hl 3 rfl) ?_
              refine lv_aload_n hx hb dX3_addLoop_92 rfl (lv_at hl 0 rfl) ?_
              refine va_get (D := rD g) (ci := 3) (v := .int (qI U87 52 1)) (C := RX3) (T := TX3) (N := 16) hx hb hts inX3 hown hR.K hR.P 52 (hR.at43 (hR.w.2.1 _ finC_30).2.1) rfl 1 (by decide) (hts _ kw_851) (fun _ h9 => h9) rfl dX3_addLoop_93 ?_
              refine lv_icmp_ge (tgt := 159) hx hb dX3_addLoop_96 (by decide) (fun c20 => ?_) (fun c20 => ?_)
              · replace h := h.1 (k_le rfl rfl c20)
                exact W.vret hx hb hr (fun t9 ht9 hW9 => ⟨⟨U87, rfl, ⟨h, hR.w, hsh⟩, ⟨by rw [ht9]; exact hR.P, hR.D⟩⟩, hR.sS.F ht9⟩) hR.sS.2.2 dX3_addLoop_159
              · replace h := h.2 (k_nle rfl rfl c20)
                obtain ⟨a21, ea21⟩ : ∃ z, z = (v87_2 + Int32.ofInt (-1)) := ⟨_, rfl⟩
                replace h := h a21 ea21
                refine lv_iinc (v := a21) (lv' := [(2, .int a21), (0, .ref (ad 52)), (1, .int v87_1), (3, .int v87_3)]) hx hb dX3_addLoop_99 hl (k := 2) rfl ea21.symm (by decide) rfl (fun ls hl => ?_)
                refine lv_aload_n hx hb dX3_addLoop_102 rfl (lv_at hl 1 rfl) ?_
                have hT_b22 : qT U87 (qO U87 52 15) = 212 := hR.w.ref (hR.w.ptr ptrC_34) (hR.w.2.1 _ finC_30).2.1
                refine va_get (D := rD g) (ci := 3) (v := .ref (ad (qO U87 52 15))) (C := RX3) (T := TX3) (N := 16) hx hb hts inX3 hown hR.K hR.P 52 (hR.at43 (hR.w.2.1 _ finC_30).2.1) rfl 15 (by decide) (hts _ kw_852) (fun _ h9 => h9) (congrArg (fun z => some (vf ad z)) (hR.w.ptr ptrC_34)) dX3_addLoop_103 ?_
                refine lv_iload_n hx hb dX3_addLoop_106 rfl (lv_at hl 0 rfl) ?_
                obtain ⟨hv23, h⟩ := h
                refine va_iald hx hb hR.K hR.P (qO U87 52 15) 1 (hR.atI hT_b22 (by decide)) rfl (k_ix (x := a21) (a := a21.toInt) rfl hv23) dX3_addLoop_107 ?_
                refine lv_topi (fun z24 ez24 => ?_)
                obtain rfl : z24 = (qI U87 (qO U87 52 15) a21.toInt.toNat) := ez24
                obtain ⟨a25, ea25⟩ : ∃ z, z = (qI U87 (qO U87 52 15) a21.toInt.toNat) := ⟨_, rfl⟩
                rw [← ea25]
                replace h := h a25 ea25
                refine lv_istore (lv' := [(4, .int a25), (2, .int a21), (0, .ref (ad 52)), (1, .int v87_1), (3, .int v87_3)]) hx hb dX3_addLoop_108 hl (by decide) rfl (fun ls hl => ?_)
                refine lv_aload_n hx hb dX3_addLoop_110 rfl (lv_at hl 2 rfl) ?_
                have hT_b26 : qT U87 (qO U87 52 6) = 206 := hR.w.ref (hR.w.ptr ptrC_26) (hR.w.2.1 _ finC_30).2.1
                refine va_get (D := rD g) (ci := 3) (v := .ref (ad (qO U87 52 6))) (C := RX3) (T := TX3) (N := 16) hx hb hts inX3 hown hR.K hR.P 52 (hR.at43 (hR.w.2.1 _ finC_30).2.1) rfl 6 (by decide) (hts _ kw_846) (fun _ h9 => h9) (congrArg (fun z => some (vf ad z)) (hR.w.ptr ptrC_26)) dX3_addLoop_111 ?_
                refine lv_iload hx hb dX3_addLoop_114 (lv_at hl 0 rfl) ?_
                obtain ⟨hv27, h⟩ := h
                refine va_iald hx hb hR.K hR.P (qO U87 52 6) 1 (hR.atI hT_b26 (by decide)) rfl (k_ix (x := a25) (a := a25.toInt) rfl hv27) dX3_addLoop_116 ?_
                refine lv_topi (fun z28 ez28 => ?_)
                obtain rfl : z28 = (qI U87 (qO U87 52 6) a25.toInt.toNat) := ez28
                obtain ⟨a29, ea29⟩ : ∃ z, z = (qI U87 (qO U87 52 6) a25.toInt.toNat) := ⟨_, rfl⟩
                rw [← ea29]
                replace h := h a29 ea29
                refine lv_istore (lv' := [(5, .int a29), (4, .int a25), (2, .int a21), (0, .ref (ad 52)), (1, .int v87_1), (3, .int v87_3)]) hx hb dX3_addLoop_117 hl (by decide) rfl (fun ls hl => ?_)
                have J_119 : ∀ (n119 : Nat) (U119 : MS) (v119_1 : Int32) (v119_2 : Int32) (v119_3 : Int32) (v119_4 : Int32) (v119_5 : Int32) (H : Heap) (locs : List Loc) (ls : Array Slot), w_X3_addLoop_L119 Q (w_X3_addLoop_L87 Q n87) n119 U119 v119_1 v119_2 v119_3 v119_4 v119_5 → shy S U119 → RepC g ad A s U119 H locs → lv_has ls 6 [(0, .ref (ad 52)), (1, .int v119_1), (2, .int v119_2), (3, .int v119_3), (4, .int v119_4), (5, .int v119_5)] → W p l e (headSpec (wt yX3_addLoop cX3_addLoop 6 none) ({ frames := 1, cells := 0, slots := 0, locals := 23 })).room s m ([.ref (ad 52), .int x1] : List Value).toArray below meth c H locs 0 0 (MQ below (va_Qv (fun (u : MS) => Q u ∧ wfC u ∧ shy S u) (fun (u : MS) (t : State) => qEC g ad A u t) A) ([.ref (ad 52), .int x1] : List Value).toArray s 0 0 A) (F0 m 119 ls []) := by
                  intro n119
                  induction n119 with
                  | zero => intro U119 v119_1 v119_2 v119_3 v119_4 v119_5 H locs ls h hsh hR hl; unfold w_X3_addLoop_L119 at h; exact h.elim
                  | succ n119 ih_119 =>
                    intro U119 v119_1 v119_2 v119_3 v119_4 v119_5 H locs ls h hsh hR hl
                    unfold w_X3_addLoop_L119 at h
                    replace h := h hR.w
                    refine lv_iload hx hb dX3_addLoop_119 (lv_at hl 5 rfl) ?_
                    refine lv_aload_n hx hb dX3_addLoop_121 rfl (lv_at hl 0 rfl) ?_
                    have hT_b30 : qT U119 (qO U119 52 6) = 206 := hR.w.ref (hR.w.ptr ptrC_26) (hR.w.2.1 _ finC_30).2.1
                    refine va_get (D := rD g) (ci := 3) (v := .ref (ad (qO U119 52 6))) (C := RX3) (T := TX3) (N := 16) hx hb hts inX3 hown hR.K hR.P 52 (hR.at43 (hR.w.2.1 _ finC_30).2.1) rfl 6 (by decide) (hts _ kw_846) (fun _ h9 => h9) (congrArg (fun z => some (vf ad z)) (hR.w.ptr ptrC_26)) dX3_addLoop_122 ?_
                    refine lv_iload hx hb dX3_addLoop_125 (lv_at hl 4 rfl) ?_
                    refine lv_iconst (v := 1) hx hb dX3_addLoop_127 (by decide) ?_
                    refine lv_iadd hx hb dX3_addLoop_128 ?_
                    refine lv_topi (fun z31 ez31 => ?_)
                    obtain rfl : z31 = (v119_4 + (1 : Int32)) := ez31
                    obtain ⟨hv32, h⟩ := h
                    refine va_iald hx hb hR.K hR.P (qO U119 52 6) 1 (hR.atI hT_b30 (by decide)) rfl (k_ix (x := (v119_4 + (1 : Int32))) (a := (v119_4 + (1 : Int32)).toInt) rfl hv32) dX3_addLoop_129 ?_
                    refine lv_topi (fun z33 ez33 => ?_)
                    obtain rfl : z33 = (qI U119 (qO U119 52 6) (((v119_4 + (1 : Int32)).toInt).toNat)) := ez33
                    refine lv_icmp_ge (tgt := 153) hx hb dX3_addLoop_130 (by decide) (fun c34 => ?_) (fun c34 => ?_)
                    · replace h := h.1 (k_le rfl rfl c34)
                      obtain ⟨a35, ea35⟩ : ∃ z, z = (v119_3 + Int32.ofInt 1) := ⟨_, rfl⟩
                      replace h := h a35 ea35
                      refine lv_iinc (v := a35) (lv' := [(3, .int a35), (0, .ref (ad 52)), (1, .int v119_1), (2, .int v119_2), (4, .int v119_4), (5, .int v119_5)]) hx hb dX3_addLoop_153 hl (k := 3) rfl ea35.symm (by decide) rfl (fun ls hl => ?_)
                      refine lv_goto (tgt := 87) hx hb dX3_addLoop_156 (by decide) ?_
                      exact ih_87 U119 v119_1 v119_2 a35 _ _ ls h  hsh hR (lv_sub hl [1, 2, 3, 0] rfl)
                    · replace h := h.2 (k_nle rfl rfl c34)
                      refine lv_aload_n hx hb dX3_addLoop_133 rfl (lv_at hl 0 rfl) ?_
                      refine lv_iload_n hx hb dX3_addLoop_134 rfl (lv_at hl 1 rfl) ?_
                      refine lv_aload_n hx hb dX3_addLoop_135 rfl (lv_at hl 0 rfl) ?_
                      have hT_b36 : qT U119 (qO U119 52 7) = 207 := hR.w.ref (hR.w.ptr ptrC_27) (hR.w.2.1 _ finC_30).2.1
                      refine va_get (D := rD g) (ci := 3) (v := .ref (ad (qO U119 52 7))) (C := RX3) (T := TX3) (N := 16) hx hb hts inX3 hown hR.K hR.P 52 (hR.at43 (hR.w.2.1 _ finC_30).2.1) rfl 7 (by decide) (hts _ kw_848) (fun _ h9 => h9) (congrArg (fun z => some (vf ad z)) (hR.w.ptr ptrC_27)) dX3_addLoop_136 ?_
                      refine lv_iload hx hb dX3_addLoop_139 (lv_at hl 5 rfl) ?_
                      obtain ⟨hv37, h⟩ := h
                      refine va_iald hx hb hR.K hR.P (qO U119 52 7) 1 (hR.atI hT_b36 (by decide)) rfl (k_ix (x := v119_5) (a := v119_5.toInt) rfl hv37) dX3_addLoop_141 ?_
                      refine lv_topi (fun z38 ez38 => ?_)
                      obtain rfl : z38 = (qI U119 (qO U119 52 7) v119_5.toInt.toNat) := ez38
                      refine lv_iload_n hx hb dX3_addLoop_142 rfl (lv_at hl 2 rfl) ?_
                      obtain ⟨Q39, h0, h⟩ := h
                      have hFc := cfree hR hA
                      refine va_calli (va_runV (As := [.int v119_1, .int (qI U119 (qO U119 52 7) v119_5.toInt.toNat), .int v119_2]) (rest := []) ⟨hx, hb, hml, hown, hts⟩ (rX3_addToLoop l g ad H.size U119 v119_1 (qI U119 (qO U119 52 7) v119_5.toInt.toNat) v119_2 hR.w  Q39 h0) (cwV 3 hts (gd_V kw_850 kw_854 kw_855 kw_401 kw_853) rfl rfl rfl (by decide +kernel) ⟨Nat.le_of_ble_eq_true rfl, Nat.le_of_ble_eq_true rfl⟩) ⟨cblind, va_recv hR.K hR.P (ci := 3) (q0 := 52) rfl (hR.at43 (hR.w.2.1 _ finC_30).2.1), fun U hU hW9 => cmk hU hW9 hR hex hE hFc⟩ rfl rfl hl.1 rfl (lv_room (Nat.le_of_ble_eq_true rfl)) dX3_addLoop_143 ⟨Nat.le_of_ble_eq_true rfl, Nat.le_of_ble_eq_true rfl⟩) hR.sS (fun q _ h => hFc q h) hFc (fun r40 S41 t9 H1 locs ht9 hvm9 hw9 hB9 hz9 hk9 hS => ?_)
                      obtain ⟨hq42, hw9, hs9⟩ := hw9
                      have hR : RepC g ad A s S41 H1 locs := hR.call ht9 hB9 hw9 hS hFc
                      have hsh := hsh.tr hs9
                      replace h := h r40 S41 hq42 hw9 hs9
                      clear hB9 hz9 hk9 hvm9 ht9 hw9 hs9 hS
                      generalize H1 = H at hR ⊢
                      refine lv_istore_n (lv' := [(2, .int r40), (0, .ref (ad 52)), (1, .int v119_1), (3, .int v119_3), (4, .int v119_4), (5, .int v119_5)]) hx hb dX3_addLoop_146 rfl hl (by decide) rfl (fun ls hl => ?_)
                      obtain ⟨a43, ea43⟩ : ∃ z, z = (v119_5 + Int32.ofInt 1) := ⟨_, rfl⟩
                      replace h := h a43 ea43
                      refine lv_iinc (v := a43) (lv' := [(5, .int a43), (2, .int r40), (0, .ref (ad 52)), (1, .int v119_1), (3, .int v119_3), (4, .int v119_4)]) hx hb dX3_addLoop_147 hl (k := 5) rfl ea43.symm (by decide) rfl (fun ls hl => ?_)
                      refine lv_goto (tgt := 119) hx hb dX3_addLoop_150 (by decide) ?_
                      exact ih_119 S41 v119_1 r40 v119_3 v119_4 a43 _ _ ls h  hsh hR (lv_sub hl [2, 3, 1, 4, 5, 0] rfl)
                obtain ⟨n9, h⟩ := h
                exact J_119 n9 U87 v87_1 a21 v87_3 a25 a29 _ _ ls h  hsh hR (lv_sub hl [3, 4, 2, 5, 1, 0] rfl)
        obtain ⟨n9, h⟩ := h
        exact J_87 n9 U26 v26_1 v26_2 0 _ _ ls h  hsh hR (lv_sub hl [1, 2, 3, 0] rfl)
      · replace h := h.2 (k_nle rfl rfl c18)
        refine lv_aload_n hx hb dX3_addLoop_38 rfl (lv_at hl 0 rfl) ?_
        have hT_b44 : qT U26 (qO U26 52 8) = 303 := hR.w.ref (hR.w.ptr ptrC_28) (hR.w.2.1 _ finC_30).2.1
        refine va_get (D := rD g) (ci := 3) (v := .ref (ad (qO U26 52 8))) (C := RX3) (T := TX3) (N := 16) hx hb hts inX3 hown hR.K hR.P 52 (hR.at43 (hR.w.2.1 _ finC_30).2.1) rfl 8 (by decide) (hts _ kw_847) (fun _ h9 => h9) (congrArg (fun z => some (vf ad z)) (hR.w.ptr ptrC_28)) dX3_addLoop_39 ?_
        refine lv_aload_n hx hb dX3_addLoop_42 rfl (lv_at hl 0 rfl) ?_
        have hT_b45 : qT U26 (qO U26 52 7) = 207 := hR.w.ref (hR.w.ptr ptrC_27) (hR.w.2.1 _ finC_30).2.1
        refine va_get (D := rD g) (ci := 3) (v := .ref (ad (qO U26 52 7))) (C := RX3) (T := TX3) (N := 16) hx hb hts inX3 hown hR.K hR.P 52 (hR.at43 (hR.w.2.1 _ finC_30).2.1) rfl 7 (by decide) (hts _ kw_848) (fun _ h9 => h9) (congrArg (fun z => some (vf ad z)) (hR.w.ptr ptrC_27)) dX3_addLoop_43 ?_
        refine lv_iload_n hx hb dX3_addLoop_46 rfl (lv_at hl 3 rfl) ?_
        obtain ⟨hv46, h⟩ := h
        refine va_iald hx hb hR.K hR.P (qO U26 52 7) 1 (hR.atI hT_b45 (by decide)) rfl (k_ix (x := v26_3) (a := v26_3.toInt) rfl hv46) dX3_addLoop_47 ?_
        refine lv_topi (fun z47 ez47 => ?_)
        obtain rfl : z47 = (qI U26 (qO U26 52 7) v26_3.toInt.toNat) := ez47
        obtain ⟨hv48, h⟩ := h
        refine va_zald hx hb hR.K hR.P (qO U26 52 8) 2 (hR.atZ hT_b44 (by decide)) rfl (k_ix (x := (qI U26 (qO U26 52 7) v26_3.toInt.toNat)) (a := (qI U26 (qO U26 52 7) v26_3.toInt.toNat).toInt) rfl hv48) dX3_addLoop_48 ?_
        refine lv_topi (fun z49 ez49 => ?_)
        obtain rfl : z49 = (qI U26 (qO U26 52 8) (((qI U26 (qO U26 52 7) v26_3.toInt.toNat).toInt).toNat)) := ez49
        have hz50 := hR.w.bit3 (b := (qO U26 52 8)) (j := ((qI U26 (qO U26 52 7) v26_3.toInt.toNat).toInt).toNat) (hT_b44) (by decide)
        have J_79 : ∀ (U79 : MS) (v79_1 : Int32) (v79_2 : Int32) (v79_3 : Int32) (H : Heap) (locs : List Loc) (ls : Array Slot), w_X3_addLoop_J79 Q (w_X3_addLoop_L26 Q n26) U79 v79_1 v79_2 v79_3 → shy S U79 → RepC g ad A s U79 H locs → lv_has ls 6 [(0, .ref (ad 52)), (1, .int v79_1), (2, .int v79_2), (3, .int v79_3)] → W p l e (headSpec (wt yX3_addLoop cX3_addLoop 6 none) ({ frames := 1, cells := 0, slots := 0, locals := 23 })).room s m ([.ref (ad 52), .int x1] : List Value).toArray below meth c H locs 0 0 (MQ below (va_Qv (fun (u : MS) => Q u ∧ wfC u ∧ shy S u) (fun (u : MS) (t : State) => qEC g ad A u t) A) ([.ref (ad 52), .int x1] : List Value).toArray s 0 0 A) (F0 m 79 ls []) := by
          intro U79 v79_1 v79_2 v79_3 H locs ls h hsh hR hl
          unfold w_X3_addLoop_J79 at h
          replace h := h hR.w
          obtain ⟨a51, ea51⟩ : ∃ z, z = (v79_3 + Int32.ofInt 1) := ⟨_, rfl⟩
          replace h := h a51 ea51
          refine lv_iinc (v := a51) (lv' := [(3, .int a51), (0, .ref (ad 52)), (1, .int v79_1), (2, .int v79_2)]) hx hb dX3_addLoop_79 hl (k := 3) rfl ea51.symm (by decide) rfl (fun ls hl => ?_)
          refine lv_goto (tgt := 26) hx hb dX3_addLoop_82 (by decide) ?_
          exact ih_26 U79 v79_1 v79_2 a51 _ _ ls h  hsh hR (lv_sub hl [1, 2, 3, 0] rfl)
        refine lv_if_eq (tgt := 79) hx hb dX3_addLoop_49 (by decide) (fun c52 => ?_) (fun c52 => ?_)
        · replace h := h.1 (k_eq rfl (by decide) c52)
          exact J_79 U26 v26_1 v26_2 v26_3 _ _ ls h  hsh hR (lv_sub hl [0, 1, 2, 3] rfl)
        · replace h := h.2 (k_ne rfl (by decide) c52)
          refine lv_aload_n hx hb dX3_addLoop_52 rfl (lv_at hl 0 rfl) ?_
          refine lv_iload_n hx hb dX3_addLoop_53 rfl (lv_at hl 1 rfl) ?_
          refine lv_aload_n hx hb dX3_addLoop_54 rfl (lv_at hl 0 rfl) ?_
          have hT_b53 : qT U26 (qO U26 52 7) = 207 := hR.w.ref (hR.w.ptr ptrC_27) (hR.w.2.1 _ finC_30).2.1
          refine va_get (D := rD g) (ci := 3) (v := .ref (ad (qO U26 52 7))) (C := RX3) (T := TX3) (N := 16) hx hb hts inX3 hown hR.K hR.P 52 (hR.at43 (hR.w.2.1 _ finC_30).2.1) rfl 7 (by decide) (hts _ kw_848) (fun _ h9 => h9) (congrArg (fun z => some (vf ad z)) (hR.w.ptr ptrC_27)) dX3_addLoop_55 ?_
          refine lv_iload_n hx hb dX3_addLoop_58 rfl (lv_at hl 3 rfl) ?_
          obtain ⟨hv54, h⟩ := h
          refine va_iald hx hb hR.K hR.P (qO U26 52 7) 1 (hR.atI hT_b53 (by decide)) rfl (k_ix (x := v26_3) (a := v26_3.toInt) rfl hv54) dX3_addLoop_59 ?_
          refine lv_topi (fun z55 ez55 => ?_)
          obtain rfl : z55 = (qI U26 (qO U26 52 7) v26_3.toInt.toNat) := ez55
          obtain ⟨hv56, h⟩ := h
          have hFc := cfree hR hA
          refine va_calli (va_runV (As := [.int v26_1, .int (qI U26 (qO U26 52 7) v26_3.toInt.toNat)]) (rest := []) ⟨hx, hb, hml, hown, hts⟩ (rX3_dominates l g ad H.size U26 v26_1 (qI U26 (qO U26 52 7) v26_3.toInt.toNat) hR.w  hv56) (cwV 2 hts (gd_V kw_849 kw_864 kw_865 kw_401 kw_863) rfl rfl rfl (by decide +kernel) ⟨Nat.le_of_ble_eq_true rfl, Nat.le_of_ble_eq_true rfl⟩) ⟨cblind, va_recv hR.K hR.P (ci := 3) (q0 := 52) rfl (hR.at43 (hR.w.2.1 _ finC_30).2.1), fun U hU hW9 => cmk hU hW9 hR hex hE hFc⟩ rfl rfl hl.1 rfl (lv_room (Nat.le_of_ble_eq_true rfl)) dX3_addLoop_60 ⟨Nat.le_of_ble_eq_true rfl, Nat.le_of_ble_eq_true rfl⟩) hR.sS (fun q _ h => hFc q h) hFc (fun r57 u9 t9 H1 locs ht9 hvm9 hw9 hB9 hz9 hk9 hS => ?_)
          have hR : RepC g ad A s U26 H1 locs := hR.call ht9 hB9 hR.w hS hFc
          obtain ⟨rfl, hz_r57⟩ := hw9
          clear hB9 hz9 hk9 hvm9 ht9 hS
          generalize H1 = H at hR ⊢
          refine lv_if_eq (tgt := 79) hx hb dX3_addLoop_63 (by decide) (fun c59 => ?_) (fun c59 => ?_)
          · replace h := h.1 (k_eq rfl (by decide) c59)
            exact J_79 U26 v26_1 v26_2 v26_3 _ _ ls h  hsh hR (lv_sub hl [0, 1, 2, 3] rfl)
          · replace h := h.2 (k_ne rfl (by decide) c59)
            refine lv_aload_n hx hb dX3_addLoop_66 rfl (lv_at hl 0 rfl) ?_
            refine lv_iload_n hx hb dX3_addLoop_67 rfl (lv_at hl 1 rfl) ?_
            refine lv_aload_n hx hb dX3_addLoop_68 rfl (lv_at hl 0 rfl) ?_
            have hT_b60 : qT U26 (qO U26 52 7) = 207 := hR.w.ref (hR.w.ptr ptrC_27) (hR.w.2.1 _ finC_30).2.1
            refine va_get (D := rD g) (ci := 3) (v := .ref (ad (qO U26 52 7))) (C := RX3) (T := TX3) (N := 16) hx hb hts inX3 hown hR.K hR.P 52 (hR.at43 (hR.w.2.1 _ finC_30).2.1) rfl 7 (by decide) (hts _ kw_848) (fun _ h9 => h9) (congrArg (fun z => some (vf ad z)) (hR.w.ptr ptrC_27)) dX3_addLoop_69 ?_
            refine lv_iload_n hx hb dX3_addLoop_72 rfl (lv_at hl 3 rfl) ?_
            obtain ⟨hv61, h⟩ := h
            refine va_iald hx hb hR.K hR.P (qO U26 52 7) 1 (hR.atI hT_b60 (by decide)) rfl (k_ix (x := v26_3) (a := v26_3.toInt) rfl hv61) dX3_addLoop_73 ?_
            refine lv_topi (fun z62 ez62 => ?_)
            obtain rfl : z62 = (qI U26 (qO U26 52 7) v26_3.toInt.toNat) := ez62
            refine lv_iload_n hx hb dX3_addLoop_74 rfl (lv_at hl 2 rfl) ?_
            obtain ⟨Q63, h0, h⟩ := h
            have hFc := cfree hR hA
            refine va_calli (va_runV (As := [.int v26_1, .int (qI U26 (qO U26 52 7) v26_3.toInt.toNat), .int v26_2]) (rest := []) ⟨hx, hb, hml, hown, hts⟩ (rX3_addToLoop l g ad H.size U26 v26_1 (qI U26 (qO U26 52 7) v26_3.toInt.toNat) v26_2 hR.w  Q63 h0) (cwV 3 hts (gd_V kw_850 kw_854 kw_855 kw_401 kw_853) rfl rfl rfl (by decide +kernel) ⟨Nat.le_of_ble_eq_true rfl, Nat.le_of_ble_eq_true rfl⟩) ⟨cblind, va_recv hR.K hR.P (ci := 3) (q0 := 52) rfl (hR.at43 (hR.w.2.1 _ finC_30).2.1), fun U hU hW9 => cmk hU hW9 hR hex hE hFc⟩ rfl rfl hl.1 rfl (lv_room (Nat.le_of_ble_eq_true rfl)) dX3_addLoop_75 ⟨Nat.le_of_ble_eq_true rfl, Nat.le_of_ble_eq_true rfl⟩) hR.sS (fun q _ h => hFc q h) hFc (fun r64 S65 t9 H1 locs ht9 hvm9 hw9 hB9 hz9 hk9 hS => ?_)
            obtain ⟨hq66, hw9, hs9⟩ := hw9
            have hR : RepC g ad A s S65 H1 locs := hR.call ht9 hB9 hw9 hS hFc
            have hsh := hsh.tr hs9
            replace h := h r64 S65 hq66 hw9 hs9
            clear hB9 hz9 hk9 hvm9 ht9 hw9 hs9 hS
            generalize H1 = H at hR ⊢
            refine lv_istore_n (lv' := [(2, .int r64), (0, .ref (ad 52)), (1, .int v26_1), (3, .int v26_3)]) hx hb dX3_addLoop_78 rfl hl (by decide) rfl (fun ls hl => ?_)
            exact J_79 S65 v26_1 r64 v26_3 _ _ ls h  hsh hR (lv_sub hl [1, 2, 0, 3] rfl)
  obtain ⟨n9, h⟩ := h
  exact J_26 n9 S9 x1 0 a13 _ _ ls h  hsh hR (lv_sub hl [2, 3, 1, 0] rfl)
def w_X4_spread_J102 (Q : MS → Prop) (U102 : MS) (v102_0 : Nat) (v102_1 : Int32) : Prop := (wfC U102 → qT U102 v102_0 = 44 → ((qR U102 v102_0 2 = some (qO U102 v102_0 2)) ∧ (((0 : Int) ≤ v102_1.toInt ∧ v102_1.toInt < (qN U102 (qO U102 v102_0 2) : Int)) ∧ (∀ S43, S43 = wI U102 (qO U102 v102_0 2) v102_1.toInt.toNat (vp_nar .boolean (1 : Int32)) → qT U102 (qO U102 v102_0 2) = 304 → wfC S43 → Q S43))))
def w_X4_spread_J240 (Q : MS → Prop) (k195 : MS → Nat → Int32 → Int32 → Int32 → Prop) (U240 : MS) (v240_0 : Nat) (v240_1 : Int32) (v240_5 : Int32) (v240_8 : Int32) : Prop := (wfC U240 → qT U240 v240_0 = 44 → (v240_5 = 0 ∨ v240_5 = 1) → (∀ a66 : Int32, a66 = (v240_8 + Int32.ofInt 1) → k195 U240 v240_0 v240_1 v240_5 a66))
def w_X4_spread_L195 (Q : MS → Prop) : Nat → MS → Nat → Int32 → Int32 → Int32 → Prop
  | 0, _, _, _, _, _ => False
  | n195 + 1, U195, v195_0, v195_1, v195_5, v195_8 => (wfC U195 → qT U195 v195_0 = 44 → (v195_5 = 0 ∨ v195_5 = 1) → ((v195_5.toInt = 0 → Q U195) ∧ (¬ v195_5.toInt = 0 → ((qR U195 v195_0 4 = some (qO U195 v195_0 4)) ∧ (((qI U195 (qO U195 v195_0 4) 9).toInt ≤ v195_8.toInt → Q U195) ∧ (¬ (qI U195 (qO U195 v195_0 4) 9).toInt ≤ v195_8.toInt → ((qR U195 v195_0 4 = some (qO U195 v195_0 4)) ∧ (d_X8_catchHas U195 (qO U195 v195_0 4) v195_8 v195_1 ∧ (∀ a65 : Int32, a65 = (fX8_catchHas U195 (qO U195 v195_0 4) v195_8 v195_1) → ((a65.toInt = 0 → w_X4_spread_J240 Q (w_X4_spread_L195 Q n195) U195 v195_0 v195_1 v195_5 v195_8) ∧ (¬ a65.toInt = 0 → ((qR U195 v195_0 4 = some (qO U195 v195_0 4)) ∧ ((qR U195 (qO U195 v195_0 4) 7 = some (qO U195 (qO U195 v195_0 4) 7)) ∧ (((0 : Int) ≤ v195_8.toInt ∧ v195_8.toInt < (qN U195 (qO U195 (qO U195 v195_0 4) 7) : Int)) ∧ (qT U195 v195_0 = 44 → (∃ Q74, wX4_comeTo U195 v195_0 (qI U195 (qO U195 (qO U195 v195_0 4) 7) v195_8.toInt.toNat) (1 : Int32) Q74 ∧ ∀ S75, Q74 S75 → wfC S75 → shy U195 S75 → w_X4_spread_J240 Q (w_X4_spread_L195 Q n195) S75 v195_0 v195_1 v195_5 v195_8))))))))))))))))
def w_X4_spread_L163 (Q : MS → Prop) : Nat → MS → Nat → Int32 → Int32 → Int32 → Int32 → Int32 → Prop
  | 0, _, _, _, _, _, _, _ => False
  | n163 + 1, U163, v163_0, v163_1, v163_4, v163_5, v163_7, v163_8 => (wfC U163 → qT U163 v163_0 = 44 → (v163_5 = 0 ∨ v163_5 = 1) → ((v163_7.toInt ≤ v163_8.toInt → (∃ n, w_X4_spread_L195 Q n U163 v163_0 v163_1 v163_5 0)) ∧ (¬ v163_7.toInt ≤ v163_8.toInt → ((qR U163 v163_0 4 = some (qO U163 v163_0 4)) ∧ (d_X8_targetAt U163 (qO U163 v163_0 4) v163_1 v163_8 ∧ (∀ a82 : Int32, a82 = (fX8_targetAt U163 (qO U163 v163_0 4) v163_1 v163_8) → (qT U163 v163_0 = 44 → (∃ Q83, wX4_comeTo U163 v163_0 a82 v163_4 Q83 ∧ ∀ S84, Q83 S84 → wfC S84 → shy U163 S84 → (∀ a86 : Int32, a86 = (v163_8 + Int32.ofInt 1) → (w_X4_spread_L163 Q n163) S84 v163_0 v163_1 v163_4 v163_5 v163_7 a86)))))))))
def w_X4_spread_J150 (Q : MS → Prop) (U150 : MS) (v150_0 : Nat) (v150_1 : Int32) (v150_4 : Int32) (v150_5 : Int32) : Prop := (wfC U150 → qT U150 v150_0 = 44 → (v150_5 = 0 ∨ v150_5 = 1) → ((qR U150 v150_0 4 = some (qO U150 v150_0 4)) ∧ (d_X8_targetCount U150 (qO U150 v150_0 4) v150_1 ∧ (∀ a54 : Int32, a54 = (fX8_targetCount U150 (qO U150 v150_0 4) v150_1) → (∃ n, w_X4_spread_L163 Q n U150 v150_0 v150_1 v150_4 v150_5 a54 0)))))
def w_X4_spread_J127 (Q : MS → Prop) (U127 : MS) (t127_0 : Int32) (t127_1 : Int32) (t127_2 : Int32) (t127_3 : Nat) (v127_0 : Nat) (v127_1 : Int32) (v127_4 : Int32) (v127_5 : Int32) (v127_6 : Int32) : Prop := (wfC U127 → qT U127 t127_3 = 44 → qT U127 v127_0 = 44 → (t127_0 = 0 ∨ t127_0 = 1) → (v127_5 = 0 ∨ v127_5 = 1) → (v127_6 = 0 ∨ v127_6 = 1) → (∀ S48, S48 = wI U127 t127_3 7 (if t127_2 < (if t127_1 < t127_0 then t127_0 else t127_1) then (if t127_1 < t127_0 then t127_0 else t127_1) else t127_2) → qT U127 t127_3 = 44 → wfC S48 → ((v127_6.toInt = 0 → w_X4_spread_J150 Q S48 v127_0 v127_1 v127_4 v127_5) ∧ (¬ v127_6.toInt = 0 → (qT S48 v127_0 = 44 → (∃ Q89, wX4_comeTo S48 v127_0 (v127_1 + (1 : Int32)) v127_4 Q89 ∧ ∀ S90, Q89 S90 → wfC S90 → shy S48 S90 → w_X4_spread_J150 Q S90 v127_0 v127_1 v127_4 v127_5))))))
def w_X4_spread_J110 (Q : MS → Prop) (U110 : MS) (v110_0 : Nat) (v110_1 : Int32) (v110_4 : Int32) (v110_5 : Int32) (v110_6 : Int32) : Prop := (wfC U110 → qT U110 v110_0 = 44 → (v110_5 = 0 ∨ v110_5 = 1) → (v110_6 = 0 ∨ v110_6 = 1) → ((v110_5.toInt = 0 → w_X4_spread_J127 Q U110 0 v110_4 (qI U110 v110_0 7) v110_0 v110_0 v110_1 v110_4 v110_5 v110_6) ∧ (¬ v110_5.toInt = 0 → w_X4_spread_J127 Q U110 1 v110_4 (qI U110 v110_0 7) v110_0 v110_0 v110_1 v110_4 v110_5 v110_6)))
def w_X4_spread_J84 (Q : MS → Prop) (U84 : MS) (v84_0 : Nat) (v84_1 : Int32) (v84_4 : Int32) (v84_5 : Int32) (v84_6 : Int32) : Prop := (wfC U84 → qT U84 v84_0 = 44 → (v84_5 = 0 ∨ v84_5 = 1) → (v84_6 = 0 ∨ v84_6 = 1) → ((v84_6.toInt = 0 → w_X4_spread_J110 Q U84 v84_0 v84_1 v84_4 v84_5 v84_6) ∧ (¬ v84_6.toInt = 0 → ((qR U84 v84_0 4 = some (qO U84 v84_0 4)) ∧ (((v84_1 + (1 : Int32)).toInt < (qI U84 (qO U84 v84_0 4) 2).toInt → w_X4_spread_J110 Q U84 v84_0 v84_1 v84_4 v84_5 v84_6) ∧ (¬ (v84_1 + (1 : Int32)).toInt < (qI U84 (qO U84 v84_0 4) 2).toInt → w_X4_spread_J102 Q U84 v84_0 v84_1))))))
def wX4_spread (S : MS) (p0 : Nat) (x1 : Int32) (x2 : Int32) (Q : MS → Prop) : Prop := ((qR S p0 3 = some (qO S p0 3)) ∧ ((qR S p0 4 = some (qO S p0 4)) ∧ (d_X10_takes S (qO S p0 3) (qO S p0 4) x1 ∧ (∀ a8 : Int32, a8 = (fX10_takes S (qO S p0 3) (qO S p0 4) x1) → (∃ Q9, wX6_placesOf S a8 Q9 ∧ ∀ r10 S11, Q9 r10 S11 → wfC S11 → shy S S11 → ((qR S11 p0 3 = some (qO S11 p0 3)) ∧ ((qR S11 p0 4 = some (qO S11 p0 4)) ∧ (qT S11 (qO S11 p0 3) = 49 → qT S11 (qO S11 p0 4) = 47 → (∃ Q18, wX10_placesGiven S11 (qO S11 p0 3) (qO S11 p0 4) x1 Q18 ∧ ∀ r19 S20, Q18 r19 S20 → wfC S20 → shy S11 S20 → (∀ a23 : Int32, a23 = ((x2 - r10) + r19) → ((qR S20 p0 4 = some (qO S20 p0 4)) ∧ (qT S20 (qO S20 p0 4) = 47 → (∃ Q26, wX8_isCaught S20 (qO S20 p0 4) x1 Q26 ∧ ∀ r27 S28, Q26 r27 S28 → wfC S28 → shy S20 S28 → ((qR S28 p0 4 = some (qO S28 p0 4)) ∧ (d_X8_opAt S28 (qO S28 p0 4) x1 ∧ (∀ a35 : Int32, a35 = (fX8_opAt S28 (qO S28 p0 4) x1) → (d_X6_goesOn S28 a35 ∧ (∀ a39 : Int32, a39 = (fX6_goesOn S28 a35) → ((x2.toInt < r10.toInt → w_X4_spread_J102 Q S28 p0 x1) ∧ (¬ x2.toInt < r10.toInt → (((qI S28 p0 5).toInt < a23.toInt → w_X4_spread_J102 Q S28 p0 x1) ∧ (¬ (qI S28 p0 5).toInt < a23.toInt → ((r27.toInt = 0 → w_X4_spread_J84 Q S28 p0 x1 a23 r27 a39) ∧ (¬ r27.toInt = 0 → (((qI S28 p0 5).toInt < 1 → w_X4_spread_J102 Q S28 p0 x1) ∧ (¬ (qI S28 p0 5).toInt < 1 → w_X4_spread_J84 Q S28 p0 x1 a23 r27 a39))))))))))))))))))))))))))
set_option maxHeartbeats 2000000 in
set_option maxRecDepth 100000 in
theorem rX4_spread (l : Launch) (g : Gr) (ad : Nat → Nat) (sz : Nat) (S : MS) (p0 : Nat) (x1 : Int32) (x2 : Int32) (hw : wfC S) (hT_p0 : qT S p0 = 44) (Q : MS → Prop) (h : wX4_spread S p0 x1 x2 Q) : Met l yX4_spread (wt yX4_spread cX4_spread 9 none) ({ frames := 3, cells := 0, slots := 0, locals := 66 }) (va_Pc [.ref (ad p0), .int x1, .int x2] (st_C g ad sz S)) (va_Qv (fun (u : MS) => Q u ∧ wfC u ∧ shy S u) (fun (u : MS) (t : State) => qEC g ad (va_A (WdC g ad S) sz) u t) (va_A (WdC g ad S) sz)) 0 0 (va_A (WdC g ad S) sz) := by
  refine Met.ofW (cc := cX4_spread) (maxL := 9) (ret := none) (by decide) rfl ?_
  intro p e s m args below meth c s₁ B hml hv
  obtain ⟨rfl, hsz, hP, hK, hD0, hex, hE⟩ := hv
  have hx := B.exec
  have hb := B.bytes
  have hr := B.returns
  have hts0 := atoms_spec (ws := wt yX4_spread cX4_spread 9 none) B.pre
  have hts : ∀ w ∈ tb, w.before _ s = true := fun w h => hts0 w (List.mem_cons_of_mem _ h)
  have hown : s.vm.findClass RX4 = some m.cls := findClass_of_methodNamed B.named
  subst hsz
  have hD := hD0.self (sz := s.heap.size)
  generalize hAe : va_A (WdC g ad S) s.heap.size = A at hD hE ⊢
  have hA : ∀ q : Nat, s.heap.size ≤ q → A q := fun q h => by rw [← hAe]; exact Or.inr h
  have hR : RepC g ad A s S s.heap [] := ⟨hK, hP, hD, va_S.rf, hw⟩
  clear hK hP hD hD0
  have hl := lv_entry ([.ref (ad p0), .int x1, .int x2]) (n := 9) (Nat.le_of_ble_eq_true rfl)
  rw [lg_entry_eq]
  generalize (lg_sl ([.ref (ad p0), .int x1, .int x2]) ++ List.replicate (9 - (lg_sl ([.ref (ad p0), .int x1, .int x2])).length) Slot.unset).toArray = ls at hl ⊢
  have hl : lv_has ls 9 [(0, .ref (ad p0)), (1, .int x1), (2, .int x2)] := hl
  have hsh : shy S S := shy.rf
  unfold wX4_spread at h
  refine lv_aload_n hx hb dX4_spread_0 rfl (lv_at hl 0 rfl) ?_
  obtain ⟨hv2, h⟩ := h
  have hT_b1 : qT S (qO S p0 3) = 49 := hR.w.ref hv2 hT_p0
  refine va_get (D := rD g) (ci := 4) (v := .ref (ad (qO S p0 3))) (C := RX4) (T := TX4) (N := 8) hx hb hts inX4 hown hR.K hR.P p0 (hR.at44 hT_p0) rfl 3 (by decide) (hts _ kw_978) (fun _ h9 => h9) (congrArg (fun z => some (vf ad z)) hv2) dX4_spread_1 ?_
  refine lv_aload_n hx hb dX4_spread_4 rfl (lv_at hl 0 rfl) ?_
  obtain ⟨hv4, h⟩ := h
  have hT_b3 : qT S (qO S p0 4) = 47 := hR.w.ref hv4 hT_p0
  refine va_get (D := rD g) (ci := 4) (v := .ref (ad (qO S p0 4))) (C := RX4) (T := TX4) (N := 8) hx hb hts inX4 hown hR.K hR.P p0 (hR.at44 hT_p0) rfl 4 (by decide) (hts _ kw_954) (fun _ h9 => h9) (congrArg (fun z => some (vf ad z)) hv4) dX4_spread_5 ?_
  refine lv_iload_n hx hb dX4_spread_8 rfl (lv_at hl 1 rfl) ?_
  obtain ⟨hv5, h⟩ := h
  have hFc := cfree hR hA
  refine va_calli (va_runV (As := [.ref (ad (qO S p0 4)), .int x1]) (rest := []) ⟨hx, hb, hml, hown, hts⟩ (rX10_takes l g ad s.heap.size S (qO S p0 3) (qO S p0 4) x1 hR.w hT_b1 hT_b3 hv5) (cwV 2 hts (gd_V kw_988 kw_73 kw_74 kw_34 kw_72) rfl rfl rfl (by decide +kernel) ⟨Nat.le_of_ble_eq_true rfl, Nat.le_of_ble_eq_true rfl⟩) ⟨cblind, va_recv hR.K hR.P (ci := 9) (q0 := (qO S p0 3)) rfl (hR.at49 hT_b1), fun U hU hW9 => cmk hU hW9 hR hex hE hFc⟩ rfl rfl hl.1 rfl (lv_room (Nat.le_of_ble_eq_true rfl)) dX4_spread_9 ⟨Nat.le_of_ble_eq_true rfl, Nat.le_of_ble_eq_true rfl⟩) hR.sS (fun q _ h => hFc q h) hFc (fun r6 u9 t9 H1 locs ht9 hvm9 hw9 hB9 hz9 hk9 hS => ?_)
  have hR : RepC g ad A s S H1 locs := hR.call ht9 hB9 hR.w hS hFc
  obtain rfl : r6 = (fX10_takes S (qO S p0 3) (qO S p0 4) x1) := hw9
  clear hB9 hz9 hk9 hvm9 ht9 hS
  generalize H1 = H at hR ⊢
  obtain ⟨a8, ea8⟩ : ∃ z, z = (fX10_takes S (qO S p0 3) (qO S p0 4) x1) := ⟨_, rfl⟩
  rw [← ea8]
  replace h := h a8 ea8
  obtain ⟨Q9, h0, h⟩ := h
  have hFc := cfree hR hA
  refine va_calli (va_runS (As := [.int a8]) (rest := []) ⟨hx, hb, hml, hown, hts⟩ (rX6_placesOf l g ad H.size S a8 hR.w  Q9 h0) (va_cwS 1 hts (gd_S kw_989 kw_1253 kw_1207 kw_1252) rfl rfl rfl (by decide +kernel) ⟨Nat.le_of_ble_eq_true rfl, Nat.le_of_ble_eq_true rfl⟩) ⟨cblind, fun U hU hW9 => cmk hU hW9 hR hex hE hFc⟩ rfl rfl hl.1 rfl (lv_room (Nat.le_of_ble_eq_true rfl)) dX4_spread_12 ⟨Nat.le_of_ble_eq_true rfl, Nat.le_of_ble_eq_true rfl⟩) hR.sS (fun q _ h => hFc q h) hFc (fun r10 S11 t9 H1 locs ht9 hvm9 hw9 hB9 hz9 hk9 hS => ?_)
  obtain ⟨hq12, hw9, hs9⟩ := hw9
  have hR : RepC g ad A s S11 H1 locs := hR.call ht9 hB9 hw9 hS hFc
  have hsh := hsh.tr hs9
  replace h := h r10 S11 hq12 hw9 hs9
  have hT_p0 := hs9.T hT_p0 (by decide)
  clear hB9 hz9 hk9 hvm9 ht9 hw9 hs9 hS
  generalize H1 = H at hR ⊢
  refine lv_istore_n (lv' := [(3, .int r10), (0, .ref (ad p0)), (1, .int x1), (2, .int x2)]) hx hb dX4_spread_15 rfl hl (by decide) rfl (fun ls hl => ?_)
  refine lv_iload_n hx hb dX4_spread_16 rfl (lv_at hl 3 rfl) ?_
  refine lv_iload_n hx hb dX4_spread_17 rfl (lv_at hl 0 rfl) ?_
  refine lv_isub hx hb dX4_spread_18 ?_
  refine lv_topi (fun z13 ez13 => ?_)
  obtain rfl : z13 = (x2 - r10) := ez13
  refine lv_aload_n hx hb dX4_spread_19 rfl (lv_at hl 1 rfl) ?_
  obtain ⟨hv15, h⟩ := h
  have hT_b14 : qT S11 (qO S11 p0 3) = 49 := hR.w.ref hv15 hT_p0
  refine va_get (D := rD g) (ci := 4) (v := .ref (ad (qO S11 p0 3))) (C := RX4) (T := TX4) (N := 8) hx hb hts inX4 hown hR.K hR.P p0 (hR.at44 hT_p0) rfl 3 (by decide) (hts _ kw_978) (fun _ h9 => h9) (congrArg (fun z => some (vf ad z)) hv15) dX4_spread_20 ?_
  refine lv_aload_n hx hb dX4_spread_23 rfl (lv_at hl 1 rfl) ?_
  obtain ⟨hv17, h⟩ := h
  have hT_b16 : qT S11 (qO S11 p0 4) = 47 := hR.w.ref hv17 hT_p0
  refine va_get (D := rD g) (ci := 4) (v := .ref (ad (qO S11 p0 4))) (C := RX4) (T := TX4) (N := 8) hx hb hts inX4 hown hR.K hR.P p0 (hR.at44 hT_p0) rfl 4 (by decide) (hts _ kw_954) (fun _ h9 => h9) (congrArg (fun z => some (vf ad z)) hv17) dX4_spread_24 ?_
  refine lv_iload_n hx hb dX4_spread_27 rfl (lv_at hl 2 rfl) ?_
  replace h := h (hT_b14) (hT_b16)
  obtain ⟨Q18, h0, h⟩ := h
  have hFc := cfree hR hA
  refine va_calli (va_runV (As := [.ref (ad (qO S11 p0 4)), .int x1]) (rest := [.int (x2 - r10)]) ⟨hx, hb, hml, hown, hts⟩ (rX10_placesGiven l g ad H.size S11 (qO S11 p0 3) (qO S11 p0 4) x1 hR.w hT_b14 hT_b16 Q18 h0) (cwV 2 hts (gd_V kw_990 kw_65 kw_66 kw_34 kw_64) rfl rfl rfl (by decide +kernel) ⟨Nat.le_of_ble_eq_true rfl, Nat.le_of_ble_eq_true rfl⟩) ⟨cblind, va_recv hR.K hR.P (ci := 9) (q0 := (qO S11 p0 3)) rfl (hR.at49 hT_b14), fun U hU hW9 => cmk hU hW9 hR hex hE hFc⟩ rfl rfl hl.1 rfl (lv_room (Nat.le_of_ble_eq_true rfl)) dX4_spread_28 ⟨Nat.le_of_ble_eq_true rfl, Nat.le_of_ble_eq_true rfl⟩) hR.sS (fun q _ h => hFc q h) hFc (fun r19 S20 t9 H1 locs ht9 hvm9 hw9 hB9 hz9 hk9 hS => ?_)
  obtain ⟨hq21, hw9, hs9⟩ := hw9
  have hR : RepC g ad A s S20 H1 locs := hR.call ht9 hB9 hw9 hS hFc
  have hsh := hsh.tr hs9
  replace h := h r19 S20 hq21 hw9 hs9
  have hT_p0 := hs9.T hT_p0 (by decide)
  clear hB9 hz9 hk9 hvm9 ht9 hw9 hs9 hS
  generalize H1 = H at hR ⊢
  refine lv_iadd hx hb dX4_spread_31 ?_
  refine lv_topi (fun z22 ez22 => ?_)
  obtain rfl : z22 = ((x2 - r10) + r19) := ez22
  obtain ⟨a23, ea23⟩ : ∃ z, z = ((x2 - r10) + r19) := ⟨_, rfl⟩
  rw [← ea23]
  replace h := h a23 ea23
  refine lv_istore (lv' := [(4, .int a23), (3, .int r10), (0, .ref (ad p0)), (1, .int x1), (2, .int x2)]) hx hb dX4_spread_32 hl (by decide) rfl (fun ls hl => ?_)
  refine lv_aload_n hx hb dX4_spread_34 rfl (lv_at hl 2 rfl) ?_
  obtain ⟨hv25, h⟩ := h
  have hT_b24 : qT S20 (qO S20 p0 4) = 47 := hR.w.ref hv25 hT_p0
  refine va_get (D := rD g) (ci := 4) (v := .ref (ad (qO S20 p0 4))) (C := RX4) (T := TX4) (N := 8) hx hb hts inX4 hown hR.K hR.P p0 (hR.at44 hT_p0) rfl 4 (by decide) (hts _ kw_954) (fun _ h9 => h9) (congrArg (fun z => some (vf ad z)) hv25) dX4_spread_35 ?_
  refine lv_iload_n hx hb dX4_spread_38 rfl (lv_at hl 3 rfl) ?_
  replace h := h (hT_b24)
  obtain ⟨Q26, h0, h⟩ := h
  have hFc := cfree hR hA
  refine va_calli (va_runV (As := [.int x1]) (rest := []) ⟨hx, hb, hml, hown, hts⟩ (rX8_isCaught l g ad H.size S20 (qO S20 p0 4) x1 hR.w hT_b24 Q26 h0) (cwV 1 hts (gd_V kw_991 kw_1500 kw_1501 kw_782 kw_1499) rfl rfl rfl (by decide +kernel) ⟨Nat.le_of_ble_eq_true rfl, Nat.le_of_ble_eq_true rfl⟩) ⟨cblind, va_recv hR.K hR.P (ci := 7) (q0 := (qO S20 p0 4)) rfl (hR.at47 hT_b24), fun U hU hW9 => cmk hU hW9 hR hex hE hFc⟩ rfl rfl hl.1 rfl (lv_room (Nat.le_of_ble_eq_true rfl)) dX4_spread_39 ⟨Nat.le_of_ble_eq_true rfl, Nat.le_of_ble_eq_true rfl⟩) hR.sS (fun q _ h => hFc q h) hFc (fun r27 S28 t9 H1 locs ht9 hvm9 hw9 hB9 hz9 hk9 hS => ?_)
  obtain ⟨hq29, hw9, hs9, hz_r27⟩ := hw9
  have hR : RepC g ad A s S28 H1 locs := hR.call ht9 hB9 hw9 hS hFc
  have hsh := hsh.tr hs9
  replace h := h r27 S28 hq29 hw9 hs9
  have hT_p0 := hs9.T hT_p0 (by decide)
  clear hB9 hz9 hk9 hvm9 ht9 hw9 hs9 hS
  generalize H1 = H at hR ⊢
  refine lv_istore (lv' := [(5, .int r27), (4, .int a23), (3, .int r10), (0, .ref (ad p0)), (1, .int x1), (2, .int x2)]) hx hb dX4_spread_42 hl (by decide) rfl (fun ls hl => ?_)
  refine lv_aload_n hx hb dX4_spread_44 rfl (lv_at hl 3 rfl) ?_
  obtain ⟨hv31, h⟩ := h
  have hT_b30 : qT S28 (qO S28 p0 4) = 47 := hR.w.ref hv31 hT_p0
  refine va_get (D := rD g) (ci := 4) (v := .ref (ad (qO S28 p0 4))) (C := RX4) (T := TX4) (N := 8) hx hb hts inX4 hown hR.K hR.P p0 (hR.at44 hT_p0) rfl 4 (by decide) (hts _ kw_954) (fun _ h9 => h9) (congrArg (fun z => some (vf ad z)) hv31) dX4_spread_45 ?_
  refine lv_iload_n hx hb dX4_spread_48 rfl (lv_at hl 4 rfl) ?_
  obtain ⟨hv32, h⟩ := h
  have hFc := cfree hR hA
  refine va_calli (va_runV (As := [.int x1]) (rest := []) ⟨hx, hb, hml, hown, hts⟩ (rX8_opAt l g ad H.size S28 (qO S28 p0 4) x1 hR.w hT_b30 hv32) (cwV 1 hts (gd_V kw_992 kw_1513 kw_1514 kw_782 kw_1512) rfl rfl rfl (by decide +kernel) ⟨Nat.le_of_ble_eq_true rfl, Nat.le_of_ble_eq_true rfl⟩) ⟨cblind, va_recv hR.K hR.P (ci := 7) (q0 := (qO S28 p0 4)) rfl (hR.at47 hT_b30), fun U hU hW9 => cmk hU hW9 hR hex hE hFc⟩ rfl rfl hl.1 rfl (lv_room (Nat.le_of_ble_eq_true rfl)) dX4_spread_49 ⟨Nat.le_of_ble_eq_true rfl, Nat.le_of_ble_eq_true rfl⟩) hR.sS (fun q _ h => hFc q h) hFc (fun r33 u9 t9 H1 locs ht9 hvm9 hw9 hB9 hz9 hk9 hS => ?_)
  have hR : RepC g ad A s S28 H1 locs := hR.call ht9 hB9 hR.w hS hFc
  obtain rfl : r33 = (fX8_opAt S28 (qO S28 p0 4) x1) := hw9
  clear hB9 hz9 hk9 hvm9 ht9 hS
  generalize H1 = H at hR ⊢
  obtain ⟨a35, ea35⟩ : ∃ z, z = (fX8_opAt S28 (qO S28 p0 4) x1) := ⟨_, rfl⟩
  rw [← ea35]
  replace h := h a35 ea35
  obtain ⟨hv36, h⟩ := h
  have hFc := cfree hR hA
  refine va_calli (va_runS (As := [.int a35]) (rest := []) ⟨hx, hb, hml, hown, hts⟩ (rX6_goesOn l g ad H.size S28 a35 hR.w  hv36) (va_cwS 1 hts (gd_S kw_993 kw_1219 kw_1207 kw_1218) rfl rfl rfl (by decide +kernel) ⟨Nat.le_of_ble_eq_true rfl, Nat.le_of_ble_eq_true rfl⟩) ⟨cblind, fun U hU hW9 => cmk hU hW9 hR hex hE hFc⟩ rfl rfl hl.1 rfl (lv_room (Nat.le_of_ble_eq_true rfl)) dX4_spread_52 ⟨Nat.le_of_ble_eq_true rfl, Nat.le_of_ble_eq_true rfl⟩) hR.sS (fun q _ h => hFc q h) hFc (fun r37 u9 t9 H1 locs ht9 hvm9 hw9 hB9 hz9 hk9 hS => ?_)
  have hR : RepC g ad A s S28 H1 locs := hR.call ht9 hB9 hR.w hS hFc
  obtain ⟨rfl, hz_r37⟩ := hw9
  clear hB9 hz9 hk9 hvm9 ht9 hS
  generalize H1 = H at hR ⊢
  obtain ⟨a39, ea39⟩ : ∃ z, z = (fX6_goesOn S28 a35) := ⟨_, rfl⟩
  rw [← ea39]
  replace h := h a39 ea39
  rw [← ea39] at hz_r37
  refine lv_istore (lv' := [(6, .int a39), (5, .int r27), (4, .int a23), (3, .int r10), (0, .ref (ad p0)), (1, .int x1), (2, .int x2)]) hx hb dX4_spread_55 hl (by decide) rfl (fun ls hl => ?_)
  refine lv_iload_n hx hb dX4_spread_57 rfl (lv_at hl 6 rfl) ?_
  refine lv_iload_n hx hb dX4_spread_58 rfl (lv_at hl 3 rfl) ?_
  have J_102 : ∀ (U102 : MS) (v102_0 : Nat) (v102_1 : Int32) (H : Heap) (locs : List Loc) (ls : Array Slot), w_X4_spread_J102 Q U102 v102_0 v102_1 → qT U102 v102_0 = 44 → shy S U102 → RepC g ad A s U102 H locs → lv_has ls 9 [(0, .ref (ad v102_0)), (1, .int v102_1)] → W p l e (headSpec (wt yX4_spread cX4_spread 9 none) ({ frames := 3, cells := 0, slots := 0, locals := 66 })).room s m ([.ref (ad p0), .int x1, .int x2] : List Value).toArray below meth c H locs 0 0 (MQ below (va_Qv (fun (u : MS) => Q u ∧ wfC u ∧ shy S u) (fun (u : MS) (t : State) => qEC g ad A u t) A) ([.ref (ad p0), .int x1, .int x2] : List Value).toArray s 0 0 A) (F0 m 102 ls []) := by
    intro U102 v102_0 v102_1 H locs ls h hT_v102_0 hsh hR hl
    unfold w_X4_spread_J102 at h
    replace h := h hR.w hT_v102_0
    refine lv_aload_n hx hb dX4_spread_102 rfl (lv_at hl 0 rfl) ?_
    obtain ⟨hv41, h⟩ := h
    have hT_b40 : qT U102 (qO U102 v102_0 2) = 304 := hR.w.ref hv41 hT_v102_0
    refine va_get (D := rD g) (ci := 4) (v := .ref (ad (qO U102 v102_0 2))) (C := RX4) (T := TX4) (N := 8) hx hb hts inX4 hown hR.K hR.P v102_0 (hR.at44 hT_v102_0) rfl 2 (by decide) (hts _ kw_966) (fun _ h9 => h9) (congrArg (fun z => some (vf ad z)) hv41) dX4_spread_103 ?_
    refine lv_iload_n hx hb dX4_spread_106 rfl (lv_at hl 1 rfl) ?_
    refine lv_iconst (v := 1) hx hb dX4_spread_107 (by decide) ?_
    obtain ⟨hv42, h⟩ := h
    refine va_zast hx hb hR.K hR.P hR.D hR.sS (qO U102 v102_0 2) 2 (hR.atZ hT_b40 (by decide)) rfl (k_ix (x := v102_1) (a := v102_1.toInt) rfl hv42) dX4_spread_108 (fun H locs hP hD hS => ?_)
    have hTk9 : qT U102 (qO U102 v102_0 2) = 304 := hT_b40
    have hR : RepC g ad A s (wI U102 (qO U102 v102_0 2) v102_1.toInt.toNat (vp_nar .boolean (1 : Int32))) H locs := hR.aZ hT_b40 (by decide) (bit_nz2 (Or.inr rfl)) hP hD hS
    obtain ⟨S43, eS43⟩ : ∃ z, z = wI U102 (qO U102 v102_0 2) v102_1.toInt.toNat (vp_nar .boolean (1 : Int32)) := ⟨_, rfl⟩
    rw [← eS43] at hR
    replace h := h S43 eS43 hTk9 hR.w
    have hT_v102_0 : qT S43 v102_0 = 44 := (congrArg (fun z => qT z v102_0) eS43).trans hT_v102_0
    have hsh : shy S S43 := by rw [eS43]; exact hsh
    exact W.vret hx hb hr (fun t9 ht9 hW9 => ⟨⟨S43, rfl, ⟨h, hR.w, hsh⟩, ⟨by rw [ht9]; exact hR.P, hR.D⟩⟩, hR.sS.F ht9⟩) hR.sS.2.2 dX4_spread_109
  refine lv_icmp_lt (tgt := 102) hx hb dX4_spread_59 (by decide) (fun c44 => ?_) (fun c44 => ?_)
  · replace h := h.1 (k_lt rfl rfl c44)
    exact J_102 S28 p0 x1 _ _ ls h hT_p0 hsh hR (lv_sub hl [4, 5] rfl)
  · replace h := h.2 (k_nlt rfl rfl c44)
    refine lv_iload hx hb dX4_spread_62 (lv_at hl 2 rfl) ?_
    refine lv_aload_n hx hb dX4_spread_64 rfl (lv_at hl 4 rfl) ?_
    refine va_get (D := rD g) (ci := 4) (v := .int (qI S28 p0 5)) (C := RX4) (T := TX4) (N := 8) hx hb hts inX4 hown hR.K hR.P p0 (hR.at44 hT_p0) rfl 5 (by decide) (hts _ kw_979) (fun _ h9 => h9) rfl dX4_spread_65 ?_
    refine lv_icmp_gt (tgt := 102) hx hb dX4_spread_68 (by decide) (fun c45 => ?_) (fun c45 => ?_)
    · replace h := h.1 (k_lt rfl rfl c45)
      exact J_102 S28 p0 x1 _ _ ls h hT_p0 hsh hR (lv_sub hl [4, 5] rfl)
    · replace h := h.2 (k_nlt rfl rfl c45)
      refine lv_iload hx hb dX4_spread_71 (lv_at hl 1 rfl) ?_
      have J_84 : ∀ (U84 : MS) (v84_0 : Nat) (v84_1 : Int32) (v84_4 : Int32) (v84_5 : Int32) (v84_6 : Int32) (H : Heap) (locs : List Loc) (ls : Array Slot), w_X4_spread_J84 Q U84 v84_0 v84_1 v84_4 v84_5 v84_6 → qT U84 v84_0 = 44 → (v84_5 = 0 ∨ v84_5 = 1) → (v84_6 = 0 ∨ v84_6 = 1) → shy S U84 → RepC g ad A s U84 H locs → lv_has ls 9 [(0, .ref (ad v84_0)), (1, .int v84_1), (4, .int v84_4), (5, .int v84_5), (6, .int v84_6)] → W p l e (headSpec (wt yX4_spread cX4_spread 9 none) ({ frames := 3, cells := 0, slots := 0, locals := 66 })).room s m ([.ref (ad p0), .int x1, .int x2] : List Value).toArray below meth c H locs 0 0 (MQ below (va_Qv (fun (u : MS) => Q u ∧ wfC u ∧ shy S u) (fun (u : MS) (t : State) => qEC g ad A u t) A) ([.ref (ad p0), .int x1, .int x2] : List Value).toArray s 0 0 A) (F0 m 84 ls []) := by
        intro U84 v84_0 v84_1 v84_4 v84_5 v84_6 H locs ls h hT_v84_0 hz_v84_5 hz_v84_6 hsh hR hl
        unfold w_X4_spread_J84 at h
        replace h := h hR.w hT_v84_0 hz_v84_5 hz_v84_6
        refine lv_iload hx hb dX4_spread_84 (lv_at hl 4 rfl) ?_
        have J_110 : ∀ (U110 : MS) (v110_0 : Nat) (v110_1 : Int32) (v110_4 : Int32) (v110_5 : Int32) (v110_6 : Int32) (H : Heap) (locs : List Loc) (ls : Array Slot), w_X4_spread_J110 Q U110 v110_0 v110_1 v110_4 v110_5 v110_6 → qT U110 v110_0 = 44 → (v110_5 = 0 ∨ v110_5 = 1) → (v110_6 = 0 ∨ v110_6 = 1) → shy S U110 → RepC g ad A s U110 H locs → lv_has ls 9 [(0, .ref (ad v110_0)), (1, .int v110_1), (4, .int v110_4), (5, .int v110_5), (6, .int v110_6)] → W p l e (headSpec (wt yX4_spread cX4_spread 9 none) ({ frames := 3, cells := 0, slots := 0, locals := 66 })).room s m ([.ref (ad p0), .int x1, .int x2] : List Value).toArray below meth c H locs 0 0 (MQ below (va_Qv (fun (u : MS) => Q u ∧ wfC u ∧ shy S u) (fun (u : MS) (t : State) => qEC g ad A u t) A) ([.ref (ad p0), .int x1, .int x2] : List Value).toArray s 0 0 A) (F0 m 110 ls []) := by
          intro U110 v110_0 v110_1 v110_4 v110_5 v110_6 H locs ls h hT_v110_0 hz_v110_5 hz_v110_6 hsh hR hl
          unfold w_X4_spread_J110 at h
          replace h := h hR.w hT_v110_0 hz_v110_5 hz_v110_6
          refine lv_aload_n hx hb dX4_spread_110 rfl (lv_at hl 0 rfl) ?_
          refine lv_aload_n hx hb dX4_spread_111 rfl (lv_at hl 0 rfl) ?_
          refine va_get (D := rD g) (ci := 4) (v := .int (qI U110 v110_0 7)) (C := RX4) (T := TX4) (N := 8) hx hb hts inX4 hown hR.K hR.P v110_0 (hR.at44 hT_v110_0) rfl 7 (by decide) (hts _ kw_980) (fun _ h9 => h9) rfl dX4_spread_112 ?_
          refine lv_iload hx hb dX4_spread_115 (lv_at hl 2 rfl) ?_
          refine lv_iload hx hb dX4_spread_117 (lv_at hl 3 rfl) ?_
          have J_127 : ∀ (U127 : MS) (t127_0 : Int32) (t127_1 : Int32) (t127_2 : Int32) (t127_3 : Nat) (v127_0 : Nat) (v127_1 : Int32) (v127_4 : Int32) (v127_5 : Int32) (v127_6 : Int32) (H : Heap) (locs : List Loc) (ls : Array Slot), w_X4_spread_J127 Q U127 t127_0 t127_1 t127_2 t127_3 v127_0 v127_1 v127_4 v127_5 v127_6 → qT U127 t127_3 = 44 → qT U127 v127_0 = 44 → (t127_0 = 0 ∨ t127_0 = 1) → (v127_5 = 0 ∨ v127_5 = 1) → (v127_6 = 0 ∨ v127_6 = 1) → shy S U127 → RepC g ad A s U127 H locs → lv_has ls 9 [(0, .ref (ad v127_0)), (1, .int v127_1), (4, .int v127_4), (5, .int v127_5), (6, .int v127_6)] → W p l e (headSpec (wt yX4_spread cX4_spread 9 none) ({ frames := 3, cells := 0, slots := 0, locals := 66 })).room s m ([.ref (ad p0), .int x1, .int x2] : List Value).toArray below meth c H locs 0 0 (MQ below (va_Qv (fun (u : MS) => Q u ∧ wfC u ∧ shy S u) (fun (u : MS) (t : State) => qEC g ad A u t) A) ([.ref (ad p0), .int x1, .int x2] : List Value).toArray s 0 0 A) (F0 m 127 ls [.int t127_0, .int t127_1, .int t127_2, .ref (ad t127_3)]) := by
            intro U127 t127_0 t127_1 t127_2 t127_3 v127_0 v127_1 v127_4 v127_5 v127_6 H locs ls h hT_t127_3 hT_v127_0 hz_t127_0 hz_v127_5 hz_v127_6 hsh hR hl
            unfold w_X4_spread_J127 at h
            replace h := h hR.w hT_t127_3 hT_v127_0 hz_t127_0 hz_v127_5 hz_v127_6
            refine va_mmax hx hb (by rw [hml]; exact hl.1.symm) hown (hts _ kw_994) (hts _ kw_1747) (hts _ kw_1748) (hts _ kw_1746) (Nat.le_of_ble_eq_true rfl) (Nat.le_of_ble_eq_true rfl) (Nat.le_of_ble_eq_true rfl) (Nat.le_of_ble_eq_true rfl) dX4_spread_127 ?_
            refine lv_topi (fun z46 ez46 => ?_)
            obtain rfl : z46 = (if t127_1 < t127_0 then t127_0 else t127_1) := ez46
            refine va_mmax hx hb (by rw [hml]; exact hl.1.symm) hown (hts _ kw_994) (hts _ kw_1747) (hts _ kw_1748) (hts _ kw_1746) (Nat.le_of_ble_eq_true rfl) (Nat.le_of_ble_eq_true rfl) (Nat.le_of_ble_eq_true rfl) (Nat.le_of_ble_eq_true rfl) dX4_spread_130 ?_
            refine lv_topi (fun z47 ez47 => ?_)
            obtain rfl : z47 = (if t127_2 < (if t127_1 < t127_0 then t127_0 else t127_1) then (if t127_1 < t127_0 then t127_0 else t127_1) else t127_2) := ez47
            refine va_put (D := rD g) (ci := 4) (v := .int (if t127_2 < (if t127_1 < t127_0 then t127_0 else t127_1) then (if t127_1 < t127_0 then t127_0 else t127_1) else t127_2)) (ty := .int) (C := RX4) (T := TX4) (N := 8) hx hb hts inX4 tyX4 tyX4_ok nmX4 hown hR.K hR.P hR.D hR.sS t127_3 (hR.at44 hT_t127_3) rfl 7 (by decide) (hts _ kw_980) (fun _ h9 => h9) rfl (by decide +kernel) rfl rfl (Nat.le_of_ble_eq_true rfl) dX4_spread_133 (fun H locs hP hD hS => ?_)
            have hTk9 : qT U127 t127_3 = 44 := hT_t127_3
            have hR : RepC g ad A s (wI U127 t127_3 7 (if t127_2 < (if t127_1 < t127_0 then t127_0 else t127_1) then (if t127_1 < t127_0 then t127_0 else t127_1) else t127_2)) H locs := hR.pI44 hT_t127_3 FX4_s7 (fun q9 => absurd q9 (by decide)) hP hD hS
            obtain ⟨S48, eS48⟩ : ∃ z, z = wI U127 t127_3 7 (if t127_2 < (if t127_1 < t127_0 then t127_0 else t127_1) then (if t127_1 < t127_0 then t127_0 else t127_1) else t127_2) := ⟨_, rfl⟩
            rw [← eS48] at hR
            replace h := h S48 eS48 hTk9 hR.w
            have hT_v127_0 : qT S48 v127_0 = 44 := (congrArg (fun z => qT z v127_0) eS48).trans hT_v127_0
            have hsh : shy S S48 := by rw [eS48]; exact hsh
            refine lv_iload hx hb dX4_spread_136 (lv_at hl 4 rfl) ?_
            have J_150 : ∀ (U150 : MS) (v150_0 : Nat) (v150_1 : Int32) (v150_4 : Int32) (v150_5 : Int32) (H : Heap) (locs : List Loc) (ls : Array Slot), w_X4_spread_J150 Q U150 v150_0 v150_1 v150_4 v150_5 → qT U150 v150_0 = 44 → (v150_5 = 0 ∨ v150_5 = 1) → shy S U150 → RepC g ad A s U150 H locs → lv_has ls 9 [(0, .ref (ad v150_0)), (1, .int v150_1), (4, .int v150_4), (5, .int v150_5)] → W p l e (headSpec (wt yX4_spread cX4_spread 9 none) ({ frames := 3, cells := 0, slots := 0, locals := 66 })).room s m ([.ref (ad p0), .int x1, .int x2] : List Value).toArray below meth c H locs 0 0 (MQ below (va_Qv (fun (u : MS) => Q u ∧ wfC u ∧ shy S u) (fun (u : MS) (t : State) => qEC g ad A u t) A) ([.ref (ad p0), .int x1, .int x2] : List Value).toArray s 0 0 A) (F0 m 150 ls []) := by
              intro U150 v150_0 v150_1 v150_4 v150_5 H locs ls h hT_v150_0 hz_v150_5 hsh hR hl
              unfold w_X4_spread_J150 at h
              replace h := h hR.w hT_v150_0 hz_v150_5
              refine lv_aload_n hx hb dX4_spread_150 rfl (lv_at hl 0 rfl) ?_
              obtain ⟨hv50, h⟩ := h
              have hT_b49 : qT U150 (qO U150 v150_0 4) = 47 := hR.w.ref hv50 hT_v150_0
              refine va_get (D := rD g) (ci := 4) (v := .ref (ad (qO U150 v150_0 4))) (C := RX4) (T := TX4) (N := 8) hx hb hts inX4 hown hR.K hR.P v150_0 (hR.at44 hT_v150_0) rfl 4 (by decide) (hts _ kw_954) (fun _ h9 => h9) (congrArg (fun z => some (vf ad z)) hv50) dX4_spread_151 ?_
              refine lv_iload_n hx hb dX4_spread_154 rfl (lv_at hl 1 rfl) ?_
              obtain ⟨hv51, h⟩ := h
              have hFc := cfree hR hA
              refine va_calli (va_runV (As := [.int v150_1]) (rest := []) ⟨hx, hb, hml, hown, hts⟩ (rX8_targetCount l g ad H.size U150 (qO U150 v150_0 4) v150_1 hR.w hT_b49 hv51) (cwV 1 hts (gd_V kw_995 kw_1541 kw_1542 kw_782 kw_1540) rfl rfl rfl (by decide +kernel) ⟨Nat.le_of_ble_eq_true rfl, Nat.le_of_ble_eq_true rfl⟩) ⟨cblind, va_recv hR.K hR.P (ci := 7) (q0 := (qO U150 v150_0 4)) rfl (hR.at47 hT_b49), fun U hU hW9 => cmk hU hW9 hR hex hE hFc⟩ rfl rfl hl.1 rfl (lv_room (Nat.le_of_ble_eq_true rfl)) dX4_spread_155 ⟨Nat.le_of_ble_eq_true rfl, Nat.le_of_ble_eq_true rfl⟩) hR.sS (fun q _ h => hFc q h) hFc (fun r52 u9 t9 H1 locs ht9 hvm9 hw9 hB9 hz9 hk9 hS => ?_)
              have hR : RepC g ad A s U150 H1 locs := hR.call ht9 hB9 hR.w hS hFc
              obtain rfl : r52 = (fX8_targetCount U150 (qO U150 v150_0 4) v150_1) := hw9
              clear hB9 hz9 hk9 hvm9 ht9 hS
              generalize H1 = H at hR ⊢
              obtain ⟨a54, ea54⟩ : ∃ z, z = (fX8_targetCount U150 (qO U150 v150_0 4) v150_1) := ⟨_, rfl⟩
              rw [← ea54]
              replace h := h a54 ea54
              refine lv_istore (lv' := [(7, .int a54), (0, .ref (ad v150_0)), (1, .int v150_1), (4, .int v150_4), (5, .int v150_5)]) hx hb dX4_spread_158 hl (by decide) rfl (fun ls hl => ?_)
              refine lv_iconst (v := 0) hx hb dX4_spread_160 (by decide) ?_
              refine lv_istore (lv' := [(8, .int 0), (7, .int a54), (0, .ref (ad v150_0)), (1, .int v150_1), (4, .int v150_4), (5, .int v150_5)]) hx hb dX4_spread_161 hl (by decide) rfl (fun ls hl => ?_)
              have J_163 : ∀ (n163 : Nat) (U163 : MS) (v163_0 : Nat) (v163_1 : Int32) (v163_4 : Int32) (v163_5 : Int32) (v163_7 : Int32) (v163_8 : Int32) (H : Heap) (locs : List Loc) (ls : Array Slot), w_X4_spread_L163 Q n163 U163 v163_0 v163_1 v163_4 v163_5 v163_7 v163_8 → qT U163 v163_0 = 44 → (v163_5 = 0 ∨ v163_5 = 1) → shy S U163 → RepC g ad A s U163 H locs → lv_has ls 9 [(0, .ref (ad v163_0)), (1, .int v163_1), (4, .int v163_4), (5, .int v163_5), (7, .int v163_7), (8, .int v163_8)] → W p l e (headSpec (wt yX4_spread cX4_spread 9 none) ({ frames := 3, cells := 0, slots := 0, locals := 66 })).room s m ([.ref (ad p0), .int x1, .int x2] : List Value).toArray below meth c H locs 0 0 (MQ below (va_Qv (fun (u : MS) => Q u ∧ wfC u ∧ shy S u) (fun (u : MS) (t : State) => qEC g ad A u t) A) ([.ref (ad p0), .int x1, .int x2] : List Value).toArray s 0 0 A) (F0 m 163 ls []) := by
                intro n163
                induction n163 with
                | zero => intro U163 v163_0 v163_1 v163_4 v163_5 v163_7 v163_8 H locs ls h hT_v163_0 hz_v163_5 hsh hR hl; unfold w_X4_spread_L163 at h; exact h.elim
                | succ n163 ih_163 =>
                  intro U163 v163_0 v163_1 v163_4 v163_5 v163_7 v163_8 H locs ls h hT_v163_0 hz_v163_5 hsh hR hl
                  unfold w_X4_spread_L163 at h
                  replace h := h hR.w hT_v163_0 hz_v163_5
                  refine lv_iload hx hb dX4_spread_163 (lv_at hl 5 rfl) ?_
                  refine lv_iload hx hb dX4_spread_165 (lv_at hl 4 rfl) ?_
                  refine lv_icmp_ge (tgt := 192) hx hb dX4_spread_167 (by decide) (fun c55 => ?_) (fun c55 => ?_)
                  · replace h := h.1 (k_le rfl rfl c55)
                    refine lv_iconst (v := 0) hx hb dX4_spread_192 (by decide) ?_
                    refine lv_istore (lv' := [(8, .int 0), (0, .ref (ad v163_0)), (1, .int v163_1), (4, .int v163_4), (5, .int v163_5), (7, .int v163_7)]) hx hb dX4_spread_193 hl (by decide) rfl (fun ls hl => ?_)
                    have J_195 : ∀ (n195 : Nat) (U195 : MS) (v195_0 : Nat) (v195_1 : Int32) (v195_5 : Int32) (v195_8 : Int32) (H : Heap) (locs : List Loc) (ls : Array Slot), w_X4_spread_L195 Q n195 U195 v195_0 v195_1 v195_5 v195_8 → qT U195 v195_0 = 44 → (v195_5 = 0 ∨ v195_5 = 1) → shy S U195 → RepC g ad A s U195 H locs → lv_has ls 9 [(0, .ref (ad v195_0)), (1, .int v195_1), (5, .int v195_5), (8, .int v195_8)] → W p l e (headSpec (wt yX4_spread cX4_spread 9 none) ({ frames := 3, cells := 0, slots := 0, locals := 66 })).room s m ([.ref (ad p0), .int x1, .int x2] : List Value).toArray below meth c H locs 0 0 (MQ below (va_Qv (fun (u : MS) => Q u ∧ wfC u ∧ shy S u) (fun (u : MS) (t : State) => qEC g ad A u t) A) ([.ref (ad p0), .int x1, .int x2] : List Value).toArray s 0 0 A) (F0 m 195 ls []) := by
                      intro n195
                      induction n195 with
                      | zero => intro U195 v195_0 v195_1 v195_5 v195_8 H locs ls h hT_v195_0 hz_v195_5 hsh hR hl; unfold w_X4_spread_L195 at h; exact h.elim
                      | succ n195 ih_195 =>
                        intro U195 v195_0 v195_1 v195_5 v195_8 H locs ls h hT_v195_0 hz_v195_5 hsh hR hl
                        unfold w_X4_spread_L195 at h
                        replace h := h hR.w hT_v195_0 hz_v195_5
                        refine lv_iload hx hb dX4_spread_195 (lv_at hl 2 rfl) ?_
                        refine lv_if_eq (tgt := 246) hx hb dX4_spread_197 (by decide) (fun c56 => ?_) (fun c56 => ?_)
                        · replace h := h.1 (k_eq rfl (by decide) c56)
                          exact W.vret hx hb hr (fun t9 ht9 hW9 => ⟨⟨U195, rfl, ⟨h, hR.w, hsh⟩, ⟨by rw [ht9]; exact hR.P, hR.D⟩⟩, hR.sS.F ht9⟩) hR.sS.2.2 dX4_spread_246
                        · replace h := h.2 (k_ne rfl (by decide) c56)
                          refine lv_iload hx hb dX4_spread_200 (lv_at hl 3 rfl) ?_
                          refine lv_aload_n hx hb dX4_spread_202 rfl (lv_at hl 0 rfl) ?_
                          obtain ⟨hv58, h⟩ := h
                          have hT_b57 : qT U195 (qO U195 v195_0 4) = 47 := hR.w.ref hv58 hT_v195_0
                          refine va_get (D := rD g) (ci := 4) (v := .ref (ad (qO U195 v195_0 4))) (C := RX4) (T := TX4) (N := 8) hx hb hts inX4 hown hR.K hR.P v195_0 (hR.at44 hT_v195_0) rfl 4 (by decide) (hts _ kw_954) (fun _ h9 => h9) (congrArg (fun z => some (vf ad z)) hv58) dX4_spread_203 ?_
                          refine va_get (D := rD g) (ci := 7) (v := .int (qI U195 (qO U195 v195_0 4) 9)) (C := RX8) (T := TX8) (N := 15) hx hb hts inX8 hown hR.K hR.P (qO U195 v195_0 4) (hR.at47 hT_b57) rfl 9 (by decide) (hts _ kw_997) (fun _ h9 => h9) rfl dX4_spread_206 ?_
                          refine lv_icmp_ge (tgt := 246) hx hb dX4_spread_209 (by decide) (fun c59 => ?_) (fun c59 => ?_)
                          · replace h := h.1 (k_le rfl rfl c59)
                            exact W.vret hx hb hr (fun t9 ht9 hW9 => ⟨⟨U195, rfl, ⟨h, hR.w, hsh⟩, ⟨by rw [ht9]; exact hR.P, hR.D⟩⟩, hR.sS.F ht9⟩) hR.sS.2.2 dX4_spread_246
                          · replace h := h.2 (k_nle rfl rfl c59)
                            refine lv_aload_n hx hb dX4_spread_212 rfl (lv_at hl 0 rfl) ?_
                            obtain ⟨hv61, h⟩ := h
                            have hT_b60 : qT U195 (qO U195 v195_0 4) = 47 := hR.w.ref hv61 hT_v195_0
                            refine va_get (D := rD g) (ci := 4) (v := .ref (ad (qO U195 v195_0 4))) (C := RX4) (T := TX4) (N := 8) hx hb hts inX4 hown hR.K hR.P v195_0 (hR.at44 hT_v195_0) rfl 4 (by decide) (hts _ kw_954) (fun _ h9 => h9) (congrArg (fun z => some (vf ad z)) hv61) dX4_spread_213 ?_
                            refine lv_iload hx hb dX4_spread_216 (lv_at hl 3 rfl) ?_
                            refine lv_iload_n hx hb dX4_spread_218 rfl (lv_at hl 1 rfl) ?_
                            obtain ⟨hv62, h⟩ := h
                            have hFc := cfree hR hA
                            refine va_calli (va_runV (As := [.int v195_8, .int v195_1]) (rest := []) ⟨hx, hb, hml, hown, hts⟩ (rX8_catchHas l g ad H.size U195 (qO U195 v195_0 4) v195_8 v195_1 hR.w hT_b60 hv62) (cwV 2 hts (gd_V kw_998 kw_1483 kw_1484 kw_782 kw_1482) rfl rfl rfl (by decide +kernel) ⟨Nat.le_of_ble_eq_true rfl, Nat.le_of_ble_eq_true rfl⟩) ⟨cblind, va_recv hR.K hR.P (ci := 7) (q0 := (qO U195 v195_0 4)) rfl (hR.at47 hT_b60), fun U hU hW9 => cmk hU hW9 hR hex hE hFc⟩ rfl rfl hl.1 rfl (lv_room (Nat.le_of_ble_eq_true rfl)) dX4_spread_219 ⟨Nat.le_of_ble_eq_true rfl, Nat.le_of_ble_eq_true rfl⟩) hR.sS (fun q _ h => hFc q h) hFc (fun r63 u9 t9 H1 locs ht9 hvm9 hw9 hB9 hz9 hk9 hS => ?_)
                            have hR : RepC g ad A s U195 H1 locs := hR.call ht9 hB9 hR.w hS hFc
                            obtain ⟨rfl, hz_r63⟩ := hw9
                            clear hB9 hz9 hk9 hvm9 ht9 hS
                            generalize H1 = H at hR ⊢
                            obtain ⟨a65, ea65⟩ : ∃ z, z = (fX8_catchHas U195 (qO U195 v195_0 4) v195_8 v195_1) := ⟨_, rfl⟩
                            rw [← ea65]
                            replace h := h a65 ea65
                            rw [← ea65] at hz_r63
                            have J_240 : ∀ (U240 : MS) (v240_0 : Nat) (v240_1 : Int32) (v240_5 : Int32) (v240_8 : Int32) (H : Heap) (locs : List Loc) (ls : Array Slot), w_X4_spread_J240 Q (w_X4_spread_L195 Q n195) U240 v240_0 v240_1 v240_5 v240_8 → qT U240 v240_0 = 44 → (v240_5 = 0 ∨ v240_5 = 1) → shy S U240 → RepC g ad A s U240 H locs → lv_has ls 9 [(0, .ref (ad v240_0)), (1, .int v240_1), (5, .int v240_5), (8, .int v240_8)] → W p l e (headSpec (wt yX4_spread cX4_spread 9 none) ({ frames := 3, cells := 0, slots := 0, locals := 66 })).room s m ([.ref (ad p0), .int x1, .int x2] : List Value).toArray below meth c H locs 0 0 (MQ below (va_Qv (fun (u : MS) => Q u ∧ wfC u ∧ shy S u) (fun (u : MS) (t : State) => qEC g ad A u t) A) ([.ref (ad p0), .int x1, .int x2] : List Value).toArray s 0 0 A) (F0 m 240 ls []) := by
                              intro U240 v240_0 v240_1 v240_5 v240_8 H locs ls h hT_v240_0 hz_v240_5 hsh hR hl
                              unfold w_X4_spread_J240 at h
                              replace h := h hR.w hT_v240_0 hz_v240_5
                              obtain ⟨a66, ea66⟩ : ∃ z, z = (v240_8 + Int32.ofInt 1) := ⟨_, rfl⟩
                              replace h := h a66 ea66
                              refine lv_iinc (v := a66) (lv' := [(8, .int a66), (0, .ref (ad v240_0)), (1, .int v240_1), (5, .int v240_5)]) hx hb dX4_spread_240 hl (k := 3) rfl ea66.symm (by decide) rfl (fun ls hl => ?_)
                              refine lv_goto (tgt := 195) hx hb dX4_spread_243 (by decide) ?_
                              exact ih_195 U240 v240_0 v240_1 v240_5 a66 _ _ ls h hT_v240_0 hz_v240_5 hsh hR (lv_sub hl [1, 2, 3, 0] rfl)
                            refine lv_if_eq (tgt := 240) hx hb dX4_spread_222 (by decide) (fun c67 => ?_) (fun c67 => ?_)
                            · replace h := h.1 (k_eq rfl (by decide) c67)
                              exact J_240 U195 v195_0 v195_1 v195_5 v195_8 _ _ ls h hT_v195_0 hz_v195_5 hsh hR (lv_sub hl [0, 1, 2, 3] rfl)
                            · replace h := h.2 (k_ne rfl (by decide) c67)
                              refine lv_aload_n hx hb dX4_spread_225 rfl (lv_at hl 0 rfl) ?_
                              refine lv_aload_n hx hb dX4_spread_226 rfl (lv_at hl 0 rfl) ?_
                              obtain ⟨hv69, h⟩ := h
                              have hT_b68 : qT U195 (qO U195 v195_0 4) = 47 := hR.w.ref hv69 hT_v195_0
                              refine va_get (D := rD g) (ci := 4) (v := .ref (ad (qO U195 v195_0 4))) (C := RX4) (T := TX4) (N := 8) hx hb hts inX4 hown hR.K hR.P v195_0 (hR.at44 hT_v195_0) rfl 4 (by decide) (hts _ kw_954) (fun _ h9 => h9) (congrArg (fun z => some (vf ad z)) hv69) dX4_spread_227 ?_
                              obtain ⟨hv71, h⟩ := h
                              have hT_b70 : qT U195 (qO U195 (qO U195 v195_0 4) 7) = 226 := hR.w.ref hv71 hT_b68
                              refine va_get (D := rD g) (ci := 7) (v := .ref (ad (qO U195 (qO U195 v195_0 4) 7))) (C := RX8) (T := TX8) (N := 15) hx hb hts inX8 hown hR.K hR.P (qO U195 v195_0 4) (hR.at47 hT_b68) rfl 7 (by decide) (hts _ kw_999) (fun _ h9 => h9) (congrArg (fun z => some (vf ad z)) hv71) dX4_spread_230 ?_
                              refine lv_iload hx hb dX4_spread_233 (lv_at hl 3 rfl) ?_
                              obtain ⟨hv72, h⟩ := h
                              refine va_iald hx hb hR.K hR.P (qO U195 (qO U195 v195_0 4) 7) 1 (hR.atI hT_b70 (by decide)) rfl (k_ix (x := v195_8) (a := v195_8.toInt) rfl hv72) dX4_spread_235 ?_
                              refine lv_topi (fun z73 ez73 => ?_)
                              obtain rfl : z73 = (qI U195 (qO U195 (qO U195 v195_0 4) 7) v195_8.toInt.toNat) := ez73
                              refine lv_iconst (v := 1) hx hb dX4_spread_236 (by decide) ?_
                              replace h := h (hT_v195_0)
                              obtain ⟨Q74, h0, h⟩ := h
                              have hFc := cfree hR hA
                              refine va_callv (va_runV (As := [.int (qI U195 (qO U195 (qO U195 v195_0 4) 7) v195_8.toInt.toNat), .int 1]) (rest := []) ⟨hx, hb, hml, hown, hts⟩ (rX4_comeTo l g ad H.size U195 v195_0 (qI U195 (qO U195 (qO U195 v195_0 4) 7) v195_8.toInt.toNat) (1 : Int32) hR.w hT_v195_0 Q74 h0) (cwV 2 hts (gd_V kw_982 kw_952 kw_953 kw_167 kw_951) rfl rfl rfl (by decide +kernel) ⟨Nat.le_of_ble_eq_true rfl, Nat.le_of_ble_eq_true rfl⟩) ⟨cblind, va_recv hR.K hR.P (ci := 4) (q0 := v195_0) rfl (hR.at44 hT_v195_0), fun U hU hW9 => cmk hU hW9 hR hex hE hFc⟩ rfl rfl hl.1 rfl (lv_room (Nat.le_of_ble_eq_true rfl)) dX4_spread_237 ⟨Nat.le_of_ble_eq_true rfl, Nat.le_of_ble_eq_true rfl⟩) hR.sS (fun q _ h => hFc q h) hFc (fun  S75 t9 H1 locs ht9 hvm9 hw9 hB9 hz9 hk9 hS => ?_)
                              obtain ⟨hq76, hw9, hs9⟩ := hw9
                              have hR : RepC g ad A s S75 H1 locs := hR.call ht9 hB9 hw9 hS hFc
                              have hsh := hsh.tr hs9
                              replace h := h  S75 hq76 hw9 hs9
                              have hT_v195_0 := hs9.T hT_v195_0 (by decide)
                              clear hB9 hz9 hk9 hvm9 ht9 hw9 hs9 hS
                              generalize H1 = H at hR ⊢
                              exact J_240 S75 v195_0 v195_1 v195_5 v195_8 _ _ ls h hT_v195_0 hz_v195_5 hsh hR (lv_sub hl [0, 1, 2, 3] rfl)
                    obtain ⟨n9, h⟩ := h
                    exact J_195 n9 U163 v163_0 v163_1 v163_5 0 _ _ ls h hT_v163_0 hz_v163_5 hsh hR (lv_sub hl [1, 2, 4, 0] rfl)
                  · replace h := h.2 (k_nle rfl rfl c55)
                    refine lv_aload_n hx hb dX4_spread_170 rfl (lv_at hl 0 rfl) ?_
                    refine lv_aload_n hx hb dX4_spread_171 rfl (lv_at hl 0 rfl) ?_
                    obtain ⟨hv78, h⟩ := h
                    have hT_b77 : qT U163 (qO U163 v163_0 4) = 47 := hR.w.ref hv78 hT_v163_0
                    refine va_get (D := rD g) (ci := 4) (v := .ref (ad (qO U163 v163_0 4))) (C := RX4) (T := TX4) (N := 8) hx hb hts inX4 hown hR.K hR.P v163_0 (hR.at44 hT_v163_0) rfl 4 (by decide) (hts _ kw_954) (fun _ h9 => h9) (congrArg (fun z => some (vf ad z)) hv78) dX4_spread_172 ?_
                    refine lv_iload_n hx hb dX4_spread_175 rfl (lv_at hl 1 rfl) ?_
                    refine lv_iload hx hb dX4_spread_176 (lv_at hl 5 rfl) ?_
                    obtain ⟨hv79, h⟩ := h
                    have hFc := cfree hR hA
                    refine va_calli (va_runV (As := [.int v163_1, .int v163_8]) (rest := [.ref (ad v163_0)]) ⟨hx, hb, hml, hown, hts⟩ (rX8_targetAt l g ad H.size U163 (qO U163 v163_0 4) v163_1 v163_8 hR.w hT_b77 hv79) (cwV 2 hts (gd_V kw_996 kw_1537 kw_1538 kw_782 kw_1536) rfl rfl rfl (by decide +kernel) ⟨Nat.le_of_ble_eq_true rfl, Nat.le_of_ble_eq_true rfl⟩) ⟨cblind, va_recv hR.K hR.P (ci := 7) (q0 := (qO U163 v163_0 4)) rfl (hR.at47 hT_b77), fun U hU hW9 => cmk hU hW9 hR hex hE hFc⟩ rfl rfl hl.1 rfl (lv_room (Nat.le_of_ble_eq_true rfl)) dX4_spread_178 ⟨Nat.le_of_ble_eq_true rfl, Nat.le_of_ble_eq_true rfl⟩) hR.sS (fun q _ h => hFc q h) hFc (fun r80 u9 t9 H1 locs ht9 hvm9 hw9 hB9 hz9 hk9 hS => ?_)
                    have hR : RepC g ad A s U163 H1 locs := hR.call ht9 hB9 hR.w hS hFc
                    obtain rfl : r80 = (fX8_targetAt U163 (qO U163 v163_0 4) v163_1 v163_8) := hw9
                    clear hB9 hz9 hk9 hvm9 ht9 hS
                    generalize H1 = H at hR ⊢
                    obtain ⟨a82, ea82⟩ : ∃ z, z = (fX8_targetAt U163 (qO U163 v163_0 4) v163_1 v163_8) := ⟨_, rfl⟩
                    rw [← ea82]
                    replace h := h a82 ea82
                    refine lv_iload hx hb dX4_spread_181 (lv_at hl 2 rfl) ?_
                    replace h := h (hT_v163_0)
                    obtain ⟨Q83, h0, h⟩ := h
                    have hFc := cfree hR hA
                    refine va_callv (va_runV (As := [.int a82, .int v163_4]) (rest := []) ⟨hx, hb, hml, hown, hts⟩ (rX4_comeTo l g ad H.size U163 v163_0 a82 v163_4 hR.w hT_v163_0 Q83 h0) (cwV 2 hts (gd_V kw_982 kw_952 kw_953 kw_167 kw_951) rfl rfl rfl (by decide +kernel) ⟨Nat.le_of_ble_eq_true rfl, Nat.le_of_ble_eq_true rfl⟩) ⟨cblind, va_recv hR.K hR.P (ci := 4) (q0 := v163_0) rfl (hR.at44 hT_v163_0), fun U hU hW9 => cmk hU hW9 hR hex hE hFc⟩ rfl rfl hl.1 rfl (lv_room (Nat.le_of_ble_eq_true rfl)) dX4_spread_183 ⟨Nat.le_of_ble_eq_true rfl, Nat.le_of_ble_eq_true rfl⟩) hR.sS (fun q _ h => hFc q h) hFc (fun  S84 t9 H1 locs ht9 hvm9 hw9 hB9 hz9 hk9 hS => ?_)
                    obtain ⟨hq85, hw9, hs9⟩ := hw9
                    have hR : RepC g ad A s S84 H1 locs := hR.call ht9 hB9 hw9 hS hFc
                    have hsh := hsh.tr hs9
                    replace h := h  S84 hq85 hw9 hs9
                    have hT_v163_0 := hs9.T hT_v163_0 (by decide)
                    clear hB9 hz9 hk9 hvm9 ht9 hw9 hs9 hS
                    generalize H1 = H at hR ⊢
                    obtain ⟨a86, ea86⟩ : ∃ z, z = (v163_8 + Int32.ofInt 1) := ⟨_, rfl⟩
                    replace h := h a86 ea86
                    refine lv_iinc (v := a86) (lv' := [(8, .int a86), (0, .ref (ad v163_0)), (1, .int v163_1), (4, .int v163_4), (5, .int v163_5), (7, .int v163_7)]) hx hb dX4_spread_186 hl (k := 5) rfl ea86.symm (by decide) rfl (fun ls hl => ?_)
                    refine lv_goto (tgt := 163) hx hb dX4_spread_189 (by decide) ?_
                    exact ih_163 S84 v163_0 v163_1 v163_4 v163_5 v163_7 a86 _ _ ls h hT_v163_0 hz_v163_5 hsh hR (lv_sub hl [1, 2, 3, 4, 5, 0] rfl)
              obtain ⟨n9, h⟩ := h
              exact J_163 n9 U150 v150_0 v150_1 v150_4 v150_5 a54 0 _ _ ls h hT_v150_0 hz_v150_5 hsh hR (lv_sub hl [2, 3, 4, 5, 1, 0] rfl)
            refine lv_if_eq (tgt := 150) hx hb dX4_spread_138 (by decide) (fun c87 => ?_) (fun c87 => ?_)
            · replace h := h.1 (k_eq rfl (by decide) c87)
              exact J_150 S48 v127_0 v127_1 v127_4 v127_5 _ _ ls h hT_v127_0 hz_v127_5 hsh hR (lv_sub hl [0, 1, 2, 3] rfl)
            · replace h := h.2 (k_ne rfl (by decide) c87)
              refine lv_aload_n hx hb dX4_spread_141 rfl (lv_at hl 0 rfl) ?_
              refine lv_iload_n hx hb dX4_spread_142 rfl (lv_at hl 1 rfl) ?_
              refine lv_iconst (v := 1) hx hb dX4_spread_143 (by decide) ?_
              refine lv_iadd hx hb dX4_spread_144 ?_
              refine lv_topi (fun z88 ez88 => ?_)
              obtain rfl : z88 = (v127_1 + (1 : Int32)) := ez88
              refine lv_iload hx hb dX4_spread_145 (lv_at hl 2 rfl) ?_
              replace h := h (hT_v127_0)
              obtain ⟨Q89, h0, h⟩ := h
              have hFc := cfree hR hA
              refine va_callv (va_runV (As := [.int (v127_1 + (1 : Int32)), .int v127_4]) (rest := []) ⟨hx, hb, hml, hown, hts⟩ (rX4_comeTo l g ad H.size S48 v127_0 (v127_1 + (1 : Int32)) v127_4 hR.w hT_v127_0 Q89 h0) (cwV 2 hts (gd_V kw_982 kw_952 kw_953 kw_167 kw_951) rfl rfl rfl (by decide +kernel) ⟨Nat.le_of_ble_eq_true rfl, Nat.le_of_ble_eq_true rfl⟩) ⟨cblind, va_recv hR.K hR.P (ci := 4) (q0 := v127_0) rfl (hR.at44 hT_v127_0), fun U hU hW9 => cmk hU hW9 hR hex hE hFc⟩ rfl rfl hl.1 rfl (lv_room (Nat.le_of_ble_eq_true rfl)) dX4_spread_147 ⟨Nat.le_of_ble_eq_true rfl, Nat.le_of_ble_eq_true rfl⟩) hR.sS (fun q _ h => hFc q h) hFc (fun  S90 t9 H1 locs ht9 hvm9 hw9 hB9 hz9 hk9 hS => ?_)
              obtain ⟨hq91, hw9, hs9⟩ := hw9
              have hR : RepC g ad A s S90 H1 locs := hR.call ht9 hB9 hw9 hS hFc
              have hsh := hsh.tr hs9
              replace h := h  S90 hq91 hw9 hs9
              have hT_v127_0 := hs9.T hT_v127_0 (by decide)
              clear hB9 hz9 hk9 hvm9 ht9 hw9 hs9 hS
              generalize H1 = H at hR ⊢
              exact J_150 S90 v127_0 v127_1 v127_4 v127_5 _ _ ls h hT_v127_0 hz_v127_5 hsh hR (lv_sub hl [0, 1, 2, 3] rfl)
          refine lv_if_eq (tgt := 126) hx hb dX4_spread_119 (by decide) (fun c92 => ?_) (fun c92 => ?_)
          · replace h := h.1 (k_eq rfl (by decide) c92)
            refine lv_iconst (v := 0) hx hb dX4_spread_126 (by decide) ?_
            exact J_127 U110 0 v110_4 (qI U110 v110_0 7) v110_0 v110_0 v110_1 v110_4 v110_5 v110_6 _ _ ls h hT_v110_0 hT_v110_0 (Or.inl rfl) hz_v110_5 hz_v110_6 hsh hR (lv_sub hl [0, 1, 2, 3, 4] rfl)
          · replace h := h.2 (k_ne rfl (by decide) c92)
            refine lv_iconst (v := 1) hx hb dX4_spread_122 (by decide) ?_
            refine lv_goto (tgt := 127) hx hb dX4_spread_123 (by decide) ?_
            exact J_127 U110 1 v110_4 (qI U110 v110_0 7) v110_0 v110_0 v110_1 v110_4 v110_5 v110_6 _ _ ls h hT_v110_0 hT_v110_0 (Or.inr rfl) hz_v110_5 hz_v110_6 hsh hR (lv_sub hl [0, 1, 2, 3, 4] rfl)
        refine lv_if_eq (tgt := 110) hx hb dX4_spread_86 (by decide) (fun c93 => ?_) (fun c93 => ?_)
        · replace h := h.1 (k_eq rfl (by decide) c93)
          exact J_110 U84 v84_0 v84_1 v84_4 v84_5 v84_6 _ _ ls h hT_v84_0 hz_v84_5 hz_v84_6 hsh hR (lv_sub hl [0, 1, 2, 3, 4] rfl)
        · replace h := h.2 (k_ne rfl (by decide) c93)
          refine lv_iload_n hx hb dX4_spread_89 rfl (lv_at hl 1 rfl) ?_
          refine lv_iconst (v := 1) hx hb dX4_spread_90 (by decide) ?_
          refine lv_iadd hx hb dX4_spread_91 ?_
          refine lv_topi (fun z94 ez94 => ?_)
          obtain rfl : z94 = (v84_1 + (1 : Int32)) := ez94
          refine lv_aload_n hx hb dX4_spread_92 rfl (lv_at hl 0 rfl) ?_
          obtain ⟨hv96, h⟩ := h
          have hT_b95 : qT U84 (qO U84 v84_0 4) = 47 := hR.w.ref hv96 hT_v84_0
          refine va_get (D := rD g) (ci := 4) (v := .ref (ad (qO U84 v84_0 4))) (C := RX4) (T := TX4) (N := 8) hx hb hts inX4 hown hR.K hR.P v84_0 (hR.at44 hT_v84_0) rfl 4 (by decide) (hts _ kw_954) (fun _ h9 => h9) (congrArg (fun z => some (vf ad z)) hv96) dX4_spread_93 ?_
          refine va_get (D := rD g) (ci := 7) (v := .int (qI U84 (qO U84 v84_0 4) 2)) (C := RX8) (T := TX8) (N := 15) hx hb hts inX8 hown hR.K hR.P (qO U84 v84_0 4) (hR.at47 hT_b95) rfl 2 (by decide) (hts _ kw_955) (fun _ h9 => h9) rfl dX4_spread_96 ?_
          refine lv_icmp_lt (tgt := 110) hx hb dX4_spread_99 (by decide) (fun c97 => ?_) (fun c97 => ?_)
          · replace h := h.1 (k_lt rfl rfl c97)
            exact J_110 U84 v84_0 v84_1 v84_4 v84_5 v84_6 _ _ ls h hT_v84_0 hz_v84_5 hz_v84_6 hsh hR (lv_sub hl [0, 1, 2, 3, 4] rfl)
          · replace h := h.2 (k_nlt rfl rfl c97)
            exact J_102 U84 v84_0 v84_1 _ _ ls h hT_v84_0 hsh hR (lv_sub hl [0, 1] rfl)
      refine lv_if_eq (tgt := 84) hx hb dX4_spread_73 (by decide) (fun c98 => ?_) (fun c98 => ?_)
      · replace h := h.1 (k_eq rfl (by decide) c98)
        exact J_84 S28 p0 x1 a23 r27 a39 _ _ ls h hT_p0 hz_r27 hz_r37 hsh hR (lv_sub hl [4, 5, 2, 1, 0] rfl)
      · replace h := h.2 (k_ne rfl (by decide) c98)
        refine lv_aload_n hx hb dX4_spread_76 rfl (lv_at hl 4 rfl) ?_
        refine va_get (D := rD g) (ci := 4) (v := .int (qI S28 p0 5)) (C := RX4) (T := TX4) (N := 8) hx hb hts inX4 hown hR.K hR.P p0 (hR.at44 hT_p0) rfl 5 (by decide) (hts _ kw_979) (fun _ h9 => h9) rfl dX4_spread_77 ?_
        refine lv_iconst (v := 1) hx hb dX4_spread_80 (by decide) ?_
        refine lv_icmp_lt (tgt := 102) hx hb dX4_spread_81 (by decide) (fun c99 => ?_) (fun c99 => ?_)
        · replace h := h.1 (k_lt rfl (by decide) c99)
          exact J_102 S28 p0 x1 _ _ ls h hT_p0 hsh hR (lv_sub hl [4, 5] rfl)
        · replace h := h.2 (k_nlt rfl (by decide) c99)
          exact J_84 S28 p0 x1 a23 r27 a39 _ _ ls h hT_p0 hz_r27 hz_r37 hsh hR (lv_sub hl [4, 5, 2, 1, 0] rfl)
def fX5_lengthOf (S : MS) (x1 : Int32) : Int32 := (if (fX5_isArray S (x1.toInt64)).toInt = 0 then (-1 : Int32) else ((fX5_arrayStart S (x1 + (1 : Int32))) - (fX5_arrayStart S x1)))
def d_X5_lengthOf (S : MS) (x1 : Int32) : Prop := (d_X5_isArray S (x1.toInt64) ∧ (if (fX5_isArray S (x1.toInt64)).toInt = 0 then True else (d_X5_arrayStart S (x1 + (1 : Int32)) ∧ (d_X5_arrayStart S x1 ∧ True))))
set_option maxHeartbeats 2000000 in
set_option maxRecDepth 100000 in
theorem rX5_lengthOf (l : Launch) (g : Gr) (ad : Nat → Nat) (sz : Nat) (S : MS) (x1 : Int32) (hw : wfC S) (hd : d_X5_lengthOf S x1) : Met l yX5_lengthOf (wt yX5_lengthOf cX5_lengthOf 2 (some .int)) ({ frames := 1, cells := 0, slots := 0, locals := 22 }) (va_Pc [.ref (ad 44), .int x1] (st_C g ad sz S)) (va_Qi (fun (r : Int32) (_ : Unit) => r = fX5_lengthOf S x1) (fun (_ : Unit) (t : State) => qEC g ad (va_A (WdC g ad S) sz) S t) (va_A (WdC g ad S) sz)) 0 0 (va_A (WdC g ad S) sz) := by
  refine Met.ofW (cc := cX5_lengthOf) (maxL := 2) (ret := (some .int)) (by decide) rfl ?_
  intro p e s m args below meth c s₁ B hml hv
  obtain ⟨rfl, hsz, hP, hK, hD0, hex, hE⟩ := hv
  have hx := B.exec
  have hb := B.bytes
  have hr := B.returns
  have hts0 := atoms_spec (ws := wt yX5_lengthOf cX5_lengthOf 2 (some .int)) B.pre
  have hts : ∀ w ∈ tb, w.before _ s = true := fun w h => hts0 w (List.mem_cons_of_mem _ h)
  have hown : s.vm.findClass RX5 = some m.cls := findClass_of_methodNamed B.named
  subst hsz
  have hD := hD0.self (sz := s.heap.size)
  generalize hAe : va_A (WdC g ad S) s.heap.size = A at hD hE ⊢
  have hA : ∀ q : Nat, s.heap.size ≤ q → A q := fun q h => by rw [← hAe]; exact Or.inr h
  have hR : RepC g ad A s S s.heap [] := ⟨hK, hP, hD, va_S.rf, hw⟩
  clear hK hP hD hD0
  have hl := lv_entry ([.ref (ad 44), .int x1]) (n := 2) (Nat.le_of_ble_eq_true rfl)
  rw [lg_entry_eq]
  generalize (lg_sl ([.ref (ad 44), .int x1]) ++ List.replicate (2 - (lg_sl ([.ref (ad 44), .int x1])).length) Slot.unset).toArray = ls at hl ⊢
  have hl : lv_has ls 2 [(0, .ref (ad 44)), (1, .int x1)] := hl
  obtain ⟨r0, hf⟩ : ∃ r0, fX5_lengthOf S x1 = r0 := ⟨_, rfl⟩
  have hf0 := hf
  unfold fX5_lengthOf at hf
  unfold d_X5_lengthOf at hd
  refine lv_aload_n hx hb dX5_lengthOf_0 rfl (lv_at hl 0 rfl) ?_
  refine lv_iload_n hx hb dX5_lengthOf_1 rfl (lv_at hl 1 rfl) ?_
  refine lv_i2l (v := (x1.toInt64)) hx hb dX5_lengthOf_2 rfl ?_
  obtain ⟨hv1, hd⟩ := hd
  have hFc := cfree hR hA
  refine va_calli (va_runV (As := [.long (x1.toInt64)]) (rest := []) ⟨hx, hb, hml, hown, hts⟩ (rX5_isArray l g ad s.heap.size S (x1.toInt64) hR.w  hv1) (cwV 1 hts (gd_V kw_1090 kw_1075 kw_1076 kw_398 kw_1074) rfl rfl rfl (by decide +kernel) ⟨Nat.le_of_ble_eq_true rfl, Nat.le_of_ble_eq_true rfl⟩) ⟨cblind, va_recv hR.K hR.P (ci := 5) (q0 := 44) rfl (hR.at45 (hR.w.2.1 _ finC_29).2.1), fun U hU hW9 => cmk hU hW9 hR hex hE hFc⟩ rfl rfl hl.1 rfl (lv_room (Nat.le_of_ble_eq_true rfl)) dX5_lengthOf_3 ⟨Nat.le_of_ble_eq_true rfl, Nat.le_of_ble_eq_true rfl⟩) hR.sS (fun q _ h => hFc q h) hFc (fun r2 u9 t9 H1 locs ht9 hvm9 hw9 hB9 hz9 hk9 hS => ?_)
  have hR : RepC g ad A s S H1 locs := hR.call ht9 hB9 hR.w hS hFc
  obtain ⟨rfl, hz_r2⟩ := hw9
  clear hB9 hz9 hk9 hvm9 ht9 hS
  generalize H1 = H at hR ⊢
  refine lv_if_eq (tgt := 25) hx hb dX5_lengthOf_6 (by decide) (fun c4 => ?_) (fun c4 => ?_)
  · rw [if_pos (k_eq rfl (by decide) c4)] at hf
    (try rw [if_pos (k_eq rfl (by decide) c4)] at hd)
    refine lv_iconst (v := (-1)) hx hb dX5_lengthOf_25 (by decide) ?_
    exact W.iret (v := (-1)) hx hb hr (fun t9 ht9 hW9 => ⟨⟨_, (), rfl, hf.trans hf0.symm, ⟨by rw [ht9]; exact hR.P, hR.D⟩⟩, hR.sS.F ht9⟩) hR.sS.2.2 dX5_lengthOf_26
  · rw [if_neg (k_ne rfl (by decide) c4)] at hf
    (try rw [if_neg (k_ne rfl (by decide) c4)] at hd)
    refine lv_aload_n hx hb dX5_lengthOf_9 rfl (lv_at hl 0 rfl) ?_
    refine lv_iload_n hx hb dX5_lengthOf_10 rfl (lv_at hl 1 rfl) ?_
    refine lv_iconst (v := 1) hx hb dX5_lengthOf_11 (by decide) ?_
    refine lv_iadd hx hb dX5_lengthOf_12 ?_
    refine lv_topi (fun z5 ez5 => ?_)
    obtain rfl : z5 = (x1 + (1 : Int32)) := ez5
    obtain ⟨hv6, hd⟩ := hd
    have hFc := cfree hR hA
    refine va_calli (va_runV (As := [.int (x1 + (1 : Int32))]) (rest := []) ⟨hx, hb, hml, hown, hts⟩ (rX5_arrayStart l g ad H.size S (x1 + (1 : Int32)) hR.w  hv6) (cwV 1 hts (gd_V kw_1036 kw_1006 kw_1007 kw_398 kw_1005) rfl rfl rfl (by decide +kernel) ⟨Nat.le_of_ble_eq_true rfl, Nat.le_of_ble_eq_true rfl⟩) ⟨cblind, va_recv hR.K hR.P (ci := 5) (q0 := 44) rfl (hR.at45 (hR.w.2.1 _ finC_29).2.1), fun U hU hW9 => cmk hU hW9 hR hex hE hFc⟩ rfl rfl hl.1 rfl (lv_room (Nat.le_of_ble_eq_true rfl)) dX5_lengthOf_13 ⟨Nat.le_of_ble_eq_true rfl, Nat.le_of_ble_eq_true rfl⟩) hR.sS (fun q _ h => hFc q h) hFc (fun r7 u9 t9 H1 locs ht9 hvm9 hw9 hB9 hz9 hk9 hS => ?_)
    have hR : RepC g ad A s S H1 locs := hR.call ht9 hB9 hR.w hS hFc
    obtain rfl : r7 = (fX5_arrayStart S (x1 + (1 : Int32))) := hw9
    clear hB9 hz9 hk9 hvm9 ht9 hS
    generalize H1 = H at hR ⊢
    refine lv_aload_n hx hb dX5_lengthOf_16 rfl (lv_at hl 0 rfl) ?_
    refine lv_iload_n hx hb dX5_lengthOf_17 rfl (lv_at hl 1 rfl) ?_
    obtain ⟨hv9, hd⟩ := hd
    have hFc := cfree hR hA
    refine va_calli (va_runV (As := [.int x1]) (rest := [.int (fX5_arrayStart S (x1 + (1 : Int32)))]) ⟨hx, hb, hml, hown, hts⟩ (rX5_arrayStart l g ad H.size S x1 hR.w  hv9) (cwV 1 hts (gd_V kw_1036 kw_1006 kw_1007 kw_398 kw_1005) rfl rfl rfl (by decide +kernel) ⟨Nat.le_of_ble_eq_true rfl, Nat.le_of_ble_eq_true rfl⟩) ⟨cblind, va_recv hR.K hR.P (ci := 5) (q0 := 44) rfl (hR.at45 (hR.w.2.1 _ finC_29).2.1), fun U hU hW9 => cmk hU hW9 hR hex hE hFc⟩ rfl rfl hl.1 rfl (lv_room (Nat.le_of_ble_eq_true rfl)) dX5_lengthOf_18 ⟨Nat.le_of_ble_eq_true rfl, Nat.le_of_ble_eq_true rfl⟩) hR.sS (fun q _ h => hFc q h) hFc (fun r10 u9 t9 H1 locs ht9 hvm9 hw9 hB9 hz9 hk9 hS => ?_)
    have hR : RepC g ad A s S H1 locs := hR.call ht9 hB9 hR.w hS hFc
    obtain rfl : r10 = (fX5_arrayStart S x1) := hw9
    clear hB9 hz9 hk9 hvm9 ht9 hS
    generalize H1 = H at hR ⊢
    refine lv_isub hx hb dX5_lengthOf_21 ?_
    refine lv_topi (fun z12 ez12 => ?_)
    obtain rfl : z12 = ((fX5_arrayStart S (x1 + (1 : Int32))) - (fX5_arrayStart S x1)) := ez12
    refine lv_goto (tgt := 26) hx hb dX5_lengthOf_22 (by decide) ?_
    exact W.iret (v := ((fX5_arrayStart S (x1 + (1 : Int32))) - (fX5_arrayStart S x1))) hx hb hr (fun t9 ht9 hW9 => ⟨⟨_, (), rfl, hf.trans hf0.symm, ⟨by rw [ht9]; exact hR.P, hR.D⟩⟩, hR.sS.F ht9⟩) hR.sS.2.2 dX5_lengthOf_26
def w_X5_elementAt_J13 (Q : Int32 → MS → Prop) (U13 : MS) : Prop := (wfC U13 → Q (0 : Int32) U13)
def wX5_elementAt (S : MS) (x1 : Int32) (x2 : Int32) (Q : Int32 → MS → Prop) : Prop := ((x2.toInt < 0 → w_X5_elementAt_J13 Q S) ∧ (¬ x2.toInt < 0 → (d_X5_lengthOf S x1 ∧ ((x2.toInt < (fX5_lengthOf S x1).toInt → (d_X5_arrayStart S x1 ∧ (∃ Q10, wX5_heapAt S ((fX5_arrayStart S x1) + x2) Q10 ∧ ∀ r11 S12, Q10 r11 S12 → wfC S12 → shy S S12 → Q r11 S12))) ∧ (¬ x2.toInt < (fX5_lengthOf S x1).toInt → w_X5_elementAt_J13 Q S)))))
set_option maxHeartbeats 2000000 in
set_option maxRecDepth 100000 in
theorem rX5_elementAt (l : Launch) (g : Gr) (ad : Nat → Nat) (sz : Nat) (S : MS) (x1 : Int32) (x2 : Int32) (hw : wfC S) (Q : Int32 → MS → Prop) (h : wX5_elementAt S x1 x2 Q) : Met l yX5_elementAt (wt yX5_elementAt cX5_elementAt 3 (some .int)) ({ frames := 2, cells := 0, slots := 0, locals := 43 }) (va_Pc [.ref (ad 44), .int x1, .int x2] (st_C g ad sz S)) (va_Qi (fun (r : Int32) (u : MS) => Q r u ∧ wfC u ∧ shy S u) (fun (u : MS) (t : State) => qEC g ad (va_A (WdC g ad S) sz) u t) (va_A (WdC g ad S) sz)) 0 0 (va_A (WdC g ad S) sz) := by
  refine Met.ofW (cc := cX5_elementAt) (maxL := 3) (ret := (some .int)) (by decide) rfl ?_
  intro p e s m args below meth c s₁ B hml hv
  obtain ⟨rfl, hsz, hP, hK, hD0, hex, hE⟩ := hv
  have hx := B.exec
  have hb := B.bytes
  have hr := B.returns
  have hts0 := atoms_spec (ws := wt yX5_elementAt cX5_elementAt 3 (some .int)) B.pre
  have hts : ∀ w ∈ tb, w.before _ s = true := fun w h => hts0 w (List.mem_cons_of_mem _ h)
  have hown : s.vm.findClass RX5 = some m.cls := findClass_of_methodNamed B.named
  subst hsz
  have hD := hD0.self (sz := s.heap.size)
  generalize hAe : va_A (WdC g ad S) s.heap.size = A at hD hE ⊢
  have hA : ∀ q : Nat, s.heap.size ≤ q → A q := fun q h => by rw [← hAe]; exact Or.inr h
  have hR : RepC g ad A s S s.heap [] := ⟨hK, hP, hD, va_S.rf, hw⟩
  clear hK hP hD hD0
  have hl := lv_entry ([.ref (ad 44), .int x1, .int x2]) (n := 3) (Nat.le_of_ble_eq_true rfl)
  rw [lg_entry_eq]
  generalize (lg_sl ([.ref (ad 44), .int x1, .int x2]) ++ List.replicate (3 - (lg_sl ([.ref (ad 44), .int x1, .int x2])).length) Slot.unset).toArray = ls at hl ⊢
  have hl : lv_has ls 3 [(0, .ref (ad 44)), (1, .int x1), (2, .int x2)] := hl
  have hsh : shy S S := shy.rf
  unfold wX5_elementAt at h
  refine lv_iload_n hx hb dX5_elementAt_0 rfl (lv_at hl 2 rfl) ?_
  have J_13 : ∀ (U13 : MS) (H : Heap) (locs : List Loc) (ls : Array Slot), w_X5_elementAt_J13 Q U13 → shy S U13 → RepC g ad A s U13 H locs → lv_has ls 3 [] → W p l e (headSpec (wt yX5_elementAt cX5_elementAt 3 (some .int)) ({ frames := 2, cells := 0, slots := 0, locals := 43 })).room s m ([.ref (ad 44), .int x1, .int x2] : List Value).toArray below meth c H locs 0 0 (MQ below (va_Qi (fun (r : Int32) (u : MS) => Q r u ∧ wfC u ∧ shy S u) (fun (u : MS) (t : State) => qEC g ad A u t) A) ([.ref (ad 44), .int x1, .int x2] : List Value).toArray s 0 0 A) (F0 m 13 ls []) := by
    intro U13 H locs ls h hsh hR hl
    unfold w_X5_elementAt_J13 at h
    replace h := h hR.w
    refine lv_iconst (v := 0) hx hb dX5_elementAt_13 (by decide) ?_
    refine lv_goto (tgt := 28) hx hb dX5_elementAt_14 (by decide) ?_
    exact W.iret (v := 0) hx hb hr (fun t9 ht9 hW9 => ⟨⟨_, U13, rfl, ⟨h, hR.w, hsh⟩, ⟨by rw [ht9]; exact hR.P, hR.D⟩⟩, hR.sS.F ht9⟩) hR.sS.2.2 dX5_elementAt_28
  refine lv_if_lt (tgt := 13) hx hb dX5_elementAt_1 (by decide) (fun c1 => ?_) (fun c1 => ?_)
  · replace h := h.1 (k_lt rfl (by decide) c1)
    exact J_13 S _ _ ls h  hsh hR (lv_sub hl [] rfl)
  · replace h := h.2 (k_nlt rfl (by decide) c1)
    refine lv_iload_n hx hb dX5_elementAt_4 rfl (lv_at hl 2 rfl) ?_
    refine lv_aload_n hx hb dX5_elementAt_5 rfl (lv_at hl 0 rfl) ?_
    refine lv_iload_n hx hb dX5_elementAt_6 rfl (lv_at hl 1 rfl) ?_
    obtain ⟨hv2, h⟩ := h
    have hFc := cfree hR hA
    refine va_calli (va_runV (As := [.int x1]) (rest := [.int x2]) ⟨hx, hb, hml, hown, hts⟩ (rX5_lengthOf l g ad s.heap.size S x1 hR.w  hv2) (cwV 1 hts (gd_V kw_1035 kw_1088 kw_1089 kw_398 kw_1087) rfl rfl rfl (by decide +kernel) ⟨Nat.le_of_ble_eq_true rfl, Nat.le_of_ble_eq_true rfl⟩) ⟨cblind, va_recv hR.K hR.P (ci := 5) (q0 := 44) rfl (hR.at45 (hR.w.2.1 _ finC_29).2.1), fun U hU hW9 => cmk hU hW9 hR hex hE hFc⟩ rfl rfl hl.1 rfl (lv_room (Nat.le_of_ble_eq_true rfl)) dX5_elementAt_7 ⟨Nat.le_of_ble_eq_true rfl, Nat.le_of_ble_eq_true rfl⟩) hR.sS (fun q _ h => hFc q h) hFc (fun r3 u9 t9 H1 locs ht9 hvm9 hw9 hB9 hz9 hk9 hS => ?_)
    have hR : RepC g ad A s S H1 locs := hR.call ht9 hB9 hR.w hS hFc
    obtain rfl : r3 = (fX5_lengthOf S x1) := hw9
    clear hB9 hz9 hk9 hvm9 ht9 hS
    generalize H1 = H at hR ⊢
    refine lv_icmp_lt (tgt := 17) hx hb dX5_elementAt_10 (by decide) (fun c5 => ?_) (fun c5 => ?_)
    · replace h := h.1 (k_lt rfl rfl c5)
      refine lv_aload_n hx hb dX5_elementAt_17 rfl (lv_at hl 0 rfl) ?_
      refine lv_aload_n hx hb dX5_elementAt_18 rfl (lv_at hl 0 rfl) ?_
      refine lv_iload_n hx hb dX5_elementAt_19 rfl (lv_at hl 1 rfl) ?_
      obtain ⟨hv6, h⟩ := h
      have hFc := cfree hR hA
      refine va_calli (va_runV (As := [.int x1]) (rest := [.ref (ad 44)]) ⟨hx, hb, hml, hown, hts⟩ (rX5_arrayStart l g ad H.size S x1 hR.w  hv6) (cwV 1 hts (gd_V kw_1036 kw_1006 kw_1007 kw_398 kw_1005) rfl rfl rfl (by decide +kernel) ⟨Nat.le_of_ble_eq_true rfl, Nat.le_of_ble_eq_true rfl⟩) ⟨cblind, va_recv hR.K hR.P (ci := 5) (q0 := 44) rfl (hR.at45 (hR.w.2.1 _ finC_29).2.1), fun U hU hW9 => cmk hU hW9 hR hex hE hFc⟩ rfl rfl hl.1 rfl (lv_room (Nat.le_of_ble_eq_true rfl)) dX5_elementAt_20 ⟨Nat.le_of_ble_eq_true rfl, Nat.le_of_ble_eq_true rfl⟩) hR.sS (fun q _ h => hFc q h) hFc (fun r7 u9 t9 H1 locs ht9 hvm9 hw9 hB9 hz9 hk9 hS => ?_)
      have hR : RepC g ad A s S H1 locs := hR.call ht9 hB9 hR.w hS hFc
      obtain rfl : r7 = (fX5_arrayStart S x1) := hw9
      clear hB9 hz9 hk9 hvm9 ht9 hS
      generalize H1 = H at hR ⊢
      refine lv_iload_n hx hb dX5_elementAt_23 rfl (lv_at hl 2 rfl) ?_
      refine lv_iadd hx hb dX5_elementAt_24 ?_
      refine lv_topi (fun z9 ez9 => ?_)
      obtain rfl : z9 = ((fX5_arrayStart S x1) + x2) := ez9
      obtain ⟨Q10, h0, h⟩ := h
      have hFc := cfree hR hA
      refine va_calli (va_runV (As := [.int ((fX5_arrayStart S x1) + x2)]) (rest := []) ⟨hx, hb, hml, hown, hts⟩ (rX5_heapAt l g ad H.size S ((fX5_arrayStart S x1) + x2) hR.w  Q10 h0) (cwV 1 hts (gd_V kw_1037 kw_1067 kw_1068 kw_398 kw_1066) rfl rfl rfl (by decide +kernel) ⟨Nat.le_of_ble_eq_true rfl, Nat.le_of_ble_eq_true rfl⟩) ⟨cblind, va_recv hR.K hR.P (ci := 5) (q0 := 44) rfl (hR.at45 (hR.w.2.1 _ finC_29).2.1), fun U hU hW9 => cmk hU hW9 hR hex hE hFc⟩ rfl rfl hl.1 rfl (lv_room (Nat.le_of_ble_eq_true rfl)) dX5_elementAt_25 ⟨Nat.le_of_ble_eq_true rfl, Nat.le_of_ble_eq_true rfl⟩) hR.sS (fun q _ h => hFc q h) hFc (fun r11 S12 t9 H1 locs ht9 hvm9 hw9 hB9 hz9 hk9 hS => ?_)
      obtain ⟨hq13, hw9, hs9⟩ := hw9
      have hR : RepC g ad A s S12 H1 locs := hR.call ht9 hB9 hw9 hS hFc
      have hsh := hsh.tr hs9
      replace h := h r11 S12 hq13 hw9 hs9
      clear hB9 hz9 hk9 hvm9 ht9 hw9 hs9 hS
      generalize H1 = H at hR ⊢
      exact W.iret (v := r11) hx hb hr (fun t9 ht9 hW9 => ⟨⟨_, S12, rfl, ⟨h, hR.w, hsh⟩, ⟨by rw [ht9]; exact hR.P, hR.D⟩⟩, hR.sS.F ht9⟩) hR.sS.2.2 dX5_elementAt_28
    · replace h := h.2 (k_nlt rfl rfl c5)
      exact J_13 S _ _ ls h  hsh hR (lv_sub hl [] rfl)
def w_X5_refusal_J110 (Q : Int32 → MS → Prop) (U110 : MS) : Prop := (wfC U110 → Q (-3 : Int32) U110)
def w_X5_refusal_J94 (Q : Int32 → MS → Prop) (k46 : MS → Int32 → Int32 → Int32 → Prop) (U94 : MS) (v94_2 : Int32) (v94_3 : Int32) (v94_4 : Int32) : Prop := (wfC U94 → (∀ a29 : Int32, a29 = (v94_4 + Int32.ofInt 1) → k46 U94 v94_2 v94_3 a29))
def w_X5_refusal_L46 (Q : Int32 → MS → Prop) : Nat → MS → Int32 → Int32 → Int32 → Prop
  | 0, _, _, _, _ => False
  | n46 + 1, U46, v46_2, v46_3, v46_4 => (wfC U46 → (((qI U46 44 7).toInt ≤ v46_4.toInt → ((v46_2.toInt < 0 → w_X5_refusal_J110 Q U46) ∧ (¬ v46_2.toInt < 0 → ((v46_2.toInt ≤ 50000 → Q (0 : Int32) U46) ∧ (¬ v46_2.toInt ≤ 50000 → w_X5_refusal_J110 Q U46))))) ∧ (¬ (qI U46 44 7).toInt ≤ v46_4.toInt → (∃ Q25, wX6_kindAt U46 v46_3 v46_4 Q25 ∧ ∀ r26 S27, Q25 r26 S27 → wfC S27 → shy U46 S27 → ((r26.toInt = 3 → (((0 : Int) ≤ v46_4.toInt ∧ v46_4.toInt < 8) ∧ (((lg_cmp (qJ S27 48 v46_4.toInt.toNat) 0).toInt = 0 → w_X5_refusal_J94 Q (w_X5_refusal_L46 Q n46) S27 v46_2 v46_3 v46_4) ∧ (¬ (lg_cmp (qJ S27 48 v46_4.toInt.toNat) 0).toInt = 0 → (((0 : Int) ≤ v46_4.toInt ∧ v46_4.toInt < 8) ∧ (d_X5_isArray S27 (qJ S27 48 v46_4.toInt.toNat) ∧ (((fX5_isArray S27 (qJ S27 48 v46_4.toInt.toNat)).toInt = 0 → Q (-2 : Int32) S27) ∧ (¬ (fX5_isArray S27 (qJ S27 48 v46_4.toInt.toNat)).toInt = 0 → w_X5_refusal_J94 Q (w_X5_refusal_L46 Q n46) S27 v46_2 v46_3 v46_4)))))))) ∧ (¬ r26.toInt = 3 → w_X5_refusal_J94 Q (w_X5_refusal_L46 Q n46) S27 v46_2 v46_3 v46_4))))))
def wX5_refusal (S : MS) (x1 : Int32) (x2 : Int32) (Q : Int32 → MS → Prop) : Prop := (((qR S 44 0) = none → Q (-1 : Int32) S) ∧ (¬ (qR S 44 0) = none → ((qR S 44 0 = some (qO S 44 0)) ∧ (qT S (qO S 44 0) = 49 → (∃ Q5, wX10_rowAt S (qO S 44 0) x1 Q5 ∧ ∀ b9 S7, Q5 b9 S7 → wfC S7 → shy S S7 → (∀ z, b9 = some z → qT S7 z = 47) → ((b9 = none → Q (-1 : Int32) S7) ∧ (¬ b9 = none → ((qR S7 44 0 = some (qO S7 44 0)) ∧ (d_X10_takesOfMethod S7 (qO S7 44 0) x1 ∧ (∀ a16 : Int32, a16 = (fX10_takesOfMethod S7 (qO S7 44 0) x1) → (∃ Q17, wX6_kindCount S7 a16 Q17 ∧ ∀ r18 S19, Q17 r18 S19 → wfC S19 → shy S7 S19 → ((r18.toInt = (qI S19 44 7).toInt → (∃ n, w_X5_refusal_L46 Q n S19 x2 a16 0)) ∧ (¬ r18.toInt = (qI S19 44 7).toInt → Q (-2 : Int32) S19)))))))))))))
set_option maxHeartbeats 2000000 in
set_option maxRecDepth 100000 in
theorem rX5_refusal (l : Launch) (g : Gr) (ad : Nat → Nat) (sz : Nat) (S : MS) (x1 : Int32) (x2 : Int32) (hw : wfC S) (Q : Int32 → MS → Prop) (h : wX5_refusal S x1 x2 Q) : Met l yX5_refusal (wt yX5_refusal cX5_refusal 5 (some .int)) ({ frames := 2, cells := 0, slots := 0, locals := 43 }) (va_Pc [.ref (ad 44), .int x1, .int x2] (st_C g ad sz S)) (va_Qi (fun (r : Int32) (u : MS) => Q r u ∧ wfC u ∧ shy S u) (fun (u : MS) (t : State) => qEC g ad (va_A (WdC g ad S) sz) u t) (va_A (WdC g ad S) sz)) 0 0 (va_A (WdC g ad S) sz) := by
  refine Met.ofW (cc := cX5_refusal) (maxL := 5) (ret := (some .int)) (by decide) rfl ?_
  intro p e s m args below meth c s₁ B hml hv
  obtain ⟨rfl, hsz, hP, hK, hD0, hex, hE⟩ := hv
  have hx := B.exec
  have hb := B.bytes
  have hr := B.returns
  have hts0 := atoms_spec (ws := wt yX5_refusal cX5_refusal 5 (some .int)) B.pre
  have hts : ∀ w ∈ tb, w.before _ s = true := fun w h => hts0 w (List.mem_cons_of_mem _ h)
  have hown : s.vm.findClass RX5 = some m.cls := findClass_of_methodNamed B.named
  subst hsz
  have hD := hD0.self (sz := s.heap.size)
  generalize hAe : va_A (WdC g ad S) s.heap.size = A at hD hE ⊢
  have hA : ∀ q : Nat, s.heap.size ≤ q → A q := fun q h => by rw [← hAe]; exact Or.inr h
  have hR : RepC g ad A s S s.heap [] := ⟨hK, hP, hD, va_S.rf, hw⟩
  clear hK hP hD hD0
  have hl := lv_entry ([.ref (ad 44), .int x1, .int x2]) (n := 5) (Nat.le_of_ble_eq_true rfl)
  rw [lg_entry_eq]
  generalize (lg_sl ([.ref (ad 44), .int x1, .int x2]) ++ List.replicate (5 - (lg_sl ([.ref (ad 44), .int x1, .int x2])).length) Slot.unset).toArray = ls at hl ⊢
  have hl : lv_has ls 5 [(0, .ref (ad 44)), (1, .int x1), (2, .int x2)] := hl
  have hsh : shy S S := shy.rf
  unfold wX5_refusal at h
  refine lv_aload_n hx hb dX5_refusal_0 rfl (lv_at hl 0 rfl) ?_
  have hO_o1 : ∀ z, (qR S 44 0) = some z → qT S z = 49 := fun z q => hR.w.ref q (hR.w.2.1 _ finC_29).2.1
  refine va_get (D := rD g) (ci := 5) (v := vf ad (qR S 44 0)) (C := RX5) (T := TX5) (N := 20) hx hb hts inX5 hown hR.K hR.P 44 (hR.at45 (hR.w.2.1 _ finC_29).2.1) rfl 0 (by decide) (hts _ kw_1027) (fun _ h9 => h9) rfl dX5_refusal_1 ?_
  rcases hq_b2 : (qR S 44 0) with _ | b2
  · skip
    replace h := h.1 (hq_b2)
    refine lv_ifnullN (tgt := 18) hx hb dX5_refusal_4 (by decide) ?_
    refine lv_iconst (v := (-1)) hx hb dX5_refusal_18 (by decide) ?_
    exact W.iret (v := (-1)) hx hb hr (fun t9 ht9 hW9 => ⟨⟨_, S, rfl, ⟨h, hR.w, hsh⟩, ⟨by rw [ht9]; exact hR.P, hR.D⟩⟩, hR.sS.F ht9⟩) hR.sS.2.2 dX5_refusal_19
  · have hg_b2 : b2 = ((qR S 44 0)).getD 0 := by rw [hq_b2]; rfl
    have hT_b2 : qT S (((qR S 44 0)).getD 0) = 49 := hg_b2 ▸ hO_o1 _ hq_b2
    subst hg_b2
    replace h := h.2 (fun q9 => Option.some_ne_none _ (hq_b2.symm.trans q9))
    refine lv_ifnull hx hb dX5_refusal_4 ?_
    refine lv_aload_n hx hb dX5_refusal_7 rfl (lv_at hl 0 rfl) ?_
    obtain ⟨hv4, h⟩ := h
    have hT_b3 : qT S (qO S 44 0) = 49 := hR.w.ref hv4 (hR.w.2.1 _ finC_29).2.1
    refine va_get (D := rD g) (ci := 5) (v := .ref (ad (qO S 44 0))) (C := RX5) (T := TX5) (N := 20) hx hb hts inX5 hown hR.K hR.P 44 (hR.at45 (hR.w.2.1 _ finC_29).2.1) rfl 0 (by decide) (hts _ kw_1027) (fun _ h9 => h9) (congrArg (fun z => some (vf ad z)) hv4) dX5_refusal_8 ?_
    refine lv_iload_n hx hb dX5_refusal_11 rfl (lv_at hl 1 rfl) ?_
    replace h := h (hT_b3)
    obtain ⟨Q5, h0, h⟩ := h
    have hFc := cfree hR hA
    refine va_callq (va_runV (As := [.int x1]) (rest := []) ⟨hx, hb, hml, hown, hts⟩ (rX10_rowAt l g ad s.heap.size S (qO S 44 0) x1 hR.w hT_b3 Q5 h0) (cwV 1 hts (gd_V kw_1029 kw_70 kw_71 kw_34 kw_69) rfl rfl rfl (by decide +kernel) ⟨Nat.le_of_ble_eq_true rfl, Nat.le_of_ble_eq_true rfl⟩) ⟨cblind, va_recv hR.K hR.P (ci := 9) (q0 := (qO S 44 0)) rfl (hR.at49 hT_b3), fun U hU hW9 => cmk hU hW9 hR hex hE hFc⟩ rfl rfl hl.1 rfl (lv_room (Nat.le_of_ble_eq_true rfl)) dX5_refusal_12 ⟨Nat.le_of_ble_eq_true rfl, Nat.le_of_ble_eq_true rfl⟩) hR.sS (fun q _ h => hFc q h) hFc (fun r6 S7 t9 H1 locs ht9 hvm9 hw9 hB9 hz9 hk9 hS => ?_)
    obtain ⟨b9, rfl, hq8, hw9, hs9, hO_b9⟩ := hw9
    have hR : RepC g ad A s S7 H1 locs := hR.call ht9 hB9 hw9 hS hFc
    have hsh := hsh.tr hs9
    replace h := h b9 S7 hq8 hw9 hs9 hO_b9
    clear hB9 hz9 hk9 hvm9 ht9 hw9 hs9 hS
    generalize H1 = H at hR ⊢
    rcases hq_b10 : b9 with _ | b10
    · skip
      replace h := h.1 (hq_b10)
      refine lv_ifnonnullN hx hb dX5_refusal_15 ?_
      refine lv_iconst (v := (-1)) hx hb dX5_refusal_18 (by decide) ?_
      exact W.iret (v := (-1)) hx hb hr (fun t9 ht9 hW9 => ⟨⟨_, S7, rfl, ⟨h, hR.w, hsh⟩, ⟨by rw [ht9]; exact hR.P, hR.D⟩⟩, hR.sS.F ht9⟩) hR.sS.2.2 dX5_refusal_19
    · have hg_b10 : b10 = (b9).getD 0 := by rw [hq_b10]; rfl
      have hT_b10 : qT S7 ((b9).getD 0) = 47 := hg_b10 ▸ hO_b9 _ hq_b10
      subst hg_b10
      replace h := h.2 (fun q9 => Option.some_ne_none _ (hq_b10.symm.trans q9))
      refine lv_ifnonnull (tgt := 20) hx hb dX5_refusal_15 (by decide) ?_
      refine lv_aload_n hx hb dX5_refusal_20 rfl (lv_at hl 0 rfl) ?_
      obtain ⟨hv12, h⟩ := h
      have hT_b11 : qT S7 (qO S7 44 0) = 49 := hR.w.ref hv12 (hR.w.2.1 _ finC_29).2.1
      refine va_get (D := rD g) (ci := 5) (v := .ref (ad (qO S7 44 0))) (C := RX5) (T := TX5) (N := 20) hx hb hts inX5 hown hR.K hR.P 44 (hR.at45 (hR.w.2.1 _ finC_29).2.1) rfl 0 (by decide) (hts _ kw_1027) (fun _ h9 => h9) (congrArg (fun z => some (vf ad z)) hv12) dX5_refusal_21 ?_
      refine lv_iload_n hx hb dX5_refusal_24 rfl (lv_at hl 1 rfl) ?_
      obtain ⟨hv13, h⟩ := h
      have hFc := cfree hR hA
      refine va_calli (va_runV (As := [.int x1]) (rest := []) ⟨hx, hb, hml, hown, hts⟩ (rX10_takesOfMethod l g ad H.size S7 (qO S7 44 0) x1 hR.w hT_b11 hv13) (cwV 1 hts (gd_V kw_1042 kw_78 kw_79 kw_34 kw_77) rfl rfl rfl (by decide +kernel) ⟨Nat.le_of_ble_eq_true rfl, Nat.le_of_ble_eq_true rfl⟩) ⟨cblind, va_recv hR.K hR.P (ci := 9) (q0 := (qO S7 44 0)) rfl (hR.at49 hT_b11), fun U hU hW9 => cmk hU hW9 hR hex hE hFc⟩ rfl rfl hl.1 rfl (lv_room (Nat.le_of_ble_eq_true rfl)) dX5_refusal_25 ⟨Nat.le_of_ble_eq_true rfl, Nat.le_of_ble_eq_true rfl⟩) hR.sS (fun q _ h => hFc q h) hFc (fun r14 u9 t9 H1 locs ht9 hvm9 hw9 hB9 hz9 hk9 hS => ?_)
      have hR : RepC g ad A s S7 H1 locs := hR.call ht9 hB9 hR.w hS hFc
      obtain rfl : r14 = (fX10_takesOfMethod S7 (qO S7 44 0) x1) := hw9
      clear hB9 hz9 hk9 hvm9 ht9 hS
      generalize H1 = H at hR ⊢
      obtain ⟨a16, ea16⟩ : ∃ z, z = (fX10_takesOfMethod S7 (qO S7 44 0) x1) := ⟨_, rfl⟩
      rw [← ea16]
      replace h := h a16 ea16
      refine lv_istore_n (lv' := [(3, .int a16), (0, .ref (ad 44)), (1, .int x1), (2, .int x2)]) hx hb dX5_refusal_28 rfl hl (by decide) rfl (fun ls hl => ?_)
      refine lv_iload_n hx hb dX5_refusal_29 rfl (lv_at hl 0 rfl) ?_
      obtain ⟨Q17, h0, h⟩ := h
      have hFc := cfree hR hA
      refine va_calli (va_runS (As := [.int a16]) (rest := []) ⟨hx, hb, hml, hown, hts⟩ (rX6_kindCount l g ad H.size S7 a16 hR.w  Q17 h0) (va_cwS 1 hts (gd_S kw_1142 kw_1242 kw_1207 kw_1241) rfl rfl rfl (by decide +kernel) ⟨Nat.le_of_ble_eq_true rfl, Nat.le_of_ble_eq_true rfl⟩) ⟨cblind, fun U hU hW9 => cmk hU hW9 hR hex hE hFc⟩ rfl rfl hl.1 rfl (lv_room (Nat.le_of_ble_eq_true rfl)) dX5_refusal_30 ⟨Nat.le_of_ble_eq_true rfl, Nat.le_of_ble_eq_true rfl⟩) hR.sS (fun q _ h => hFc q h) hFc (fun r18 S19 t9 H1 locs ht9 hvm9 hw9 hB9 hz9 hk9 hS => ?_)
      obtain ⟨hq20, hw9, hs9⟩ := hw9
      have hR : RepC g ad A s S19 H1 locs := hR.call ht9 hB9 hw9 hS hFc
      have hsh := hsh.tr hs9
      replace h := h r18 S19 hq20 hw9 hs9
      clear hB9 hz9 hk9 hvm9 ht9 hw9 hs9 hS
      generalize H1 = H at hR ⊢
      refine lv_aload_n hx hb dX5_refusal_33 rfl (lv_at hl 1 rfl) ?_
      refine va_get (D := rD g) (ci := 5) (v := .int (qI S19 44 7)) (C := RX5) (T := TX5) (N := 20) hx hb hts inX5 hown hR.K hR.P 44 (hR.at45 (hR.w.2.1 _ finC_29).2.1) rfl 7 (by decide) (hts _ kw_1003) (fun _ h9 => h9) rfl dX5_refusal_34 ?_
      refine lv_icmp_eq (tgt := 43) hx hb dX5_refusal_37 (by decide) (fun c21 => ?_) (fun c21 => ?_)
      · replace h := h.1 (k_eq rfl rfl c21)
        refine lv_iconst (v := 0) hx hb dX5_refusal_43 (by decide) ?_
        refine lv_istore (lv' := [(4, .int 0), (3, .int a16), (0, .ref (ad 44)), (1, .int x1), (2, .int x2)]) hx hb dX5_refusal_44 hl (by decide) rfl (fun ls hl => ?_)
        have J_46 : ∀ (n46 : Nat) (U46 : MS) (v46_2 : Int32) (v46_3 : Int32) (v46_4 : Int32) (H : Heap) (locs : List Loc) (ls : Array Slot), w_X5_refusal_L46 Q n46 U46 v46_2 v46_3 v46_4 → shy S U46 → RepC g ad A s U46 H locs → lv_has ls 5 [(0, .ref (ad 44)), (2, .int v46_2), (3, .int v46_3), (4, .int v46_4)] → W p l e (headSpec (wt yX5_refusal cX5_refusal 5 (some .int)) ({ frames := 2, cells := 0, slots := 0, locals := 43 })).room s m ([.ref (ad 44), .int x1, .int x2] : List Value).toArray below meth c H locs 0 0 (MQ below (va_Qi (fun (r : Int32) (u : MS) => Q r u ∧ wfC u ∧ shy S u) (fun (u : MS) (t : State) => qEC g ad A u t) A) ([.ref (ad 44), .int x1, .int x2] : List Value).toArray s 0 0 A) (F0 m 46 ls []) := by
          intro n46
          induction n46 with
          | zero => intro U46 v46_2 v46_3 v46_4 H locs ls h hsh hR hl; unfold w_X5_refusal_L46 at h; exact h.elim
          | succ n46 ih_46 =>
            intro U46 v46_2 v46_3 v46_4 H locs ls h hsh hR hl
            unfold w_X5_refusal_L46 at h
            replace h := h hR.w
            refine lv_iload hx hb dX5_refusal_46 (lv_at hl 3 rfl) ?_
            refine lv_aload_n hx hb dX5_refusal_48 rfl (lv_at hl 0 rfl) ?_
            refine va_get (D := rD g) (ci := 5) (v := .int (qI U46 44 7)) (C := RX5) (T := TX5) (N := 20) hx hb hts inX5 hown hR.K hR.P 44 (hR.at45 (hR.w.2.1 _ finC_29).2.1) rfl 7 (by decide) (hts _ kw_1003) (fun _ h9 => h9) rfl dX5_refusal_49 ?_
            refine lv_icmp_ge (tgt := 100) hx hb dX5_refusal_52 (by decide) (fun c22 => ?_) (fun c22 => ?_)
            · replace h := h.1 (k_le rfl rfl c22)
              refine lv_iload_n hx hb dX5_refusal_100 rfl (lv_at hl 1 rfl) ?_
              have J_110 : ∀ (U110 : MS) (H : Heap) (locs : List Loc) (ls : Array Slot), w_X5_refusal_J110 Q U110 → shy S U110 → RepC g ad A s U110 H locs → lv_has ls 5 [] → W p l e (headSpec (wt yX5_refusal cX5_refusal 5 (some .int)) ({ frames := 2, cells := 0, slots := 0, locals := 43 })).room s m ([.ref (ad 44), .int x1, .int x2] : List Value).toArray below meth c H locs 0 0 (MQ below (va_Qi (fun (r : Int32) (u : MS) => Q r u ∧ wfC u ∧ shy S u) (fun (u : MS) (t : State) => qEC g ad A u t) A) ([.ref (ad 44), .int x1, .int x2] : List Value).toArray s 0 0 A) (F0 m 110 ls []) := by
                intro U110 H locs ls h hsh hR hl
                unfold w_X5_refusal_J110 at h
                replace h := h hR.w
                refine lv_bipush (v := (-3)) hx hb dX5_refusal_110 (by decide) ?_
                refine lv_goto (tgt := 116) hx hb dX5_refusal_112 (by decide) ?_
                exact W.iret (v := (-3)) hx hb hr (fun t9 ht9 hW9 => ⟨⟨_, U110, rfl, ⟨h, hR.w, hsh⟩, ⟨by rw [ht9]; exact hR.P, hR.D⟩⟩, hR.sS.F ht9⟩) hR.sS.2.2 dX5_refusal_116
              refine lv_if_lt (tgt := 110) hx hb dX5_refusal_101 (by decide) (fun c23 => ?_) (fun c23 => ?_)
              · replace h := h.1 (k_lt rfl (by decide) c23)
                exact J_110 U46 _ _ ls h  hsh hR (lv_sub hl [] rfl)
              · replace h := h.2 (k_nlt rfl (by decide) c23)
                refine lv_iload_n hx hb dX5_refusal_104 rfl (lv_at hl 1 rfl) ?_
                refine lv_ldc hx hb hown (hts _ kw_1143) dX5_refusal_105 ?_
                refine lv_icmp_le (tgt := 115) hx hb dX5_refusal_107 (by decide) (fun c24 => ?_) (fun c24 => ?_)
                · replace h := h.1 (k_le rfl (by decide) c24)
                  refine lv_iconst (v := 0) hx hb dX5_refusal_115 (by decide) ?_
                  exact W.iret (v := 0) hx hb hr (fun t9 ht9 hW9 => ⟨⟨_, U46, rfl, ⟨h, hR.w, hsh⟩, ⟨by rw [ht9]; exact hR.P, hR.D⟩⟩, hR.sS.F ht9⟩) hR.sS.2.2 dX5_refusal_116
                · replace h := h.2 (k_nle rfl (by decide) c24)
                  exact J_110 U46 _ _ ls h  hsh hR (lv_sub hl [] rfl)
            · replace h := h.2 (k_nle rfl rfl c22)
              refine lv_iload_n hx hb dX5_refusal_55 rfl (lv_at hl 2 rfl) ?_
              refine lv_iload hx hb dX5_refusal_56 (lv_at hl 3 rfl) ?_
              obtain ⟨Q25, h0, h⟩ := h
              have hFc := cfree hR hA
              refine va_calli (va_runS (As := [.int v46_3, .int v46_4]) (rest := []) ⟨hx, hb, hml, hown, hts⟩ (rX6_kindAt l g ad H.size U46 v46_3 v46_4 hR.w  Q25 h0) (va_cwS 2 hts (gd_S kw_1116 kw_1239 kw_1207 kw_1238) rfl rfl rfl (by decide +kernel) ⟨Nat.le_of_ble_eq_true rfl, Nat.le_of_ble_eq_true rfl⟩) ⟨cblind, fun U hU hW9 => cmk hU hW9 hR hex hE hFc⟩ rfl rfl hl.1 rfl (lv_room (Nat.le_of_ble_eq_true rfl)) dX5_refusal_58 ⟨Nat.le_of_ble_eq_true rfl, Nat.le_of_ble_eq_true rfl⟩) hR.sS (fun q _ h => hFc q h) hFc (fun r26 S27 t9 H1 locs ht9 hvm9 hw9 hB9 hz9 hk9 hS => ?_)
              obtain ⟨hq28, hw9, hs9⟩ := hw9
              have hR : RepC g ad A s S27 H1 locs := hR.call ht9 hB9 hw9 hS hFc
              have hsh := hsh.tr hs9
              replace h := h r26 S27 hq28 hw9 hs9
              clear hB9 hz9 hk9 hvm9 ht9 hw9 hs9 hS
              generalize H1 = H at hR ⊢
              refine lv_iconst (v := 3) hx hb dX5_refusal_61 (by decide) ?_
              have J_94 : ∀ (U94 : MS) (v94_2 : Int32) (v94_3 : Int32) (v94_4 : Int32) (H : Heap) (locs : List Loc) (ls : Array Slot), w_X5_refusal_J94 Q (w_X5_refusal_L46 Q n46) U94 v94_2 v94_3 v94_4 → shy S U94 → RepC g ad A s U94 H locs → lv_has ls 5 [(0, .ref (ad 44)), (2, .int v94_2), (3, .int v94_3), (4, .int v94_4)] → W p l e (headSpec (wt yX5_refusal cX5_refusal 5 (some .int)) ({ frames := 2, cells := 0, slots := 0, locals := 43 })).room s m ([.ref (ad 44), .int x1, .int x2] : List Value).toArray below meth c H locs 0 0 (MQ below (va_Qi (fun (r : Int32) (u : MS) => Q r u ∧ wfC u ∧ shy S u) (fun (u : MS) (t : State) => qEC g ad A u t) A) ([.ref (ad 44), .int x1, .int x2] : List Value).toArray s 0 0 A) (F0 m 94 ls []) := by
                intro U94 v94_2 v94_3 v94_4 H locs ls h hsh hR hl
                unfold w_X5_refusal_J94 at h
                replace h := h hR.w
                obtain ⟨a29, ea29⟩ : ∃ z, z = (v94_4 + Int32.ofInt 1) := ⟨_, rfl⟩
                replace h := h a29 ea29
                refine lv_iinc (v := a29) (lv' := [(4, .int a29), (0, .ref (ad 44)), (2, .int v94_2), (3, .int v94_3)]) hx hb dX5_refusal_94 hl (k := 3) rfl ea29.symm (by decide) rfl (fun ls hl => ?_)
                refine lv_goto (tgt := 46) hx hb dX5_refusal_97 (by decide) ?_
                exact ih_46 U94 v94_2 v94_3 a29 _ _ ls h  hsh hR (lv_sub hl [1, 2, 3, 0] rfl)
              refine lv_icmp_ne (tgt := 94) hx hb dX5_refusal_62 (by decide) (fun c30 => ?_) (fun c30 => ?_)
              · replace h := h.2 (k_ne rfl (by decide) c30)
                exact J_94 S27 v46_2 v46_3 v46_4 _ _ ls h  hsh hR (lv_sub hl [0, 1, 2, 3] rfl)
              · replace h := h.1 (k_eq rfl (by decide) c30)
                refine lv_aload_n hx hb dX5_refusal_65 rfl (lv_at hl 0 rfl) ?_
                refine va_get (D := rD g) (ci := 5) (v := .ref (ad 48)) (C := RX5) (T := TX5) (N := 20) hx hb hts inX5 hown hR.K hR.P 44 (hR.at45 (hR.w.2.1 _ finC_29).2.1) rfl 6 (by decide) (hts _ kw_1004) (fun _ h9 => h9) (congrArg (fun z => some (vf ad z)) (hR.w.2.1 _ finC_5).1) dX5_refusal_66 ?_
                refine lv_iload hx hb dX5_refusal_69 (lv_at hl 3 rfl) ?_
                obtain ⟨hv31, h⟩ := h
                refine va_lald hx hb hR.K hR.P 48 3 (hR.atL (hR.w.2.1 _ finC_5).2.1 (by decide)) rfl (k_ixN (k_ix (n := 8) (x := v46_4) (a := v46_4.toInt) rfl hv31) (hR.w.2.1 _ finC_5).2.2) dX5_refusal_71 ?_
                refine lv_topl (fun z32 ez32 => ?_)
                obtain rfl : z32 = (qJ S27 48 v46_4.toInt.toNat) := ez32
                refine lv_lconst (v := 0) hx hb dX5_refusal_72 (by decide) ?_
                refine W.lcmp hx hb dX5_refusal_73 ?_
                refine lv_topi (fun z33 ez33 => ?_)
                obtain rfl : z33 = (lg_cmp (qJ S27 48 v46_4.toInt.toNat) 0) := ez33
                refine lv_if_eq (tgt := 94) hx hb dX5_refusal_74 (by decide) (fun c34 => ?_) (fun c34 => ?_)
                · replace h := h.1 (k_eq rfl (by decide) c34)
                  exact J_94 S27 v46_2 v46_3 v46_4 _ _ ls h  hsh hR (lv_sub hl [0, 1, 2, 3] rfl)
                · replace h := h.2 (k_ne rfl (by decide) c34)
                  refine lv_aload_n hx hb dX5_refusal_77 rfl (lv_at hl 0 rfl) ?_
                  refine lv_aload_n hx hb dX5_refusal_78 rfl (lv_at hl 0 rfl) ?_
                  refine va_get (D := rD g) (ci := 5) (v := .ref (ad 48)) (C := RX5) (T := TX5) (N := 20) hx hb hts inX5 hown hR.K hR.P 44 (hR.at45 (hR.w.2.1 _ finC_29).2.1) rfl 6 (by decide) (hts _ kw_1004) (fun _ h9 => h9) (congrArg (fun z => some (vf ad z)) (hR.w.2.1 _ finC_5).1) dX5_refusal_79 ?_
                  refine lv_iload hx hb dX5_refusal_82 (lv_at hl 3 rfl) ?_
                  obtain ⟨hv35, h⟩ := h
                  refine va_lald hx hb hR.K hR.P 48 3 (hR.atL (hR.w.2.1 _ finC_5).2.1 (by decide)) rfl (k_ixN (k_ix (n := 8) (x := v46_4) (a := v46_4.toInt) rfl hv35) (hR.w.2.1 _ finC_5).2.2) dX5_refusal_84 ?_
                  refine lv_topl (fun z36 ez36 => ?_)
                  obtain rfl : z36 = (qJ S27 48 v46_4.toInt.toNat) := ez36
                  obtain ⟨hv37, h⟩ := h
                  have hFc := cfree hR hA
                  refine va_calli (va_runV (As := [.long (qJ S27 48 v46_4.toInt.toNat)]) (rest := []) ⟨hx, hb, hml, hown, hts⟩ (rX5_isArray l g ad H.size S27 (qJ S27 48 v46_4.toInt.toNat) hR.w  hv37) (cwV 1 hts (gd_V kw_1090 kw_1075 kw_1076 kw_398 kw_1074) rfl rfl rfl (by decide +kernel) ⟨Nat.le_of_ble_eq_true rfl, Nat.le_of_ble_eq_true rfl⟩) ⟨cblind, va_recv hR.K hR.P (ci := 5) (q0 := 44) rfl (hR.at45 (hR.w.2.1 _ finC_29).2.1), fun U hU hW9 => cmk hU hW9 hR hex hE hFc⟩ rfl rfl hl.1 rfl (lv_room (Nat.le_of_ble_eq_true rfl)) dX5_refusal_85 ⟨Nat.le_of_ble_eq_true rfl, Nat.le_of_ble_eq_true rfl⟩) hR.sS (fun q _ h => hFc q h) hFc (fun r38 u9 t9 H1 locs ht9 hvm9 hw9 hB9 hz9 hk9 hS => ?_)
                  have hR : RepC g ad A s S27 H1 locs := hR.call ht9 hB9 hR.w hS hFc
                  obtain ⟨rfl, hz_r38⟩ := hw9
                  clear hB9 hz9 hk9 hvm9 ht9 hS
                  generalize H1 = H at hR ⊢
                  refine lv_if_ne (tgt := 94) hx hb dX5_refusal_88 (by decide) (fun c40 => ?_) (fun c40 => ?_)
                  · replace h := h.2 (k_ne rfl (by decide) c40)
                    exact J_94 S27 v46_2 v46_3 v46_4 _ _ ls h  hsh hR (lv_sub hl [0, 1, 2, 3] rfl)
                  · replace h := h.1 (k_eq rfl (by decide) c40)
                    refine lv_bipush (v := (-2)) hx hb dX5_refusal_91 (by decide) ?_
                    exact W.iret (v := (-2)) hx hb hr (fun t9 ht9 hW9 => ⟨⟨_, S27, rfl, ⟨h, hR.w, hsh⟩, ⟨by rw [ht9]; exact hR.P, hR.D⟩⟩, hR.sS.F ht9⟩) hR.sS.2.2 dX5_refusal_93
        obtain ⟨n9, h⟩ := h
        exact J_46 n9 S19 x2 a16 0 _ _ ls h  hsh hR (lv_sub hl [2, 4, 1, 0] rfl)
      · replace h := h.2 (k_ne rfl rfl c21)
        refine lv_bipush (v := (-2)) hx hb dX5_refusal_40 (by decide) ?_
        exact W.iret (v := (-2)) hx hb hr (fun t9 ht9 hW9 => ⟨⟨_, S19, rfl, ⟨h, hR.w, hsh⟩, ⟨by rw [ht9]; exact hR.P, hR.D⟩⟩, hR.sS.F ht9⟩) hR.sS.2.2 dX5_refusal_42
def wX5_openFrame (S : MS) (x1 : Int32) (Q : MS → Prop) : Prop := ((qR S 44 0 = some (qO S 44 0)) ∧ (qT S (qO S 44 0) = 49 → (∃ Q3, wX10_rowAt S (qO S 44 0) x1 Q3 ∧ ∀ b7 S5, Q3 b7 S5 → wfC S5 → shy S S5 → (∀ z, b7 = some z → qT S5 z = 47) → (∀ S8, S8 = wR S5 44 12 b7 → qT S5 44 = 45 → wfC S8 → (∀ S9, S9 = wI S8 44 13 (0 : Int32) → qT S8 44 = 45 → wfC S9 → (∀ S10, S10 = wI S9 44 14 (0 : Int32) → qT S9 44 = 45 → wfC S10 → (∃ Q11, wX5_setFrame S10 (0 : Int32) x1 Q11 ∧ ∀ S12, Q11 S12 → wfC S12 → shy S10 S12 → Q S12)))))))
set_option maxHeartbeats 2000000 in
set_option maxRecDepth 100000 in
theorem rX5_openFrame (l : Launch) (g : Gr) (ad : Nat → Nat) (sz : Nat) (S : MS) (x1 : Int32) (hw : wfC S) (Q : MS → Prop) (h : wX5_openFrame S x1 Q) : Met l yX5_openFrame (wt yX5_openFrame cX5_openFrame 2 none) ({ frames := 1, cells := 0, slots := 0, locals := 22 }) (va_Pc [.ref (ad 44), .int x1] (st_C g ad sz S)) (va_Qv (fun (u : MS) => Q u ∧ wfC u ∧ shy S u) (fun (u : MS) (t : State) => qEC g ad (va_A (WdC g ad S) sz) u t) (va_A (WdC g ad S) sz)) 0 0 (va_A (WdC g ad S) sz) := by
  refine Met.ofW (cc := cX5_openFrame) (maxL := 2) (ret := none) (by decide) rfl ?_
  intro p e s m args below meth c s₁ B hml hv
  obtain ⟨rfl, hsz, hP, hK, hD0, hex, hE⟩ := hv
  have hx := B.exec
  have hb := B.bytes
  have hr := B.returns
  have hts0 := atoms_spec (ws := wt yX5_openFrame cX5_openFrame 2 none) B.pre
  have hts : ∀ w ∈ tb, w.before _ s = true := fun w h => hts0 w (List.mem_cons_of_mem _ h)
  have hown : s.vm.findClass RX5 = some m.cls := findClass_of_methodNamed B.named
  subst hsz
  have hD := hD0.self (sz := s.heap.size)
  generalize hAe : va_A (WdC g ad S) s.heap.size = A at hD hE ⊢
  have hA : ∀ q : Nat, s.heap.size ≤ q → A q := fun q h => by rw [← hAe]; exact Or.inr h
  have hR : RepC g ad A s S s.heap [] := ⟨hK, hP, hD, va_S.rf, hw⟩
  clear hK hP hD hD0
  have hl := lv_entry ([.ref (ad 44), .int x1]) (n := 2) (Nat.le_of_ble_eq_true rfl)
  rw [lg_entry_eq]
  generalize (lg_sl ([.ref (ad 44), .int x1]) ++ List.replicate (2 - (lg_sl ([.ref (ad 44), .int x1])).length) Slot.unset).toArray = ls at hl ⊢
  have hl : lv_has ls 2 [(0, .ref (ad 44)), (1, .int x1)] := hl
  have hsh : shy S S := shy.rf
  unfold wX5_openFrame at h
  refine lv_aload_n hx hb dX5_openFrame_0 rfl (lv_at hl 0 rfl) ?_
  refine lv_aload_n hx hb dX5_openFrame_1 rfl (lv_at hl 0 rfl) ?_
  obtain ⟨hv2, h⟩ := h
  have hT_b1 : qT S (qO S 44 0) = 49 := hR.w.ref hv2 (hR.w.2.1 _ finC_29).2.1
  refine va_get (D := rD g) (ci := 5) (v := .ref (ad (qO S 44 0))) (C := RX5) (T := TX5) (N := 20) hx hb hts inX5 hown hR.K hR.P 44 (hR.at45 (hR.w.2.1 _ finC_29).2.1) rfl 0 (by decide) (hts _ kw_1027) (fun _ h9 => h9) (congrArg (fun z => some (vf ad z)) hv2) dX5_openFrame_2 ?_
  refine lv_iload_n hx hb dX5_openFrame_5 rfl (lv_at hl 1 rfl) ?_
  replace h := h (hT_b1)
  obtain ⟨Q3, h0, h⟩ := h
  have hFc := cfree hR hA
  refine va_callq (va_runV (As := [.int x1]) (rest := [.ref (ad 44)]) ⟨hx, hb, hml, hown, hts⟩ (rX10_rowAt l g ad s.heap.size S (qO S 44 0) x1 hR.w hT_b1 Q3 h0) (cwV 1 hts (gd_V kw_1029 kw_70 kw_71 kw_34 kw_69) rfl rfl rfl (by decide +kernel) ⟨Nat.le_of_ble_eq_true rfl, Nat.le_of_ble_eq_true rfl⟩) ⟨cblind, va_recv hR.K hR.P (ci := 9) (q0 := (qO S 44 0)) rfl (hR.at49 hT_b1), fun U hU hW9 => cmk hU hW9 hR hex hE hFc⟩ rfl rfl hl.1 rfl (lv_room (Nat.le_of_ble_eq_true rfl)) dX5_openFrame_6 ⟨Nat.le_of_ble_eq_true rfl, Nat.le_of_ble_eq_true rfl⟩) hR.sS (fun q _ h => hFc q h) hFc (fun r4 S5 t9 H1 locs ht9 hvm9 hw9 hB9 hz9 hk9 hS => ?_)
  obtain ⟨b7, rfl, hq6, hw9, hs9, hO_b7⟩ := hw9
  have hR : RepC g ad A s S5 H1 locs := hR.call ht9 hB9 hw9 hS hFc
  have hsh := hsh.tr hs9
  replace h := h b7 S5 hq6 hw9 hs9 hO_b7
  clear hB9 hz9 hk9 hvm9 ht9 hw9 hs9 hS
  generalize H1 = H at hR ⊢
  refine va_put (D := rD g) (ci := 5) (v := vf ad b7) (ty := (.object "CodeFoundry$Row")) (C := RX5) (T := TX5) (N := 20) hx hb hts inX5 tyX5 tyX5_ok nmX5 hown hR.K hR.P hR.D hR.sS 44 (hR.at45 (hR.w.2.1 _ finC_29).2.1) rfl 12 (by decide) (hts _ kw_1030) (fun _ h9 => h9) rfl (by decide +kernel) (by cases b7 <;> rfl) (by cases b7 <;> rfl) (Nat.le_of_ble_eq_true rfl) dX5_openFrame_9 (fun H locs hP hD hS => ?_)
  have hw9 : wfC (wR S5 44 12 b7) := hR.w.put (fun b q9 => (hO_b7 b q9).trans (by rw [(hR.w.2.1 _ finC_29).2.1]; rfl)) (nofC_44_12) (by rw [(hR.w.2.1 _ finC_29).2.1]; decide) (fun b _ q9 => absurd (show otgC (qT S5 44) 12 = 0 by rw [(hR.w.2.1 _ finC_29).2.1]; decide) q9) (fun q9 => absurd q9 nopC_44_12)
  have hTk9 : qT S5 44 = 45 := (hR.w.2.1 _ finC_29).2.1
  have hR : RepC g ad A s (wR S5 44 12 b7) H locs := hR.pR45 (hR.w.2.1 _ finC_29).2.1 FX5_s12 hw9 hP hD hS
  obtain ⟨S8, eS8⟩ : ∃ z, z = wR S5 44 12 b7 := ⟨_, rfl⟩
  rw [← eS8] at hR
  replace h := h S8 eS8 hTk9 hR.w
  have hsh : shy S S8 := by rw [eS8]; exact hsh
  refine lv_aload_n hx hb dX5_openFrame_12 rfl (lv_at hl 0 rfl) ?_
  refine lv_iconst (v := 0) hx hb dX5_openFrame_13 (by decide) ?_
  refine va_put (D := rD g) (ci := 5) (v := .int 0) (ty := .int) (C := RX5) (T := TX5) (N := 20) hx hb hts inX5 tyX5 tyX5_ok nmX5 hown hR.K hR.P hR.D hR.sS 44 (hR.at45 (hR.w.2.1 _ finC_29).2.1) rfl 13 (by decide) (hts _ kw_1021) (fun _ h9 => h9) rfl (by decide +kernel) rfl rfl (Nat.le_of_ble_eq_true rfl) dX5_openFrame_14 (fun H locs hP hD hS => ?_)
  have hTk9 : qT S8 44 = 45 := (hR.w.2.1 _ finC_29).2.1
  have hR : RepC g ad A s (wI S8 44 13 (0 : Int32)) H locs := hR.pI45 (hR.w.2.1 _ finC_29).2.1 FX5_s13 (fun q9 => absurd q9 (by decide)) hP hD hS
  obtain ⟨S9, eS9⟩ : ∃ z, z = wI S8 44 13 (0 : Int32) := ⟨_, rfl⟩
  rw [← eS9] at hR
  replace h := h S9 eS9 hTk9 hR.w
  have hsh : shy S S9 := by rw [eS9]; exact hsh
  refine lv_aload_n hx hb dX5_openFrame_17 rfl (lv_at hl 0 rfl) ?_
  refine lv_iconst (v := 0) hx hb dX5_openFrame_18 (by decide) ?_
  refine va_put (D := rD g) (ci := 5) (v := .int 0) (ty := .int) (C := RX5) (T := TX5) (N := 20) hx hb hts inX5 tyX5 tyX5_ok nmX5 hown hR.K hR.P hR.D hR.sS 44 (hR.at45 (hR.w.2.1 _ finC_29).2.1) rfl 14 (by decide) (hts _ kw_1031) (fun _ h9 => h9) rfl (by decide +kernel) rfl rfl (Nat.le_of_ble_eq_true rfl) dX5_openFrame_19 (fun H locs hP hD hS => ?_)
  have hTk9 : qT S9 44 = 45 := (hR.w.2.1 _ finC_29).2.1
  have hR : RepC g ad A s (wI S9 44 14 (0 : Int32)) H locs := hR.pI45 (hR.w.2.1 _ finC_29).2.1 FX5_s14 (fun q9 => absurd q9 (by decide)) hP hD hS
  obtain ⟨S10, eS10⟩ : ∃ z, z = wI S9 44 14 (0 : Int32) := ⟨_, rfl⟩
  rw [← eS10] at hR
  replace h := h S10 eS10 hTk9 hR.w
  have hsh : shy S S10 := by rw [eS10]; exact hsh
  refine lv_aload_n hx hb dX5_openFrame_22 rfl (lv_at hl 0 rfl) ?_
  refine lv_iconst (v := 0) hx hb dX5_openFrame_23 (by decide) ?_
  refine lv_iload_n hx hb dX5_openFrame_24 rfl (lv_at hl 1 rfl) ?_
  obtain ⟨Q11, h0, h⟩ := h
  have hFc := cfree hR hA
  refine va_callv (va_runV (As := [.int 0, .int x1]) (rest := []) ⟨hx, hb, hml, hown, hts⟩ (rX5_setFrame l g ad H.size S10 (0 : Int32) x1 hR.w  Q11 h0) (cwV 2 hts (gd_V kw_1048 kw_1148 kw_1149 kw_398 kw_1147) rfl rfl rfl (by decide +kernel) ⟨Nat.le_of_ble_eq_true rfl, Nat.le_of_ble_eq_true rfl⟩) ⟨cblind, va_recv hR.K hR.P (ci := 5) (q0 := 44) rfl (hR.at45 (hR.w.2.1 _ finC_29).2.1), fun U hU hW9 => cmk hU hW9 hR hex hE hFc⟩ rfl rfl hl.1 rfl (lv_room (Nat.le_of_ble_eq_true rfl)) dX5_openFrame_25 ⟨Nat.le_of_ble_eq_true rfl, Nat.le_of_ble_eq_true rfl⟩) hR.sS (fun q _ h => hFc q h) hFc (fun  S12 t9 H1 locs ht9 hvm9 hw9 hB9 hz9 hk9 hS => ?_)
  obtain ⟨hq13, hw9, hs9⟩ := hw9
  have hR : RepC g ad A s S12 H1 locs := hR.call ht9 hB9 hw9 hS hFc
  have hsh := hsh.tr hs9
  replace h := h  S12 hq13 hw9 hs9
  clear hB9 hz9 hk9 hvm9 ht9 hw9 hs9 hS
  generalize H1 = H at hR ⊢
  exact W.vret hx hb hr (fun t9 ht9 hW9 => ⟨⟨S12, rfl, ⟨h, hR.w, hsh⟩, ⟨by rw [ht9]; exact hR.P, hR.D⟩⟩, hR.sS.F ht9⟩) hR.sS.2.2 dX5_openFrame_28
def w_X5_passArguments_J59 (Q : MS → Prop) (k4 : MS → Int32 → Int32 → Int32 → Prop) (U59 : MS) (t59_0 : Int32) (t59_1 : Int32) (v59_1 : Int32) (v59_3 : Int32) : Prop := (wfC U59 → (∀ a10 : Int32, a10 = (t59_1 + t59_0) → (∀ a11 : Int32, a11 = (v59_3 + Int32.ofInt 1) → k4 U59 v59_1 a10 a11)))
def w_X5_passArguments_J44 (Q : MS → Prop) (k4 : MS → Int32 → Int32 → Int32 → Prop) (U44 : MS) (t44_0 : Int64) (t44_1 : Int32) (v44_1 : Int32) (v44_2 : Int32) (v44_3 : Int32) (v44_4 : Int32) : Prop := (wfC U44 → (∃ Q6, wX5_setLocal U44 t44_1 t44_0 Q6 ∧ ∀ S7, Q6 S7 → wfC S7 → shy U44 S7 → ((v44_4.toInt = 2 → w_X5_passArguments_J59 Q k4 S7 2 v44_2 v44_1 v44_3) ∧ (¬ v44_4.toInt = 2 → w_X5_passArguments_J59 Q k4 S7 1 v44_2 v44_1 v44_3))))
def w_X5_passArguments_L4 (Q : MS → Prop) : Nat → MS → Int32 → Int32 → Int32 → Prop
  | 0, _, _, _, _ => False
  | n4 + 1, U4, v4_1, v4_2, v4_3 => (wfC U4 → (((qI U4 44 7).toInt ≤ v4_3.toInt → Q U4) ∧ (¬ (qI U4 44 7).toInt ≤ v4_3.toInt → (∃ Q2, wX6_kindAt U4 v4_1 v4_3 Q2 ∧ ∀ r3 S4, Q2 r3 S4 → wfC S4 → shy U4 S4 → ((r3.toInt = 1 → (((0 : Int) ≤ v4_3.toInt ∧ v4_3.toInt < 8) ∧ w_X5_passArguments_J44 Q (w_X5_passArguments_L4 Q n4) S4 (((qJ S4 48 v4_3.toInt.toNat).toInt32).toInt64) v4_2 v4_1 v4_2 v4_3 r3)) ∧ (¬ r3.toInt = 1 → (((0 : Int) ≤ v4_3.toInt ∧ v4_3.toInt < 8) ∧ w_X5_passArguments_J44 Q (w_X5_passArguments_L4 Q n4) S4 (qJ S4 48 v4_3.toInt.toNat) v4_2 v4_1 v4_2 v4_3 r3)))))))
def wX5_passArguments (S : MS) (x1 : Int32) (Q : MS → Prop) : Prop := (∃ n, w_X5_passArguments_L4 Q n S x1 0 0)
set_option maxHeartbeats 2000000 in
set_option maxRecDepth 100000 in
theorem rX5_passArguments (l : Launch) (g : Gr) (ad : Nat → Nat) (sz : Nat) (S : MS) (x1 : Int32) (hw : wfC S) (Q : MS → Prop) (h : wX5_passArguments S x1 Q) : Met l yX5_passArguments (wt yX5_passArguments cX5_passArguments 5 none) ({ frames := 2, cells := 0, slots := 0, locals := 43 }) (va_Pc [.ref (ad 44), .int x1] (st_C g ad sz S)) (va_Qv (fun (u : MS) => Q u ∧ wfC u ∧ shy S u) (fun (u : MS) (t : State) => qEC g ad (va_A (WdC g ad S) sz) u t) (va_A (WdC g ad S) sz)) 0 0 (va_A (WdC g ad S) sz) := by
  refine Met.ofW (cc := cX5_passArguments) (maxL := 5) (ret := none) (by decide) rfl ?_
  intro p e s m args below meth c s₁ B hml hv
  obtain ⟨rfl, hsz, hP, hK, hD0, hex, hE⟩ := hv
  have hx := B.exec
  have hb := B.bytes
  have hr := B.returns
  have hts0 := atoms_spec (ws := wt yX5_passArguments cX5_passArguments 5 none) B.pre
  have hts : ∀ w ∈ tb, w.before _ s = true := fun w h => hts0 w (List.mem_cons_of_mem _ h)
  have hown : s.vm.findClass RX5 = some m.cls := findClass_of_methodNamed B.named
  subst hsz
  have hD := hD0.self (sz := s.heap.size)
  generalize hAe : va_A (WdC g ad S) s.heap.size = A at hD hE ⊢
  have hA : ∀ q : Nat, s.heap.size ≤ q → A q := fun q h => by rw [← hAe]; exact Or.inr h
  have hR : RepC g ad A s S s.heap [] := ⟨hK, hP, hD, va_S.rf, hw⟩
  clear hK hP hD hD0
  have hl := lv_entry ([.ref (ad 44), .int x1]) (n := 5) (Nat.le_of_ble_eq_true rfl)
  rw [lg_entry_eq]
  generalize (lg_sl ([.ref (ad 44), .int x1]) ++ List.replicate (5 - (lg_sl ([.ref (ad 44), .int x1])).length) Slot.unset).toArray = ls at hl ⊢
  have hl : lv_has ls 5 [(0, .ref (ad 44)), (1, .int x1)] := hl
  have hsh : shy S S := shy.rf
  unfold wX5_passArguments at h
  refine lv_iconst (v := 0) hx hb dX5_passArguments_0 (by decide) ?_
  refine lv_istore_n (lv' := [(2, .int 0), (0, .ref (ad 44)), (1, .int x1)]) hx hb dX5_passArguments_1 rfl hl (by decide) rfl (fun ls hl => ?_)
  refine lv_iconst (v := 0) hx hb dX5_passArguments_2 (by decide) ?_
  refine lv_istore_n (lv' := [(3, .int 0), (2, .int 0), (0, .ref (ad 44)), (1, .int x1)]) hx hb dX5_passArguments_3 rfl hl (by decide) rfl (fun ls hl => ?_)
  have J_4 : ∀ (n4 : Nat) (U4 : MS) (v4_1 : Int32) (v4_2 : Int32) (v4_3 : Int32) (H : Heap) (locs : List Loc) (ls : Array Slot), w_X5_passArguments_L4 Q n4 U4 v4_1 v4_2 v4_3 → shy S U4 → RepC g ad A s U4 H locs → lv_has ls 5 [(0, .ref (ad 44)), (1, .int v4_1), (2, .int v4_2), (3, .int v4_3)] → W p l e (headSpec (wt yX5_passArguments cX5_passArguments 5 none) ({ frames := 2, cells := 0, slots := 0, locals := 43 })).room s m ([.ref (ad 44), .int x1] : List Value).toArray below meth c H locs 0 0 (MQ below (va_Qv (fun (u : MS) => Q u ∧ wfC u ∧ shy S u) (fun (u : MS) (t : State) => qEC g ad A u t) A) ([.ref (ad 44), .int x1] : List Value).toArray s 0 0 A) (F0 m 4 ls []) := by
    intro n4
    induction n4 with
    | zero => intro U4 v4_1 v4_2 v4_3 H locs ls h hsh hR hl; unfold w_X5_passArguments_L4 at h; exact h.elim
    | succ n4 ih_4 =>
      intro U4 v4_1 v4_2 v4_3 H locs ls h hsh hR hl
      unfold w_X5_passArguments_L4 at h
      replace h := h hR.w
      refine lv_iload_n hx hb dX5_passArguments_4 rfl (lv_at hl 3 rfl) ?_
      refine lv_aload_n hx hb dX5_passArguments_5 rfl (lv_at hl 0 rfl) ?_
      refine va_get (D := rD g) (ci := 5) (v := .int (qI U4 44 7)) (C := RX5) (T := TX5) (N := 20) hx hb hts inX5 hown hR.K hR.P 44 (hR.at45 (hR.w.2.1 _ finC_29).2.1) rfl 7 (by decide) (hts _ kw_1003) (fun _ h9 => h9) rfl dX5_passArguments_6 ?_
      refine lv_icmp_ge (tgt := 67) hx hb dX5_passArguments_9 (by decide) (fun c1 => ?_) (fun c1 => ?_)
      · replace h := h.1 (k_le rfl rfl c1)
        exact W.vret hx hb hr (fun t9 ht9 hW9 => ⟨⟨U4, rfl, ⟨h, hR.w, hsh⟩, ⟨by rw [ht9]; exact hR.P, hR.D⟩⟩, hR.sS.F ht9⟩) hR.sS.2.2 dX5_passArguments_67
      · replace h := h.2 (k_nle rfl rfl c1)
        refine lv_iload_n hx hb dX5_passArguments_12 rfl (lv_at hl 1 rfl) ?_
        refine lv_iload_n hx hb dX5_passArguments_13 rfl (lv_at hl 3 rfl) ?_
        obtain ⟨Q2, h0, h⟩ := h
        have hFc := cfree hR hA
        refine va_calli (va_runS (As := [.int v4_1, .int v4_3]) (rest := []) ⟨hx, hb, hml, hown, hts⟩ (rX6_kindAt l g ad H.size U4 v4_1 v4_3 hR.w  Q2 h0) (va_cwS 2 hts (gd_S kw_1116 kw_1239 kw_1207 kw_1238) rfl rfl rfl (by decide +kernel) ⟨Nat.le_of_ble_eq_true rfl, Nat.le_of_ble_eq_true rfl⟩) ⟨cblind, fun U hU hW9 => cmk hU hW9 hR hex hE hFc⟩ rfl rfl hl.1 rfl (lv_room (Nat.le_of_ble_eq_true rfl)) dX5_passArguments_14 ⟨Nat.le_of_ble_eq_true rfl, Nat.le_of_ble_eq_true rfl⟩) hR.sS (fun q _ h => hFc q h) hFc (fun r3 S4 t9 H1 locs ht9 hvm9 hw9 hB9 hz9 hk9 hS => ?_)
        obtain ⟨hq5, hw9, hs9⟩ := hw9
        have hR : RepC g ad A s S4 H1 locs := hR.call ht9 hB9 hw9 hS hFc
        have hsh := hsh.tr hs9
        replace h := h r3 S4 hq5 hw9 hs9
        clear hB9 hz9 hk9 hvm9 ht9 hw9 hs9 hS
        generalize H1 = H at hR ⊢
        refine lv_istore (lv' := [(4, .int r3), (0, .ref (ad 44)), (1, .int v4_1), (2, .int v4_2), (3, .int v4_3)]) hx hb dX5_passArguments_17 hl (by decide) rfl (fun ls hl => ?_)
        refine lv_aload_n hx hb dX5_passArguments_19 rfl (lv_at hl 1 rfl) ?_
        refine lv_iload_n hx hb dX5_passArguments_20 rfl (lv_at hl 3 rfl) ?_
        refine lv_iload hx hb dX5_passArguments_21 (lv_at hl 0 rfl) ?_
        refine lv_iconst (v := 1) hx hb dX5_passArguments_23 (by decide) ?_
        have J_44 : ∀ (U44 : MS) (t44_0 : Int64) (t44_1 : Int32) (v44_1 : Int32) (v44_2 : Int32) (v44_3 : Int32) (v44_4 : Int32) (H : Heap) (locs : List Loc) (ls : Array Slot), w_X5_passArguments_J44 Q (w_X5_passArguments_L4 Q n4) U44 t44_0 t44_1 v44_1 v44_2 v44_3 v44_4 → shy S U44 → RepC g ad A s U44 H locs → lv_has ls 5 [(0, .ref (ad 44)), (1, .int v44_1), (2, .int v44_2), (3, .int v44_3), (4, .int v44_4)] → W p l e (headSpec (wt yX5_passArguments cX5_passArguments 5 none) ({ frames := 2, cells := 0, slots := 0, locals := 43 })).room s m ([.ref (ad 44), .int x1] : List Value).toArray below meth c H locs 0 0 (MQ below (va_Qv (fun (u : MS) => Q u ∧ wfC u ∧ shy S u) (fun (u : MS) (t : State) => qEC g ad A u t) A) ([.ref (ad 44), .int x1] : List Value).toArray s 0 0 A) (F0 m 44 ls [.long t44_0, .int t44_1, .ref (ad 44)]) := by
          intro U44 t44_0 t44_1 v44_1 v44_2 v44_3 v44_4 H locs ls h hsh hR hl
          unfold w_X5_passArguments_J44 at h
          replace h := h hR.w
          obtain ⟨Q6, h0, h⟩ := h
          have hFc := cfree hR hA
          refine va_callv (va_runV (As := [.int t44_1, .long t44_0]) (rest := []) ⟨hx, hb, hml, hown, hts⟩ (rX5_setLocal l g ad H.size U44 t44_1 t44_0 hR.w  Q6 h0) (cwV 2 hts (gd_V kw_1108 kw_1151 kw_1152 kw_398 kw_1150) rfl rfl rfl (by decide +kernel) ⟨Nat.le_of_ble_eq_true rfl, Nat.le_of_ble_eq_true rfl⟩) ⟨cblind, va_recv hR.K hR.P (ci := 5) (q0 := 44) rfl (hR.at45 (hR.w.2.1 _ finC_29).2.1), fun U hU hW9 => cmk hU hW9 hR hex hE hFc⟩ rfl rfl hl.1 rfl (lv_room (Nat.le_of_ble_eq_true rfl)) dX5_passArguments_44 ⟨Nat.le_of_ble_eq_true rfl, Nat.le_of_ble_eq_true rfl⟩) hR.sS (fun q _ h => hFc q h) hFc (fun  S7 t9 H1 locs ht9 hvm9 hw9 hB9 hz9 hk9 hS => ?_)
          obtain ⟨hq8, hw9, hs9⟩ := hw9
          have hR : RepC g ad A s S7 H1 locs := hR.call ht9 hB9 hw9 hS hFc
          have hsh := hsh.tr hs9
          replace h := h  S7 hq8 hw9 hs9
          clear hB9 hz9 hk9 hvm9 ht9 hw9 hs9 hS
          generalize H1 = H at hR ⊢
          refine lv_iload_n hx hb dX5_passArguments_47 rfl (lv_at hl 2 rfl) ?_
          refine lv_iload hx hb dX5_passArguments_48 (lv_at hl 4 rfl) ?_
          refine lv_iconst (v := 2) hx hb dX5_passArguments_50 (by decide) ?_
          have J_59 : ∀ (U59 : MS) (t59_0 : Int32) (t59_1 : Int32) (v59_1 : Int32) (v59_3 : Int32) (H : Heap) (locs : List Loc) (ls : Array Slot), w_X5_passArguments_J59 Q (w_X5_passArguments_L4 Q n4) U59 t59_0 t59_1 v59_1 v59_3 → shy S U59 → RepC g ad A s U59 H locs → lv_has ls 5 [(0, .ref (ad 44)), (1, .int v59_1), (3, .int v59_3)] → W p l e (headSpec (wt yX5_passArguments cX5_passArguments 5 none) ({ frames := 2, cells := 0, slots := 0, locals := 43 })).room s m ([.ref (ad 44), .int x1] : List Value).toArray below meth c H locs 0 0 (MQ below (va_Qv (fun (u : MS) => Q u ∧ wfC u ∧ shy S u) (fun (u : MS) (t : State) => qEC g ad A u t) A) ([.ref (ad 44), .int x1] : List Value).toArray s 0 0 A) (F0 m 59 ls [.int t59_0, .int t59_1]) := by
            intro U59 t59_0 t59_1 v59_1 v59_3 H locs ls h hsh hR hl
            unfold w_X5_passArguments_J59 at h
            replace h := h hR.w
            refine lv_iadd hx hb dX5_passArguments_59 ?_
            refine lv_topi (fun z9 ez9 => ?_)
            obtain rfl : z9 = (t59_1 + t59_0) := ez9
            obtain ⟨a10, ea10⟩ : ∃ z, z = (t59_1 + t59_0) := ⟨_, rfl⟩
            rw [← ea10]
            replace h := h a10 ea10
            refine lv_istore_n (lv' := [(2, .int a10), (0, .ref (ad 44)), (1, .int v59_1), (3, .int v59_3)]) hx hb dX5_passArguments_60 rfl hl (by decide) rfl (fun ls hl => ?_)
            obtain ⟨a11, ea11⟩ : ∃ z, z = (v59_3 + Int32.ofInt 1) := ⟨_, rfl⟩
            replace h := h a11 ea11
            refine lv_iinc (v := a11) (lv' := [(3, .int a11), (2, .int a10), (0, .ref (ad 44)), (1, .int v59_1)]) hx hb dX5_passArguments_61 hl (k := 3) rfl ea11.symm (by decide) rfl (fun ls hl => ?_)
            refine lv_goto (tgt := 4) hx hb dX5_passArguments_64 (by decide) ?_
            exact ih_4 U59 v59_1 a10 a11 _ _ ls h  hsh hR (lv_sub hl [2, 3, 1, 0] rfl)
          refine lv_icmp_ne (tgt := 58) hx hb dX5_passArguments_51 (by decide) (fun c12 => ?_) (fun c12 => ?_)
          · replace h := h.2 (k_ne rfl (by decide) c12)
            refine lv_iconst (v := 1) hx hb dX5_passArguments_58 (by decide) ?_
            exact J_59 S7 1 v44_2 v44_1 v44_3 _ _ ls h  hsh hR (lv_sub hl [0, 1, 3] rfl)
          · replace h := h.1 (k_eq rfl (by decide) c12)
            refine lv_iconst (v := 2) hx hb dX5_passArguments_54 (by decide) ?_
            refine lv_goto (tgt := 59) hx hb dX5_passArguments_55 (by decide) ?_
            exact J_59 S7 2 v44_2 v44_1 v44_3 _ _ ls h  hsh hR (lv_sub hl [0, 1, 3] rfl)
        refine lv_icmp_ne (tgt := 38) hx hb dX5_passArguments_24 (by decide) (fun c13 => ?_) (fun c13 => ?_)
        · replace h := h.2 (k_ne rfl (by decide) c13)
          refine lv_aload_n hx hb dX5_passArguments_38 rfl (lv_at hl 1 rfl) ?_
          refine va_get (D := rD g) (ci := 5) (v := .ref (ad 48)) (C := RX5) (T := TX5) (N := 20) hx hb hts inX5 hown hR.K hR.P 44 (hR.at45 (hR.w.2.1 _ finC_29).2.1) rfl 6 (by decide) (hts _ kw_1004) (fun _ h9 => h9) (congrArg (fun z => some (vf ad z)) (hR.w.2.1 _ finC_5).1) dX5_passArguments_39 ?_
          refine lv_iload_n hx hb dX5_passArguments_42 rfl (lv_at hl 4 rfl) ?_
          obtain ⟨hv14, h⟩ := h
          refine va_lald hx hb hR.K hR.P 48 3 (hR.atL (hR.w.2.1 _ finC_5).2.1 (by decide)) rfl (k_ixN (k_ix (n := 8) (x := v4_3) (a := v4_3.toInt) rfl hv14) (hR.w.2.1 _ finC_5).2.2) dX5_passArguments_43 ?_
          refine lv_topl (fun z15 ez15 => ?_)
          obtain rfl : z15 = (qJ S4 48 v4_3.toInt.toNat) := ez15
          exact J_44 S4 (qJ S4 48 v4_3.toInt.toNat) v4_2 v4_1 v4_2 v4_3 r3 _ _ ls h  hsh hR (lv_sub hl [1, 2, 3, 4, 0] rfl)
        · replace h := h.1 (k_eq rfl (by decide) c13)
          refine lv_aload_n hx hb dX5_passArguments_27 rfl (lv_at hl 1 rfl) ?_
          refine va_get (D := rD g) (ci := 5) (v := .ref (ad 48)) (C := RX5) (T := TX5) (N := 20) hx hb hts inX5 hown hR.K hR.P 44 (hR.at45 (hR.w.2.1 _ finC_29).2.1) rfl 6 (by decide) (hts _ kw_1004) (fun _ h9 => h9) (congrArg (fun z => some (vf ad z)) (hR.w.2.1 _ finC_5).1) dX5_passArguments_28 ?_
          refine lv_iload_n hx hb dX5_passArguments_31 rfl (lv_at hl 4 rfl) ?_
          obtain ⟨hv16, h⟩ := h
          refine va_lald hx hb hR.K hR.P 48 3 (hR.atL (hR.w.2.1 _ finC_5).2.1 (by decide)) rfl (k_ixN (k_ix (n := 8) (x := v4_3) (a := v4_3.toInt) rfl hv16) (hR.w.2.1 _ finC_5).2.2) dX5_passArguments_32 ?_
          refine lv_topl (fun z17 ez17 => ?_)
          obtain rfl : z17 = (qJ S4 48 v4_3.toInt.toNat) := ez17
          refine lv_l2i (v := ((qJ S4 48 v4_3.toInt.toNat).toInt32)) hx hb dX5_passArguments_33 rfl ?_
          refine lv_i2l (v := (((qJ S4 48 v4_3.toInt.toNat).toInt32).toInt64)) hx hb dX5_passArguments_34 rfl ?_
          refine lv_goto (tgt := 44) hx hb dX5_passArguments_35 (by decide) ?_
          exact J_44 S4 (((qJ S4 48 v4_3.toInt.toNat).toInt32).toInt64) v4_2 v4_1 v4_2 v4_3 r3 _ _ ls h  hsh hR (lv_sub hl [1, 2, 3, 4, 0] rfl)
  obtain ⟨n9, h⟩ := h
  exact J_4 n9 S x1 0 0 _ _ ls h  hsh hR (lv_sub hl [2, 3, 1, 0] rfl)
